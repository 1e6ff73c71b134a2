theorem v104_0 {z : P0} {st : List Value} {cu : Nat × Nat} {Q : Res → Mem → Prop} {σ : Mem} {u : Nat} : X z 104 0 [some (.ref u)] (st) cu σ Q = (X z 104 1 [some (.ref u)] (.ref u :: st) cu σ Q) := by
  rw [x104_0]
  rfl
theorem v104_1 {z : P0} {st : List Value} {cu : Nat × Nat} {Q : Res → Mem → Prop} {σ : Mem} {x0 : Option Value} {u : Nat} : X z 104 1 [x0] (.ref u :: st) cu σ Q = (wsum st ≤ 8 ∧ X z 104 4 [x0] (st) cu σ Q) := by
  rw [x104_1]
  exact propext ⟨fun h => h.2, fun h => ⟨rfl, h⟩⟩
theorem v104_4 {z : P0} {st : List Value} {cu : Nat × Nat} {Q : Res → Mem → Prop} {σ : Mem} {u : Nat} : X z 104 4 [some (.ref u)] (st) cu σ Q = (X z 104 5 [some (.ref u)] (.ref u :: st) cu σ Q) := by
  rw [x104_4]
  rfl
theorem v104_5 {z : P0} {st : List Value} {cu : Nat × Nat} {Q : Res → Mem → Prop} {σ : Mem} {x0 : Option Value} : X z 104 5 [x0] (st) cu σ Q = (X z 104 8 [x0] (.int (nI 473) :: st) cu σ Q) := by
  rw [x104_5]
  rfl
theorem v104_8 {z : P0} {st : List Value} {Q : Res → Mem → Prop} {K : Nat → Nat × Nat} {I : Nat → Nat → Int32} {R : Nat → Nat → Option Nat} {L : Nat → Nat → Int64} {sz : Nat} {ex : Bool} {x0 : Option Value} {c n : Nat} {v : Int32} : X z 104 8 [x0] (.int v :: st) (c, n) (K, I, R, L, sz, ex) Q = (ex = true ∧ ¬ v < 0 ∧ v.toNatClampNeg ≤ 3000 ∧ (c + 1 ≤ 10 ∧ n + v.toNatClampNeg ≤ 5891) ∧ X z 104 10 [x0] (.ref sz :: st) (c + 1, n + v.toNatClampNeg) (upK K sz (20, v.toNatClampNeg), I, R, L, sz + 1, ex) Q) := by
  rw [x104_8]
  rfl
theorem v104_10 {z : P0} {st : List Value} {cu : Nat × Nat} {Q : Res → Mem → Prop} {K : Nat → Nat × Nat} {I : Nat → Nat → Int32} {R : Nat → Nat → Option Nat} {L : Nat → Nat → Int64} {sz : Nat} {ex : Bool} {x0 : Option Value} {u v : Nat} : X z 104 10 [x0] (.ref v :: .ref u :: st) cu (K, I, R, L, sz, ex) Q = ((K u).1 = 111 ∧ X z 104 13 [x0] (st) cu (K, I, up2 R u 0 (some v), L, sz, ex) Q) := by
  rw [x104_10]
  exact i_putA
theorem v104_13 {z : P0} {st : List Value} {cu : Nat × Nat} {Q : Res → Mem → Prop} {σ : Mem} {u : Nat} : X z 104 13 [some (.ref u)] (st) cu σ Q = (X z 104 14 [some (.ref u)] (.ref u :: st) cu σ Q) := by
  rw [x104_13]
  rfl
theorem v104_14 {z : P0} {st : List Value} {cu : Nat × Nat} {Q : Res → Mem → Prop} {σ : Mem} {x0 : Option Value} : X z 104 14 [x0] (st) cu σ Q = (X z 104 17 [x0] (.int (nI 2838) :: st) cu σ Q) := by
  rw [x104_14]
  rfl
theorem v104_17 {z : P0} {st : List Value} {Q : Res → Mem → Prop} {K : Nat → Nat × Nat} {I : Nat → Nat → Int32} {R : Nat → Nat → Option Nat} {L : Nat → Nat → Int64} {sz : Nat} {ex : Bool} {x0 : Option Value} {c n : Nat} {v : Int32} : X z 104 17 [x0] (.int v :: st) (c, n) (K, I, R, L, sz, ex) Q = (ex = true ∧ ¬ v < 0 ∧ v.toNatClampNeg ≤ 3000 ∧ (c + 1 ≤ 10 ∧ n + v.toNatClampNeg ≤ 5891) ∧ X z 104 19 [x0] (.ref sz :: st) (c + 1, n + v.toNatClampNeg) (upK K sz (20, v.toNatClampNeg), I, R, L, sz + 1, ex) Q) := by
  rw [x104_17]
  rfl
theorem v104_19 {z : P0} {st : List Value} {cu : Nat × Nat} {Q : Res → Mem → Prop} {K : Nat → Nat × Nat} {I : Nat → Nat → Int32} {R : Nat → Nat → Option Nat} {L : Nat → Nat → Int64} {sz : Nat} {ex : Bool} {x0 : Option Value} {u v : Nat} : X z 104 19 [x0] (.ref v :: .ref u :: st) cu (K, I, R, L, sz, ex) Q = ((K u).1 = 111 ∧ X z 104 22 [x0] (st) cu (K, I, up2 R u 2 (some v), L, sz, ex) Q) := by
  rw [x104_19]
  exact i_putA
theorem v104_22 {z : P0} {st : List Value} {cu : Nat × Nat} {Q : Res → Mem → Prop} {σ : Mem} {u : Nat} : X z 104 22 [some (.ref u)] (st) cu σ Q = (X z 104 23 [some (.ref u)] (.ref u :: st) cu σ Q) := by
  rw [x104_22]
  rfl
theorem v104_23 {z : P0} {st : List Value} {cu : Nat × Nat} {Q : Res → Mem → Prop} {σ : Mem} {x0 : Option Value} : X z 104 23 [x0] (st) cu σ Q = (X z 104 25 [x0] (.int (nI 60) :: st) cu σ Q) := by
  rw [x104_23]
  rfl
theorem v104_25 {z : P0} {st : List Value} {Q : Res → Mem → Prop} {K : Nat → Nat × Nat} {I : Nat → Nat → Int32} {R : Nat → Nat → Option Nat} {L : Nat → Nat → Int64} {sz : Nat} {ex : Bool} {x0 : Option Value} {c n : Nat} {v : Int32} : X z 104 25 [x0] (.int v :: st) (c, n) (K, I, R, L, sz, ex) Q = (ex = true ∧ ¬ v < 0 ∧ v.toNatClampNeg ≤ 3000 ∧ (c + 1 ≤ 10 ∧ n + v.toNatClampNeg ≤ 5891) ∧ X z 104 27 [x0] (.ref sz :: st) (c + 1, n + v.toNatClampNeg) (upK K sz (20, v.toNatClampNeg), I, R, L, sz + 1, ex) Q) := by
  rw [x104_25]
  rfl
theorem v104_27 {z : P0} {st : List Value} {cu : Nat × Nat} {Q : Res → Mem → Prop} {K : Nat → Nat × Nat} {I : Nat → Nat → Int32} {R : Nat → Nat → Option Nat} {L : Nat → Nat → Int64} {sz : Nat} {ex : Bool} {x0 : Option Value} {u v : Nat} : X z 104 27 [x0] (.ref v :: .ref u :: st) cu (K, I, R, L, sz, ex) Q = ((K u).1 = 111 ∧ X z 104 30 [x0] (st) cu (K, I, up2 R u 4 (some v), L, sz, ex) Q) := by
  rw [x104_27]
  exact i_putA
theorem v104_30 {z : P0} {st : List Value} {cu : Nat × Nat} {Q : Res → Mem → Prop} {σ : Mem} {u : Nat} : X z 104 30 [some (.ref u)] (st) cu σ Q = (X z 104 31 [some (.ref u)] (.ref u :: st) cu σ Q) := by
  rw [x104_30]
  rfl
theorem v104_31 {z : P0} {st : List Value} {cu : Nat × Nat} {Q : Res → Mem → Prop} {σ : Mem} {x0 : Option Value} : X z 104 31 [x0] (st) cu σ Q = (X z 104 33 [x0] (.int (nI 20) :: st) cu σ Q) := by
  rw [x104_31]
  rfl
theorem v104_33 {z : P0} {st : List Value} {Q : Res → Mem → Prop} {K : Nat → Nat × Nat} {I : Nat → Nat → Int32} {R : Nat → Nat → Option Nat} {L : Nat → Nat → Int64} {sz : Nat} {ex : Bool} {x0 : Option Value} {c n : Nat} {v : Int32} : X z 104 33 [x0] (.int v :: st) (c, n) (K, I, R, L, sz, ex) Q = (ex = true ∧ ¬ v < 0 ∧ v.toNatClampNeg ≤ 3000 ∧ (c + 1 ≤ 10 ∧ n + v.toNatClampNeg ≤ 5891) ∧ X z 104 35 [x0] (.ref sz :: st) (c + 1, n + v.toNatClampNeg) (upK K sz (20, v.toNatClampNeg), I, R, L, sz + 1, ex) Q) := by
  rw [x104_33]
  rfl
theorem v104_35 {z : P0} {st : List Value} {cu : Nat × Nat} {Q : Res → Mem → Prop} {K : Nat → Nat × Nat} {I : Nat → Nat → Int32} {R : Nat → Nat → Option Nat} {L : Nat → Nat → Int64} {sz : Nat} {ex : Bool} {x0 : Option Value} {u v : Nat} : X z 104 35 [x0] (.ref v :: .ref u :: st) cu (K, I, R, L, sz, ex) Q = ((K u).1 = 111 ∧ X z 104 38 [x0] (st) cu (K, I, up2 R u 6 (some v), L, sz, ex) Q) := by
  rw [x104_35]
  exact i_putA
theorem v104_38 {z : P0} {st : List Value} {cu : Nat × Nat} {Q : Res → Mem → Prop} {σ : Mem} {u : Nat} : X z 104 38 [some (.ref u)] (st) cu σ Q = (X z 104 39 [some (.ref u)] (.ref u :: st) cu σ Q) := by
  rw [x104_38]
  rfl
theorem v104_39 {z : P0} {st : List Value} {cu : Nat × Nat} {Q : Res → Mem → Prop} {σ : Mem} {x0 : Option Value} : X z 104 39 [x0] (st) cu σ Q = (X z 104 41 [x0] (.int (nI 20) :: st) cu σ Q) := by
  rw [x104_39]
  rfl
theorem v104_41 {z : P0} {st : List Value} {Q : Res → Mem → Prop} {K : Nat → Nat × Nat} {I : Nat → Nat → Int32} {R : Nat → Nat → Option Nat} {L : Nat → Nat → Int64} {sz : Nat} {ex : Bool} {x0 : Option Value} {c n : Nat} {v : Int32} : X z 104 41 [x0] (.int v :: st) (c, n) (K, I, R, L, sz, ex) Q = (ex = true ∧ ¬ v < 0 ∧ v.toNatClampNeg ≤ 3000 ∧ (c + 1 ≤ 10 ∧ n + v.toNatClampNeg ≤ 5891) ∧ X z 104 43 [x0] (.ref sz :: st) (c + 1, n + v.toNatClampNeg) (upK K sz (20, v.toNatClampNeg), I, R, L, sz + 1, ex) Q) := by
  rw [x104_41]
  rfl
theorem v104_43 {z : P0} {st : List Value} {cu : Nat × Nat} {Q : Res → Mem → Prop} {K : Nat → Nat × Nat} {I : Nat → Nat → Int32} {R : Nat → Nat → Option Nat} {L : Nat → Nat → Int64} {sz : Nat} {ex : Bool} {x0 : Option Value} {u v : Nat} : X z 104 43 [x0] (.ref v :: .ref u :: st) cu (K, I, R, L, sz, ex) Q = ((K u).1 = 111 ∧ X z 104 46 [x0] (st) cu (K, I, up2 R u 7 (some v), L, sz, ex) Q) := by
  rw [x104_43]
  exact i_putA
theorem v104_46 {z : P0} {st : List Value} {cu : Nat × Nat} {Q : Res → Mem → Prop} {σ : Mem} {u : Nat} : X z 104 46 [some (.ref u)] (st) cu σ Q = (X z 104 47 [some (.ref u)] (.ref u :: st) cu σ Q) := by
  rw [x104_46]
  rfl
theorem v104_47 {z : P0} {st : List Value} {cu : Nat × Nat} {Q : Res → Mem → Prop} {σ : Mem} {x0 : Option Value} : X z 104 47 [x0] (st) cu σ Q = (X z 104 49 [x0] (.int (nI 20) :: st) cu σ Q) := by
  rw [x104_47]
  rfl
theorem v104_49 {z : P0} {st : List Value} {Q : Res → Mem → Prop} {K : Nat → Nat × Nat} {I : Nat → Nat → Int32} {R : Nat → Nat → Option Nat} {L : Nat → Nat → Int64} {sz : Nat} {ex : Bool} {x0 : Option Value} {c n : Nat} {v : Int32} : X z 104 49 [x0] (.int v :: st) (c, n) (K, I, R, L, sz, ex) Q = (ex = true ∧ ¬ v < 0 ∧ v.toNatClampNeg ≤ 3000 ∧ (c + 1 ≤ 10 ∧ n + v.toNatClampNeg ≤ 5891) ∧ X z 104 51 [x0] (.ref sz :: st) (c + 1, n + v.toNatClampNeg) (upK K sz (20, v.toNatClampNeg), I, R, L, sz + 1, ex) Q) := by
  rw [x104_49]
  rfl
theorem v104_51 {z : P0} {st : List Value} {cu : Nat × Nat} {Q : Res → Mem → Prop} {K : Nat → Nat × Nat} {I : Nat → Nat → Int32} {R : Nat → Nat → Option Nat} {L : Nat → Nat → Int64} {sz : Nat} {ex : Bool} {x0 : Option Value} {u v : Nat} : X z 104 51 [x0] (.ref v :: .ref u :: st) cu (K, I, R, L, sz, ex) Q = ((K u).1 = 111 ∧ X z 104 54 [x0] (st) cu (K, I, up2 R u 8 (some v), L, sz, ex) Q) := by
  rw [x104_51]
  exact i_putA
theorem v104_54 {z : P0} {st : List Value} {cu : Nat × Nat} {Q : Res → Mem → Prop} {σ : Mem} {u : Nat} : X z 104 54 [some (.ref u)] (st) cu σ Q = (X z 104 55 [some (.ref u)] (.ref u :: st) cu σ Q) := by
  rw [x104_54]
  rfl
theorem v104_55 {z : P0} {st : List Value} {cu : Nat × Nat} {Q : Res → Mem → Prop} {σ : Mem} {x0 : Option Value} : X z 104 55 [x0] (st) cu σ Q = (X z 104 57 [x0] (.int (nI 20) :: st) cu σ Q) := by
  rw [x104_55]
  rfl
theorem v104_57 {z : P0} {st : List Value} {Q : Res → Mem → Prop} {K : Nat → Nat × Nat} {I : Nat → Nat → Int32} {R : Nat → Nat → Option Nat} {L : Nat → Nat → Int64} {sz : Nat} {ex : Bool} {x0 : Option Value} {c n : Nat} {v : Int32} : X z 104 57 [x0] (.int v :: st) (c, n) (K, I, R, L, sz, ex) Q = (ex = true ∧ ¬ v < 0 ∧ v.toNatClampNeg ≤ 3000 ∧ (c + 1 ≤ 10 ∧ n + v.toNatClampNeg ≤ 5891) ∧ X z 104 59 [x0] (.ref sz :: st) (c + 1, n + v.toNatClampNeg) (upK K sz (20, v.toNatClampNeg), I, R, L, sz + 1, ex) Q) := by
  rw [x104_57]
  rfl
theorem v104_59 {z : P0} {st : List Value} {cu : Nat × Nat} {Q : Res → Mem → Prop} {K : Nat → Nat × Nat} {I : Nat → Nat → Int32} {R : Nat → Nat → Option Nat} {L : Nat → Nat → Int64} {sz : Nat} {ex : Bool} {x0 : Option Value} {u v : Nat} : X z 104 59 [x0] (.ref v :: .ref u :: st) cu (K, I, R, L, sz, ex) Q = ((K u).1 = 111 ∧ X z 104 62 [x0] (st) cu (K, I, up2 R u 9 (some v), L, sz, ex) Q) := by
  rw [x104_59]
  exact i_putA
theorem v104_62 {z : P0} {st : List Value} {cu : Nat × Nat} {Q : Res → Mem → Prop} {σ : Mem} {u : Nat} : X z 104 62 [some (.ref u)] (st) cu σ Q = (X z 104 63 [some (.ref u)] (.ref u :: st) cu σ Q) := by
  rw [x104_62]
  rfl
theorem v104_63 {z : P0} {st : List Value} {cu : Nat × Nat} {Q : Res → Mem → Prop} {σ : Mem} {x0 : Option Value} : X z 104 63 [x0] (st) cu σ Q = (X z 104 65 [x0] (.int (nI 20) :: st) cu σ Q) := by
  rw [x104_63]
  rfl
theorem v104_65 {z : P0} {st : List Value} {Q : Res → Mem → Prop} {K : Nat → Nat × Nat} {I : Nat → Nat → Int32} {R : Nat → Nat → Option Nat} {L : Nat → Nat → Int64} {sz : Nat} {ex : Bool} {x0 : Option Value} {c n : Nat} {v : Int32} : X z 104 65 [x0] (.int v :: st) (c, n) (K, I, R, L, sz, ex) Q = (ex = true ∧ ¬ v < 0 ∧ v.toNatClampNeg ≤ 3000 ∧ (c + 1 ≤ 10 ∧ n + v.toNatClampNeg ≤ 5891) ∧ X z 104 67 [x0] (.ref sz :: st) (c + 1, n + v.toNatClampNeg) (upK K sz (20, v.toNatClampNeg), I, R, L, sz + 1, ex) Q) := by
  rw [x104_65]
  rfl
theorem v104_67 {z : P0} {st : List Value} {cu : Nat × Nat} {Q : Res → Mem → Prop} {K : Nat → Nat × Nat} {I : Nat → Nat → Int32} {R : Nat → Nat → Option Nat} {L : Nat → Nat → Int64} {sz : Nat} {ex : Bool} {x0 : Option Value} {u v : Nat} : X z 104 67 [x0] (.ref v :: .ref u :: st) cu (K, I, R, L, sz, ex) Q = ((K u).1 = 111 ∧ X z 104 70 [x0] (st) cu (K, I, up2 R u 10 (some v), L, sz, ex) Q) := by
  rw [x104_67]
  exact i_putA
theorem v104_70 {z : P0} {st : List Value} {cu : Nat × Nat} {Q : Res → Mem → Prop} {σ : Mem} {u : Nat} : X z 104 70 [some (.ref u)] (st) cu σ Q = (X z 104 71 [some (.ref u)] (.ref u :: st) cu σ Q) := by
  rw [x104_70]
  rfl
theorem v104_71 {z : P0} {st : List Value} {cu : Nat × Nat} {Q : Res → Mem → Prop} {σ : Mem} {x0 : Option Value} : X z 104 71 [x0] (st) cu σ Q = (X z 104 73 [x0] (.int (nI 20) :: st) cu σ Q) := by
  rw [x104_71]
  rfl
theorem v104_73 {z : P0} {st : List Value} {Q : Res → Mem → Prop} {K : Nat → Nat × Nat} {I : Nat → Nat → Int32} {R : Nat → Nat → Option Nat} {L : Nat → Nat → Int64} {sz : Nat} {ex : Bool} {x0 : Option Value} {c n : Nat} {v : Int32} : X z 104 73 [x0] (.int v :: st) (c, n) (K, I, R, L, sz, ex) Q = (ex = true ∧ ¬ v < 0 ∧ v.toNatClampNeg ≤ 3000 ∧ (c + 1 ≤ 10 ∧ n + v.toNatClampNeg ≤ 5891) ∧ X z 104 75 [x0] (.ref sz :: st) (c + 1, n + v.toNatClampNeg) (upK K sz (20, v.toNatClampNeg), I, R, L, sz + 1, ex) Q) := by
  rw [x104_73]
  rfl
theorem v104_75 {z : P0} {st : List Value} {cu : Nat × Nat} {Q : Res → Mem → Prop} {K : Nat → Nat × Nat} {I : Nat → Nat → Int32} {R : Nat → Nat → Option Nat} {L : Nat → Nat → Int64} {sz : Nat} {ex : Bool} {x0 : Option Value} {u v : Nat} : X z 104 75 [x0] (.ref v :: .ref u :: st) cu (K, I, R, L, sz, ex) Q = ((K u).1 = 111 ∧ X z 104 78 [x0] (st) cu (K, I, up2 R u 11 (some v), L, sz, ex) Q) := by
  rw [x104_75]
  exact i_putA
theorem v104_78 {z : P0} {st : List Value} {cu : Nat × Nat} {Q : Res → Mem → Prop} {σ : Mem} {u : Nat} : X z 104 78 [some (.ref u)] (st) cu σ Q = (X z 104 79 [some (.ref u)] (.ref u :: st) cu σ Q) := by
  rw [x104_78]
  rfl
theorem v104_79 {z : P0} {st : List Value} {cu : Nat × Nat} {Q : Res → Mem → Prop} {σ : Mem} {x0 : Option Value} : X z 104 79 [x0] (st) cu σ Q = (X z 104 82 [x0] (.int (nI 2400) :: st) cu σ Q) := by
  rw [x104_79]
  rfl
theorem v104_82 {z : P0} {st : List Value} {Q : Res → Mem → Prop} {K : Nat → Nat × Nat} {I : Nat → Nat → Int32} {R : Nat → Nat → Option Nat} {L : Nat → Nat → Int64} {sz : Nat} {ex : Bool} {x0 : Option Value} {c n : Nat} {v : Int32} : X z 104 82 [x0] (.int v :: st) (c, n) (K, I, R, L, sz, ex) Q = (ex = true ∧ ¬ v < 0 ∧ v.toNatClampNeg ≤ 3000 ∧ (c + 1 ≤ 10 ∧ n + v.toNatClampNeg ≤ 5891) ∧ X z 104 84 [x0] (.ref sz :: st) (c + 1, n + v.toNatClampNeg) (upK K sz (20, v.toNatClampNeg), I, R, L, sz + 1, ex) Q) := by
  rw [x104_82]
  rfl
theorem v104_84 {z : P0} {st : List Value} {cu : Nat × Nat} {Q : Res → Mem → Prop} {K : Nat → Nat × Nat} {I : Nat → Nat → Int32} {R : Nat → Nat → Option Nat} {L : Nat → Nat → Int64} {sz : Nat} {ex : Bool} {x0 : Option Value} {u v : Nat} : X z 104 84 [x0] (.ref v :: .ref u :: st) cu (K, I, R, L, sz, ex) Q = ((K u).1 = 111 ∧ X z 104 87 [x0] (st) cu (K, I, up2 R u 13 (some v), L, sz, ex) Q) := by
  rw [x104_84]
  exact i_putA
theorem v104_87 {z : P0} {st : List Value} {cu : Nat × Nat} {Q : Res → Mem → Prop} {σ : Mem} {u : Nat} : X z 104 87 [some (.ref u)] (st) cu σ Q = (X z 104 88 [some (.ref u)] (.ref u :: st) cu σ Q) := by
  rw [x104_87]
  rfl
theorem v104_88 {z : P0} {st : List Value} {cu : Nat × Nat} {Q : Res → Mem → Prop} {K : Nat → Nat × Nat} {I : Nat → Nat → Int32} {R : Nat → Nat → Option Nat} {L : Nat → Nat → Int64} {sz : Nat} {ex : Bool} {x0 : Option Value} {u : Nat} : X z 104 88 [x0] (.ref u :: st) cu (K, I, R, L, sz, ex) Q = ((K u).1 = 111 ∧ X z 104 91 [x0] (va_rf (R u 0) :: st) cu (K, I, R, L, sz, ex) Q) := by
  rw [x104_88]
  rfl
theorem v104_91 {z : P0} {st : List Value} {cu : Nat × Nat} {Q : Res → Mem → Prop} {σ : Mem} {x0 : Option Value} : X z 104 91 [x0] (st) cu σ Q = (X z 104 92 [x0] (.int (nI 0) :: st) cu σ Q) := by
  rw [x104_91]
  rfl
theorem v104_92 {z : P0} {st : List Value} {cu : Nat × Nat} {Q : Res → Mem → Prop} {σ : Mem} {x0 : Option Value} : X z 104 92 [x0] (st) cu σ Q = (X z 104 94 [x0] (.int (nI 20) :: st) cu σ Q) := by
  rw [x104_92]
  rfl
theorem v104_94 {z : P0} {st : List Value} {cu : Nat × Nat} {Q : Res → Mem → Prop} {K : Nat → Nat × Nat} {I : Nat → Nat → Int32} {R : Nat → Nat → Option Nat} {L : Nat → Nat → Int64} {sz : Nat} {ex : Bool} {x0 : Option Value} {u : Nat} {j v : Int32} : X z 104 94 [x0] (.int v :: .int j :: .ref u :: st) cu (K, I, R, L, sz, ex) Q = ((K u).1 = 20 ∧ vp_in j (K u).2 ∧ X z 104 95 [x0] (st) cu (K, up2 I u j.toNatClampNeg v, R, L, sz, ex) Q) := by
  rw [x104_94]
  rfl
theorem v104_95 {z : P0} {st : List Value} {cu : Nat × Nat} {Q : Res → Mem → Prop} {σ : Mem} {u : Nat} : X z 104 95 [some (.ref u)] (st) cu σ Q = (X z 104 96 [some (.ref u)] (.ref u :: st) cu σ Q) := by
  rw [x104_95]
  rfl
theorem v104_96 {z : P0} {st : List Value} {cu : Nat × Nat} {Q : Res → Mem → Prop} {K : Nat → Nat × Nat} {I : Nat → Nat → Int32} {R : Nat → Nat → Option Nat} {L : Nat → Nat → Int64} {sz : Nat} {ex : Bool} {x0 : Option Value} {u : Nat} : X z 104 96 [x0] (.ref u :: st) cu (K, I, R, L, sz, ex) Q = ((K u).1 = 111 ∧ X z 104 99 [x0] (va_rf (R u 0) :: st) cu (K, I, R, L, sz, ex) Q) := by
  rw [x104_96]
  rfl
theorem v104_99 {z : P0} {st : List Value} {cu : Nat × Nat} {Q : Res → Mem → Prop} {σ : Mem} {x0 : Option Value} : X z 104 99 [x0] (st) cu σ Q = (X z 104 100 [x0] (.int (nI 1) :: st) cu σ Q) := by
  rw [x104_99]
  rfl
theorem v104_100 {z : P0} {st : List Value} {cu : Nat × Nat} {Q : Res → Mem → Prop} {σ : Mem} {x0 : Option Value} : X z 104 100 [x0] (st) cu σ Q = (X z 104 101 [x0] (.int (nI 5) :: st) cu σ Q) := by
  rw [x104_100]
  rfl
theorem v104_101 {z : P0} {st : List Value} {cu : Nat × Nat} {Q : Res → Mem → Prop} {K : Nat → Nat × Nat} {I : Nat → Nat → Int32} {R : Nat → Nat → Option Nat} {L : Nat → Nat → Int64} {sz : Nat} {ex : Bool} {x0 : Option Value} {u : Nat} {j v : Int32} : X z 104 101 [x0] (.int v :: .int j :: .ref u :: st) cu (K, I, R, L, sz, ex) Q = ((K u).1 = 20 ∧ vp_in j (K u).2 ∧ X z 104 102 [x0] (st) cu (K, up2 I u j.toNatClampNeg v, R, L, sz, ex) Q) := by
  rw [x104_101]
  rfl
theorem v104_102 {z : P0} {st : List Value} {cu : Nat × Nat} {Q : Res → Mem → Prop} {σ : Mem} {u : Nat} : X z 104 102 [some (.ref u)] (st) cu σ Q = (X z 104 103 [some (.ref u)] (.ref u :: st) cu σ Q) := by
  rw [x104_102]
  rfl
theorem v104_103 {z : P0} {st : List Value} {cu : Nat × Nat} {Q : Res → Mem → Prop} {K : Nat → Nat × Nat} {I : Nat → Nat → Int32} {R : Nat → Nat → Option Nat} {L : Nat → Nat → Int64} {sz : Nat} {ex : Bool} {x0 : Option Value} {u : Nat} : X z 104 103 [x0] (.ref u :: st) cu (K, I, R, L, sz, ex) Q = ((K u).1 = 111 ∧ X z 104 106 [x0] (va_rf (R u 0) :: st) cu (K, I, R, L, sz, ex) Q) := by
  rw [x104_103]
  rfl
theorem v104_106 {z : P0} {st : List Value} {cu : Nat × Nat} {Q : Res → Mem → Prop} {σ : Mem} {x0 : Option Value} : X z 104 106 [x0] (st) cu σ Q = (X z 104 107 [x0] (.int (nI 2) :: st) cu σ Q) := by
  rw [x104_106]
  rfl
theorem v104_107 {z : P0} {st : List Value} {cu : Nat × Nat} {Q : Res → Mem → Prop} {σ : Mem} {x0 : Option Value} : X z 104 107 [x0] (st) cu σ Q = (X z 104 108 [x0] (.int (nI 4) :: st) cu σ Q) := by
  rw [x104_107]
  rfl
theorem v104_108 {z : P0} {st : List Value} {cu : Nat × Nat} {Q : Res → Mem → Prop} {K : Nat → Nat × Nat} {I : Nat → Nat → Int32} {R : Nat → Nat → Option Nat} {L : Nat → Nat → Int64} {sz : Nat} {ex : Bool} {x0 : Option Value} {u : Nat} {j v : Int32} : X z 104 108 [x0] (.int v :: .int j :: .ref u :: st) cu (K, I, R, L, sz, ex) Q = ((K u).1 = 20 ∧ vp_in j (K u).2 ∧ X z 104 109 [x0] (st) cu (K, up2 I u j.toNatClampNeg v, R, L, sz, ex) Q) := by
  rw [x104_108]
  rfl
theorem v104_109 {z : P0} {st : List Value} {cu : Nat × Nat} {Q : Res → Mem → Prop} {σ : Mem} {u : Nat} : X z 104 109 [some (.ref u)] (st) cu σ Q = (X z 104 110 [some (.ref u)] (.ref u :: st) cu σ Q) := by
  rw [x104_109]
  rfl
theorem v104_110 {z : P0} {st : List Value} {cu : Nat × Nat} {Q : Res → Mem → Prop} {K : Nat → Nat × Nat} {I : Nat → Nat → Int32} {R : Nat → Nat → Option Nat} {L : Nat → Nat → Int64} {sz : Nat} {ex : Bool} {x0 : Option Value} {u : Nat} : X z 104 110 [x0] (.ref u :: st) cu (K, I, R, L, sz, ex) Q = ((K u).1 = 111 ∧ X z 104 113 [x0] (va_rf (R u 0) :: st) cu (K, I, R, L, sz, ex) Q) := by
  rw [x104_110]
  rfl
theorem v104_113 {z : P0} {st : List Value} {cu : Nat × Nat} {Q : Res → Mem → Prop} {σ : Mem} {x0 : Option Value} : X z 104 113 [x0] (st) cu σ Q = (X z 104 114 [x0] (.int (nI 3) :: st) cu σ Q) := by
  rw [x104_113]
  rfl
theorem v104_114 {z : P0} {st : List Value} {cu : Nat × Nat} {Q : Res → Mem → Prop} {σ : Mem} {x0 : Option Value} : X z 104 114 [x0] (st) cu σ Q = (X z 104 116 [x0] (.int (nI 7) :: st) cu σ Q) := by
  rw [x104_114]
  rfl
theorem v104_116 {z : P0} {st : List Value} {cu : Nat × Nat} {Q : Res → Mem → Prop} {K : Nat → Nat × Nat} {I : Nat → Nat → Int32} {R : Nat → Nat → Option Nat} {L : Nat → Nat → Int64} {sz : Nat} {ex : Bool} {x0 : Option Value} {u : Nat} {j v : Int32} : X z 104 116 [x0] (.int v :: .int j :: .ref u :: st) cu (K, I, R, L, sz, ex) Q = ((K u).1 = 20 ∧ vp_in j (K u).2 ∧ X z 104 117 [x0] (st) cu (K, up2 I u j.toNatClampNeg v, R, L, sz, ex) Q) := by
  rw [x104_116]
  rfl
theorem v104_117 {z : P0} {st : List Value} {cu : Nat × Nat} {Q : Res → Mem → Prop} {σ : Mem} {u : Nat} : X z 104 117 [some (.ref u)] (st) cu σ Q = (X z 104 118 [some (.ref u)] (.ref u :: st) cu σ Q) := by
  rw [x104_117]
  rfl
theorem v104_118 {z : P0} {st : List Value} {cu : Nat × Nat} {Q : Res → Mem → Prop} {K : Nat → Nat × Nat} {I : Nat → Nat → Int32} {R : Nat → Nat → Option Nat} {L : Nat → Nat → Int64} {sz : Nat} {ex : Bool} {x0 : Option Value} {u : Nat} : X z 104 118 [x0] (.ref u :: st) cu (K, I, R, L, sz, ex) Q = ((K u).1 = 111 ∧ X z 104 121 [x0] (va_rf (R u 0) :: st) cu (K, I, R, L, sz, ex) Q) := by
  rw [x104_118]
  rfl
theorem v104_121 {z : P0} {st : List Value} {cu : Nat × Nat} {Q : Res → Mem → Prop} {σ : Mem} {x0 : Option Value} : X z 104 121 [x0] (st) cu σ Q = (X z 104 122 [x0] (.int (nI 4) :: st) cu σ Q) := by
  rw [x104_121]
  rfl
theorem v104_122 {z : P0} {st : List Value} {cu : Nat × Nat} {Q : Res → Mem → Prop} {σ : Mem} {x0 : Option Value} : X z 104 122 [x0] (st) cu σ Q = (X z 104 123 [x0] (.int (nI 3) :: st) cu σ Q) := by
  rw [x104_122]
  rfl
theorem v104_123 {z : P0} {st : List Value} {cu : Nat × Nat} {Q : Res → Mem → Prop} {K : Nat → Nat × Nat} {I : Nat → Nat → Int32} {R : Nat → Nat → Option Nat} {L : Nat → Nat → Int64} {sz : Nat} {ex : Bool} {x0 : Option Value} {u : Nat} {j v : Int32} : X z 104 123 [x0] (.int v :: .int j :: .ref u :: st) cu (K, I, R, L, sz, ex) Q = ((K u).1 = 20 ∧ vp_in j (K u).2 ∧ X z 104 124 [x0] (st) cu (K, up2 I u j.toNatClampNeg v, R, L, sz, ex) Q) := by
  rw [x104_123]
  rfl
theorem v104_124 {z : P0} {st : List Value} {cu : Nat × Nat} {Q : Res → Mem → Prop} {σ : Mem} {u : Nat} : X z 104 124 [some (.ref u)] (st) cu σ Q = (X z 104 125 [some (.ref u)] (.ref u :: st) cu σ Q) := by
  rw [x104_124]
  rfl
theorem v104_125 {z : P0} {st : List Value} {cu : Nat × Nat} {Q : Res → Mem → Prop} {K : Nat → Nat × Nat} {I : Nat → Nat → Int32} {R : Nat → Nat → Option Nat} {L : Nat → Nat → Int64} {sz : Nat} {ex : Bool} {x0 : Option Value} {u : Nat} : X z 104 125 [x0] (.ref u :: st) cu (K, I, R, L, sz, ex) Q = ((K u).1 = 111 ∧ X z 104 128 [x0] (va_rf (R u 0) :: st) cu (K, I, R, L, sz, ex) Q) := by
  rw [x104_125]
  rfl
theorem v104_128 {z : P0} {st : List Value} {cu : Nat × Nat} {Q : Res → Mem → Prop} {σ : Mem} {x0 : Option Value} : X z 104 128 [x0] (st) cu σ Q = (X z 104 129 [x0] (.int (nI 5) :: st) cu σ Q) := by
  rw [x104_128]
  rfl
theorem v104_129 {z : P0} {st : List Value} {cu : Nat × Nat} {Q : Res → Mem → Prop} {σ : Mem} {x0 : Option Value} : X z 104 129 [x0] (st) cu σ Q = (X z 104 130 [x0] (.int (nI 4) :: st) cu σ Q) := by
  rw [x104_129]
  rfl
theorem v104_130 {z : P0} {st : List Value} {cu : Nat × Nat} {Q : Res → Mem → Prop} {K : Nat → Nat × Nat} {I : Nat → Nat → Int32} {R : Nat → Nat → Option Nat} {L : Nat → Nat → Int64} {sz : Nat} {ex : Bool} {x0 : Option Value} {u : Nat} {j v : Int32} : X z 104 130 [x0] (.int v :: .int j :: .ref u :: st) cu (K, I, R, L, sz, ex) Q = ((K u).1 = 20 ∧ vp_in j (K u).2 ∧ X z 104 131 [x0] (st) cu (K, up2 I u j.toNatClampNeg v, R, L, sz, ex) Q) := by
  rw [x104_130]
  rfl
theorem v104_131 {z : P0} {cu : Nat × Nat} {Q : Res → Mem → Prop} {σ : Mem} {x0 : Option Value} : X z 104 131 [x0] ([]) cu σ Q = (Q (.inl none) σ) := by
  rw [x104_131]
  rfl
theorem v105_0 {z : P0} {st : List Value} {cu : Nat × Nat} {Q : Res → Mem → Prop} {σ : Mem} {u : Nat} : X z 105 0 [some (.ref u)] (st) cu σ Q = (X z 105 1 [some (.ref u)] (.ref u :: st) cu σ Q) := by
  rw [x105_0]
  rfl
theorem v105_1 {z : P0} {st : List Value} {cu : Nat × Nat} {Q : Res → Mem → Prop} {K : Nat → Nat × Nat} {I : Nat → Nat → Int32} {R : Nat → Nat → Option Nat} {L : Nat → Nat → Int64} {sz : Nat} {ex : Bool} {x0 : Option Value} {u : Nat} : X z 105 1 [x0] (.ref u :: st) cu (K, I, R, L, sz, ex) Q = ((K u).1 = 111 ∧ X z 105 4 [x0] (.int (I u 5) :: st) cu (K, I, R, L, sz, ex) Q) := by
  rw [x105_1]
  rfl
theorem v105_4 {z : P0} {cu : Nat × Nat} {Q : Res → Mem → Prop} {σ : Mem} {x0 : Option Value} {v : Int32} : X z 105 4 [x0] ([.int v]) cu σ Q = (Q (.inl (some (.int v))) σ) := by
  rw [x105_4]
  exact propext ⟨fun h => h.2, fun h => ⟨trivial, h⟩⟩
theorem v106_0 {z : P0} {st : List Value} {cu : Nat × Nat} {Q : Res → Mem → Prop} {σ : Mem} {x1 x2 : Option Value} {u : Int32} : X z 106 0 [some (.int u), x1, x2] (st) cu σ Q = (X z 106 1 [some (.int u), x1, x2] (.int u :: st) cu σ Q) := by
  rw [x106_0]
  rfl
theorem v106_1 {z : P0} {st : List Value} {cu : Nat × Nat} {Q : Res → Mem → Prop} {σ : Mem} {x0 x2 : Option Value} {u : Int32} : X z 106 1 [x0, some (.int u), x2] (st) cu σ Q = (X z 106 2 [x0, some (.int u), x2] (.int u :: st) cu σ Q) := by
  rw [x106_1]
  rfl
theorem v106_2 {z : P0} {st : List Value} {cu : Nat × Nat} {Q : Res → Mem → Prop} {σ : Mem} {x0 x1 x2 : Option Value} {u v : Int32} : X z 106 2 [x0, x1, x2] (.int v :: .int u :: st) cu σ Q = (if u < v then X z 106 14 [x0, x1, x2] (st) cu σ Q else X z 106 5 [x0, x1, x2] (st) cu σ Q) := by
  rw [x106_2]
  obtain ⟨K, I, R, L, sz, ex⟩ := σ
  exact br_ite
theorem v106_5 {z : P0} {st : List Value} {cu : Nat × Nat} {Q : Res → Mem → Prop} {σ : Mem} {x1 x2 : Option Value} {u : Int32} : X z 106 5 [some (.int u), x1, x2] (st) cu σ Q = (X z 106 6 [some (.int u), x1, x2] (.int u :: st) cu σ Q) := by
  rw [x106_5]
  rfl
theorem v106_6 {z : P0} {st : List Value} {cu : Nat × Nat} {Q : Res → Mem → Prop} {σ : Mem} {x0 x1 : Option Value} {u : Int32} : X z 106 6 [x0, x1, some (.int u)] (st) cu σ Q = (X z 106 7 [x0, x1, some (.int u)] (.int u :: st) cu σ Q) := by
  rw [x106_6]
  rfl
theorem v106_7 {z : P0} {st : List Value} {cu : Nat × Nat} {Q : Res → Mem → Prop} {σ : Mem} {x0 x1 x2 : Option Value} {u v : Int32} : X z 106 7 [x0, x1, x2] (.int v :: .int u :: st) cu σ Q = (if v < u then X z 106 14 [x0, x1, x2] (st) cu σ Q else X z 106 10 [x0, x1, x2] (st) cu σ Q) := by
  rw [x106_7]
  obtain ⟨K, I, R, L, sz, ex⟩ := σ
  exact br_ite
theorem v106_10 {z : P0} {st : List Value} {cu : Nat × Nat} {Q : Res → Mem → Prop} {σ : Mem} {x0 x1 x2 : Option Value} : X z 106 10 [x0, x1, x2] (st) cu σ Q = (X z 106 11 [x0, x1, x2] (.int (nI 1) :: st) cu σ Q) := by
  rw [x106_10]
  rfl
theorem v106_11 {z : P0} {st : List Value} {cu : Nat × Nat} {Q : Res → Mem → Prop} {σ : Mem} {x0 x1 x2 : Option Value} : X z 106 11 [x0, x1, x2] (st) cu σ Q = (X z 106 15 [x0, x1, x2] (st) cu σ Q) := by
  rw [x106_11]
  rfl
theorem v106_14 {z : P0} {st : List Value} {cu : Nat × Nat} {Q : Res → Mem → Prop} {σ : Mem} {x0 x1 x2 : Option Value} : X z 106 14 [x0, x1, x2] (st) cu σ Q = (X z 106 15 [x0, x1, x2] (.int (nI 0) :: st) cu σ Q) := by
  rw [x106_14]
  rfl
theorem v106_15 {z : P0} {cu : Nat × Nat} {Q : Res → Mem → Prop} {σ : Mem} {x0 x1 x2 : Option Value} {v : Int32} : X z 106 15 [x0, x1, x2] ([.int v]) cu σ Q = ((v = nI 0 ∨ v = nI 1) ∧ Q (.inl (some (.int v))) σ) := by
  rw [x106_15]
  rw [nI_0, one1]
  rfl
theorem v107_0 {z : P0} {st : List Value} {cu : Nat × Nat} {Q : Res → Mem → Prop} {σ : Mem} {x1 : Option Value} {u : Nat} : X z 107 0 [some (.ref u), x1] (st) cu σ Q = (X z 107 1 [some (.ref u), x1] (.ref u :: st) cu σ Q) := by
  rw [x107_0]
  rfl
theorem v107_1 {z : P0} {st : List Value} {cu : Nat × Nat} {Q : Res → Mem → Prop} {K : Nat → Nat × Nat} {I : Nat → Nat → Int32} {R : Nat → Nat → Option Nat} {L : Nat → Nat → Int64} {sz : Nat} {ex : Bool} {x0 x1 : Option Value} {u : Nat} : X z 107 1 [x0, x1] (.ref u :: st) cu (K, I, R, L, sz, ex) Q = ((K u).1 = 111 ∧ X z 107 4 [x0, x1] (.int (I u 1) :: st) cu (K, I, R, L, sz, ex) Q) := by
  rw [x107_1]
  rfl
theorem v107_4 {z : P0} {st : List Value} {cu : Nat × Nat} {Q : Res → Mem → Prop} {σ : Mem} {x0 x1 : Option Value} : X z 107 4 [x0, x1] (st) cu σ Q = (X z 107 6 [x0, x1] (.int (nI 6) :: st) cu σ Q) := by
  rw [x107_4]
  rfl
theorem v107_6 {z : P0} {st : List Value} {cu : Nat × Nat} {Q : Res → Mem → Prop} {σ : Mem} {x0 x1 : Option Value} {u v : Int32} : X z 107 6 [x0, x1] (.int v :: .int u :: st) cu σ Q = (if u = v then X z 107 9 [x0, x1] (st) cu σ Q else X z 107 52 [x0, x1] (st) cu σ Q) := by
  rw [x107_6]
  obtain ⟨K, I, R, L, sz, ex⟩ := σ
  exact br_ne
theorem v107_9 {z : P0} {st : List Value} {cu : Nat × Nat} {Q : Res → Mem → Prop} {σ : Mem} {x0 x1 : Option Value} : X z 107 9 [x0, x1] (st) cu σ Q = (X z 107 12 [x0, x1] (.int (nI 473) :: st) cu σ Q) := by
  rw [x107_9]
  rfl
theorem v107_12 {z : P0} {st : List Value} {cu : Nat × Nat} {Q : Res → Mem → Prop} {σ : Mem} {x0 x1 : Option Value} {u : Int32} : X z 107 12 [x0, x1] (.int u :: st) cu σ Q = (cat2 x0 = false ∧ X z 107 13 [x0, some (.int u)] (st) cu σ Q) := by
  rw [x107_12]
  obtain ⟨K, I, R, L, sz, ex⟩ := σ
  exact i_istore_n.trans sl_1
theorem v107_13 {z : P0} {st : List Value} {cu : Nat × Nat} {Q : Res → Mem → Prop} {σ : Mem} {x0 : Option Value} {u : Int32} : X z 107 13 [x0, some (.int u)] (st) cu σ Q = (X z 107 14 [x0, some (.int u)] (.int u :: st) cu σ Q) := by
  rw [x107_13]
  rfl
theorem v107_14 {z : P0} {st : List Value} {cu : Nat × Nat} {Q : Res → Mem → Prop} {σ : Mem} {x0 x1 : Option Value} : X z 107 14 [x0, x1] (st) cu σ Q = (X z 107 17 [x0, x1] (.int (nI 2838) :: st) cu σ Q) := by
  rw [x107_14]
  rfl
theorem v107_17 {z : P0} {st : List Value} {cu : Nat × Nat} {Q : Res → Mem → Prop} {σ : Mem} {x0 x1 : Option Value} {u v : Int32} : X z 107 17 [x0, x1] (.int v :: .int u :: st) cu σ Q = (if u < v then X z 107 20 [x0, x1] (st) cu σ Q else X z 107 42 [x0, x1] (st) cu σ Q) := by
  rw [x107_17]
  obtain ⟨K, I, R, L, sz, ex⟩ := σ
  exact br_ge
theorem v107_20 {z : P0} {st : List Value} {cu : Nat × Nat} {Q : Res → Mem → Prop} {σ : Mem} {x1 : Option Value} {u : Nat} : X z 107 20 [some (.ref u), x1] (st) cu σ Q = (X z 107 21 [some (.ref u), x1] (.ref u :: st) cu σ Q) := by
  rw [x107_20]
  rfl
theorem v107_21 {z : P0} {st : List Value} {cu : Nat × Nat} {Q : Res → Mem → Prop} {K : Nat → Nat × Nat} {I : Nat → Nat → Int32} {R : Nat → Nat → Option Nat} {L : Nat → Nat → Int64} {sz : Nat} {ex : Bool} {x0 x1 : Option Value} {u : Nat} : X z 107 21 [x0, x1] (.ref u :: st) cu (K, I, R, L, sz, ex) Q = ((K u).1 = 111 ∧ X z 107 24 [x0, x1] (va_rf (R u 2) :: st) cu (K, I, R, L, sz, ex) Q) := by
  rw [x107_21]
  rfl
theorem v107_24 {z : P0} {st : List Value} {cu : Nat × Nat} {Q : Res → Mem → Prop} {σ : Mem} {x0 : Option Value} {u : Int32} : X z 107 24 [x0, some (.int u)] (st) cu σ Q = (X z 107 25 [x0, some (.int u)] (.int u :: st) cu σ Q) := by
  rw [x107_24]
  rfl
theorem v107_25 {z : P0} {st : List Value} {cu : Nat × Nat} {Q : Res → Mem → Prop} {σ : Mem} {x0 x1 : Option Value} : X z 107 25 [x0, x1] (st) cu σ Q = (X z 107 28 [x0, x1] (.int (nI 473) :: st) cu σ Q) := by
  rw [x107_25]
  rfl
theorem v107_28 {z : P0} {st : List Value} {cu : Nat × Nat} {Q : Res → Mem → Prop} {σ : Mem} {x0 x1 : Option Value} {u v : Int32} : X z 107 28 [x0, x1] (.int v :: .int u :: st) cu σ Q = (X z 107 29 [x0, x1] (.int (u - v) :: st) cu σ Q) := by
  rw [x107_28]
  rfl
theorem v107_29 {z : P0} {st : List Value} {cu : Nat × Nat} {Q : Res → Mem → Prop} {σ : Mem} {x1 : Option Value} {u : Nat} : X z 107 29 [some (.ref u), x1] (st) cu σ Q = (X z 107 30 [some (.ref u), x1] (.ref u :: st) cu σ Q) := by
  rw [x107_29]
  rfl
theorem v107_30 {z : P0} {st : List Value} {cu : Nat × Nat} {Q : Res → Mem → Prop} {K : Nat → Nat × Nat} {I : Nat → Nat → Int32} {R : Nat → Nat → Option Nat} {L : Nat → Nat → Int64} {sz : Nat} {ex : Bool} {x0 x1 : Option Value} {u : Nat} : X z 107 30 [x0, x1] (.ref u :: st) cu (K, I, R, L, sz, ex) Q = ((K u).1 = 111 ∧ X z 107 33 [x0, x1] (va_rf (R u 2) :: st) cu (K, I, R, L, sz, ex) Q) := by
  rw [x107_30]
  rfl
theorem v107_33 {z : P0} {st : List Value} {cu : Nat × Nat} {Q : Res → Mem → Prop} {σ : Mem} {x0 : Option Value} {u : Int32} : X z 107 33 [x0, some (.int u)] (st) cu σ Q = (X z 107 34 [x0, some (.int u)] (.int u :: st) cu σ Q) := by
  rw [x107_33]
  rfl
theorem v107_34 {z : P0} {st : List Value} {cu : Nat × Nat} {Q : Res → Mem → Prop} {K : Nat → Nat × Nat} {I : Nat → Nat → Int32} {R : Nat → Nat → Option Nat} {L : Nat → Nat → Int64} {sz : Nat} {ex : Bool} {x0 x1 : Option Value} {u : Nat} {v : Int32} : X z 107 34 [x0, x1] (.int v :: .ref u :: st) cu (K, I, R, L, sz, ex) Q = (((K u).1 = 20 ∨ (K u).1 = 50) ∧ vp_in v (K u).2 ∧ X z 107 35 [x0, x1] (.int (I u v.toNatClampNeg) :: st) cu (K, I, R, L, sz, ex) Q) := by
  rw [x107_34]
  rfl
theorem v107_35 {z : P0} {st : List Value} {cu : Nat × Nat} {Q : Res → Mem → Prop} {K : Nat → Nat × Nat} {I : Nat → Nat → Int32} {R : Nat → Nat → Option Nat} {L : Nat → Nat → Int64} {sz : Nat} {ex : Bool} {x0 x1 : Option Value} {u : Nat} {j v : Int32} : X z 107 35 [x0, x1] (.int v :: .int j :: .ref u :: st) cu (K, I, R, L, sz, ex) Q = ((K u).1 = 20 ∧ vp_in j (K u).2 ∧ X z 107 36 [x0, x1] (st) cu (K, up2 I u j.toNatClampNeg v, R, L, sz, ex) Q) := by
  rw [x107_35]
  rfl
theorem v107_36 {z : P0} {st : List Value} {cu : Nat × Nat} {Q : Res → Mem → Prop} {σ : Mem} {x0 : Option Value} {u : Int32} : X z 107 36 [x0, some (.int u)] (st) cu σ Q = (cat2 x0 = false ∧ X z 107 39 [x0, some (.int (u + nI 1))] (st) cu σ Q) := by
  rw [x107_36]
  obtain ⟨K, I, R, L, sz, ex⟩ := σ
  exact i_iinc.trans (gl_1.trans (ldI_i.trans sl_1))
theorem v107_39 {z : P0} {st : List Value} {cu : Nat × Nat} {Q : Res → Mem → Prop} {σ : Mem} {x0 x1 : Option Value} : X z 107 39 [x0, x1] (st) cu σ Q = (X z 107 13 [x0, x1] (st) cu σ Q) := by
  rw [x107_39]
  rfl
theorem v107_42 {z : P0} {st : List Value} {cu : Nat × Nat} {Q : Res → Mem → Prop} {σ : Mem} {x1 : Option Value} {u : Nat} : X z 107 42 [some (.ref u), x1] (st) cu σ Q = (X z 107 43 [some (.ref u), x1] (.ref u :: st) cu σ Q) := by
  rw [x107_42]
  rfl
theorem v107_43 {z : P0} {st : List Value} {cu : Nat × Nat} {Q : Res → Mem → Prop} {σ : Mem} {x0 x1 : Option Value} {u : Nat} : X z 107 43 [x0, x1] (.ref u :: st) cu σ Q = (X z 107 44 [x0, x1] (.ref u :: .ref u :: st) cu σ Q) := by
  rw [x107_43]
  exact propext ⟨fun h => h.2, fun h => ⟨rfl, h⟩⟩
theorem v107_43i {z : P0} {st : List Value} {cu : Nat × Nat} {Q : Res → Mem → Prop} {σ : Mem} {x0 x1 : Option Value} {u : Int32} : X z 107 43 [x0, x1] (.int u :: st) cu σ Q = (X z 107 44 [x0, x1] (.int u :: .int u :: st) cu σ Q) := by
  rw [x107_43]
  exact propext ⟨fun h => h.2, fun h => ⟨rfl, h⟩⟩
theorem v107_44 {z : P0} {st : List Value} {cu : Nat × Nat} {Q : Res → Mem → Prop} {K : Nat → Nat × Nat} {I : Nat → Nat → Int32} {R : Nat → Nat → Option Nat} {L : Nat → Nat → Int64} {sz : Nat} {ex : Bool} {x0 x1 : Option Value} {u : Nat} : X z 107 44 [x0, x1] (.ref u :: st) cu (K, I, R, L, sz, ex) Q = ((K u).1 = 111 ∧ X z 107 47 [x0, x1] (.int (I u 1) :: st) cu (K, I, R, L, sz, ex) Q) := by
  rw [x107_44]
  rfl
theorem v107_47 {z : P0} {st : List Value} {cu : Nat × Nat} {Q : Res → Mem → Prop} {σ : Mem} {x0 x1 : Option Value} : X z 107 47 [x0, x1] (st) cu σ Q = (X z 107 48 [x0, x1] (.int (nI 1) :: st) cu σ Q) := by
  rw [x107_47]
  rfl
theorem v107_48 {z : P0} {st : List Value} {cu : Nat × Nat} {Q : Res → Mem → Prop} {σ : Mem} {x0 x1 : Option Value} {u v : Int32} : X z 107 48 [x0, x1] (.int v :: .int u :: st) cu σ Q = (X z 107 49 [x0, x1] (.int (u - v) :: st) cu σ Q) := by
  rw [x107_48]
  rfl
theorem v107_49 {z : P0} {st : List Value} {cu : Nat × Nat} {Q : Res → Mem → Prop} {K : Nat → Nat × Nat} {I : Nat → Nat → Int32} {R : Nat → Nat → Option Nat} {L : Nat → Nat → Int64} {sz : Nat} {ex : Bool} {x0 x1 : Option Value} {u : Nat} {v : Int32} : X z 107 49 [x0, x1] (.int v :: .ref u :: st) cu (K, I, R, L, sz, ex) Q = ((K u).1 = 111 ∧ X z 107 52 [x0, x1] (st) cu (K, up2 I u 1 v, R, L, sz, ex) Q) := by
  rw [x107_49]
  exact i_putI
theorem v107_52 {z : P0} {st : List Value} {cu : Nat × Nat} {Q : Res → Mem → Prop} {σ : Mem} {x0 x1 : Option Value} : X z 107 52 [x0, x1] (st) cu σ Q = (X z 107 53 [x0, x1] (.int (nI 0) :: st) cu σ Q) := by
  rw [x107_52]
  rfl
theorem v107_53 {z : P0} {st : List Value} {cu : Nat × Nat} {Q : Res → Mem → Prop} {σ : Mem} {x0 x1 : Option Value} {u : Int32} : X z 107 53 [x0, x1] (.int u :: st) cu σ Q = (cat2 x0 = false ∧ X z 107 54 [x0, some (.int u)] (st) cu σ Q) := by
  rw [x107_53]
  obtain ⟨K, I, R, L, sz, ex⟩ := σ
  exact i_istore_n.trans sl_1
theorem v107_54 {z : P0} {st : List Value} {cu : Nat × Nat} {Q : Res → Mem → Prop} {σ : Mem} {x0 : Option Value} {u : Int32} : X z 107 54 [x0, some (.int u)] (st) cu σ Q = (X z 107 55 [x0, some (.int u)] (.int u :: st) cu σ Q) := by
  rw [x107_54]
  rfl
theorem v107_55 {z : P0} {st : List Value} {cu : Nat × Nat} {Q : Res → Mem → Prop} {σ : Mem} {x0 x1 : Option Value} : X z 107 55 [x0, x1] (st) cu σ Q = (X z 107 58 [x0, x1] (.int (nI 473) :: st) cu σ Q) := by
  rw [x107_55]
  rfl
theorem v107_58 {z : P0} {st : List Value} {cu : Nat × Nat} {Q : Res → Mem → Prop} {σ : Mem} {x0 x1 : Option Value} {u v : Int32} : X z 107 58 [x0, x1] (.int v :: .int u :: st) cu σ Q = (if u < v then X z 107 61 [x0, x1] (st) cu σ Q else X z 107 88 [x0, x1] (st) cu σ Q) := by
  rw [x107_58]
  obtain ⟨K, I, R, L, sz, ex⟩ := σ
  exact br_ge
theorem v107_61 {z : P0} {st : List Value} {cu : Nat × Nat} {Q : Res → Mem → Prop} {σ : Mem} {x1 : Option Value} {u : Nat} : X z 107 61 [some (.ref u), x1] (st) cu σ Q = (X z 107 62 [some (.ref u), x1] (.ref u :: st) cu σ Q) := by
  rw [x107_61]
  rfl
theorem v107_62 {z : P0} {st : List Value} {cu : Nat × Nat} {Q : Res → Mem → Prop} {K : Nat → Nat × Nat} {I : Nat → Nat → Int32} {R : Nat → Nat → Option Nat} {L : Nat → Nat → Int64} {sz : Nat} {ex : Bool} {x0 x1 : Option Value} {u : Nat} : X z 107 62 [x0, x1] (.ref u :: st) cu (K, I, R, L, sz, ex) Q = ((K u).1 = 111 ∧ X z 107 65 [x0, x1] (va_rf (R u 2) :: st) cu (K, I, R, L, sz, ex) Q) := by
  rw [x107_62]
  rfl
theorem v107_65 {z : P0} {st : List Value} {cu : Nat × Nat} {Q : Res → Mem → Prop} {σ : Mem} {x0 x1 : Option Value} : X z 107 65 [x0, x1] (st) cu σ Q = (X z 107 68 [x0, x1] (.int (nI 473) :: st) cu σ Q) := by
  rw [x107_65]
  rfl
theorem v107_68 {z : P0} {st : List Value} {cu : Nat × Nat} {Q : Res → Mem → Prop} {σ : Mem} {x1 : Option Value} {u : Nat} : X z 107 68 [some (.ref u), x1] (st) cu σ Q = (X z 107 69 [some (.ref u), x1] (.ref u :: st) cu σ Q) := by
  rw [x107_68]
  rfl
theorem v107_69 {z : P0} {st : List Value} {cu : Nat × Nat} {Q : Res → Mem → Prop} {K : Nat → Nat × Nat} {I : Nat → Nat → Int32} {R : Nat → Nat → Option Nat} {L : Nat → Nat → Int64} {sz : Nat} {ex : Bool} {x0 x1 : Option Value} {u : Nat} : X z 107 69 [x0, x1] (.ref u :: st) cu (K, I, R, L, sz, ex) Q = ((K u).1 = 111 ∧ X z 107 72 [x0, x1] (.int (I u 1) :: st) cu (K, I, R, L, sz, ex) Q) := by
  rw [x107_69]
  rfl
theorem v107_72 {z : P0} {st : List Value} {cu : Nat × Nat} {Q : Res → Mem → Prop} {σ : Mem} {x0 x1 : Option Value} {u v : Int32} : X z 107 72 [x0, x1] (.int v :: .int u :: st) cu σ Q = (X z 107 73 [x0, x1] (.int (u * v) :: st) cu σ Q) := by
  rw [x107_72]
  rfl
theorem v107_73 {z : P0} {st : List Value} {cu : Nat × Nat} {Q : Res → Mem → Prop} {σ : Mem} {x0 : Option Value} {u : Int32} : X z 107 73 [x0, some (.int u)] (st) cu σ Q = (X z 107 74 [x0, some (.int u)] (.int u :: st) cu σ Q) := by
  rw [x107_73]
  rfl
theorem v107_74 {z : P0} {st : List Value} {cu : Nat × Nat} {Q : Res → Mem → Prop} {σ : Mem} {x0 x1 : Option Value} {u v : Int32} : X z 107 74 [x0, x1] (.int v :: .int u :: st) cu σ Q = (X z 107 75 [x0, x1] (.int (u + v) :: st) cu σ Q) := by
  rw [x107_74]
  rfl
theorem v107_75 {z : P0} {st : List Value} {cu : Nat × Nat} {Q : Res → Mem → Prop} {σ : Mem} {x1 : Option Value} {u : Nat} : X z 107 75 [some (.ref u), x1] (st) cu σ Q = (X z 107 76 [some (.ref u), x1] (.ref u :: st) cu σ Q) := by
  rw [x107_75]
  rfl
theorem v107_76 {z : P0} {st : List Value} {cu : Nat × Nat} {Q : Res → Mem → Prop} {K : Nat → Nat × Nat} {I : Nat → Nat → Int32} {R : Nat → Nat → Option Nat} {L : Nat → Nat → Int64} {sz : Nat} {ex : Bool} {x0 x1 : Option Value} {u : Nat} : X z 107 76 [x0, x1] (.ref u :: st) cu (K, I, R, L, sz, ex) Q = ((K u).1 = 111 ∧ X z 107 79 [x0, x1] (va_rf (R u 0) :: st) cu (K, I, R, L, sz, ex) Q) := by
  rw [x107_76]
  rfl
theorem v107_79 {z : P0} {st : List Value} {cu : Nat × Nat} {Q : Res → Mem → Prop} {σ : Mem} {x0 : Option Value} {u : Int32} : X z 107 79 [x0, some (.int u)] (st) cu σ Q = (X z 107 80 [x0, some (.int u)] (.int u :: st) cu σ Q) := by
  rw [x107_79]
  rfl
theorem v107_80 {z : P0} {st : List Value} {cu : Nat × Nat} {Q : Res → Mem → Prop} {K : Nat → Nat × Nat} {I : Nat → Nat → Int32} {R : Nat → Nat → Option Nat} {L : Nat → Nat → Int64} {sz : Nat} {ex : Bool} {x0 x1 : Option Value} {u : Nat} {v : Int32} : X z 107 80 [x0, x1] (.int v :: .ref u :: st) cu (K, I, R, L, sz, ex) Q = (((K u).1 = 20 ∨ (K u).1 = 50) ∧ vp_in v (K u).2 ∧ X z 107 81 [x0, x1] (.int (I u v.toNatClampNeg) :: st) cu (K, I, R, L, sz, ex) Q) := by
  rw [x107_80]
  rfl
theorem v107_81 {z : P0} {st : List Value} {cu : Nat × Nat} {Q : Res → Mem → Prop} {K : Nat → Nat × Nat} {I : Nat → Nat → Int32} {R : Nat → Nat → Option Nat} {L : Nat → Nat → Int64} {sz : Nat} {ex : Bool} {x0 x1 : Option Value} {u : Nat} {j v : Int32} : X z 107 81 [x0, x1] (.int v :: .int j :: .ref u :: st) cu (K, I, R, L, sz, ex) Q = ((K u).1 = 20 ∧ vp_in j (K u).2 ∧ X z 107 82 [x0, x1] (st) cu (K, up2 I u j.toNatClampNeg v, R, L, sz, ex) Q) := by
  rw [x107_81]
  rfl
theorem v107_82 {z : P0} {st : List Value} {cu : Nat × Nat} {Q : Res → Mem → Prop} {σ : Mem} {x0 : Option Value} {u : Int32} : X z 107 82 [x0, some (.int u)] (st) cu σ Q = (cat2 x0 = false ∧ X z 107 85 [x0, some (.int (u + nI 1))] (st) cu σ Q) := by
  rw [x107_82]
  obtain ⟨K, I, R, L, sz, ex⟩ := σ
  exact i_iinc.trans (gl_1.trans (ldI_i.trans sl_1))
theorem v107_85 {z : P0} {st : List Value} {cu : Nat × Nat} {Q : Res → Mem → Prop} {σ : Mem} {x0 x1 : Option Value} : X z 107 85 [x0, x1] (st) cu σ Q = (X z 107 54 [x0, x1] (st) cu σ Q) := by
  rw [x107_85]
  rfl
theorem v107_88 {z : P0} {st : List Value} {cu : Nat × Nat} {Q : Res → Mem → Prop} {σ : Mem} {x1 : Option Value} {u : Nat} : X z 107 88 [some (.ref u), x1] (st) cu σ Q = (X z 107 89 [some (.ref u), x1] (.ref u :: st) cu σ Q) := by
  rw [x107_88]
  rfl
theorem v107_89 {z : P0} {st : List Value} {cu : Nat × Nat} {Q : Res → Mem → Prop} {σ : Mem} {x0 x1 : Option Value} {u : Nat} : X z 107 89 [x0, x1] (.ref u :: st) cu σ Q = (X z 107 90 [x0, x1] (.ref u :: .ref u :: st) cu σ Q) := by
  rw [x107_89]
  exact propext ⟨fun h => h.2, fun h => ⟨rfl, h⟩⟩
theorem v107_89i {z : P0} {st : List Value} {cu : Nat × Nat} {Q : Res → Mem → Prop} {σ : Mem} {x0 x1 : Option Value} {u : Int32} : X z 107 89 [x0, x1] (.int u :: st) cu σ Q = (X z 107 90 [x0, x1] (.int u :: .int u :: st) cu σ Q) := by
  rw [x107_89]
  exact propext ⟨fun h => h.2, fun h => ⟨rfl, h⟩⟩
theorem v107_90 {z : P0} {st : List Value} {cu : Nat × Nat} {Q : Res → Mem → Prop} {K : Nat → Nat × Nat} {I : Nat → Nat → Int32} {R : Nat → Nat → Option Nat} {L : Nat → Nat → Int64} {sz : Nat} {ex : Bool} {x0 x1 : Option Value} {u : Nat} : X z 107 90 [x0, x1] (.ref u :: st) cu (K, I, R, L, sz, ex) Q = ((K u).1 = 111 ∧ X z 107 93 [x0, x1] (.int (I u 1) :: st) cu (K, I, R, L, sz, ex) Q) := by
  rw [x107_90]
  rfl
theorem v107_93 {z : P0} {st : List Value} {cu : Nat × Nat} {Q : Res → Mem → Prop} {σ : Mem} {x0 x1 : Option Value} : X z 107 93 [x0, x1] (st) cu σ Q = (X z 107 94 [x0, x1] (.int (nI 1) :: st) cu σ Q) := by
  rw [x107_93]
  rfl
theorem v107_94 {z : P0} {st : List Value} {cu : Nat × Nat} {Q : Res → Mem → Prop} {σ : Mem} {x0 x1 : Option Value} {u v : Int32} : X z 107 94 [x0, x1] (.int v :: .int u :: st) cu σ Q = (X z 107 95 [x0, x1] (.int (u + v) :: st) cu σ Q) := by
  rw [x107_94]
  rfl
theorem v107_95 {z : P0} {st : List Value} {cu : Nat × Nat} {Q : Res → Mem → Prop} {K : Nat → Nat × Nat} {I : Nat → Nat → Int32} {R : Nat → Nat → Option Nat} {L : Nat → Nat → Int64} {sz : Nat} {ex : Bool} {x0 x1 : Option Value} {u : Nat} {v : Int32} : X z 107 95 [x0, x1] (.int v :: .ref u :: st) cu (K, I, R, L, sz, ex) Q = ((K u).1 = 111 ∧ X z 107 98 [x0, x1] (st) cu (K, up2 I u 1 v, R, L, sz, ex) Q) := by
  rw [x107_95]
  exact i_putI
theorem v107_98 {z : P0} {cu : Nat × Nat} {Q : Res → Mem → Prop} {σ : Mem} {x0 x1 : Option Value} : X z 107 98 [x0, x1] ([]) cu σ Q = (Q (.inl none) σ) := by
  rw [x107_98]
  rfl
theorem v108_0 {z : P0} {st : List Value} {cu : Nat × Nat} {Q : Res → Mem → Prop} {σ : Mem} {x0 : Option Value} {u : Int32} : X z 108 0 [x0, some (.int u)] (st) cu σ Q = (X z 108 1 [x0, some (.int u)] (.int u :: st) cu σ Q) := by
  rw [x108_0]
  rfl
theorem v108_1 {z : P0} {st : List Value} {cu : Nat × Nat} {Q : Res → Mem → Prop} {σ : Mem} {x0 x1 : Option Value} : X z 108 1 [x0, x1] (st) cu σ Q = (X z 108 2 [x0, x1] (.int (nI 0) :: st) cu σ Q) := by
  rw [x108_1]
  rfl
theorem v108_2 {z : P0} {st : List Value} {cu : Nat × Nat} {Q : Res → Mem → Prop} {σ : Mem} {x1 : Option Value} {u : Nat} : X z 108 2 [some (.ref u), x1] (st) cu σ Q = (X z 108 3 [some (.ref u), x1] (.ref u :: st) cu σ Q) := by
  rw [x108_2]
  rfl
theorem v108_3 {z : P0} {st : List Value} {cu : Nat × Nat} {Q : Res → Mem → Prop} {K : Nat → Nat × Nat} {I : Nat → Nat → Int32} {R : Nat → Nat → Option Nat} {L : Nat → Nat → Int64} {sz : Nat} {ex : Bool} {x0 x1 : Option Value} {u : Nat} : X z 108 3 [x0, x1] (.ref u :: st) cu (K, I, R, L, sz, ex) Q = ((K u).1 = 111 ∧ X z 108 6 [x0, x1] (va_rf (R u 0) :: st) cu (K, I, R, L, sz, ex) Q) := by
  rw [x108_3]
  rfl
theorem v108_6 {z : P0} {st : List Value} {cu : Nat × Nat} {Q : Res → Mem → Prop} {σ : Mem} {x0 x1 : Option Value} : X z 108 6 [x0, x1] (st) cu σ Q = (X z 108 8 [x0, x1] (.int (nI 6) :: st) cu σ Q) := by
  rw [x108_6]
  rfl
theorem v108_8 {z : P0} {st : List Value} {cu : Nat × Nat} {Q : Res → Mem → Prop} {K : Nat → Nat × Nat} {I : Nat → Nat → Int32} {R : Nat → Nat → Option Nat} {L : Nat → Nat → Int64} {sz : Nat} {ex : Bool} {x0 x1 : Option Value} {u : Nat} {v : Int32} : X z 108 8 [x0, x1] (.int v :: .ref u :: st) cu (K, I, R, L, sz, ex) Q = (((K u).1 = 20 ∨ (K u).1 = 50) ∧ vp_in v (K u).2 ∧ X z 108 9 [x0, x1] (.int (I u v.toNatClampNeg) :: st) cu (K, I, R, L, sz, ex) Q) := by
  rw [x108_8]
  rfl
theorem v108_9 {z : P0} {st : List Value} {cu : Nat × Nat} {Q : Res → Mem → Prop} {σ : Mem} {x0 x1 : Option Value} : X z 108 9 [x0, x1] (st) cu σ Q = (X z 108 10 [x0, x1] (.int (nI 1) :: st) cu σ Q) := by
  rw [x108_9]
  rfl
theorem v108_10 {z : P0} {st : List Value} {cu : Nat × Nat} {Q : Res → Mem → Prop} {σ : Mem} {x0 x1 : Option Value} {u v : Int32} : X z 108 10 [x0, x1] (.int v :: .int u :: st) cu σ Q = (X z 108 11 [x0, x1] (.int (u - v) :: st) cu σ Q) := by
  rw [x108_10]
  rfl
theorem u108_11 {z : P0} {ls : Lcs} {st : List Value} {K : Nat → Nat × Nat} {I : Nat → Nat → Int32} {R : Nat → Nat → Option Nat} {L : Nat → Nat → Int64} {sz : Nat} {ex : Bool} {Q : Res → Mem → Prop} {a0 : Int32} {a1 : Int32} {a2 : Int32} : X z 108 11 ls (.int a2 :: .int a1 :: .int a0 :: st) (0, 0) (K, I, R, L, sz, ex) Q = (wsum st ≤ 8 ∧ X z 106 0 [some (.int a0), some (.int a1), some (.int a2)] [] (0, 0) (K, I, R, L, sz, ex) (aftr (X z) mT 108 11 ls st (0, 0) Q)) := v108_11 (c := 0) (n := 0)
theorem v108_14 {z : P0} {cu : Nat × Nat} {Q : Res → Mem → Prop} {σ : Mem} {x0 x1 : Option Value} {v : Int32} : X z 108 14 [x0, x1] ([.int v]) cu σ Q = ((v = nI 0 ∨ v = nI 1) ∧ Q (.inl (some (.int v))) σ) := by
  rw [x108_14]
  rw [nI_0, one1]
  rfl
theorem v109_0 {z : P0} {st : List Value} {cu : Nat × Nat} {Q : Res → Mem → Prop} {σ : Mem} {x0 : Option Value} {u : Int32} : X z 109 0 [x0, some (.int u)] (st) cu σ Q = (X z 109 1 [x0, some (.int u)] (.int u :: st) cu σ Q) := by
  rw [x109_0]
  rfl
theorem v109_1 {z : P0} {st : List Value} {cu : Nat × Nat} {Q : Res → Mem → Prop} {σ : Mem} {x0 x1 : Option Value} : X z 109 1 [x0, x1] (st) cu σ Q = (X z 109 2 [x0, x1] (.int (nI 0) :: st) cu σ Q) := by
  rw [x109_1]
  rfl
theorem v109_2 {z : P0} {st : List Value} {cu : Nat × Nat} {Q : Res → Mem → Prop} {σ : Mem} {x1 : Option Value} {u : Nat} : X z 109 2 [some (.ref u), x1] (st) cu σ Q = (X z 109 3 [some (.ref u), x1] (.ref u :: st) cu σ Q) := by
  rw [x109_2]
  rfl
theorem v109_3 {z : P0} {st : List Value} {cu : Nat × Nat} {Q : Res → Mem → Prop} {K : Nat → Nat × Nat} {I : Nat → Nat → Int32} {R : Nat → Nat → Option Nat} {L : Nat → Nat → Int64} {sz : Nat} {ex : Bool} {x0 x1 : Option Value} {u : Nat} : X z 109 3 [x0, x1] (.ref u :: st) cu (K, I, R, L, sz, ex) Q = ((K u).1 = 111 ∧ X z 109 6 [x0, x1] (va_rf (R u 0) :: st) cu (K, I, R, L, sz, ex) Q) := by
  rw [x109_3]
  rfl
theorem v109_6 {z : P0} {st : List Value} {cu : Nat × Nat} {Q : Res → Mem → Prop} {σ : Mem} {x0 x1 : Option Value} : X z 109 6 [x0, x1] (st) cu σ Q = (X z 109 8 [x0, x1] (.int (nI 7) :: st) cu σ Q) := by
  rw [x109_6]
  rfl
theorem v109_8 {z : P0} {st : List Value} {cu : Nat × Nat} {Q : Res → Mem → Prop} {K : Nat → Nat × Nat} {I : Nat → Nat → Int32} {R : Nat → Nat → Option Nat} {L : Nat → Nat → Int64} {sz : Nat} {ex : Bool} {x0 x1 : Option Value} {u : Nat} {v : Int32} : X z 109 8 [x0, x1] (.int v :: .ref u :: st) cu (K, I, R, L, sz, ex) Q = (((K u).1 = 20 ∨ (K u).1 = 50) ∧ vp_in v (K u).2 ∧ X z 109 9 [x0, x1] (.int (I u v.toNatClampNeg) :: st) cu (K, I, R, L, sz, ex) Q) := by
  rw [x109_8]
  rfl
theorem v109_9 {z : P0} {st : List Value} {cu : Nat × Nat} {Q : Res → Mem → Prop} {σ : Mem} {x0 x1 : Option Value} : X z 109 9 [x0, x1] (st) cu σ Q = (X z 109 10 [x0, x1] (.int (nI 1) :: st) cu σ Q) := by
  rw [x109_9]
  rfl
theorem v109_10 {z : P0} {st : List Value} {cu : Nat × Nat} {Q : Res → Mem → Prop} {σ : Mem} {x0 x1 : Option Value} {u v : Int32} : X z 109 10 [x0, x1] (.int v :: .int u :: st) cu σ Q = (X z 109 11 [x0, x1] (.int (u - v) :: st) cu σ Q) := by
  rw [x109_10]
  rfl
theorem u109_11 {z : P0} {ls : Lcs} {st : List Value} {K : Nat → Nat × Nat} {I : Nat → Nat → Int32} {R : Nat → Nat → Option Nat} {L : Nat → Nat → Int64} {sz : Nat} {ex : Bool} {Q : Res → Mem → Prop} {a0 : Int32} {a1 : Int32} {a2 : Int32} : X z 109 11 ls (.int a2 :: .int a1 :: .int a0 :: st) (0, 0) (K, I, R, L, sz, ex) Q = (wsum st ≤ 8 ∧ X z 106 0 [some (.int a0), some (.int a1), some (.int a2)] [] (0, 0) (K, I, R, L, sz, ex) (aftr (X z) mT 109 11 ls st (0, 0) Q)) := v109_11 (c := 0) (n := 0)
theorem v109_14 {z : P0} {cu : Nat × Nat} {Q : Res → Mem → Prop} {σ : Mem} {x0 x1 : Option Value} {v : Int32} : X z 109 14 [x0, x1] ([.int v]) cu σ Q = ((v = nI 0 ∨ v = nI 1) ∧ Q (.inl (some (.int v))) σ) := by
  rw [x109_14]
  rw [nI_0, one1]
  rfl
theorem v110_0 {z : P0} {st : List Value} {cu : Nat × Nat} {Q : Res → Mem → Prop} {σ : Mem} {x0 x1 x2 x3 : Option Value} : X z 110 0 [x0, x1, x2, x3] (st) cu σ Q = (X z 110 1 [x0, x1, x2, x3] (.int (nI 0) :: st) cu σ Q) := by
  rw [x110_0]
  rfl
theorem v110_1 {z : P0} {st : List Value} {cu : Nat × Nat} {Q : Res → Mem → Prop} {σ : Mem} {x0 x1 x2 x3 : Option Value} {u : Int32} : X z 110 1 [x0, x1, x2, x3] (.int u :: st) cu σ Q = (cat2 x1 = false ∧ X z 110 2 [x0, x1, some (.int u), x3] (st) cu σ Q) := by
  rw [x110_1]
  obtain ⟨K, I, R, L, sz, ex⟩ := σ
  exact i_istore_n.trans sl_2
theorem v110_2 {z : P0} {st : List Value} {cu : Nat × Nat} {Q : Res → Mem → Prop} {σ : Mem} {x0 x1 x2 x3 : Option Value} : X z 110 2 [x0, x1, x2, x3] (st) cu σ Q = (X z 110 3 [x0, x1, x2, x3] (.int (nI 0) :: st) cu σ Q) := by
  rw [x110_2]
  rfl
theorem v110_3 {z : P0} {st : List Value} {cu : Nat × Nat} {Q : Res → Mem → Prop} {σ : Mem} {x0 x1 x2 x3 : Option Value} {u : Int32} : X z 110 3 [x0, x1, x2, x3] (.int u :: st) cu σ Q = (cat2 x2 = false ∧ X z 110 4 [x0, x1, x2, some (.int u)] (st) cu σ Q) := by
  rw [x110_3]
  obtain ⟨K, I, R, L, sz, ex⟩ := σ
  exact i_istore_n.trans sl_3
theorem v110_4 {z : P0} {st : List Value} {cu : Nat × Nat} {Q : Res → Mem → Prop} {σ : Mem} {x0 x1 x2 : Option Value} {u : Int32} : X z 110 4 [x0, x1, x2, some (.int u)] (st) cu σ Q = (X z 110 5 [x0, x1, x2, some (.int u)] (.int u :: st) cu σ Q) := by
  rw [x110_4]
  rfl
theorem v110_5 {z : P0} {st : List Value} {cu : Nat × Nat} {Q : Res → Mem → Prop} {σ : Mem} {x1 x2 x3 : Option Value} {u : Nat} : X z 110 5 [some (.ref u), x1, x2, x3] (st) cu σ Q = (X z 110 6 [some (.ref u), x1, x2, x3] (.ref u :: st) cu σ Q) := by
  rw [x110_5]
  rfl
theorem v110_6 {z : P0} {st : List Value} {cu : Nat × Nat} {Q : Res → Mem → Prop} {K : Nat → Nat × Nat} {I : Nat → Nat → Int32} {R : Nat → Nat → Option Nat} {L : Nat → Nat → Int64} {sz : Nat} {ex : Bool} {x0 x1 x2 x3 : Option Value} {u : Nat} : X z 110 6 [x0, x1, x2, x3] (.ref u :: st) cu (K, I, R, L, sz, ex) Q = ((K u).1 = 111 ∧ X z 110 9 [x0, x1, x2, x3] (va_rf (R u 0) :: st) cu (K, I, R, L, sz, ex) Q) := by
  rw [x110_6]
  rfl
theorem v110_9 {z : P0} {st : List Value} {cu : Nat × Nat} {Q : Res → Mem → Prop} {σ : Mem} {x0 x1 x2 x3 : Option Value} : X z 110 9 [x0, x1, x2, x3] (st) cu σ Q = (X z 110 11 [x0, x1, x2, x3] (.int (nI 12) :: st) cu σ Q) := by
  rw [x110_9]
  rfl
theorem v110_11 {z : P0} {st : List Value} {cu : Nat × Nat} {Q : Res → Mem → Prop} {K : Nat → Nat × Nat} {I : Nat → Nat → Int32} {R : Nat → Nat → Option Nat} {L : Nat → Nat → Int64} {sz : Nat} {ex : Bool} {x0 x1 x2 x3 : Option Value} {u : Nat} {v : Int32} : X z 110 11 [x0, x1, x2, x3] (.int v :: .ref u :: st) cu (K, I, R, L, sz, ex) Q = (((K u).1 = 20 ∨ (K u).1 = 50) ∧ vp_in v (K u).2 ∧ X z 110 12 [x0, x1, x2, x3] (.int (I u v.toNatClampNeg) :: st) cu (K, I, R, L, sz, ex) Q) := by
  rw [x110_11]
  rfl
theorem v110_12 {z : P0} {st : List Value} {cu : Nat × Nat} {Q : Res → Mem → Prop} {σ : Mem} {x0 x1 x2 x3 : Option Value} {u v : Int32} : X z 110 12 [x0, x1, x2, x3] (.int v :: .int u :: st) cu σ Q = (if u < v then X z 110 15 [x0, x1, x2, x3] (st) cu σ Q else X z 110 43 [x0, x1, x2, x3] (st) cu σ Q) := by
  rw [x110_12]
  obtain ⟨K, I, R, L, sz, ex⟩ := σ
  exact br_ge
theorem v110_15 {z : P0} {st : List Value} {cu : Nat × Nat} {Q : Res → Mem → Prop} {σ : Mem} {x0 x1 x3 : Option Value} {u : Int32} : X z 110 15 [x0, x1, some (.int u), x3] (st) cu σ Q = (X z 110 16 [x0, x1, some (.int u), x3] (.int u :: st) cu σ Q) := by
  rw [x110_15]
  rfl
theorem v110_16 {z : P0} {st : List Value} {cu : Nat × Nat} {Q : Res → Mem → Prop} {σ : Mem} {x1 x2 x3 : Option Value} {u : Nat} : X z 110 16 [some (.ref u), x1, x2, x3] (st) cu σ Q = (X z 110 17 [some (.ref u), x1, x2, x3] (.ref u :: st) cu σ Q) := by
  rw [x110_16]
  rfl
theorem v110_17 {z : P0} {st : List Value} {cu : Nat × Nat} {Q : Res → Mem → Prop} {K : Nat → Nat × Nat} {I : Nat → Nat → Int32} {R : Nat → Nat → Option Nat} {L : Nat → Nat → Int64} {sz : Nat} {ex : Bool} {x0 x1 x2 x3 : Option Value} {u : Nat} : X z 110 17 [x0, x1, x2, x3] (.ref u :: st) cu (K, I, R, L, sz, ex) Q = ((K u).1 = 111 ∧ X z 110 20 [x0, x1, x2, x3] (va_rf (R u 0) :: st) cu (K, I, R, L, sz, ex) Q) := by
  rw [x110_17]
  rfl
theorem v110_20 {z : P0} {st : List Value} {cu : Nat × Nat} {Q : Res → Mem → Prop} {σ : Mem} {x0 x1 x2 x3 : Option Value} : X z 110 20 [x0, x1, x2, x3] (st) cu σ Q = (X z 110 23 [x0, x1, x2, x3] (.int (nI 413) :: st) cu σ Q) := by
  rw [x110_20]
  rfl
theorem v110_23 {z : P0} {st : List Value} {cu : Nat × Nat} {Q : Res → Mem → Prop} {σ : Mem} {x0 x1 x2 : Option Value} {u : Int32} : X z 110 23 [x0, x1, x2, some (.int u)] (st) cu σ Q = (X z 110 24 [x0, x1, x2, some (.int u)] (.int u :: st) cu σ Q) := by
  rw [x110_23]
  rfl
theorem v110_24 {z : P0} {st : List Value} {cu : Nat × Nat} {Q : Res → Mem → Prop} {σ : Mem} {x0 x1 x2 x3 : Option Value} {u v : Int32} : X z 110 24 [x0, x1, x2, x3] (.int v :: .int u :: st) cu σ Q = (X z 110 25 [x0, x1, x2, x3] (.int (u + v) :: st) cu σ Q) := by
  rw [x110_24]
  rfl
theorem v110_25 {z : P0} {st : List Value} {cu : Nat × Nat} {Q : Res → Mem → Prop} {K : Nat → Nat × Nat} {I : Nat → Nat → Int32} {R : Nat → Nat → Option Nat} {L : Nat → Nat → Int64} {sz : Nat} {ex : Bool} {x0 x1 x2 x3 : Option Value} {u : Nat} {v : Int32} : X z 110 25 [x0, x1, x2, x3] (.int v :: .ref u :: st) cu (K, I, R, L, sz, ex) Q = (((K u).1 = 20 ∨ (K u).1 = 50) ∧ vp_in v (K u).2 ∧ X z 110 26 [x0, x1, x2, x3] (.int (I u v.toNatClampNeg) :: st) cu (K, I, R, L, sz, ex) Q) := by
  rw [x110_25]
  rfl
theorem v110_26 {z : P0} {st : List Value} {cu : Nat × Nat} {Q : Res → Mem → Prop} {σ : Mem} {x0 x2 x3 : Option Value} {u : Int32} : X z 110 26 [x0, some (.int u), x2, x3] (st) cu σ Q = (X z 110 27 [x0, some (.int u), x2, x3] (.int u :: st) cu σ Q) := by
  rw [x110_26]
  rfl
theorem v110_27 {z : P0} {st : List Value} {cu : Nat × Nat} {Q : Res → Mem → Prop} {σ : Mem} {x0 x1 x2 x3 : Option Value} {u v : Int32} : X z 110 27 [x0, x1, x2, x3] (.int v :: .int u :: st) cu σ Q = (if u = v then X z 110 30 [x0, x1, x2, x3] (st) cu σ Q else X z 110 34 [x0, x1, x2, x3] (st) cu σ Q) := by
  rw [x110_27]
  obtain ⟨K, I, R, L, sz, ex⟩ := σ
  exact br_ne
theorem v110_30 {z : P0} {st : List Value} {cu : Nat × Nat} {Q : Res → Mem → Prop} {σ : Mem} {x0 x1 x2 x3 : Option Value} : X z 110 30 [x0, x1, x2, x3] (st) cu σ Q = (X z 110 31 [x0, x1, x2, x3] (.int (nI 1) :: st) cu σ Q) := by
  rw [x110_30]
  rfl
theorem v110_31 {z : P0} {st : List Value} {cu : Nat × Nat} {Q : Res → Mem → Prop} {σ : Mem} {x0 x1 x2 x3 : Option Value} : X z 110 31 [x0, x1, x2, x3] (st) cu σ Q = (X z 110 35 [x0, x1, x2, x3] (st) cu σ Q) := by
  rw [x110_31]
  rfl
theorem v110_34 {z : P0} {st : List Value} {cu : Nat × Nat} {Q : Res → Mem → Prop} {σ : Mem} {x0 x1 x2 x3 : Option Value} : X z 110 34 [x0, x1, x2, x3] (st) cu σ Q = (X z 110 35 [x0, x1, x2, x3] (.int (nI 0) :: st) cu σ Q) := by
  rw [x110_34]
  rfl
theorem v110_35 {z : P0} {st : List Value} {cu : Nat × Nat} {Q : Res → Mem → Prop} {σ : Mem} {x0 x1 x2 x3 : Option Value} {u v : Int32} : X z 110 35 [x0, x1, x2, x3] (.int v :: .int u :: st) cu σ Q = (X z 110 36 [x0, x1, x2, x3] (.int (u + v) :: st) cu σ Q) := by
  rw [x110_35]
  rfl
theorem v110_36 {z : P0} {st : List Value} {cu : Nat × Nat} {Q : Res → Mem → Prop} {σ : Mem} {x0 x1 x2 x3 : Option Value} {u : Int32} : X z 110 36 [x0, x1, x2, x3] (.int u :: st) cu σ Q = (cat2 x1 = false ∧ X z 110 37 [x0, x1, some (.int u), x3] (st) cu σ Q) := by
  rw [x110_36]
  obtain ⟨K, I, R, L, sz, ex⟩ := σ
  exact i_istore_n.trans sl_2
theorem v110_37 {z : P0} {st : List Value} {cu : Nat × Nat} {Q : Res → Mem → Prop} {σ : Mem} {x0 x1 x2 : Option Value} {u : Int32} : X z 110 37 [x0, x1, x2, some (.int u)] (st) cu σ Q = (cat2 x2 = false ∧ X z 110 40 [x0, x1, x2, some (.int (u + nI 1))] (st) cu σ Q) := by
  rw [x110_37]
  obtain ⟨K, I, R, L, sz, ex⟩ := σ
  exact i_iinc.trans (gl_3.trans (ldI_i.trans sl_3))
theorem v110_40 {z : P0} {st : List Value} {cu : Nat × Nat} {Q : Res → Mem → Prop} {σ : Mem} {x0 x1 x2 x3 : Option Value} : X z 110 40 [x0, x1, x2, x3] (st) cu σ Q = (X z 110 4 [x0, x1, x2, x3] (st) cu σ Q) := by
  rw [x110_40]
  rfl
theorem v110_43 {z : P0} {st : List Value} {cu : Nat × Nat} {Q : Res → Mem → Prop} {σ : Mem} {x0 x1 x3 : Option Value} {u : Int32} : X z 110 43 [x0, x1, some (.int u), x3] (st) cu σ Q = (X z 110 44 [x0, x1, some (.int u), x3] (.int u :: st) cu σ Q) := by
  rw [x110_43]
  rfl
theorem v110_44 {z : P0} {cu : Nat × Nat} {Q : Res → Mem → Prop} {σ : Mem} {x0 x1 x2 x3 : Option Value} {v : Int32} : X z 110 44 [x0, x1, x2, x3] ([.int v]) cu σ Q = (Q (.inl (some (.int v))) σ) := by
  rw [x110_44]
  exact propext ⟨fun h => h.2, fun h => ⟨trivial, h⟩⟩
theorem v111_0 {z : P0} {st : List Value} {cu : Nat × Nat} {Q : Res → Mem → Prop} {σ : Mem} {x0 x1 x2 : Option Value} : X z 111 0 [x0, x1, x2] (st) cu σ Q = (X z 111 1 [x0, x1, x2] (.int (nI 0) :: st) cu σ Q) := by
  rw [x111_0]
  rfl
theorem v111_1 {z : P0} {st : List Value} {cu : Nat × Nat} {Q : Res → Mem → Prop} {σ : Mem} {x0 x1 x2 : Option Value} {u : Int32} : X z 111 1 [x0, x1, x2] (.int u :: st) cu σ Q = (cat2 x0 = false ∧ X z 111 2 [x0, some (.int u), x2] (st) cu σ Q) := by
  rw [x111_1]
  obtain ⟨K, I, R, L, sz, ex⟩ := σ
  exact i_istore_n.trans sl_1
theorem v111_2 {z : P0} {st : List Value} {cu : Nat × Nat} {Q : Res → Mem → Prop} {σ : Mem} {x0 x1 x2 : Option Value} : X z 111 2 [x0, x1, x2] (st) cu σ Q = (X z 111 3 [x0, x1, x2] (.int (nI 0) :: st) cu σ Q) := by
  rw [x111_2]
  rfl
theorem v111_3 {z : P0} {st : List Value} {cu : Nat × Nat} {Q : Res → Mem → Prop} {σ : Mem} {x0 x1 x2 : Option Value} {u : Int32} : X z 111 3 [x0, x1, x2] (.int u :: st) cu σ Q = (cat2 x1 = false ∧ X z 111 4 [x0, x1, some (.int u)] (st) cu σ Q) := by
  rw [x111_3]
  obtain ⟨K, I, R, L, sz, ex⟩ := σ
  exact i_istore_n.trans sl_2
theorem v111_4 {z : P0} {st : List Value} {cu : Nat × Nat} {Q : Res → Mem → Prop} {σ : Mem} {x0 x1 : Option Value} {u : Int32} : X z 111 4 [x0, x1, some (.int u)] (st) cu σ Q = (X z 111 5 [x0, x1, some (.int u)] (.int u :: st) cu σ Q) := by
  rw [x111_4]
  rfl
theorem v111_5 {z : P0} {st : List Value} {cu : Nat × Nat} {Q : Res → Mem → Prop} {σ : Mem} {x1 x2 : Option Value} {u : Nat} : X z 111 5 [some (.ref u), x1, x2] (st) cu σ Q = (X z 111 6 [some (.ref u), x1, x2] (.ref u :: st) cu σ Q) := by
  rw [x111_5]
  rfl
theorem v111_6 {z : P0} {st : List Value} {cu : Nat × Nat} {Q : Res → Mem → Prop} {K : Nat → Nat × Nat} {I : Nat → Nat → Int32} {R : Nat → Nat → Option Nat} {L : Nat → Nat → Int64} {sz : Nat} {ex : Bool} {x0 x1 x2 : Option Value} {u : Nat} : X z 111 6 [x0, x1, x2] (.ref u :: st) cu (K, I, R, L, sz, ex) Q = ((K u).1 = 111 ∧ X z 111 9 [x0, x1, x2] (va_rf (R u 0) :: st) cu (K, I, R, L, sz, ex) Q) := by
  rw [x111_6]
  rfl
theorem v111_9 {z : P0} {st : List Value} {cu : Nat × Nat} {Q : Res → Mem → Prop} {σ : Mem} {x0 x1 x2 : Option Value} : X z 111 9 [x0, x1, x2] (st) cu σ Q = (X z 111 11 [x0, x1, x2] (.int (nI 12) :: st) cu σ Q) := by
  rw [x111_9]
  rfl
theorem v111_11 {z : P0} {st : List Value} {cu : Nat × Nat} {Q : Res → Mem → Prop} {K : Nat → Nat × Nat} {I : Nat → Nat → Int32} {R : Nat → Nat → Option Nat} {L : Nat → Nat → Int64} {sz : Nat} {ex : Bool} {x0 x1 x2 : Option Value} {u : Nat} {v : Int32} : X z 111 11 [x0, x1, x2] (.int v :: .ref u :: st) cu (K, I, R, L, sz, ex) Q = (((K u).1 = 20 ∨ (K u).1 = 50) ∧ vp_in v (K u).2 ∧ X z 111 12 [x0, x1, x2] (.int (I u v.toNatClampNeg) :: st) cu (K, I, R, L, sz, ex) Q) := by
  rw [x111_11]
  rfl
theorem v111_12 {z : P0} {st : List Value} {cu : Nat × Nat} {Q : Res → Mem → Prop} {σ : Mem} {x0 x1 x2 : Option Value} {u v : Int32} : X z 111 12 [x0, x1, x2] (.int v :: .int u :: st) cu σ Q = (if u < v then X z 111 15 [x0, x1, x2] (st) cu σ Q else X z 111 45 [x0, x1, x2] (st) cu σ Q) := by
  rw [x111_12]
  obtain ⟨K, I, R, L, sz, ex⟩ := σ
  exact br_ge
theorem v111_15 {z : P0} {st : List Value} {cu : Nat × Nat} {Q : Res → Mem → Prop} {σ : Mem} {x0 x2 : Option Value} {u : Int32} : X z 111 15 [x0, some (.int u), x2] (st) cu σ Q = (X z 111 16 [x0, some (.int u), x2] (.int u :: st) cu σ Q) := by
  rw [x111_15]
  rfl
theorem v111_16 {z : P0} {st : List Value} {cu : Nat × Nat} {Q : Res → Mem → Prop} {σ : Mem} {x1 x2 : Option Value} {u : Nat} : X z 111 16 [some (.ref u), x1, x2] (st) cu σ Q = (X z 111 17 [some (.ref u), x1, x2] (.ref u :: st) cu σ Q) := by
  rw [x111_16]
  rfl
theorem v111_17 {z : P0} {st : List Value} {cu : Nat × Nat} {Q : Res → Mem → Prop} {K : Nat → Nat × Nat} {I : Nat → Nat → Int32} {R : Nat → Nat → Option Nat} {L : Nat → Nat → Int64} {sz : Nat} {ex : Bool} {x0 x1 x2 : Option Value} {u : Nat} : X z 111 17 [x0, x1, x2] (.ref u :: st) cu (K, I, R, L, sz, ex) Q = ((K u).1 = 111 ∧ X z 111 20 [x0, x1, x2] (va_rf (R u 0) :: st) cu (K, I, R, L, sz, ex) Q) := by
  rw [x111_17]
  rfl
theorem v111_20 {z : P0} {st : List Value} {cu : Nat × Nat} {Q : Res → Mem → Prop} {σ : Mem} {x0 x1 x2 : Option Value} : X z 111 20 [x0, x1, x2] (st) cu σ Q = (X z 111 23 [x0, x1, x2] (.int (nI 413) :: st) cu σ Q) := by
  rw [x111_20]
  rfl
theorem v111_23 {z : P0} {st : List Value} {cu : Nat × Nat} {Q : Res → Mem → Prop} {σ : Mem} {x0 x1 : Option Value} {u : Int32} : X z 111 23 [x0, x1, some (.int u)] (st) cu σ Q = (X z 111 24 [x0, x1, some (.int u)] (.int u :: st) cu σ Q) := by
  rw [x111_23]
  rfl
theorem v111_24 {z : P0} {st : List Value} {cu : Nat × Nat} {Q : Res → Mem → Prop} {σ : Mem} {x0 x1 x2 : Option Value} {u v : Int32} : X z 111 24 [x0, x1, x2] (.int v :: .int u :: st) cu σ Q = (X z 111 25 [x0, x1, x2] (.int (u + v) :: st) cu σ Q) := by
  rw [x111_24]
  rfl
theorem v111_25 {z : P0} {st : List Value} {cu : Nat × Nat} {Q : Res → Mem → Prop} {K : Nat → Nat × Nat} {I : Nat → Nat → Int32} {R : Nat → Nat → Option Nat} {L : Nat → Nat → Int64} {sz : Nat} {ex : Bool} {x0 x1 x2 : Option Value} {u : Nat} {v : Int32} : X z 111 25 [x0, x1, x2] (.int v :: .ref u :: st) cu (K, I, R, L, sz, ex) Q = (((K u).1 = 20 ∨ (K u).1 = 50) ∧ vp_in v (K u).2 ∧ X z 111 26 [x0, x1, x2] (.int (I u v.toNatClampNeg) :: st) cu (K, I, R, L, sz, ex) Q) := by
  rw [x111_25]
  rfl
theorem v111_26 {z : P0} {st : List Value} {cu : Nat × Nat} {Q : Res → Mem → Prop} {σ : Mem} {x0 x1 x2 : Option Value} : X z 111 26 [x0, x1, x2] (st) cu σ Q = (X z 111 29 [x0, x1, x2] (.int (nI 256) :: st) cu σ Q) := by
  rw [x111_26]
  rfl
theorem v111_29 {z : P0} {st : List Value} {cu : Nat × Nat} {Q : Res → Mem → Prop} {σ : Mem} {x0 x1 x2 : Option Value} {u v : Int32} : X z 111 29 [x0, x1, x2] (.int v :: .int u :: st) cu σ Q = (if u < v then X z 111 36 [x0, x1, x2] (st) cu σ Q else X z 111 32 [x0, x1, x2] (st) cu σ Q) := by
  rw [x111_29]
  obtain ⟨K, I, R, L, sz, ex⟩ := σ
  exact br_ite
theorem v111_32 {z : P0} {st : List Value} {cu : Nat × Nat} {Q : Res → Mem → Prop} {σ : Mem} {x0 x1 x2 : Option Value} : X z 111 32 [x0, x1, x2] (st) cu σ Q = (X z 111 33 [x0, x1, x2] (.int (nI 1) :: st) cu σ Q) := by
  rw [x111_32]
  rfl
theorem v111_33 {z : P0} {st : List Value} {cu : Nat × Nat} {Q : Res → Mem → Prop} {σ : Mem} {x0 x1 x2 : Option Value} : X z 111 33 [x0, x1, x2] (st) cu σ Q = (X z 111 37 [x0, x1, x2] (st) cu σ Q) := by
  rw [x111_33]
  rfl
theorem v111_36 {z : P0} {st : List Value} {cu : Nat × Nat} {Q : Res → Mem → Prop} {σ : Mem} {x0 x1 x2 : Option Value} : X z 111 36 [x0, x1, x2] (st) cu σ Q = (X z 111 37 [x0, x1, x2] (.int (nI 0) :: st) cu σ Q) := by
  rw [x111_36]
  rfl
theorem v111_37 {z : P0} {st : List Value} {cu : Nat × Nat} {Q : Res → Mem → Prop} {σ : Mem} {x0 x1 x2 : Option Value} {u v : Int32} : X z 111 37 [x0, x1, x2] (.int v :: .int u :: st) cu σ Q = (X z 111 38 [x0, x1, x2] (.int (u + v) :: st) cu σ Q) := by
  rw [x111_37]
  rfl
theorem v111_38 {z : P0} {st : List Value} {cu : Nat × Nat} {Q : Res → Mem → Prop} {σ : Mem} {x0 x1 x2 : Option Value} {u : Int32} : X z 111 38 [x0, x1, x2] (.int u :: st) cu σ Q = (cat2 x0 = false ∧ X z 111 39 [x0, some (.int u), x2] (st) cu σ Q) := by
  rw [x111_38]
  obtain ⟨K, I, R, L, sz, ex⟩ := σ
  exact i_istore_n.trans sl_1
theorem v111_39 {z : P0} {st : List Value} {cu : Nat × Nat} {Q : Res → Mem → Prop} {σ : Mem} {x0 x1 : Option Value} {u : Int32} : X z 111 39 [x0, x1, some (.int u)] (st) cu σ Q = (cat2 x1 = false ∧ X z 111 42 [x0, x1, some (.int (u + nI 1))] (st) cu σ Q) := by
  rw [x111_39]
  obtain ⟨K, I, R, L, sz, ex⟩ := σ
  exact i_iinc.trans (gl_2.trans (ldI_i.trans sl_2))
theorem v111_42 {z : P0} {st : List Value} {cu : Nat × Nat} {Q : Res → Mem → Prop} {σ : Mem} {x0 x1 x2 : Option Value} : X z 111 42 [x0, x1, x2] (st) cu σ Q = (X z 111 4 [x0, x1, x2] (st) cu σ Q) := by
  rw [x111_42]
  rfl
theorem v111_45 {z : P0} {st : List Value} {cu : Nat × Nat} {Q : Res → Mem → Prop} {σ : Mem} {x0 x2 : Option Value} {u : Int32} : X z 111 45 [x0, some (.int u), x2] (st) cu σ Q = (X z 111 46 [x0, some (.int u), x2] (.int u :: st) cu σ Q) := by
  rw [x111_45]
  rfl
theorem v111_46 {z : P0} {cu : Nat × Nat} {Q : Res → Mem → Prop} {σ : Mem} {x0 x1 x2 : Option Value} {v : Int32} : X z 111 46 [x0, x1, x2] ([.int v]) cu σ Q = (Q (.inl (some (.int v))) σ) := by
  rw [x111_46]
  exact propext ⟨fun h => h.2, fun h => ⟨trivial, h⟩⟩
theorem v112_0 {z : P0} {st : List Value} {cu : Nat × Nat} {Q : Res → Mem → Prop} {σ : Mem} {x1 x2 : Option Value} {u : Nat} : X z 112 0 [some (.ref u), x1, x2] (st) cu σ Q = (X z 112 1 [some (.ref u), x1, x2] (.ref u :: st) cu σ Q) := by
  rw [x112_0]
  rfl
theorem v112_1 {z : P0} {st : List Value} {cu : Nat × Nat} {Q : Res → Mem → Prop} {K : Nat → Nat × Nat} {I : Nat → Nat → Int32} {R : Nat → Nat → Option Nat} {L : Nat → Nat → Int64} {sz : Nat} {ex : Bool} {x0 x1 x2 : Option Value} {u : Nat} : X z 112 1 [x0, x1, x2] (.ref u :: st) cu (K, I, R, L, sz, ex) Q = ((K u).1 = 111 ∧ X z 112 4 [x0, x1, x2] (va_rf (R u 0) :: st) cu (K, I, R, L, sz, ex) Q) := by
  rw [x112_1]
  rfl
theorem v112_4 {z : P0} {st : List Value} {cu : Nat × Nat} {Q : Res → Mem → Prop} {σ : Mem} {x0 x1 x2 : Option Value} : X z 112 4 [x0, x1, x2] (st) cu σ Q = (X z 112 6 [x0, x1, x2] (.int (nI 73) :: st) cu σ Q) := by
  rw [x112_4]
  rfl
theorem v112_6 {z : P0} {st : List Value} {cu : Nat × Nat} {Q : Res → Mem → Prop} {σ : Mem} {x0 x2 : Option Value} {u : Int32} : X z 112 6 [x0, some (.int u), x2] (st) cu σ Q = (X z 112 7 [x0, some (.int u), x2] (.int u :: st) cu σ Q) := by
  rw [x112_6]
  rfl
theorem v112_7 {z : P0} {st : List Value} {cu : Nat × Nat} {Q : Res → Mem → Prop} {σ : Mem} {x0 x1 x2 : Option Value} {u v : Int32} : X z 112 7 [x0, x1, x2] (.int v :: .int u :: st) cu σ Q = (X z 112 8 [x0, x1, x2] (.int (u + v) :: st) cu σ Q) := by
  rw [x112_7]
  rfl
theorem v112_8 {z : P0} {st : List Value} {cu : Nat × Nat} {Q : Res → Mem → Prop} {K : Nat → Nat × Nat} {I : Nat → Nat → Int32} {R : Nat → Nat → Option Nat} {L : Nat → Nat → Int64} {sz : Nat} {ex : Bool} {x0 x1 x2 : Option Value} {u : Nat} {v : Int32} : X z 112 8 [x0, x1, x2] (.int v :: .ref u :: st) cu (K, I, R, L, sz, ex) Q = (((K u).1 = 20 ∨ (K u).1 = 50) ∧ vp_in v (K u).2 ∧ X z 112 9 [x0, x1, x2] (.int (I u v.toNatClampNeg) :: st) cu (K, I, R, L, sz, ex) Q) := by
  rw [x112_8]
  rfl
theorem v112_9 {z : P0} {st : List Value} {cu : Nat × Nat} {Q : Res → Mem → Prop} {σ : Mem} {x0 x1 x2 : Option Value} : X z 112 9 [x0, x1, x2] (st) cu σ Q = (X z 112 10 [x0, x1, x2] (.int (nI 1) :: st) cu σ Q) := by
  rw [x112_9]
  rfl
theorem v112_10 {z : P0} {st : List Value} {cu : Nat × Nat} {Q : Res → Mem → Prop} {σ : Mem} {x0 x1 x2 : Option Value} {u v : Int32} : X z 112 10 [x0, x1, x2] (.int v :: .int u :: st) cu σ Q = (if u = v then X z 112 13 [x0, x1, x2] (st) cu σ Q else X z 112 15 [x0, x1, x2] (st) cu σ Q) := by
  rw [x112_10]
  obtain ⟨K, I, R, L, sz, ex⟩ := σ
  exact br_ne
theorem v112_13 {z : P0} {st : List Value} {cu : Nat × Nat} {Q : Res → Mem → Prop} {σ : Mem} {x0 x1 x2 : Option Value} : X z 112 13 [x0, x1, x2] (st) cu σ Q = (X z 112 14 [x0, x1, x2] (.int (nI 1) :: st) cu σ Q) := by
  rw [x112_13]
  rfl
theorem v112_14 {z : P0} {cu : Nat × Nat} {Q : Res → Mem → Prop} {σ : Mem} {x0 x1 x2 : Option Value} {v : Int32} : X z 112 14 [x0, x1, x2] ([.int v]) cu σ Q = (Q (.inl (some (.int v))) σ) := by
  rw [x112_14]
  exact propext ⟨fun h => h.2, fun h => ⟨trivial, h⟩⟩
theorem v112_15 {z : P0} {st : List Value} {cu : Nat × Nat} {Q : Res → Mem → Prop} {σ : Mem} {x1 x2 : Option Value} {u : Nat} : X z 112 15 [some (.ref u), x1, x2] (st) cu σ Q = (X z 112 16 [some (.ref u), x1, x2] (.ref u :: st) cu σ Q) := by
  rw [x112_15]
  rfl
theorem v112_16 {z : P0} {st : List Value} {cu : Nat × Nat} {Q : Res → Mem → Prop} {K : Nat → Nat × Nat} {I : Nat → Nat → Int32} {R : Nat → Nat → Option Nat} {L : Nat → Nat → Int64} {sz : Nat} {ex : Bool} {x0 x1 x2 : Option Value} {u : Nat} : X z 112 16 [x0, x1, x2] (.ref u :: st) cu (K, I, R, L, sz, ex) Q = ((K u).1 = 111 ∧ X z 112 19 [x0, x1, x2] (va_rf (R u 0) :: st) cu (K, I, R, L, sz, ex) Q) := by
  rw [x112_16]
  rfl
theorem v112_19 {z : P0} {st : List Value} {cu : Nat × Nat} {Q : Res → Mem → Prop} {σ : Mem} {x0 x1 x2 : Option Value} : X z 112 19 [x0, x1, x2] (st) cu σ Q = (X z 112 21 [x0, x1, x2] (.int (nI 93) :: st) cu σ Q) := by
  rw [x112_19]
  rfl
theorem v112_21 {z : P0} {st : List Value} {cu : Nat × Nat} {Q : Res → Mem → Prop} {σ : Mem} {x0 x2 : Option Value} {u : Int32} : X z 112 21 [x0, some (.int u), x2] (st) cu σ Q = (X z 112 22 [x0, some (.int u), x2] (.int u :: st) cu σ Q) := by
  rw [x112_21]
  rfl
theorem v112_22 {z : P0} {st : List Value} {cu : Nat × Nat} {Q : Res → Mem → Prop} {σ : Mem} {x0 x1 x2 : Option Value} {u v : Int32} : X z 112 22 [x0, x1, x2] (.int v :: .int u :: st) cu σ Q = (X z 112 23 [x0, x1, x2] (.int (u + v) :: st) cu σ Q) := by
  rw [x112_22]
  rfl
theorem v112_23 {z : P0} {st : List Value} {cu : Nat × Nat} {Q : Res → Mem → Prop} {K : Nat → Nat × Nat} {I : Nat → Nat → Int32} {R : Nat → Nat → Option Nat} {L : Nat → Nat → Int64} {sz : Nat} {ex : Bool} {x0 x1 x2 : Option Value} {u : Nat} {v : Int32} : X z 112 23 [x0, x1, x2] (.int v :: .ref u :: st) cu (K, I, R, L, sz, ex) Q = (((K u).1 = 20 ∨ (K u).1 = 50) ∧ vp_in v (K u).2 ∧ X z 112 24 [x0, x1, x2] (.int (I u v.toNatClampNeg) :: st) cu (K, I, R, L, sz, ex) Q) := by
  rw [x112_23]
  rfl
theorem v112_24 {z : P0} {st : List Value} {cu : Nat × Nat} {Q : Res → Mem → Prop} {σ : Mem} {x0 x1 x2 : Option Value} : X z 112 24 [x0, x1, x2] (st) cu σ Q = (X z 112 25 [x0, x1, x2] (.int (nI 4294967295) :: st) cu σ Q) := by
  rw [x112_24]
  rw [neg1]
  rfl
theorem v112_25 {z : P0} {st : List Value} {cu : Nat × Nat} {Q : Res → Mem → Prop} {σ : Mem} {x0 x1 x2 : Option Value} {u v : Int32} : X z 112 25 [x0, x1, x2] (.int v :: .int u :: st) cu σ Q = (if u = v then X z 112 50 [x0, x1, x2] (st) cu σ Q else X z 112 28 [x0, x1, x2] (st) cu σ Q) := by
  rw [x112_25]
  obtain ⟨K, I, R, L, sz, ex⟩ := σ
  exact br_ite
theorem v112_28 {z : P0} {st : List Value} {cu : Nat × Nat} {Q : Res → Mem → Prop} {σ : Mem} {x0 x1 : Option Value} {u : Int32} : X z 112 28 [x0, x1, some (.int u)] (st) cu σ Q = (X z 112 29 [x0, x1, some (.int u)] (.int u :: st) cu σ Q) := by
  rw [x112_28]
  rfl
theorem v112_29 {z : P0} {st : List Value} {cu : Nat × Nat} {Q : Res → Mem → Prop} {σ : Mem} {x1 x2 : Option Value} {u : Nat} : X z 112 29 [some (.ref u), x1, x2] (st) cu σ Q = (X z 112 30 [some (.ref u), x1, x2] (.ref u :: st) cu σ Q) := by
  rw [x112_29]
  rfl
theorem v112_30 {z : P0} {st : List Value} {cu : Nat × Nat} {Q : Res → Mem → Prop} {K : Nat → Nat × Nat} {I : Nat → Nat → Int32} {R : Nat → Nat → Option Nat} {L : Nat → Nat → Int64} {sz : Nat} {ex : Bool} {x0 x1 x2 : Option Value} {u : Nat} : X z 112 30 [x0, x1, x2] (.ref u :: st) cu (K, I, R, L, sz, ex) Q = ((K u).1 = 111 ∧ X z 112 33 [x0, x1, x2] (va_rf (R u 0) :: st) cu (K, I, R, L, sz, ex) Q) := by
  rw [x112_30]
  rfl
theorem v112_33 {z : P0} {st : List Value} {cu : Nat × Nat} {Q : Res → Mem → Prop} {σ : Mem} {x0 x1 x2 : Option Value} : X z 112 33 [x0, x1, x2] (st) cu σ Q = (X z 112 35 [x0, x1, x2] (.int (nI 93) :: st) cu σ Q) := by
  rw [x112_33]
  rfl
theorem v112_35 {z : P0} {st : List Value} {cu : Nat × Nat} {Q : Res → Mem → Prop} {σ : Mem} {x0 x2 : Option Value} {u : Int32} : X z 112 35 [x0, some (.int u), x2] (st) cu σ Q = (X z 112 36 [x0, some (.int u), x2] (.int u :: st) cu σ Q) := by
  rw [x112_35]
  rfl
theorem v112_36 {z : P0} {st : List Value} {cu : Nat × Nat} {Q : Res → Mem → Prop} {σ : Mem} {x0 x1 x2 : Option Value} {u v : Int32} : X z 112 36 [x0, x1, x2] (.int v :: .int u :: st) cu σ Q = (X z 112 37 [x0, x1, x2] (.int (u + v) :: st) cu σ Q) := by
  rw [x112_36]
  rfl
theorem v112_37 {z : P0} {st : List Value} {cu : Nat × Nat} {Q : Res → Mem → Prop} {K : Nat → Nat × Nat} {I : Nat → Nat → Int32} {R : Nat → Nat → Option Nat} {L : Nat → Nat → Int64} {sz : Nat} {ex : Bool} {x0 x1 x2 : Option Value} {u : Nat} {v : Int32} : X z 112 37 [x0, x1, x2] (.int v :: .ref u :: st) cu (K, I, R, L, sz, ex) Q = (((K u).1 = 20 ∨ (K u).1 = 50) ∧ vp_in v (K u).2 ∧ X z 112 38 [x0, x1, x2] (.int (I u v.toNatClampNeg) :: st) cu (K, I, R, L, sz, ex) Q) := by
  rw [x112_37]
  rfl
theorem v112_38 {z : P0} {st : List Value} {cu : Nat × Nat} {Q : Res → Mem → Prop} {σ : Mem} {x0 x1 x2 : Option Value} {u v : Int32} : X z 112 38 [x0, x1, x2] (.int v :: .int u :: st) cu σ Q = (X z 112 39 [x0, x1, x2] (.int (u - v) :: st) cu σ Q) := by
  rw [x112_38]
  rfl
theorem v112_39 {z : P0} {st : List Value} {cu : Nat × Nat} {Q : Res → Mem → Prop} {σ : Mem} {x1 x2 : Option Value} {u : Nat} : X z 112 39 [some (.ref u), x1, x2] (st) cu σ Q = (X z 112 40 [some (.ref u), x1, x2] (.ref u :: st) cu σ Q) := by
  rw [x112_39]
  rfl
theorem v112_40 {z : P0} {st : List Value} {cu : Nat × Nat} {Q : Res → Mem → Prop} {K : Nat → Nat × Nat} {I : Nat → Nat → Int32} {R : Nat → Nat → Option Nat} {L : Nat → Nat → Int64} {sz : Nat} {ex : Bool} {x0 x1 x2 : Option Value} {u : Nat} : X z 112 40 [x0, x1, x2] (.ref u :: st) cu (K, I, R, L, sz, ex) Q = ((K u).1 = 111 ∧ X z 112 43 [x0, x1, x2] (va_rf (R u 0) :: st) cu (K, I, R, L, sz, ex) Q) := by
  rw [x112_40]
  rfl
theorem v112_43 {z : P0} {st : List Value} {cu : Nat × Nat} {Q : Res → Mem → Prop} {σ : Mem} {x0 x1 x2 : Option Value} : X z 112 43 [x0, x1, x2] (st) cu σ Q = (X z 112 44 [x0, x1, x2] (.int (nI 3) :: st) cu σ Q) := by
  rw [x112_43]
  rfl
theorem v112_44 {z : P0} {st : List Value} {cu : Nat × Nat} {Q : Res → Mem → Prop} {K : Nat → Nat × Nat} {I : Nat → Nat → Int32} {R : Nat → Nat → Option Nat} {L : Nat → Nat → Int64} {sz : Nat} {ex : Bool} {x0 x1 x2 : Option Value} {u : Nat} {v : Int32} : X z 112 44 [x0, x1, x2] (.int v :: .ref u :: st) cu (K, I, R, L, sz, ex) Q = (((K u).1 = 20 ∨ (K u).1 = 50) ∧ vp_in v (K u).2 ∧ X z 112 45 [x0, x1, x2] (.int (I u v.toNatClampNeg) :: st) cu (K, I, R, L, sz, ex) Q) := by
  rw [x112_44]
  rfl
theorem v112_45 {z : P0} {st : List Value} {cu : Nat × Nat} {Q : Res → Mem → Prop} {σ : Mem} {x0 x1 x2 : Option Value} {u v : Int32} : X z 112 45 [x0, x1, x2] (.int v :: .int u :: st) cu σ Q = (if u < v then X z 112 48 [x0, x1, x2] (st) cu σ Q else X z 112 50 [x0, x1, x2] (st) cu σ Q) := by
  rw [x112_45]
  obtain ⟨K, I, R, L, sz, ex⟩ := σ
  exact br_ge
theorem v112_48 {z : P0} {st : List Value} {cu : Nat × Nat} {Q : Res → Mem → Prop} {σ : Mem} {x0 x1 x2 : Option Value} : X z 112 48 [x0, x1, x2] (st) cu σ Q = (X z 112 49 [x0, x1, x2] (.int (nI 2) :: st) cu σ Q) := by
  rw [x112_48]
  rfl
theorem v112_49 {z : P0} {cu : Nat × Nat} {Q : Res → Mem → Prop} {σ : Mem} {x0 x1 x2 : Option Value} {v : Int32} : X z 112 49 [x0, x1, x2] ([.int v]) cu σ Q = (Q (.inl (some (.int v))) σ) := by
  rw [x112_49]
  exact propext ⟨fun h => h.2, fun h => ⟨trivial, h⟩⟩
theorem v112_50 {z : P0} {st : List Value} {cu : Nat × Nat} {Q : Res → Mem → Prop} {σ : Mem} {x1 x2 : Option Value} {u : Nat} : X z 112 50 [some (.ref u), x1, x2] (st) cu σ Q = (X z 112 51 [some (.ref u), x1, x2] (.ref u :: st) cu σ Q) := by
  rw [x112_50]
  rfl
theorem v112_51 {z : P0} {st : List Value} {cu : Nat × Nat} {Q : Res → Mem → Prop} {K : Nat → Nat × Nat} {I : Nat → Nat → Int32} {R : Nat → Nat → Option Nat} {L : Nat → Nat → Int64} {sz : Nat} {ex : Bool} {x0 x1 x2 : Option Value} {u : Nat} : X z 112 51 [x0, x1, x2] (.ref u :: st) cu (K, I, R, L, sz, ex) Q = ((K u).1 = 111 ∧ X z 112 54 [x0, x1, x2] (va_rf (R u 0) :: st) cu (K, I, R, L, sz, ex) Q) := by
  rw [x112_51]
  rfl
theorem v112_54 {z : P0} {st : List Value} {cu : Nat × Nat} {Q : Res → Mem → Prop} {σ : Mem} {x0 x1 x2 : Option Value} : X z 112 54 [x0, x1, x2] (st) cu σ Q = (X z 112 56 [x0, x1, x2] (.int (nI 53) :: st) cu σ Q) := by
  rw [x112_54]
  rfl
theorem v112_56 {z : P0} {st : List Value} {cu : Nat × Nat} {Q : Res → Mem → Prop} {σ : Mem} {x0 x2 : Option Value} {u : Int32} : X z 112 56 [x0, some (.int u), x2] (st) cu σ Q = (X z 112 57 [x0, some (.int u), x2] (.int u :: st) cu σ Q) := by
  rw [x112_56]
  rfl
theorem v112_57 {z : P0} {st : List Value} {cu : Nat × Nat} {Q : Res → Mem → Prop} {σ : Mem} {x0 x1 x2 : Option Value} {u v : Int32} : X z 112 57 [x0, x1, x2] (.int v :: .int u :: st) cu σ Q = (X z 112 58 [x0, x1, x2] (.int (u + v) :: st) cu σ Q) := by
  rw [x112_57]
  rfl
theorem v112_58 {z : P0} {st : List Value} {cu : Nat × Nat} {Q : Res → Mem → Prop} {K : Nat → Nat × Nat} {I : Nat → Nat → Int32} {R : Nat → Nat → Option Nat} {L : Nat → Nat → Int64} {sz : Nat} {ex : Bool} {x0 x1 x2 : Option Value} {u : Nat} {v : Int32} : X z 112 58 [x0, x1, x2] (.int v :: .ref u :: st) cu (K, I, R, L, sz, ex) Q = (((K u).1 = 20 ∨ (K u).1 = 50) ∧ vp_in v (K u).2 ∧ X z 112 59 [x0, x1, x2] (.int (I u v.toNatClampNeg) :: st) cu (K, I, R, L, sz, ex) Q) := by
  rw [x112_58]
  rfl
theorem v112_59 {z : P0} {st : List Value} {cu : Nat × Nat} {Q : Res → Mem → Prop} {σ : Mem} {x0 x1 x2 : Option Value} : X z 112 59 [x0, x1, x2] (st) cu σ Q = (X z 112 60 [x0, x1, x2] (.int (nI 4294967295) :: st) cu σ Q) := by
  rw [x112_59]
  rw [neg1]
  rfl
theorem v112_60 {z : P0} {st : List Value} {cu : Nat × Nat} {Q : Res → Mem → Prop} {σ : Mem} {x0 x1 x2 : Option Value} {u v : Int32} : X z 112 60 [x0, x1, x2] (.int v :: .int u :: st) cu σ Q = (if u = v then X z 112 63 [x0, x1, x2] (st) cu σ Q else X z 112 77 [x0, x1, x2] (st) cu σ Q) := by
  rw [x112_60]
  obtain ⟨K, I, R, L, sz, ex⟩ := σ
  exact br_ne
theorem v112_63 {z : P0} {st : List Value} {cu : Nat × Nat} {Q : Res → Mem → Prop} {σ : Mem} {x1 x2 : Option Value} {u : Nat} : X z 112 63 [some (.ref u), x1, x2] (st) cu σ Q = (X z 112 64 [some (.ref u), x1, x2] (.ref u :: st) cu σ Q) := by
  rw [x112_63]
  rfl
theorem v112_64 {z : P0} {st : List Value} {cu : Nat × Nat} {Q : Res → Mem → Prop} {σ : Mem} {x0 x1 x2 : Option Value} : X z 112 64 [x0, x1, x2] (st) cu σ Q = (X z 112 67 [x0, x1, x2] (.int (nI 375) :: st) cu σ Q) := by
  rw [x112_64]
  rfl
theorem u112_67 {z : P0} {ls : Lcs} {st : List Value} {K : Nat → Nat × Nat} {I : Nat → Nat → Int32} {R : Nat → Nat → Option Nat} {L : Nat → Nat → Int64} {sz : Nat} {ex : Bool} {Q : Res → Mem → Prop} {x : Nat} {a0 : Int32} : X z 112 67 ls (.int a0 :: .ref x :: st) (0, 0) (K, I, R, L, sz, ex) Q = ((K x).1 = 111 ∧ wsum st ≤ 8 ∧ X z 110 0 [some (.ref x), some (.int a0), none, none] [] (0, 0) (K, I, R, L, sz, ex) (aftr (X z) mT 112 67 ls st (0, 0) Q)) := v112_67 (c := 0) (n := 0)
theorem v112_70 {z : P0} {st : List Value} {cu : Nat × Nat} {Q : Res → Mem → Prop} {σ : Mem} {x0 x1 x2 : Option Value} {u : Int32} : X z 112 70 [x0, x1, x2] (.int u :: st) cu σ Q = (if nI 0 < u then X z 112 73 [x0, x1, x2] (st) cu σ Q else X z 112 77 [x0, x1, x2] (st) cu σ Q) := by
  rw [x112_70]
  rw [nI_0]
  obtain ⟨K, I, R, L, sz, ex⟩ := σ
  exact br_ge
theorem v112_73 {z : P0} {st : List Value} {cu : Nat × Nat} {Q : Res → Mem → Prop} {σ : Mem} {x0 x1 x2 : Option Value} : X z 112 73 [x0, x1, x2] (st) cu σ Q = (X z 112 74 [x0, x1, x2] (.int (nI 3) :: st) cu σ Q) := by
  rw [x112_73]
  rfl
theorem v112_74 {z : P0} {st : List Value} {cu : Nat × Nat} {Q : Res → Mem → Prop} {σ : Mem} {x0 x1 x2 : Option Value} : X z 112 74 [x0, x1, x2] (st) cu σ Q = (X z 112 78 [x0, x1, x2] (st) cu σ Q) := by
  rw [x112_74]
  rfl
theorem v112_77 {z : P0} {st : List Value} {cu : Nat × Nat} {Q : Res → Mem → Prop} {σ : Mem} {x0 x1 x2 : Option Value} : X z 112 77 [x0, x1, x2] (st) cu σ Q = (X z 112 78 [x0, x1, x2] (.int (nI 0) :: st) cu σ Q) := by
  rw [x112_77]
  rfl
theorem v112_78 {z : P0} {cu : Nat × Nat} {Q : Res → Mem → Prop} {σ : Mem} {x0 x1 x2 : Option Value} {v : Int32} : X z 112 78 [x0, x1, x2] ([.int v]) cu σ Q = (Q (.inl (some (.int v))) σ) := by
  rw [x112_78]
  exact propext ⟨fun h => h.2, fun h => ⟨trivial, h⟩⟩
theorem v113_0 {z : P0} {st : List Value} {cu : Nat × Nat} {Q : Res → Mem → Prop} {σ : Mem} {x0 x1 x2 : Option Value} : X z 113 0 [x0, x1, x2] (st) cu σ Q = (X z 113 1 [x0, x1, x2] (.int (nI 0) :: st) cu σ Q) := by
  rw [x113_0]
  rfl
theorem v113_1 {z : P0} {st : List Value} {cu : Nat × Nat} {Q : Res → Mem → Prop} {σ : Mem} {x0 x1 x2 : Option Value} {u : Int32} : X z 113 1 [x0, x1, x2] (.int u :: st) cu σ Q = (cat2 x1 = false ∧ X z 113 2 [x0, x1, some (.int u)] (st) cu σ Q) := by
  rw [x113_1]
  obtain ⟨K, I, R, L, sz, ex⟩ := σ
  exact i_istore_n.trans sl_2
theorem v113_2 {z : P0} {st : List Value} {cu : Nat × Nat} {Q : Res → Mem → Prop} {σ : Mem} {x1 x2 : Option Value} {u : Nat} : X z 113 2 [some (.ref u), x1, x2] (st) cu σ Q = (X z 113 3 [some (.ref u), x1, x2] (.ref u :: st) cu σ Q) := by
  rw [x113_2]
  rfl
theorem v113_3 {z : P0} {st : List Value} {cu : Nat × Nat} {Q : Res → Mem → Prop} {K : Nat → Nat × Nat} {I : Nat → Nat → Int32} {R : Nat → Nat → Option Nat} {L : Nat → Nat → Int64} {sz : Nat} {ex : Bool} {x0 x1 x2 : Option Value} {u : Nat} : X z 113 3 [x0, x1, x2] (.ref u :: st) cu (K, I, R, L, sz, ex) Q = ((K u).1 = 111 ∧ X z 113 6 [x0, x1, x2] (va_rf (R u 6) :: st) cu (K, I, R, L, sz, ex) Q) := by
  rw [x113_3]
  rfl
theorem v113_6 {z : P0} {st : List Value} {cu : Nat × Nat} {Q : Res → Mem → Prop} {σ : Mem} {x0 x2 : Option Value} {u : Int32} : X z 113 6 [x0, some (.int u), x2] (st) cu σ Q = (X z 113 7 [x0, some (.int u), x2] (.int u :: st) cu σ Q) := by
  rw [x113_6]
  rfl
theorem v113_7 {z : P0} {st : List Value} {cu : Nat × Nat} {Q : Res → Mem → Prop} {K : Nat → Nat × Nat} {I : Nat → Nat → Int32} {R : Nat → Nat → Option Nat} {L : Nat → Nat → Int64} {sz : Nat} {ex : Bool} {x0 x1 x2 : Option Value} {u : Nat} {v : Int32} : X z 113 7 [x0, x1, x2] (.int v :: .ref u :: st) cu (K, I, R, L, sz, ex) Q = (((K u).1 = 20 ∨ (K u).1 = 50) ∧ vp_in v (K u).2 ∧ X z 113 8 [x0, x1, x2] (.int (I u v.toNatClampNeg) :: st) cu (K, I, R, L, sz, ex) Q) := by
  rw [x113_7]
  rfl
theorem v113_8 {z : P0} {st : List Value} {cu : Nat × Nat} {Q : Res → Mem → Prop} {σ : Mem} {x0 x1 : Option Value} {u : Int32} : X z 113 8 [x0, x1, some (.int u)] (st) cu σ Q = (X z 113 9 [x0, x1, some (.int u)] (.int u :: st) cu σ Q) := by
  rw [x113_8]
  rfl
theorem v113_9 {z : P0} {st : List Value} {cu : Nat × Nat} {Q : Res → Mem → Prop} {σ : Mem} {x0 x1 x2 : Option Value} {u v : Int32} : X z 113 9 [x0, x1, x2] (.int v :: .int u :: st) cu σ Q = (X z 113 10 [x0, x1, x2] (.int (u >>> (v &&& 31)) :: st) cu σ Q) := by
  rw [x113_9]
  rfl
theorem v113_10 {z : P0} {st : List Value} {cu : Nat × Nat} {Q : Res → Mem → Prop} {σ : Mem} {x0 x1 x2 : Option Value} : X z 113 10 [x0, x1, x2] (st) cu σ Q = (X z 113 11 [x0, x1, x2] (.int (nI 1) :: st) cu σ Q) := by
  rw [x113_10]
  rfl
theorem v113_11 {z : P0} {st : List Value} {cu : Nat × Nat} {Q : Res → Mem → Prop} {σ : Mem} {x0 x1 x2 : Option Value} {u v : Int32} : X z 113 11 [x0, x1, x2] (.int v :: .int u :: st) cu σ Q = (X z 113 12 [x0, x1, x2] (.int (u &&& v) :: st) cu σ Q) := by
  rw [x113_11]
  rfl
theorem v113_12 {z : P0} {st : List Value} {cu : Nat × Nat} {Q : Res → Mem → Prop} {σ : Mem} {x0 x1 x2 : Option Value} {u : Int32} : X z 113 12 [x0, x1, x2] (.int u :: st) cu σ Q = (if u = nI 0 then X z 113 15 [x0, x1, x2] (st) cu σ Q else X z 113 21 [x0, x1, x2] (st) cu σ Q) := by
  rw [x113_12]
  rw [nI_0]
  obtain ⟨K, I, R, L, sz, ex⟩ := σ
  exact br_ne
theorem v113_15 {z : P0} {st : List Value} {cu : Nat × Nat} {Q : Res → Mem → Prop} {σ : Mem} {x0 x1 : Option Value} {u : Int32} : X z 113 15 [x0, x1, some (.int u)] (st) cu σ Q = (cat2 x1 = false ∧ X z 113 18 [x0, x1, some (.int (u + nI 1))] (st) cu σ Q) := by
  rw [x113_15]
  obtain ⟨K, I, R, L, sz, ex⟩ := σ
  exact i_iinc.trans (gl_2.trans (ldI_i.trans sl_2))
theorem v113_18 {z : P0} {st : List Value} {cu : Nat × Nat} {Q : Res → Mem → Prop} {σ : Mem} {x0 x1 x2 : Option Value} : X z 113 18 [x0, x1, x2] (st) cu σ Q = (X z 113 2 [x0, x1, x2] (st) cu σ Q) := by
  rw [x113_18]
  rfl
theorem v113_21 {z : P0} {st : List Value} {cu : Nat × Nat} {Q : Res → Mem → Prop} {σ : Mem} {x0 x1 : Option Value} {u : Int32} : X z 113 21 [x0, x1, some (.int u)] (st) cu σ Q = (X z 113 22 [x0, x1, some (.int u)] (.int u :: st) cu σ Q) := by
  rw [x113_21]
  rfl
theorem v113_22 {z : P0} {cu : Nat × Nat} {Q : Res → Mem → Prop} {σ : Mem} {x0 x1 x2 : Option Value} {v : Int32} : X z 113 22 [x0, x1, x2] ([.int v]) cu σ Q = (Q (.inl (some (.int v))) σ) := by
  rw [x113_22]
  exact propext ⟨fun h => h.2, fun h => ⟨trivial, h⟩⟩
theorem v114_0 {z : P0} {st : List Value} {cu : Nat × Nat} {Q : Res → Mem → Prop} {σ : Mem} {x0 x1 x2 : Option Value} : X z 114 0 [x0, x1, x2] (st) cu σ Q = (X z 114 1 [x0, x1, x2] (.int (nI 0) :: st) cu σ Q) := by
  rw [x114_0]
  rfl
theorem v114_1 {z : P0} {st : List Value} {cu : Nat × Nat} {Q : Res → Mem → Prop} {σ : Mem} {x0 x1 x2 : Option Value} {u : Int32} : X z 114 1 [x0, x1, x2] (.int u :: st) cu σ Q = (cat2 x1 = false ∧ X z 114 2 [x0, x1, some (.int u)] (st) cu σ Q) := by
  rw [x114_1]
  obtain ⟨K, I, R, L, sz, ex⟩ := σ
  exact i_istore_n.trans sl_2
theorem v114_2 {z : P0} {st : List Value} {cu : Nat × Nat} {Q : Res → Mem → Prop} {σ : Mem} {x0 x1 : Option Value} {u : Int32} : X z 114 2 [x0, x1, some (.int u)] (st) cu σ Q = (X z 114 3 [x0, x1, some (.int u)] (.int u :: st) cu σ Q) := by
  rw [x114_2]
  rfl
theorem v114_3 {z : P0} {st : List Value} {cu : Nat × Nat} {Q : Res → Mem → Prop} {σ : Mem} {x1 x2 : Option Value} {u : Nat} : X z 114 3 [some (.ref u), x1, x2] (st) cu σ Q = (X z 114 4 [some (.ref u), x1, x2] (.ref u :: st) cu σ Q) := by
  rw [x114_3]
  rfl
theorem v114_4 {z : P0} {st : List Value} {cu : Nat × Nat} {Q : Res → Mem → Prop} {K : Nat → Nat × Nat} {I : Nat → Nat → Int32} {R : Nat → Nat → Option Nat} {L : Nat → Nat → Int64} {sz : Nat} {ex : Bool} {x0 x1 x2 : Option Value} {u : Nat} : X z 114 4 [x0, x1, x2] (.ref u :: st) cu (K, I, R, L, sz, ex) Q = ((K u).1 = 111 ∧ X z 114 7 [x0, x1, x2] (.int (I u 12) :: st) cu (K, I, R, L, sz, ex) Q) := by
  rw [x114_4]
  rfl
theorem v114_7 {z : P0} {st : List Value} {cu : Nat × Nat} {Q : Res → Mem → Prop} {σ : Mem} {x0 x1 x2 : Option Value} {u v : Int32} : X z 114 7 [x0, x1, x2] (.int v :: .int u :: st) cu σ Q = (if u < v then X z 114 10 [x0, x1, x2] (st) cu σ Q else X z 114 58 [x0, x1, x2] (st) cu σ Q) := by
  rw [x114_7]
  obtain ⟨K, I, R, L, sz, ex⟩ := σ
  exact br_ge
theorem v114_10 {z : P0} {st : List Value} {cu : Nat × Nat} {Q : Res → Mem → Prop} {σ : Mem} {x1 x2 : Option Value} {u : Nat} : X z 114 10 [some (.ref u), x1, x2] (st) cu σ Q = (X z 114 11 [some (.ref u), x1, x2] (.ref u :: st) cu σ Q) := by
  rw [x114_10]
  rfl
theorem v114_11 {z : P0} {st : List Value} {cu : Nat × Nat} {Q : Res → Mem → Prop} {K : Nat → Nat × Nat} {I : Nat → Nat → Int32} {R : Nat → Nat → Option Nat} {L : Nat → Nat → Int64} {sz : Nat} {ex : Bool} {x0 x1 x2 : Option Value} {u : Nat} : X z 114 11 [x0, x1, x2] (.ref u :: st) cu (K, I, R, L, sz, ex) Q = ((K u).1 = 111 ∧ X z 114 14 [x0, x1, x2] (va_rf (R u 0) :: st) cu (K, I, R, L, sz, ex) Q) := by
  rw [x114_11]
  rfl
theorem v114_14 {z : P0} {st : List Value} {cu : Nat × Nat} {Q : Res → Mem → Prop} {σ : Mem} {x0 x1 x2 : Option Value} : X z 114 14 [x0, x1, x2] (st) cu σ Q = (X z 114 16 [x0, x1, x2] (.int (nI 13) :: st) cu σ Q) := by
  rw [x114_14]
  rfl
theorem v114_16 {z : P0} {st : List Value} {cu : Nat × Nat} {Q : Res → Mem → Prop} {σ : Mem} {x1 x2 : Option Value} {u : Nat} : X z 114 16 [some (.ref u), x1, x2] (st) cu σ Q = (X z 114 17 [some (.ref u), x1, x2] (.ref u :: st) cu σ Q) := by
  rw [x114_16]
  rfl
theorem v114_17 {z : P0} {st : List Value} {cu : Nat × Nat} {Q : Res → Mem → Prop} {σ : Mem} {x0 x1 : Option Value} {u : Int32} : X z 114 17 [x0, x1, some (.int u)] (st) cu σ Q = (X z 114 18 [x0, x1, some (.int u)] (.int u :: st) cu σ Q) := by
  rw [x114_17]
  rfl
theorem u114_18 {z : P0} {ls : Lcs} {st : List Value} {K : Nat → Nat × Nat} {I : Nat → Nat → Int32} {R : Nat → Nat → Option Nat} {L : Nat → Nat → Int64} {sz : Nat} {ex : Bool} {Q : Res → Mem → Prop} {x : Nat} {a0 : Int32} : X z 114 18 ls (.int a0 :: .ref x :: st) (0, 0) (K, I, R, L, sz, ex) Q = ((K x).1 = 111 ∧ wsum st ≤ 8 ∧ X z 113 0 [some (.ref x), some (.int a0), none] [] (0, 0) (K, I, R, L, sz, ex) (aftr (X z) mT 114 18 ls st (0, 0) Q)) := v114_18 (c := 0) (n := 0)
theorem v114_21 {z : P0} {st : List Value} {cu : Nat × Nat} {Q : Res → Mem → Prop} {σ : Mem} {x0 x1 x2 : Option Value} {u v : Int32} : X z 114 21 [x0, x1, x2] (.int v :: .int u :: st) cu σ Q = (X z 114 22 [x0, x1, x2] (.int (u + v) :: st) cu σ Q) := by
  rw [x114_21]
  rfl
theorem v114_22 {z : P0} {st : List Value} {cu : Nat × Nat} {Q : Res → Mem → Prop} {K : Nat → Nat × Nat} {I : Nat → Nat → Int32} {R : Nat → Nat → Option Nat} {L : Nat → Nat → Int64} {sz : Nat} {ex : Bool} {x0 x1 x2 : Option Value} {u : Nat} {v : Int32} : X z 114 22 [x0, x1, x2] (.int v :: .ref u :: st) cu (K, I, R, L, sz, ex) Q = (((K u).1 = 20 ∨ (K u).1 = 50) ∧ vp_in v (K u).2 ∧ X z 114 23 [x0, x1, x2] (.int (I u v.toNatClampNeg) :: st) cu (K, I, R, L, sz, ex) Q) := by
  rw [x114_22]
  rfl
theorem v114_23 {z : P0} {st : List Value} {cu : Nat × Nat} {Q : Res → Mem → Prop} {σ : Mem} {x1 x2 : Option Value} {u : Nat} : X z 114 23 [some (.ref u), x1, x2] (st) cu σ Q = (X z 114 24 [some (.ref u), x1, x2] (.ref u :: st) cu σ Q) := by
  rw [x114_23]
  rfl
theorem v114_24 {z : P0} {st : List Value} {cu : Nat × Nat} {Q : Res → Mem → Prop} {K : Nat → Nat × Nat} {I : Nat → Nat → Int32} {R : Nat → Nat → Option Nat} {L : Nat → Nat → Int64} {sz : Nat} {ex : Bool} {x0 x1 x2 : Option Value} {u : Nat} : X z 114 24 [x0, x1, x2] (.ref u :: st) cu (K, I, R, L, sz, ex) Q = ((K u).1 = 111 ∧ X z 114 27 [x0, x1, x2] (va_rf (R u 0) :: st) cu (K, I, R, L, sz, ex) Q) := by
  rw [x114_24]
  rfl
theorem v114_27 {z : P0} {st : List Value} {cu : Nat × Nat} {Q : Res → Mem → Prop} {σ : Mem} {x0 x1 x2 : Option Value} : X z 114 27 [x0, x1, x2] (st) cu σ Q = (X z 114 29 [x0, x1, x2] (.int (nI 13) :: st) cu σ Q) := by
  rw [x114_27]
  rfl
theorem v114_29 {z : P0} {st : List Value} {cu : Nat × Nat} {Q : Res → Mem → Prop} {σ : Mem} {x0 x2 : Option Value} {u : Int32} : X z 114 29 [x0, some (.int u), x2] (st) cu σ Q = (X z 114 30 [x0, some (.int u), x2] (.int u :: st) cu σ Q) := by
  rw [x114_29]
  rfl
theorem v114_30 {z : P0} {st : List Value} {cu : Nat × Nat} {Q : Res → Mem → Prop} {σ : Mem} {x0 x1 x2 : Option Value} {u v : Int32} : X z 114 30 [x0, x1, x2] (.int v :: .int u :: st) cu σ Q = (X z 114 31 [x0, x1, x2] (.int (u + v) :: st) cu σ Q) := by
  rw [x114_30]
  rfl
theorem v114_31 {z : P0} {st : List Value} {cu : Nat × Nat} {Q : Res → Mem → Prop} {K : Nat → Nat × Nat} {I : Nat → Nat → Int32} {R : Nat → Nat → Option Nat} {L : Nat → Nat → Int64} {sz : Nat} {ex : Bool} {x0 x1 x2 : Option Value} {u : Nat} {v : Int32} : X z 114 31 [x0, x1, x2] (.int v :: .ref u :: st) cu (K, I, R, L, sz, ex) Q = (((K u).1 = 20 ∨ (K u).1 = 50) ∧ vp_in v (K u).2 ∧ X z 114 32 [x0, x1, x2] (.int (I u v.toNatClampNeg) :: st) cu (K, I, R, L, sz, ex) Q) := by
  rw [x114_31]
  rfl
theorem v114_32 {z : P0} {st : List Value} {cu : Nat × Nat} {Q : Res → Mem → Prop} {σ : Mem} {x0 x1 x2 : Option Value} {u v : Int32} : X z 114 32 [x0, x1, x2] (.int v :: .int u :: st) cu σ Q = (if u = v then X z 114 35 [x0, x1, x2] (st) cu σ Q else X z 114 52 [x0, x1, x2] (st) cu σ Q) := by
  rw [x114_32]
  obtain ⟨K, I, R, L, sz, ex⟩ := σ
  exact br_ne
theorem v114_35 {z : P0} {st : List Value} {cu : Nat × Nat} {Q : Res → Mem → Prop} {σ : Mem} {x1 x2 : Option Value} {u : Nat} : X z 114 35 [some (.ref u), x1, x2] (st) cu σ Q = (X z 114 36 [some (.ref u), x1, x2] (.ref u :: st) cu σ Q) := by
  rw [x114_35]
  rfl
theorem v114_36 {z : P0} {st : List Value} {cu : Nat × Nat} {Q : Res → Mem → Prop} {K : Nat → Nat × Nat} {I : Nat → Nat → Int32} {R : Nat → Nat → Option Nat} {L : Nat → Nat → Int64} {sz : Nat} {ex : Bool} {x0 x1 x2 : Option Value} {u : Nat} : X z 114 36 [x0, x1, x2] (.ref u :: st) cu (K, I, R, L, sz, ex) Q = ((K u).1 = 111 ∧ X z 114 39 [x0, x1, x2] (va_rf (R u 7) :: st) cu (K, I, R, L, sz, ex) Q) := by
  rw [x114_36]
  rfl
theorem v114_39 {z : P0} {st : List Value} {cu : Nat × Nat} {Q : Res → Mem → Prop} {σ : Mem} {x0 x1 : Option Value} {u : Int32} : X z 114 39 [x0, x1, some (.int u)] (st) cu σ Q = (X z 114 40 [x0, x1, some (.int u)] (.int u :: st) cu σ Q) := by
  rw [x114_39]
  rfl
theorem v114_40 {z : P0} {st : List Value} {cu : Nat × Nat} {Q : Res → Mem → Prop} {K : Nat → Nat × Nat} {I : Nat → Nat → Int32} {R : Nat → Nat → Option Nat} {L : Nat → Nat → Int64} {sz : Nat} {ex : Bool} {x0 x1 x2 : Option Value} {u : Nat} {v : Int32} : X z 114 40 [x0, x1, x2] (.int v :: .ref u :: st) cu (K, I, R, L, sz, ex) Q = (((K u).1 = 20 ∨ (K u).1 = 50) ∧ vp_in v (K u).2 ∧ X z 114 41 [x0, x1, x2] (.int (I u v.toNatClampNeg) :: st) cu (K, I, R, L, sz, ex) Q) := by
  rw [x114_40]
  rfl
theorem v114_41 {z : P0} {st : List Value} {cu : Nat × Nat} {Q : Res → Mem → Prop} {σ : Mem} {x1 x2 : Option Value} {u : Nat} : X z 114 41 [some (.ref u), x1, x2] (st) cu σ Q = (X z 114 42 [some (.ref u), x1, x2] (.ref u :: st) cu σ Q) := by
  rw [x114_41]
  rfl
theorem v114_42 {z : P0} {st : List Value} {cu : Nat × Nat} {Q : Res → Mem → Prop} {K : Nat → Nat × Nat} {I : Nat → Nat → Int32} {R : Nat → Nat → Option Nat} {L : Nat → Nat → Int64} {sz : Nat} {ex : Bool} {x0 x1 x2 : Option Value} {u : Nat} : X z 114 42 [x0, x1, x2] (.ref u :: st) cu (K, I, R, L, sz, ex) Q = ((K u).1 = 111 ∧ X z 114 45 [x0, x1, x2] (va_rf (R u 0) :: st) cu (K, I, R, L, sz, ex) Q) := by
  rw [x114_42]
  rfl
theorem v114_45 {z : P0} {st : List Value} {cu : Nat × Nat} {Q : Res → Mem → Prop} {σ : Mem} {x0 x1 x2 : Option Value} : X z 114 45 [x0, x1, x2] (st) cu σ Q = (X z 114 46 [x0, x1, x2] (.int (nI 2) :: st) cu σ Q) := by
  rw [x114_45]
  rfl
theorem v114_46 {z : P0} {st : List Value} {cu : Nat × Nat} {Q : Res → Mem → Prop} {K : Nat → Nat × Nat} {I : Nat → Nat → Int32} {R : Nat → Nat → Option Nat} {L : Nat → Nat → Int64} {sz : Nat} {ex : Bool} {x0 x1 x2 : Option Value} {u : Nat} {v : Int32} : X z 114 46 [x0, x1, x2] (.int v :: .ref u :: st) cu (K, I, R, L, sz, ex) Q = (((K u).1 = 20 ∨ (K u).1 = 50) ∧ vp_in v (K u).2 ∧ X z 114 47 [x0, x1, x2] (.int (I u v.toNatClampNeg) :: st) cu (K, I, R, L, sz, ex) Q) := by
  rw [x114_46]
  rfl
theorem v114_47 {z : P0} {st : List Value} {cu : Nat × Nat} {Q : Res → Mem → Prop} {σ : Mem} {x0 x1 x2 : Option Value} {u v : Int32} : X z 114 47 [x0, x1, x2] (.int v :: .int u :: st) cu σ Q = (if u < v then X z 114 50 [x0, x1, x2] (st) cu σ Q else X z 114 52 [x0, x1, x2] (st) cu σ Q) := by
  rw [x114_47]
  obtain ⟨K, I, R, L, sz, ex⟩ := σ
  exact br_ge
theorem v114_50 {z : P0} {st : List Value} {cu : Nat × Nat} {Q : Res → Mem → Prop} {σ : Mem} {x0 x1 : Option Value} {u : Int32} : X z 114 50 [x0, x1, some (.int u)] (st) cu σ Q = (X z 114 51 [x0, x1, some (.int u)] (.int u :: st) cu σ Q) := by
  rw [x114_50]
  rfl
theorem v114_51 {z : P0} {cu : Nat × Nat} {Q : Res → Mem → Prop} {σ : Mem} {x0 x1 x2 : Option Value} {v : Int32} : X z 114 51 [x0, x1, x2] ([.int v]) cu σ Q = (Q (.inl (some (.int v))) σ) := by
  rw [x114_51]
  exact propext ⟨fun h => h.2, fun h => ⟨trivial, h⟩⟩
theorem v114_52 {z : P0} {st : List Value} {cu : Nat × Nat} {Q : Res → Mem → Prop} {σ : Mem} {x0 x1 : Option Value} {u : Int32} : X z 114 52 [x0, x1, some (.int u)] (st) cu σ Q = (cat2 x1 = false ∧ X z 114 55 [x0, x1, some (.int (u + nI 1))] (st) cu σ Q) := by
  rw [x114_52]
  obtain ⟨K, I, R, L, sz, ex⟩ := σ
  exact i_iinc.trans (gl_2.trans (ldI_i.trans sl_2))
theorem v114_55 {z : P0} {st : List Value} {cu : Nat × Nat} {Q : Res → Mem → Prop} {σ : Mem} {x0 x1 x2 : Option Value} : X z 114 55 [x0, x1, x2] (st) cu σ Q = (X z 114 2 [x0, x1, x2] (st) cu σ Q) := by
  rw [x114_55]
  rfl
theorem v114_58 {z : P0} {st : List Value} {cu : Nat × Nat} {Q : Res → Mem → Prop} {σ : Mem} {x1 x2 : Option Value} {u : Nat} : X z 114 58 [some (.ref u), x1, x2] (st) cu σ Q = (X z 114 59 [some (.ref u), x1, x2] (.ref u :: st) cu σ Q) := by
  rw [x114_58]
  rfl
theorem v114_59 {z : P0} {st : List Value} {cu : Nat × Nat} {Q : Res → Mem → Prop} {K : Nat → Nat × Nat} {I : Nat → Nat → Int32} {R : Nat → Nat → Option Nat} {L : Nat → Nat → Int64} {sz : Nat} {ex : Bool} {x0 x1 x2 : Option Value} {u : Nat} : X z 114 59 [x0, x1, x2] (.ref u :: st) cu (K, I, R, L, sz, ex) Q = ((K u).1 = 111 ∧ X z 114 62 [x0, x1, x2] (va_rf (R u 6) :: st) cu (K, I, R, L, sz, ex) Q) := by
  rw [x114_59]
  rfl
theorem v114_62 {z : P0} {st : List Value} {cu : Nat × Nat} {Q : Res → Mem → Prop} {σ : Mem} {x1 x2 : Option Value} {u : Nat} : X z 114 62 [some (.ref u), x1, x2] (st) cu σ Q = (X z 114 63 [some (.ref u), x1, x2] (.ref u :: st) cu σ Q) := by
  rw [x114_62]
  rfl
theorem v114_63 {z : P0} {st : List Value} {cu : Nat × Nat} {Q : Res → Mem → Prop} {K : Nat → Nat × Nat} {I : Nat → Nat → Int32} {R : Nat → Nat → Option Nat} {L : Nat → Nat → Int64} {sz : Nat} {ex : Bool} {x0 x1 x2 : Option Value} {u : Nat} : X z 114 63 [x0, x1, x2] (.ref u :: st) cu (K, I, R, L, sz, ex) Q = ((K u).1 = 111 ∧ X z 114 66 [x0, x1, x2] (.int (I u 12) :: st) cu (K, I, R, L, sz, ex) Q) := by
  rw [x114_63]
  rfl
theorem v114_66 {z : P0} {st : List Value} {cu : Nat × Nat} {Q : Res → Mem → Prop} {σ : Mem} {x0 x1 x2 : Option Value} : X z 114 66 [x0, x1, x2] (st) cu σ Q = (X z 114 67 [x0, x1, x2] (.int (nI 0) :: st) cu σ Q) := by
  rw [x114_66]
  rfl
theorem v114_67 {z : P0} {st : List Value} {cu : Nat × Nat} {Q : Res → Mem → Prop} {K : Nat → Nat × Nat} {I : Nat → Nat → Int32} {R : Nat → Nat → Option Nat} {L : Nat → Nat → Int64} {sz : Nat} {ex : Bool} {x0 x1 x2 : Option Value} {u : Nat} {j v : Int32} : X z 114 67 [x0, x1, x2] (.int v :: .int j :: .ref u :: st) cu (K, I, R, L, sz, ex) Q = ((K u).1 = 20 ∧ vp_in j (K u).2 ∧ X z 114 68 [x0, x1, x2] (st) cu (K, up2 I u j.toNatClampNeg v, R, L, sz, ex) Q) := by
  rw [x114_67]
  rfl
theorem v114_68 {z : P0} {st : List Value} {cu : Nat × Nat} {Q : Res → Mem → Prop} {σ : Mem} {x1 x2 : Option Value} {u : Nat} : X z 114 68 [some (.ref u), x1, x2] (st) cu σ Q = (X z 114 69 [some (.ref u), x1, x2] (.ref u :: st) cu σ Q) := by
  rw [x114_68]
  rfl
theorem v114_69 {z : P0} {st : List Value} {cu : Nat × Nat} {Q : Res → Mem → Prop} {K : Nat → Nat × Nat} {I : Nat → Nat → Int32} {R : Nat → Nat → Option Nat} {L : Nat → Nat → Int64} {sz : Nat} {ex : Bool} {x0 x1 x2 : Option Value} {u : Nat} : X z 114 69 [x0, x1, x2] (.ref u :: st) cu (K, I, R, L, sz, ex) Q = ((K u).1 = 111 ∧ X z 114 72 [x0, x1, x2] (va_rf (R u 7) :: st) cu (K, I, R, L, sz, ex) Q) := by
  rw [x114_69]
  rfl
theorem v114_72 {z : P0} {st : List Value} {cu : Nat × Nat} {Q : Res → Mem → Prop} {σ : Mem} {x1 x2 : Option Value} {u : Nat} : X z 114 72 [some (.ref u), x1, x2] (st) cu σ Q = (X z 114 73 [some (.ref u), x1, x2] (.ref u :: st) cu σ Q) := by
  rw [x114_72]
  rfl
theorem v114_73 {z : P0} {st : List Value} {cu : Nat × Nat} {Q : Res → Mem → Prop} {K : Nat → Nat × Nat} {I : Nat → Nat → Int32} {R : Nat → Nat → Option Nat} {L : Nat → Nat → Int64} {sz : Nat} {ex : Bool} {x0 x1 x2 : Option Value} {u : Nat} : X z 114 73 [x0, x1, x2] (.ref u :: st) cu (K, I, R, L, sz, ex) Q = ((K u).1 = 111 ∧ X z 114 76 [x0, x1, x2] (.int (I u 12) :: st) cu (K, I, R, L, sz, ex) Q) := by
  rw [x114_73]
  rfl
theorem v114_76 {z : P0} {st : List Value} {cu : Nat × Nat} {Q : Res → Mem → Prop} {σ : Mem} {x0 x1 x2 : Option Value} : X z 114 76 [x0, x1, x2] (st) cu σ Q = (X z 114 77 [x0, x1, x2] (.int (nI 0) :: st) cu σ Q) := by
  rw [x114_76]
  rfl
theorem v114_77 {z : P0} {st : List Value} {cu : Nat × Nat} {Q : Res → Mem → Prop} {K : Nat → Nat × Nat} {I : Nat → Nat → Int32} {R : Nat → Nat → Option Nat} {L : Nat → Nat → Int64} {sz : Nat} {ex : Bool} {x0 x1 x2 : Option Value} {u : Nat} {j v : Int32} : X z 114 77 [x0, x1, x2] (.int v :: .int j :: .ref u :: st) cu (K, I, R, L, sz, ex) Q = ((K u).1 = 20 ∧ vp_in j (K u).2 ∧ X z 114 78 [x0, x1, x2] (st) cu (K, up2 I u j.toNatClampNeg v, R, L, sz, ex) Q) := by
  rw [x114_77]
  rfl
theorem v114_78 {z : P0} {st : List Value} {cu : Nat × Nat} {Q : Res → Mem → Prop} {σ : Mem} {x1 x2 : Option Value} {u : Nat} : X z 114 78 [some (.ref u), x1, x2] (st) cu σ Q = (X z 114 79 [some (.ref u), x1, x2] (.ref u :: st) cu σ Q) := by
  rw [x114_78]
  rfl
theorem v114_79 {z : P0} {st : List Value} {cu : Nat × Nat} {Q : Res → Mem → Prop} {σ : Mem} {x0 x1 x2 : Option Value} {u : Nat} : X z 114 79 [x0, x1, x2] (.ref u :: st) cu σ Q = (X z 114 80 [x0, x1, x2] (.ref u :: .ref u :: st) cu σ Q) := by
  rw [x114_79]
  exact propext ⟨fun h => h.2, fun h => ⟨rfl, h⟩⟩
theorem v114_79i {z : P0} {st : List Value} {cu : Nat × Nat} {Q : Res → Mem → Prop} {σ : Mem} {x0 x1 x2 : Option Value} {u : Int32} : X z 114 79 [x0, x1, x2] (.int u :: st) cu σ Q = (X z 114 80 [x0, x1, x2] (.int u :: .int u :: st) cu σ Q) := by
  rw [x114_79]
  exact propext ⟨fun h => h.2, fun h => ⟨rfl, h⟩⟩
theorem v114_80 {z : P0} {st : List Value} {cu : Nat × Nat} {Q : Res → Mem → Prop} {K : Nat → Nat × Nat} {I : Nat → Nat → Int32} {R : Nat → Nat → Option Nat} {L : Nat → Nat → Int64} {sz : Nat} {ex : Bool} {x0 x1 x2 : Option Value} {u : Nat} : X z 114 80 [x0, x1, x2] (.ref u :: st) cu (K, I, R, L, sz, ex) Q = ((K u).1 = 111 ∧ X z 114 83 [x0, x1, x2] (.int (I u 12) :: st) cu (K, I, R, L, sz, ex) Q) := by
  rw [x114_80]
  rfl
theorem v114_83 {z : P0} {st : List Value} {cu : Nat × Nat} {Q : Res → Mem → Prop} {σ : Mem} {x0 x1 x2 : Option Value} : X z 114 83 [x0, x1, x2] (st) cu σ Q = (X z 114 84 [x0, x1, x2] (.int (nI 1) :: st) cu σ Q) := by
  rw [x114_83]
  rfl
theorem v114_84 {z : P0} {st : List Value} {cu : Nat × Nat} {Q : Res → Mem → Prop} {σ : Mem} {x0 x1 x2 : Option Value} {u v : Int32} : X z 114 84 [x0, x1, x2] (.int v :: .int u :: st) cu σ Q = (X z 114 85 [x0, x1, x2] (.int (u + v) :: st) cu σ Q) := by
  rw [x114_84]
  rfl
theorem v114_85 {z : P0} {st : List Value} {cu : Nat × Nat} {Q : Res → Mem → Prop} {K : Nat → Nat × Nat} {I : Nat → Nat → Int32} {R : Nat → Nat → Option Nat} {L : Nat → Nat → Int64} {sz : Nat} {ex : Bool} {x0 x1 x2 : Option Value} {u : Nat} {v : Int32} : X z 114 85 [x0, x1, x2] (.int v :: .ref u :: st) cu (K, I, R, L, sz, ex) Q = ((K u).1 = 111 ∧ X z 114 88 [x0, x1, x2] (st) cu (K, up2 I u 12 v, R, L, sz, ex) Q) := by
  rw [x114_85]
  exact i_putI
theorem v114_88 {z : P0} {st : List Value} {cu : Nat × Nat} {Q : Res → Mem → Prop} {σ : Mem} {x1 x2 : Option Value} {u : Nat} : X z 114 88 [some (.ref u), x1, x2] (st) cu σ Q = (X z 114 89 [some (.ref u), x1, x2] (.ref u :: st) cu σ Q) := by
  rw [x114_88]
  rfl
theorem v114_89 {z : P0} {st : List Value} {cu : Nat × Nat} {Q : Res → Mem → Prop} {K : Nat → Nat × Nat} {I : Nat → Nat → Int32} {R : Nat → Nat → Option Nat} {L : Nat → Nat → Int64} {sz : Nat} {ex : Bool} {x0 x1 x2 : Option Value} {u : Nat} : X z 114 89 [x0, x1, x2] (.ref u :: st) cu (K, I, R, L, sz, ex) Q = ((K u).1 = 111 ∧ X z 114 92 [x0, x1, x2] (.int (I u 12) :: st) cu (K, I, R, L, sz, ex) Q) := by
  rw [x114_89]
  rfl
theorem v114_92 {z : P0} {st : List Value} {cu : Nat × Nat} {Q : Res → Mem → Prop} {σ : Mem} {x0 x1 x2 : Option Value} : X z 114 92 [x0, x1, x2] (st) cu σ Q = (X z 114 93 [x0, x1, x2] (.int (nI 1) :: st) cu σ Q) := by
  rw [x114_92]
  rfl
theorem v114_93 {z : P0} {st : List Value} {cu : Nat × Nat} {Q : Res → Mem → Prop} {σ : Mem} {x0 x1 x2 : Option Value} {u v : Int32} : X z 114 93 [x0, x1, x2] (.int v :: .int u :: st) cu σ Q = (X z 114 94 [x0, x1, x2] (.int (u - v) :: st) cu σ Q) := by
  rw [x114_93]
  rfl
theorem v114_94 {z : P0} {cu : Nat × Nat} {Q : Res → Mem → Prop} {σ : Mem} {x0 x1 x2 : Option Value} {v : Int32} : X z 114 94 [x0, x1, x2] ([.int v]) cu σ Q = (Q (.inl (some (.int v))) σ) := by
  rw [x114_94]
  exact propext ⟨fun h => h.2, fun h => ⟨trivial, h⟩⟩
theorem v115_0 {z : P0} {st : List Value} {cu : Nat × Nat} {Q : Res → Mem → Prop} {σ : Mem} {x1 x2 : Option Value} {u : Nat} : X z 115 0 [some (.ref u), x1, x2] (st) cu σ Q = (X z 115 1 [some (.ref u), x1, x2] (.ref u :: st) cu σ Q) := by
  rw [x115_0]
  rfl
theorem v115_1 {z : P0} {st : List Value} {cu : Nat × Nat} {Q : Res → Mem → Prop} {σ : Mem} {x0 x1 x2 : Option Value} : X z 115 1 [x0, x1, x2] (st) cu σ Q = (X z 115 2 [x0, x1, x2] (.int (nI 0) :: st) cu σ Q) := by
  rw [x115_1]
  rfl
theorem v115_2 {z : P0} {st : List Value} {cu : Nat × Nat} {Q : Res → Mem → Prop} {K : Nat → Nat × Nat} {I : Nat → Nat → Int32} {R : Nat → Nat → Option Nat} {L : Nat → Nat → Int64} {sz : Nat} {ex : Bool} {x0 x1 x2 : Option Value} {u : Nat} {v : Int32} : X z 115 2 [x0, x1, x2] (.int v :: .ref u :: st) cu (K, I, R, L, sz, ex) Q = ((K u).1 = 111 ∧ X z 115 5 [x0, x1, x2] (st) cu (K, up2 I u 12 v, R, L, sz, ex) Q) := by
  rw [x115_2]
  exact i_putI
theorem v115_5 {z : P0} {st : List Value} {cu : Nat × Nat} {Q : Res → Mem → Prop} {σ : Mem} {x0 x1 x2 : Option Value} : X z 115 5 [x0, x1, x2] (st) cu σ Q = (X z 115 6 [x0, x1, x2] (.int (nI 0) :: st) cu σ Q) := by
  rw [x115_5]
  rfl
theorem v115_6 {z : P0} {st : List Value} {cu : Nat × Nat} {Q : Res → Mem → Prop} {σ : Mem} {x0 x1 x2 : Option Value} {u : Int32} : X z 115 6 [x0, x1, x2] (.int u :: st) cu σ Q = (cat2 x0 = false ∧ X z 115 7 [x0, some (.int u), x2] (st) cu σ Q) := by
  rw [x115_6]
  obtain ⟨K, I, R, L, sz, ex⟩ := σ
  exact i_istore_n.trans sl_1
theorem v115_7 {z : P0} {st : List Value} {cu : Nat × Nat} {Q : Res → Mem → Prop} {σ : Mem} {x0 x2 : Option Value} {u : Int32} : X z 115 7 [x0, some (.int u), x2] (st) cu σ Q = (X z 115 8 [x0, some (.int u), x2] (.int u :: st) cu σ Q) := by
  rw [x115_7]
  rfl
theorem v115_8 {z : P0} {st : List Value} {cu : Nat × Nat} {Q : Res → Mem → Prop} {σ : Mem} {x1 x2 : Option Value} {u : Nat} : X z 115 8 [some (.ref u), x1, x2] (st) cu σ Q = (X z 115 9 [some (.ref u), x1, x2] (.ref u :: st) cu σ Q) := by
  rw [x115_8]
  rfl
theorem v115_9 {z : P0} {st : List Value} {cu : Nat × Nat} {Q : Res → Mem → Prop} {K : Nat → Nat × Nat} {I : Nat → Nat → Int32} {R : Nat → Nat → Option Nat} {L : Nat → Nat → Int64} {sz : Nat} {ex : Bool} {x0 x1 x2 : Option Value} {u : Nat} : X z 115 9 [x0, x1, x2] (.ref u :: st) cu (K, I, R, L, sz, ex) Q = ((K u).1 = 111 ∧ X z 115 12 [x0, x1, x2] (va_rf (R u 0) :: st) cu (K, I, R, L, sz, ex) Q) := by
  rw [x115_9]
  rfl
theorem v115_12 {z : P0} {st : List Value} {cu : Nat × Nat} {Q : Res → Mem → Prop} {σ : Mem} {x0 x1 x2 : Option Value} : X z 115 12 [x0, x1, x2] (st) cu σ Q = (X z 115 14 [x0, x1, x2] (.int (nI 6) :: st) cu σ Q) := by
  rw [x115_12]
  rfl
theorem v115_14 {z : P0} {st : List Value} {cu : Nat × Nat} {Q : Res → Mem → Prop} {K : Nat → Nat × Nat} {I : Nat → Nat → Int32} {R : Nat → Nat → Option Nat} {L : Nat → Nat → Int64} {sz : Nat} {ex : Bool} {x0 x1 x2 : Option Value} {u : Nat} {v : Int32} : X z 115 14 [x0, x1, x2] (.int v :: .ref u :: st) cu (K, I, R, L, sz, ex) Q = (((K u).1 = 20 ∨ (K u).1 = 50) ∧ vp_in v (K u).2 ∧ X z 115 15 [x0, x1, x2] (.int (I u v.toNatClampNeg) :: st) cu (K, I, R, L, sz, ex) Q) := by
  rw [x115_14]
  rfl
theorem v115_15 {z : P0} {st : List Value} {cu : Nat × Nat} {Q : Res → Mem → Prop} {σ : Mem} {x0 x1 x2 : Option Value} {u v : Int32} : X z 115 15 [x0, x1, x2] (.int v :: .int u :: st) cu σ Q = (if u < v then X z 115 18 [x0, x1, x2] (st) cu σ Q else X z 115 81 [x0, x1, x2] (st) cu σ Q) := by
  rw [x115_15]
  obtain ⟨K, I, R, L, sz, ex⟩ := σ
  exact br_ge
theorem v115_18 {z : P0} {st : List Value} {cu : Nat × Nat} {Q : Res → Mem → Prop} {σ : Mem} {x1 x2 : Option Value} {u : Nat} : X z 115 18 [some (.ref u), x1, x2] (st) cu σ Q = (X z 115 19 [some (.ref u), x1, x2] (.ref u :: st) cu σ Q) := by
  rw [x115_18]
  rfl
theorem v115_19 {z : P0} {st : List Value} {cu : Nat × Nat} {Q : Res → Mem → Prop} {K : Nat → Nat × Nat} {I : Nat → Nat → Int32} {R : Nat → Nat → Option Nat} {L : Nat → Nat → Int64} {sz : Nat} {ex : Bool} {x0 x1 x2 : Option Value} {u : Nat} : X z 115 19 [x0, x1, x2] (.ref u :: st) cu (K, I, R, L, sz, ex) Q = ((K u).1 = 111 ∧ X z 115 22 [x0, x1, x2] (va_rf (R u 11) :: st) cu (K, I, R, L, sz, ex) Q) := by
  rw [x115_19]
  rfl
theorem v115_22 {z : P0} {st : List Value} {cu : Nat × Nat} {Q : Res → Mem → Prop} {σ : Mem} {x0 x2 : Option Value} {u : Int32} : X z 115 22 [x0, some (.int u), x2] (st) cu σ Q = (X z 115 23 [x0, some (.int u), x2] (.int u :: st) cu σ Q) := by
  rw [x115_22]
  rfl
theorem v115_23 {z : P0} {st : List Value} {cu : Nat × Nat} {Q : Res → Mem → Prop} {σ : Mem} {x0 x1 x2 : Option Value} : X z 115 23 [x0, x1, x2] (st) cu σ Q = (X z 115 24 [x0, x1, x2] (.int (nI 4294967295) :: st) cu σ Q) := by
  rw [x115_23]
  rw [neg1]
  rfl
theorem v115_24 {z : P0} {st : List Value} {cu : Nat × Nat} {Q : Res → Mem → Prop} {K : Nat → Nat × Nat} {I : Nat → Nat → Int32} {R : Nat → Nat → Option Nat} {L : Nat → Nat → Int64} {sz : Nat} {ex : Bool} {x0 x1 x2 : Option Value} {u : Nat} {j v : Int32} : X z 115 24 [x0, x1, x2] (.int v :: .int j :: .ref u :: st) cu (K, I, R, L, sz, ex) Q = ((K u).1 = 20 ∧ vp_in j (K u).2 ∧ X z 115 25 [x0, x1, x2] (st) cu (K, up2 I u j.toNatClampNeg v, R, L, sz, ex) Q) := by
  rw [x115_24]
  rfl
theorem v115_25 {z : P0} {st : List Value} {cu : Nat × Nat} {Q : Res → Mem → Prop} {σ : Mem} {x1 x2 : Option Value} {u : Nat} : X z 115 25 [some (.ref u), x1, x2] (st) cu σ Q = (X z 115 26 [some (.ref u), x1, x2] (.ref u :: st) cu σ Q) := by
  rw [x115_25]
  rfl
theorem v115_26 {z : P0} {st : List Value} {cu : Nat × Nat} {Q : Res → Mem → Prop} {σ : Mem} {x0 x2 : Option Value} {u : Int32} : X z 115 26 [x0, some (.int u), x2] (st) cu σ Q = (X z 115 27 [x0, some (.int u), x2] (.int u :: st) cu σ Q) := by
  rw [x115_26]
  rfl
theorem v115_27 {z : P0} {st : List Value} {cu : Nat × Nat} {Q : Res → Mem → Prop} {σ : Mem} {x1 x2 : Option Value} {u : Nat} : X z 115 27 [some (.ref u), x1, x2] (st) cu σ Q = (X z 115 28 [some (.ref u), x1, x2] (.ref u :: st) cu σ Q) := by
  rw [x115_27]
  rfl
theorem v115_28 {z : P0} {st : List Value} {cu : Nat × Nat} {Q : Res → Mem → Prop} {K : Nat → Nat × Nat} {I : Nat → Nat → Int32} {R : Nat → Nat → Option Nat} {L : Nat → Nat → Int64} {sz : Nat} {ex : Bool} {x0 x1 x2 : Option Value} {u : Nat} : X z 115 28 [x0, x1, x2] (.ref u :: st) cu (K, I, R, L, sz, ex) Q = ((K u).1 = 111 ∧ X z 115 31 [x0, x1, x2] (va_rf (R u 0) :: st) cu (K, I, R, L, sz, ex) Q) := by
  rw [x115_28]
  rfl
theorem v115_31 {z : P0} {st : List Value} {cu : Nat × Nat} {Q : Res → Mem → Prop} {σ : Mem} {x0 x1 x2 : Option Value} : X z 115 31 [x0, x1, x2] (st) cu σ Q = (X z 115 33 [x0, x1, x2] (.int (nI 8) :: st) cu σ Q) := by
  rw [x115_31]
  rfl
theorem v115_33 {z : P0} {st : List Value} {cu : Nat × Nat} {Q : Res → Mem → Prop} {K : Nat → Nat × Nat} {I : Nat → Nat → Int32} {R : Nat → Nat → Option Nat} {L : Nat → Nat → Int64} {sz : Nat} {ex : Bool} {x0 x1 x2 : Option Value} {u : Nat} {v : Int32} : X z 115 33 [x0, x1, x2] (.int v :: .ref u :: st) cu (K, I, R, L, sz, ex) Q = (((K u).1 = 20 ∨ (K u).1 = 50) ∧ vp_in v (K u).2 ∧ X z 115 34 [x0, x1, x2] (.int (I u v.toNatClampNeg) :: st) cu (K, I, R, L, sz, ex) Q) := by
  rw [x115_33]
  rfl
theorem u115_34 {z : P0} {ls : Lcs} {st : List Value} {K : Nat → Nat × Nat} {I : Nat → Nat → Int32} {R : Nat → Nat → Option Nat} {L : Nat → Nat → Int64} {sz : Nat} {ex : Bool} {Q : Res → Mem → Prop} {x : Nat} {a0 : Int32} {a1 : Int32} : X z 115 34 ls (.int a1 :: .int a0 :: .ref x :: st) (0, 0) (K, I, R, L, sz, ex) Q = ((K x).1 = 111 ∧ wsum st ≤ 8 ∧ X z 112 0 [some (.ref x), some (.int a0), some (.int a1)] [] (0, 0) (K, I, R, L, sz, ex) (aftr (X z) mT 115 34 ls st (0, 0) Q)) := v115_34 (c := 0) (n := 0)
theorem v115_37 {z : P0} {st : List Value} {cu : Nat × Nat} {Q : Res → Mem → Prop} {σ : Mem} {x0 x1 x2 : Option Value} {u : Int32} : X z 115 37 [x0, x1, x2] (.int u :: st) cu σ Q = (if u = nI 0 then X z 115 40 [x0, x1, x2] (st) cu σ Q else X z 115 75 [x0, x1, x2] (st) cu σ Q) := by
  rw [x115_37]
  rw [nI_0]
  obtain ⟨K, I, R, L, sz, ex⟩ := σ
  exact br_ne
theorem v115_40 {z : P0} {st : List Value} {cu : Nat × Nat} {Q : Res → Mem → Prop} {σ : Mem} {x1 x2 : Option Value} {u : Nat} : X z 115 40 [some (.ref u), x1, x2] (st) cu σ Q = (X z 115 41 [some (.ref u), x1, x2] (.ref u :: st) cu σ Q) := by
  rw [x115_40]
  rfl
theorem v115_41 {z : P0} {st : List Value} {cu : Nat × Nat} {Q : Res → Mem → Prop} {σ : Mem} {x0 x2 : Option Value} {u : Int32} : X z 115 41 [x0, some (.int u), x2] (st) cu σ Q = (X z 115 42 [x0, some (.int u), x2] (.int u :: st) cu σ Q) := by
  rw [x115_41]
  rfl
theorem u115_42 {z : P0} {ls : Lcs} {st : List Value} {K : Nat → Nat × Nat} {I : Nat → Nat → Int32} {R : Nat → Nat → Option Nat} {L : Nat → Nat → Int64} {sz : Nat} {ex : Bool} {Q : Res → Mem → Prop} {x : Nat} {a0 : Int32} : X z 115 42 ls (.int a0 :: .ref x :: st) (0, 0) (K, I, R, L, sz, ex) Q = ((K x).1 = 111 ∧ wsum st ≤ 8 ∧ X z 114 0 [some (.ref x), some (.int a0), none] [] (0, 0) (K, I, R, L, sz, ex) (aftr (X z) mT 115 42 ls st (0, 0) Q)) := v115_42 (c := 0) (n := 0)
theorem v115_45 {z : P0} {st : List Value} {cu : Nat × Nat} {Q : Res → Mem → Prop} {σ : Mem} {x0 x1 x2 : Option Value} {u : Int32} : X z 115 45 [x0, x1, x2] (.int u :: st) cu σ Q = (cat2 x1 = false ∧ X z 115 46 [x0, x1, some (.int u)] (st) cu σ Q) := by
  rw [x115_45]
  obtain ⟨K, I, R, L, sz, ex⟩ := σ
  exact i_istore_n.trans sl_2
theorem v115_46 {z : P0} {st : List Value} {cu : Nat × Nat} {Q : Res → Mem → Prop} {σ : Mem} {x1 x2 : Option Value} {u : Nat} : X z 115 46 [some (.ref u), x1, x2] (st) cu σ Q = (X z 115 47 [some (.ref u), x1, x2] (.ref u :: st) cu σ Q) := by
  rw [x115_46]
  rfl
theorem v115_47 {z : P0} {st : List Value} {cu : Nat × Nat} {Q : Res → Mem → Prop} {K : Nat → Nat × Nat} {I : Nat → Nat → Int32} {R : Nat → Nat → Option Nat} {L : Nat → Nat → Int64} {sz : Nat} {ex : Bool} {x0 x1 x2 : Option Value} {u : Nat} : X z 115 47 [x0, x1, x2] (.ref u :: st) cu (K, I, R, L, sz, ex) Q = ((K u).1 = 111 ∧ X z 115 50 [x0, x1, x2] (va_rf (R u 6) :: st) cu (K, I, R, L, sz, ex) Q) := by
  rw [x115_47]
  rfl
theorem v115_50 {z : P0} {st : List Value} {cu : Nat × Nat} {Q : Res → Mem → Prop} {σ : Mem} {x0 x1 : Option Value} {u : Int32} : X z 115 50 [x0, x1, some (.int u)] (st) cu σ Q = (X z 115 51 [x0, x1, some (.int u)] (.int u :: st) cu σ Q) := by
  rw [x115_50]
  rfl
theorem v115_51 {z : P0} {st : List Value} {cu : Nat × Nat} {Q : Res → Mem → Prop} {σ : Mem} {x0 x1 x2 : Option Value} {u : Int32} {v : Nat} : X z 115 51 [x0, x1, x2] (.int u :: .ref v :: st) cu σ Q = (X z 115 52 [x0, x1, x2] (.int u :: .ref v :: .int u :: .ref v :: st) cu σ Q) := by
  rw [x115_51]
  rfl
theorem v115_52 {z : P0} {st : List Value} {cu : Nat × Nat} {Q : Res → Mem → Prop} {K : Nat → Nat × Nat} {I : Nat → Nat → Int32} {R : Nat → Nat → Option Nat} {L : Nat → Nat → Int64} {sz : Nat} {ex : Bool} {x0 x1 x2 : Option Value} {u : Nat} {v : Int32} : X z 115 52 [x0, x1, x2] (.int v :: .ref u :: st) cu (K, I, R, L, sz, ex) Q = (((K u).1 = 20 ∨ (K u).1 = 50) ∧ vp_in v (K u).2 ∧ X z 115 53 [x0, x1, x2] (.int (I u v.toNatClampNeg) :: st) cu (K, I, R, L, sz, ex) Q) := by
  rw [x115_52]
  rfl
theorem v115_53 {z : P0} {st : List Value} {cu : Nat × Nat} {Q : Res → Mem → Prop} {σ : Mem} {x0 x1 x2 : Option Value} : X z 115 53 [x0, x1, x2] (st) cu σ Q = (X z 115 54 [x0, x1, x2] (.int (nI 1) :: st) cu σ Q) := by
  rw [x115_53]
  rfl
theorem v115_54 {z : P0} {st : List Value} {cu : Nat × Nat} {Q : Res → Mem → Prop} {σ : Mem} {x0 x2 : Option Value} {u : Int32} : X z 115 54 [x0, some (.int u), x2] (st) cu σ Q = (X z 115 55 [x0, some (.int u), x2] (.int u :: st) cu σ Q) := by
  rw [x115_54]
  rfl
theorem v115_55 {z : P0} {st : List Value} {cu : Nat × Nat} {Q : Res → Mem → Prop} {σ : Mem} {x0 x1 x2 : Option Value} {u v : Int32} : X z 115 55 [x0, x1, x2] (.int v :: .int u :: st) cu σ Q = (X z 115 56 [x0, x1, x2] (.int (u <<< (v &&& 31)) :: st) cu σ Q) := by
  rw [x115_55]
  rfl
theorem v115_56 {z : P0} {st : List Value} {cu : Nat × Nat} {Q : Res → Mem → Prop} {σ : Mem} {x0 x1 x2 : Option Value} {u v : Int32} : X z 115 56 [x0, x1, x2] (.int v :: .int u :: st) cu σ Q = (X z 115 57 [x0, x1, x2] (.int (u ||| v) :: st) cu σ Q) := by
  rw [x115_56]
  rfl
theorem v115_57 {z : P0} {st : List Value} {cu : Nat × Nat} {Q : Res → Mem → Prop} {K : Nat → Nat × Nat} {I : Nat → Nat → Int32} {R : Nat → Nat → Option Nat} {L : Nat → Nat → Int64} {sz : Nat} {ex : Bool} {x0 x1 x2 : Option Value} {u : Nat} {j v : Int32} : X z 115 57 [x0, x1, x2] (.int v :: .int j :: .ref u :: st) cu (K, I, R, L, sz, ex) Q = ((K u).1 = 20 ∧ vp_in j (K u).2 ∧ X z 115 58 [x0, x1, x2] (st) cu (K, up2 I u j.toNatClampNeg v, R, L, sz, ex) Q) := by
  rw [x115_57]
  rfl
theorem v115_58 {z : P0} {st : List Value} {cu : Nat × Nat} {Q : Res → Mem → Prop} {σ : Mem} {x1 x2 : Option Value} {u : Nat} : X z 115 58 [some (.ref u), x1, x2] (st) cu σ Q = (X z 115 59 [some (.ref u), x1, x2] (.ref u :: st) cu σ Q) := by
  rw [x115_58]
  rfl
theorem v115_59 {z : P0} {st : List Value} {cu : Nat × Nat} {Q : Res → Mem → Prop} {K : Nat → Nat × Nat} {I : Nat → Nat → Int32} {R : Nat → Nat → Option Nat} {L : Nat → Nat → Int64} {sz : Nat} {ex : Bool} {x0 x1 x2 : Option Value} {u : Nat} : X z 115 59 [x0, x1, x2] (.ref u :: st) cu (K, I, R, L, sz, ex) Q = ((K u).1 = 111 ∧ X z 115 62 [x0, x1, x2] (va_rf (R u 7) :: st) cu (K, I, R, L, sz, ex) Q) := by
  rw [x115_59]
  rfl
theorem v115_62 {z : P0} {st : List Value} {cu : Nat × Nat} {Q : Res → Mem → Prop} {σ : Mem} {x0 x1 : Option Value} {u : Int32} : X z 115 62 [x0, x1, some (.int u)] (st) cu σ Q = (X z 115 63 [x0, x1, some (.int u)] (.int u :: st) cu σ Q) := by
  rw [x115_62]
  rfl
theorem v115_63 {z : P0} {st : List Value} {cu : Nat × Nat} {Q : Res → Mem → Prop} {σ : Mem} {x0 x1 x2 : Option Value} {u : Int32} {v : Nat} : X z 115 63 [x0, x1, x2] (.int u :: .ref v :: st) cu σ Q = (X z 115 64 [x0, x1, x2] (.int u :: .ref v :: .int u :: .ref v :: st) cu σ Q) := by
  rw [x115_63]
  rfl
theorem v115_64 {z : P0} {st : List Value} {cu : Nat × Nat} {Q : Res → Mem → Prop} {K : Nat → Nat × Nat} {I : Nat → Nat → Int32} {R : Nat → Nat → Option Nat} {L : Nat → Nat → Int64} {sz : Nat} {ex : Bool} {x0 x1 x2 : Option Value} {u : Nat} {v : Int32} : X z 115 64 [x0, x1, x2] (.int v :: .ref u :: st) cu (K, I, R, L, sz, ex) Q = (((K u).1 = 20 ∨ (K u).1 = 50) ∧ vp_in v (K u).2 ∧ X z 115 65 [x0, x1, x2] (.int (I u v.toNatClampNeg) :: st) cu (K, I, R, L, sz, ex) Q) := by
  rw [x115_64]
  rfl
theorem v115_65 {z : P0} {st : List Value} {cu : Nat × Nat} {Q : Res → Mem → Prop} {σ : Mem} {x0 x1 x2 : Option Value} : X z 115 65 [x0, x1, x2] (st) cu σ Q = (X z 115 66 [x0, x1, x2] (.int (nI 1) :: st) cu σ Q) := by
  rw [x115_65]
  rfl
theorem v115_66 {z : P0} {st : List Value} {cu : Nat × Nat} {Q : Res → Mem → Prop} {σ : Mem} {x0 x1 x2 : Option Value} {u v : Int32} : X z 115 66 [x0, x1, x2] (.int v :: .int u :: st) cu σ Q = (X z 115 67 [x0, x1, x2] (.int (u + v) :: st) cu σ Q) := by
  rw [x115_66]
  rfl
theorem v115_67 {z : P0} {st : List Value} {cu : Nat × Nat} {Q : Res → Mem → Prop} {K : Nat → Nat × Nat} {I : Nat → Nat → Int32} {R : Nat → Nat → Option Nat} {L : Nat → Nat → Int64} {sz : Nat} {ex : Bool} {x0 x1 x2 : Option Value} {u : Nat} {j v : Int32} : X z 115 67 [x0, x1, x2] (.int v :: .int j :: .ref u :: st) cu (K, I, R, L, sz, ex) Q = ((K u).1 = 20 ∧ vp_in j (K u).2 ∧ X z 115 68 [x0, x1, x2] (st) cu (K, up2 I u j.toNatClampNeg v, R, L, sz, ex) Q) := by
  rw [x115_67]
  rfl
theorem v115_68 {z : P0} {st : List Value} {cu : Nat × Nat} {Q : Res → Mem → Prop} {σ : Mem} {x1 x2 : Option Value} {u : Nat} : X z 115 68 [some (.ref u), x1, x2] (st) cu σ Q = (X z 115 69 [some (.ref u), x1, x2] (.ref u :: st) cu σ Q) := by
  rw [x115_68]
  rfl
theorem v115_69 {z : P0} {st : List Value} {cu : Nat × Nat} {Q : Res → Mem → Prop} {K : Nat → Nat × Nat} {I : Nat → Nat → Int32} {R : Nat → Nat → Option Nat} {L : Nat → Nat → Int64} {sz : Nat} {ex : Bool} {x0 x1 x2 : Option Value} {u : Nat} : X z 115 69 [x0, x1, x2] (.ref u :: st) cu (K, I, R, L, sz, ex) Q = ((K u).1 = 111 ∧ X z 115 72 [x0, x1, x2] (va_rf (R u 11) :: st) cu (K, I, R, L, sz, ex) Q) := by
  rw [x115_69]
  rfl
theorem v115_72 {z : P0} {st : List Value} {cu : Nat × Nat} {Q : Res → Mem → Prop} {σ : Mem} {x0 x2 : Option Value} {u : Int32} : X z 115 72 [x0, some (.int u), x2] (st) cu σ Q = (X z 115 73 [x0, some (.int u), x2] (.int u :: st) cu σ Q) := by
  rw [x115_72]
  rfl
theorem v115_73 {z : P0} {st : List Value} {cu : Nat × Nat} {Q : Res → Mem → Prop} {σ : Mem} {x0 x1 : Option Value} {u : Int32} : X z 115 73 [x0, x1, some (.int u)] (st) cu σ Q = (X z 115 74 [x0, x1, some (.int u)] (.int u :: st) cu σ Q) := by
  rw [x115_73]
  rfl
theorem v115_74 {z : P0} {st : List Value} {cu : Nat × Nat} {Q : Res → Mem → Prop} {K : Nat → Nat × Nat} {I : Nat → Nat → Int32} {R : Nat → Nat → Option Nat} {L : Nat → Nat → Int64} {sz : Nat} {ex : Bool} {x0 x1 x2 : Option Value} {u : Nat} {j v : Int32} : X z 115 74 [x0, x1, x2] (.int v :: .int j :: .ref u :: st) cu (K, I, R, L, sz, ex) Q = ((K u).1 = 20 ∧ vp_in j (K u).2 ∧ X z 115 75 [x0, x1, x2] (st) cu (K, up2 I u j.toNatClampNeg v, R, L, sz, ex) Q) := by
  rw [x115_74]
  rfl
theorem v115_75 {z : P0} {st : List Value} {cu : Nat × Nat} {Q : Res → Mem → Prop} {σ : Mem} {x0 x2 : Option Value} {u : Int32} : X z 115 75 [x0, some (.int u), x2] (st) cu σ Q = (cat2 x0 = false ∧ X z 115 78 [x0, some (.int (u + nI 1)), x2] (st) cu σ Q) := by
  rw [x115_75]
  obtain ⟨K, I, R, L, sz, ex⟩ := σ
  exact i_iinc.trans (gl_1.trans (ldI_i.trans sl_1))
theorem v115_78 {z : P0} {st : List Value} {cu : Nat × Nat} {Q : Res → Mem → Prop} {σ : Mem} {x0 x1 x2 : Option Value} : X z 115 78 [x0, x1, x2] (st) cu σ Q = (X z 115 7 [x0, x1, x2] (st) cu σ Q) := by
  rw [x115_78]
  rfl
theorem v115_81 {z : P0} {cu : Nat × Nat} {Q : Res → Mem → Prop} {σ : Mem} {x0 x1 x2 : Option Value} : X z 115 81 [x0, x1, x2] ([]) cu σ Q = (Q (.inl none) σ) := by
  rw [x115_81]
  rfl
theorem v116_0 {z : P0} {st : List Value} {cu : Nat × Nat} {Q : Res → Mem → Prop} {σ : Mem} {x1 : Option Value} {u : Nat} : X z 116 0 [some (.ref u), x1] (st) cu σ Q = (X z 116 1 [some (.ref u), x1] (.ref u :: st) cu σ Q) := by
  rw [x116_0]
  rfl
theorem v116_1 {z : P0} {st : List Value} {cu : Nat × Nat} {Q : Res → Mem → Prop} {K : Nat → Nat × Nat} {I : Nat → Nat → Int32} {R : Nat → Nat → Option Nat} {L : Nat → Nat → Int64} {sz : Nat} {ex : Bool} {x0 x1 : Option Value} {u : Nat} : X z 116 1 [x0, x1] (.ref u :: st) cu (K, I, R, L, sz, ex) Q = ((K u).1 = 111 ∧ X z 116 4 [x0, x1] (va_rf (R u 13) :: st) cu (K, I, R, L, sz, ex) Q) := by
  rw [x116_1]
  rfl
theorem v116_4 {z : P0} {st : List Value} {cu : Nat × Nat} {Q : Res → Mem → Prop} {σ : Mem} {x1 : Option Value} {u : Nat} : X z 116 4 [some (.ref u), x1] (st) cu σ Q = (X z 116 5 [some (.ref u), x1] (.ref u :: st) cu σ Q) := by
  rw [x116_4]
  rfl
theorem v116_5 {z : P0} {st : List Value} {cu : Nat × Nat} {Q : Res → Mem → Prop} {K : Nat → Nat × Nat} {I : Nat → Nat → Int32} {R : Nat → Nat → Option Nat} {L : Nat → Nat → Int64} {sz : Nat} {ex : Bool} {x0 x1 : Option Value} {u : Nat} : X z 116 5 [x0, x1] (.ref u :: st) cu (K, I, R, L, sz, ex) Q = ((K u).1 = 111 ∧ X z 116 8 [x0, x1] (.int (I u 14) :: st) cu (K, I, R, L, sz, ex) Q) := by
  rw [x116_5]
  rfl
theorem v116_8 {z : P0} {st : List Value} {cu : Nat × Nat} {Q : Res → Mem → Prop} {σ : Mem} {x0 : Option Value} {u : Int32} : X z 116 8 [x0, some (.int u)] (st) cu σ Q = (X z 116 9 [x0, some (.int u)] (.int u :: st) cu σ Q) := by
  rw [x116_8]
  rfl
theorem v116_9 {z : P0} {st : List Value} {cu : Nat × Nat} {Q : Res → Mem → Prop} {K : Nat → Nat × Nat} {I : Nat → Nat → Int32} {R : Nat → Nat → Option Nat} {L : Nat → Nat → Int64} {sz : Nat} {ex : Bool} {x0 x1 : Option Value} {u : Nat} {j v : Int32} : X z 116 9 [x0, x1] (.int v :: .int j :: .ref u :: st) cu (K, I, R, L, sz, ex) Q = ((K u).1 = 20 ∧ vp_in j (K u).2 ∧ X z 116 10 [x0, x1] (st) cu (K, up2 I u j.toNatClampNeg v, R, L, sz, ex) Q) := by
  rw [x116_9]
  rfl
theorem v116_10 {z : P0} {st : List Value} {cu : Nat × Nat} {Q : Res → Mem → Prop} {σ : Mem} {x1 : Option Value} {u : Nat} : X z 116 10 [some (.ref u), x1] (st) cu σ Q = (X z 116 11 [some (.ref u), x1] (.ref u :: st) cu σ Q) := by
  rw [x116_10]
  rfl
theorem v116_11 {z : P0} {st : List Value} {cu : Nat × Nat} {Q : Res → Mem → Prop} {σ : Mem} {x0 x1 : Option Value} {u : Nat} : X z 116 11 [x0, x1] (.ref u :: st) cu σ Q = (X z 116 12 [x0, x1] (.ref u :: .ref u :: st) cu σ Q) := by
  rw [x116_11]
  exact propext ⟨fun h => h.2, fun h => ⟨rfl, h⟩⟩
theorem v116_11i {z : P0} {st : List Value} {cu : Nat × Nat} {Q : Res → Mem → Prop} {σ : Mem} {x0 x1 : Option Value} {u : Int32} : X z 116 11 [x0, x1] (.int u :: st) cu σ Q = (X z 116 12 [x0, x1] (.int u :: .int u :: st) cu σ Q) := by
  rw [x116_11]
  exact propext ⟨fun h => h.2, fun h => ⟨rfl, h⟩⟩
theorem v116_12 {z : P0} {st : List Value} {cu : Nat × Nat} {Q : Res → Mem → Prop} {K : Nat → Nat × Nat} {I : Nat → Nat → Int32} {R : Nat → Nat → Option Nat} {L : Nat → Nat → Int64} {sz : Nat} {ex : Bool} {x0 x1 : Option Value} {u : Nat} : X z 116 12 [x0, x1] (.ref u :: st) cu (K, I, R, L, sz, ex) Q = ((K u).1 = 111 ∧ X z 116 15 [x0, x1] (.int (I u 14) :: st) cu (K, I, R, L, sz, ex) Q) := by
  rw [x116_12]
  rfl
theorem v116_15 {z : P0} {st : List Value} {cu : Nat × Nat} {Q : Res → Mem → Prop} {σ : Mem} {x0 x1 : Option Value} : X z 116 15 [x0, x1] (st) cu σ Q = (X z 116 16 [x0, x1] (.int (nI 1) :: st) cu σ Q) := by
  rw [x116_15]
  rfl
theorem v116_16 {z : P0} {st : List Value} {cu : Nat × Nat} {Q : Res → Mem → Prop} {σ : Mem} {x0 x1 : Option Value} {u v : Int32} : X z 116 16 [x0, x1] (.int v :: .int u :: st) cu σ Q = (X z 116 17 [x0, x1] (.int (u + v) :: st) cu σ Q) := by
  rw [x116_16]
  rfl
theorem v116_17 {z : P0} {st : List Value} {cu : Nat × Nat} {Q : Res → Mem → Prop} {K : Nat → Nat × Nat} {I : Nat → Nat → Int32} {R : Nat → Nat → Option Nat} {L : Nat → Nat → Int64} {sz : Nat} {ex : Bool} {x0 x1 : Option Value} {u : Nat} {v : Int32} : X z 116 17 [x0, x1] (.int v :: .ref u :: st) cu (K, I, R, L, sz, ex) Q = ((K u).1 = 111 ∧ X z 116 20 [x0, x1] (st) cu (K, up2 I u 14 v, R, L, sz, ex) Q) := by
  rw [x116_17]
  exact i_putI
theorem v116_20 {z : P0} {cu : Nat × Nat} {Q : Res → Mem → Prop} {σ : Mem} {x0 x1 : Option Value} : X z 116 20 [x0, x1] ([]) cu σ Q = (Q (.inl none) σ) := by
  rw [x116_20]
  rfl
theorem v117_0 {z : P0} {st : List Value} {cu : Nat × Nat} {Q : Res → Mem → Prop} {σ : Mem} {x0 x2 : Option Value} {u : Int32} : X z 117 0 [x0, some (.int u), x2] (st) cu σ Q = (X z 117 1 [x0, some (.int u), x2] (.int u :: st) cu σ Q) := by
  rw [x117_0]
  rfl
theorem v117_1 {z : P0} {st : List Value} {cu : Nat × Nat} {Q : Res → Mem → Prop} {σ : Mem} {x0 x1 x2 : Option Value} {u : Int32} : X z 117 1 [x0, x1, x2] (.int u :: st) cu σ Q = (if nI 0 < u then X z 117 4 [x0, x1, x2] (st) cu σ Q else X z 117 22 [x0, x1, x2] (st) cu σ Q) := by
  rw [x117_1]
  rw [nI_0]
  obtain ⟨K, I, R, L, sz, ex⟩ := σ
  exact br_ge
theorem v117_4 {z : P0} {st : List Value} {cu : Nat × Nat} {Q : Res → Mem → Prop} {σ : Mem} {x1 x2 : Option Value} {u : Nat} : X z 117 4 [some (.ref u), x1, x2] (st) cu σ Q = (X z 117 5 [some (.ref u), x1, x2] (.ref u :: st) cu σ Q) := by
  rw [x117_4]
  rfl
theorem v117_5 {z : P0} {st : List Value} {cu : Nat × Nat} {Q : Res → Mem → Prop} {σ : Mem} {x0 x2 : Option Value} {u : Int32} : X z 117 5 [x0, some (.int u), x2] (st) cu σ Q = (X z 117 6 [x0, some (.int u), x2] (.int u :: st) cu σ Q) := by
  rw [x117_5]
  rfl
theorem v117_6 {z : P0} {st : List Value} {cu : Nat × Nat} {Q : Res → Mem → Prop} {σ : Mem} {x0 x1 : Option Value} {u : Int32} : X z 117 6 [x0, x1, some (.int u)] (st) cu σ Q = (X z 117 7 [x0, x1, some (.int u)] (.int u :: st) cu σ Q) := by
  rw [x117_6]
  rfl
theorem v117_7 {z : P0} {st : List Value} {cu : Nat × Nat} {Q : Res → Mem → Prop} {σ : Mem} {x0 x1 x2 : Option Value} : X z 117 7 [x0, x1, x2] (st) cu σ Q = (X z 117 8 [x0, x1, x2] (.int (nI 1) :: st) cu σ Q) := by
  rw [x117_7]
  rfl
theorem v117_8 {z : P0} {st : List Value} {cu : Nat × Nat} {Q : Res → Mem → Prop} {σ : Mem} {x0 x1 x2 : Option Value} {u v : Int32} : X z 117 8 [x0, x1, x2] (.int v :: .int u :: st) cu σ Q = (X z 117 9 [x0, x1, x2] (.int (u - v) :: st) cu σ Q) := by
  rw [x117_8]
  rfl
theorem v117_9 {z : P0} {st : List Value} {cu : Nat × Nat} {Q : Res → Mem → Prop} {σ : Mem} {x0 x1 x2 : Option Value} {u v : Int32} : X z 117 9 [x0, x1, x2] (.int v :: .int u :: st) cu σ Q = (if u = v then X z 117 12 [x0, x1, x2] (st) cu σ Q else X z 117 17 [x0, x1, x2] (st) cu σ Q) := by
  rw [x117_9]
  obtain ⟨K, I, R, L, sz, ex⟩ := σ
  exact br_ne
theorem v117_12 {z : P0} {st : List Value} {cu : Nat × Nat} {Q : Res → Mem → Prop} {σ : Mem} {x0 x1 x2 : Option Value} : X z 117 12 [x0, x1, x2] (st) cu σ Q = (X z 117 14 [x0, x1, x2] (.int (nI 38) :: st) cu σ Q) := by
  rw [x117_12]
  rfl
theorem v117_14 {z : P0} {st : List Value} {cu : Nat × Nat} {Q : Res → Mem → Prop} {σ : Mem} {x0 x1 x2 : Option Value} : X z 117 14 [x0, x1, x2] (st) cu σ Q = (X z 117 19 [x0, x1, x2] (st) cu σ Q) := by
  rw [x117_14]
  rfl
theorem v117_17 {z : P0} {st : List Value} {cu : Nat × Nat} {Q : Res → Mem → Prop} {σ : Mem} {x0 x1 x2 : Option Value} : X z 117 17 [x0, x1, x2] (st) cu σ Q = (X z 117 19 [x0, x1, x2] (.int (nI 44) :: st) cu σ Q) := by
  rw [x117_17]
  rfl
theorem u117_19 {z : P0} {ls : Lcs} {st : List Value} {K : Nat → Nat × Nat} {I : Nat → Nat → Int32} {R : Nat → Nat → Option Nat} {L : Nat → Nat → Int64} {sz : Nat} {ex : Bool} {Q : Res → Mem → Prop} {x : Nat} {a0 : Int32} : X z 117 19 ls (.int a0 :: .ref x :: st) (0, 0) (K, I, R, L, sz, ex) Q = ((K x).1 = 111 ∧ wsum st ≤ 8 ∧ X z 116 0 [some (.ref x), some (.int a0)] [] (0, 0) (K, I, R, L, sz, ex) (aftr (X z) mT 117 19 ls st (0, 0) Q)) := v117_19 (c := 0) (n := 0)
theorem v117_22 {z : P0} {cu : Nat × Nat} {Q : Res → Mem → Prop} {σ : Mem} {x0 x1 x2 : Option Value} : X z 117 22 [x0, x1, x2] ([]) cu σ Q = (Q (.inl none) σ) := by
  rw [x117_22]
  rfl
theorem v118_0 {z : P0} {st : List Value} {cu : Nat × Nat} {Q : Res → Mem → Prop} {σ : Mem} {x0 x1 x2 x3 x4 : Option Value} : X z 118 0 [x0, x1, x2, x3, x4] (st) cu σ Q = (X z 118 1 [x0, x1, x2, x3, x4] (.int (nI 0) :: st) cu σ Q) := by
  rw [x118_0]
  rfl
theorem v118_1 {z : P0} {st : List Value} {cu : Nat × Nat} {Q : Res → Mem → Prop} {σ : Mem} {x0 x1 x2 x3 x4 : Option Value} {u : Int32} : X z 118 1 [x0, x1, x2, x3, x4] (.int u :: st) cu σ Q = (cat2 x1 = false ∧ X z 118 2 [x0, x1, some (.int u), x3, x4] (st) cu σ Q) := by
  rw [x118_1]
  obtain ⟨K, I, R, L, sz, ex⟩ := σ
  exact i_istore_n.trans sl_2
theorem v118_2 {z : P0} {st : List Value} {cu : Nat × Nat} {Q : Res → Mem → Prop} {σ : Mem} {x0 x1 x2 x3 x4 : Option Value} : X z 118 2 [x0, x1, x2, x3, x4] (st) cu σ Q = (X z 118 3 [x0, x1, x2, x3, x4] (.int (nI 0) :: st) cu σ Q) := by
  rw [x118_2]
  rfl
theorem v118_3 {z : P0} {st : List Value} {cu : Nat × Nat} {Q : Res → Mem → Prop} {σ : Mem} {x0 x1 x2 x3 x4 : Option Value} {u : Int32} : X z 118 3 [x0, x1, x2, x3, x4] (.int u :: st) cu σ Q = (cat2 x2 = false ∧ X z 118 4 [x0, x1, x2, some (.int u), x4] (st) cu σ Q) := by
  rw [x118_3]
  obtain ⟨K, I, R, L, sz, ex⟩ := σ
  exact i_istore_n.trans sl_3
theorem v118_4 {z : P0} {st : List Value} {cu : Nat × Nat} {Q : Res → Mem → Prop} {σ : Mem} {x0 x1 x2 x4 : Option Value} {u : Int32} : X z 118 4 [x0, x1, x2, some (.int u), x4] (st) cu σ Q = (X z 118 5 [x0, x1, x2, some (.int u), x4] (.int u :: st) cu σ Q) := by
  rw [x118_4]
  rfl
theorem v118_5 {z : P0} {st : List Value} {cu : Nat × Nat} {Q : Res → Mem → Prop} {σ : Mem} {x1 x2 x3 x4 : Option Value} {u : Nat} : X z 118 5 [some (.ref u), x1, x2, x3, x4] (st) cu σ Q = (X z 118 6 [some (.ref u), x1, x2, x3, x4] (.ref u :: st) cu σ Q) := by
  rw [x118_5]
  rfl
theorem v118_6 {z : P0} {st : List Value} {cu : Nat × Nat} {Q : Res → Mem → Prop} {K : Nat → Nat × Nat} {I : Nat → Nat → Int32} {R : Nat → Nat → Option Nat} {L : Nat → Nat → Int64} {sz : Nat} {ex : Bool} {x0 x1 x2 x3 x4 : Option Value} {u : Nat} : X z 118 6 [x0, x1, x2, x3, x4] (.ref u :: st) cu (K, I, R, L, sz, ex) Q = ((K u).1 = 111 ∧ X z 118 9 [x0, x1, x2, x3, x4] (va_rf (R u 0) :: st) cu (K, I, R, L, sz, ex) Q) := by
  rw [x118_6]
  rfl
theorem v118_9 {z : P0} {st : List Value} {cu : Nat × Nat} {Q : Res → Mem → Prop} {σ : Mem} {x0 x1 x2 x3 x4 : Option Value} : X z 118 9 [x0, x1, x2, x3, x4] (st) cu σ Q = (X z 118 11 [x0, x1, x2, x3, x4] (.int (nI 6) :: st) cu σ Q) := by
  rw [x118_9]
  rfl
theorem v118_11 {z : P0} {st : List Value} {cu : Nat × Nat} {Q : Res → Mem → Prop} {K : Nat → Nat × Nat} {I : Nat → Nat → Int32} {R : Nat → Nat → Option Nat} {L : Nat → Nat → Int64} {sz : Nat} {ex : Bool} {x0 x1 x2 x3 x4 : Option Value} {u : Nat} {v : Int32} : X z 118 11 [x0, x1, x2, x3, x4] (.int v :: .ref u :: st) cu (K, I, R, L, sz, ex) Q = (((K u).1 = 20 ∨ (K u).1 = 50) ∧ vp_in v (K u).2 ∧ X z 118 12 [x0, x1, x2, x3, x4] (.int (I u v.toNatClampNeg) :: st) cu (K, I, R, L, sz, ex) Q) := by
  rw [x118_11]
  rfl
theorem v118_12 {z : P0} {st : List Value} {cu : Nat × Nat} {Q : Res → Mem → Prop} {σ : Mem} {x0 x1 x2 x3 x4 : Option Value} {u v : Int32} : X z 118 12 [x0, x1, x2, x3, x4] (.int v :: .int u :: st) cu σ Q = (if u < v then X z 118 15 [x0, x1, x2, x3, x4] (st) cu σ Q else X z 118 93 [x0, x1, x2, x3, x4] (st) cu σ Q) := by
  rw [x118_12]
  obtain ⟨K, I, R, L, sz, ex⟩ := σ
  exact br_ge
theorem v118_15 {z : P0} {st : List Value} {cu : Nat × Nat} {Q : Res → Mem → Prop} {σ : Mem} {x1 x2 x3 x4 : Option Value} {u : Nat} : X z 118 15 [some (.ref u), x1, x2, x3, x4] (st) cu σ Q = (X z 118 16 [some (.ref u), x1, x2, x3, x4] (.ref u :: st) cu σ Q) := by
  rw [x118_15]
  rfl
theorem v118_16 {z : P0} {st : List Value} {cu : Nat × Nat} {Q : Res → Mem → Prop} {K : Nat → Nat × Nat} {I : Nat → Nat → Int32} {R : Nat → Nat → Option Nat} {L : Nat → Nat → Int64} {sz : Nat} {ex : Bool} {x0 x1 x2 x3 x4 : Option Value} {u : Nat} : X z 118 16 [x0, x1, x2, x3, x4] (.ref u :: st) cu (K, I, R, L, sz, ex) Q = ((K u).1 = 111 ∧ X z 118 19 [x0, x1, x2, x3, x4] (va_rf (R u 6) :: st) cu (K, I, R, L, sz, ex) Q) := by
  rw [x118_16]
  rfl
theorem v118_19 {z : P0} {st : List Value} {cu : Nat × Nat} {Q : Res → Mem → Prop} {σ : Mem} {x0 x2 x3 x4 : Option Value} {u : Int32} : X z 118 19 [x0, some (.int u), x2, x3, x4] (st) cu σ Q = (X z 118 20 [x0, some (.int u), x2, x3, x4] (.int u :: st) cu σ Q) := by
  rw [x118_19]
  rfl
theorem v118_20 {z : P0} {st : List Value} {cu : Nat × Nat} {Q : Res → Mem → Prop} {K : Nat → Nat × Nat} {I : Nat → Nat → Int32} {R : Nat → Nat → Option Nat} {L : Nat → Nat → Int64} {sz : Nat} {ex : Bool} {x0 x1 x2 x3 x4 : Option Value} {u : Nat} {v : Int32} : X z 118 20 [x0, x1, x2, x3, x4] (.int v :: .ref u :: st) cu (K, I, R, L, sz, ex) Q = (((K u).1 = 20 ∨ (K u).1 = 50) ∧ vp_in v (K u).2 ∧ X z 118 21 [x0, x1, x2, x3, x4] (.int (I u v.toNatClampNeg) :: st) cu (K, I, R, L, sz, ex) Q) := by
  rw [x118_20]
  rfl
theorem v118_21 {z : P0} {st : List Value} {cu : Nat × Nat} {Q : Res → Mem → Prop} {σ : Mem} {x0 x1 x2 x4 : Option Value} {u : Int32} : X z 118 21 [x0, x1, x2, some (.int u), x4] (st) cu σ Q = (X z 118 22 [x0, x1, x2, some (.int u), x4] (.int u :: st) cu σ Q) := by
  rw [x118_21]
  rfl
theorem v118_22 {z : P0} {st : List Value} {cu : Nat × Nat} {Q : Res → Mem → Prop} {σ : Mem} {x0 x1 x2 x3 x4 : Option Value} {u v : Int32} : X z 118 22 [x0, x1, x2, x3, x4] (.int v :: .int u :: st) cu σ Q = (X z 118 23 [x0, x1, x2, x3, x4] (.int (u >>> (v &&& 31)) :: st) cu σ Q) := by
  rw [x118_22]
  rfl
theorem v118_23 {z : P0} {st : List Value} {cu : Nat × Nat} {Q : Res → Mem → Prop} {σ : Mem} {x0 x1 x2 x3 x4 : Option Value} : X z 118 23 [x0, x1, x2, x3, x4] (st) cu σ Q = (X z 118 24 [x0, x1, x2, x3, x4] (.int (nI 1) :: st) cu σ Q) := by
  rw [x118_23]
  rfl
theorem v118_24 {z : P0} {st : List Value} {cu : Nat × Nat} {Q : Res → Mem → Prop} {σ : Mem} {x0 x1 x2 x3 x4 : Option Value} {u v : Int32} : X z 118 24 [x0, x1, x2, x3, x4] (.int v :: .int u :: st) cu σ Q = (X z 118 25 [x0, x1, x2, x3, x4] (.int (u &&& v) :: st) cu σ Q) := by
  rw [x118_24]
  rfl
theorem v118_25 {z : P0} {st : List Value} {cu : Nat × Nat} {Q : Res → Mem → Prop} {σ : Mem} {x0 x1 x2 x3 x4 : Option Value} : X z 118 25 [x0, x1, x2, x3, x4] (st) cu σ Q = (X z 118 26 [x0, x1, x2, x3, x4] (.int (nI 1) :: st) cu σ Q) := by
  rw [x118_25]
  rfl
theorem v118_26 {z : P0} {st : List Value} {cu : Nat × Nat} {Q : Res → Mem → Prop} {σ : Mem} {x0 x1 x2 x3 x4 : Option Value} {u v : Int32} : X z 118 26 [x0, x1, x2, x3, x4] (.int v :: .int u :: st) cu σ Q = (if u = v then X z 118 29 [x0, x1, x2, x3, x4] (st) cu σ Q else X z 118 87 [x0, x1, x2, x3, x4] (st) cu σ Q) := by
  rw [x118_26]
  obtain ⟨K, I, R, L, sz, ex⟩ := σ
  exact br_ne
theorem v118_29 {z : P0} {st : List Value} {cu : Nat × Nat} {Q : Res → Mem → Prop} {σ : Mem} {x1 x2 x3 x4 : Option Value} {u : Nat} : X z 118 29 [some (.ref u), x1, x2, x3, x4] (st) cu σ Q = (X z 118 30 [some (.ref u), x1, x2, x3, x4] (.ref u :: st) cu σ Q) := by
  rw [x118_29]
  rfl
theorem v118_30 {z : P0} {st : List Value} {cu : Nat × Nat} {Q : Res → Mem → Prop} {σ : Mem} {x0 x1 x3 x4 : Option Value} {u : Int32} : X z 118 30 [x0, x1, some (.int u), x3, x4] (st) cu σ Q = (X z 118 31 [x0, x1, some (.int u), x3, x4] (.int u :: st) cu σ Q) := by
  rw [x118_30]
  rfl
theorem v118_31 {z : P0} {st : List Value} {cu : Nat × Nat} {Q : Res → Mem → Prop} {σ : Mem} {x1 x2 x3 x4 : Option Value} {u : Nat} : X z 118 31 [some (.ref u), x1, x2, x3, x4] (st) cu σ Q = (X z 118 32 [some (.ref u), x1, x2, x3, x4] (.ref u :: st) cu σ Q) := by
  rw [x118_31]
  rfl
theorem v118_32 {z : P0} {st : List Value} {cu : Nat × Nat} {Q : Res → Mem → Prop} {K : Nat → Nat × Nat} {I : Nat → Nat → Int32} {R : Nat → Nat → Option Nat} {L : Nat → Nat → Int64} {sz : Nat} {ex : Bool} {x0 x1 x2 x3 x4 : Option Value} {u : Nat} : X z 118 32 [x0, x1, x2, x3, x4] (.ref u :: st) cu (K, I, R, L, sz, ex) Q = ((K u).1 = 111 ∧ X z 118 35 [x0, x1, x2, x3, x4] (va_rf (R u 7) :: st) cu (K, I, R, L, sz, ex) Q) := by
  rw [x118_32]
  rfl
theorem v118_35 {z : P0} {st : List Value} {cu : Nat × Nat} {Q : Res → Mem → Prop} {σ : Mem} {x0 x2 x3 x4 : Option Value} {u : Int32} : X z 118 35 [x0, some (.int u), x2, x3, x4] (st) cu σ Q = (X z 118 36 [x0, some (.int u), x2, x3, x4] (.int u :: st) cu σ Q) := by
  rw [x118_35]
  rfl
theorem v118_36 {z : P0} {st : List Value} {cu : Nat × Nat} {Q : Res → Mem → Prop} {K : Nat → Nat × Nat} {I : Nat → Nat → Int32} {R : Nat → Nat → Option Nat} {L : Nat → Nat → Int64} {sz : Nat} {ex : Bool} {x0 x1 x2 x3 x4 : Option Value} {u : Nat} {v : Int32} : X z 118 36 [x0, x1, x2, x3, x4] (.int v :: .ref u :: st) cu (K, I, R, L, sz, ex) Q = (((K u).1 = 20 ∨ (K u).1 = 50) ∧ vp_in v (K u).2 ∧ X z 118 37 [x0, x1, x2, x3, x4] (.int (I u v.toNatClampNeg) :: st) cu (K, I, R, L, sz, ex) Q) := by
  rw [x118_36]
  rfl
theorem u118_37 {z : P0} {ls : Lcs} {st : List Value} {K : Nat → Nat × Nat} {I : Nat → Nat → Int32} {R : Nat → Nat → Option Nat} {L : Nat → Nat → Int64} {sz : Nat} {ex : Bool} {Q : Res → Mem → Prop} {x : Nat} {a0 : Int32} {a1 : Int32} : X z 118 37 ls (.int a1 :: .int a0 :: .ref x :: st) (0, 0) (K, I, R, L, sz, ex) Q = ((K x).1 = 111 ∧ wsum st ≤ 8 ∧ X z 117 0 [some (.ref x), some (.int a0), some (.int a1)] [] (0, 0) (K, I, R, L, sz, ex) (aftr (X z) mT 118 37 ls st (0, 0) Q)) := v118_37 (c := 0) (n := 0)
theorem v118_40 {z : P0} {st : List Value} {cu : Nat × Nat} {Q : Res → Mem → Prop} {σ : Mem} {x0 x1 x2 x3 x4 : Option Value} : X z 118 40 [x0, x1, x2, x3, x4] (st) cu σ Q = (X z 118 41 [x0, x1, x2, x3, x4] (.int (nI 0) :: st) cu σ Q) := by
  rw [x118_40]
  rfl
theorem v118_41 {z : P0} {st : List Value} {cu : Nat × Nat} {Q : Res → Mem → Prop} {σ : Mem} {x0 x1 x2 x3 x4 : Option Value} {u : Int32} : X z 118 41 [x0, x1, x2, x3, x4] (.int u :: st) cu σ Q = (cat2 x3 = false ∧ X z 118 43 [x0, x1, x2, x3, some (.int u)] (st) cu σ Q) := by
  rw [x118_41]
  obtain ⟨K, I, R, L, sz, ex⟩ := σ
  exact i_istore.trans sl_4
theorem v118_43 {z : P0} {st : List Value} {cu : Nat × Nat} {Q : Res → Mem → Prop} {σ : Mem} {x0 x1 x2 x3 : Option Value} {u : Int32} : X z 118 43 [x0, x1, x2, x3, some (.int u)] (st) cu σ Q = (X z 118 45 [x0, x1, x2, x3, some (.int u)] (.int u :: st) cu σ Q) := by
  rw [x118_43]
  rfl
theorem v118_45 {z : P0} {st : List Value} {cu : Nat × Nat} {Q : Res → Mem → Prop} {σ : Mem} {x1 x2 x3 x4 : Option Value} {u : Nat} : X z 118 45 [some (.ref u), x1, x2, x3, x4] (st) cu σ Q = (X z 118 46 [some (.ref u), x1, x2, x3, x4] (.ref u :: st) cu σ Q) := by
  rw [x118_45]
  rfl
theorem v118_46 {z : P0} {st : List Value} {cu : Nat × Nat} {Q : Res → Mem → Prop} {K : Nat → Nat × Nat} {I : Nat → Nat → Int32} {R : Nat → Nat → Option Nat} {L : Nat → Nat → Int64} {sz : Nat} {ex : Bool} {x0 x1 x2 x3 x4 : Option Value} {u : Nat} : X z 118 46 [x0, x1, x2, x3, x4] (.ref u :: st) cu (K, I, R, L, sz, ex) Q = ((K u).1 = 111 ∧ X z 118 49 [x0, x1, x2, x3, x4] (va_rf (R u 0) :: st) cu (K, I, R, L, sz, ex) Q) := by
  rw [x118_46]
  rfl
theorem v118_49 {z : P0} {st : List Value} {cu : Nat × Nat} {Q : Res → Mem → Prop} {σ : Mem} {x0 x1 x2 x3 x4 : Option Value} : X z 118 49 [x0, x1, x2, x3, x4] (st) cu σ Q = (X z 118 52 [x0, x1, x2, x3, x4] (.int (nI 133) :: st) cu σ Q) := by
  rw [x118_49]
  rfl
theorem v118_52 {z : P0} {st : List Value} {cu : Nat × Nat} {Q : Res → Mem → Prop} {σ : Mem} {x0 x1 x2 x4 : Option Value} {u : Int32} : X z 118 52 [x0, x1, x2, some (.int u), x4] (st) cu σ Q = (X z 118 53 [x0, x1, x2, some (.int u), x4] (.int u :: st) cu σ Q) := by
  rw [x118_52]
  rfl
theorem v118_53 {z : P0} {st : List Value} {cu : Nat × Nat} {Q : Res → Mem → Prop} {σ : Mem} {x0 x1 x2 x3 x4 : Option Value} {u v : Int32} : X z 118 53 [x0, x1, x2, x3, x4] (.int v :: .int u :: st) cu σ Q = (X z 118 54 [x0, x1, x2, x3, x4] (.int (u + v) :: st) cu σ Q) := by
  rw [x118_53]
  rfl
theorem v118_54 {z : P0} {st : List Value} {cu : Nat × Nat} {Q : Res → Mem → Prop} {K : Nat → Nat × Nat} {I : Nat → Nat → Int32} {R : Nat → Nat → Option Nat} {L : Nat → Nat → Int64} {sz : Nat} {ex : Bool} {x0 x1 x2 x3 x4 : Option Value} {u : Nat} {v : Int32} : X z 118 54 [x0, x1, x2, x3, x4] (.int v :: .ref u :: st) cu (K, I, R, L, sz, ex) Q = (((K u).1 = 20 ∨ (K u).1 = 50) ∧ vp_in v (K u).2 ∧ X z 118 55 [x0, x1, x2, x3, x4] (.int (I u v.toNatClampNeg) :: st) cu (K, I, R, L, sz, ex) Q) := by
  rw [x118_54]
  rfl
theorem v118_55 {z : P0} {st : List Value} {cu : Nat × Nat} {Q : Res → Mem → Prop} {σ : Mem} {x0 x1 x2 x3 x4 : Option Value} {u v : Int32} : X z 118 55 [x0, x1, x2, x3, x4] (.int v :: .int u :: st) cu σ Q = (if u < v then X z 118 58 [x0, x1, x2, x3, x4] (st) cu σ Q else X z 118 84 [x0, x1, x2, x3, x4] (st) cu σ Q) := by
  rw [x118_55]
  obtain ⟨K, I, R, L, sz, ex⟩ := σ
  exact br_ge
theorem v118_58 {z : P0} {st : List Value} {cu : Nat × Nat} {Q : Res → Mem → Prop} {σ : Mem} {x1 x2 x3 x4 : Option Value} {u : Nat} : X z 118 58 [some (.ref u), x1, x2, x3, x4] (st) cu σ Q = (X z 118 59 [some (.ref u), x1, x2, x3, x4] (.ref u :: st) cu σ Q) := by
  rw [x118_58]
  rfl
theorem v118_59 {z : P0} {st : List Value} {cu : Nat × Nat} {Q : Res → Mem → Prop} {σ : Mem} {x1 x2 x3 x4 : Option Value} {u : Nat} : X z 118 59 [some (.ref u), x1, x2, x3, x4] (st) cu σ Q = (X z 118 60 [some (.ref u), x1, x2, x3, x4] (.ref u :: st) cu σ Q) := by
  rw [x118_59]
  rfl
theorem v118_60 {z : P0} {st : List Value} {cu : Nat × Nat} {Q : Res → Mem → Prop} {K : Nat → Nat × Nat} {I : Nat → Nat → Int32} {R : Nat → Nat → Option Nat} {L : Nat → Nat → Int64} {sz : Nat} {ex : Bool} {x0 x1 x2 x3 x4 : Option Value} {u : Nat} : X z 118 60 [x0, x1, x2, x3, x4] (.ref u :: st) cu (K, I, R, L, sz, ex) Q = ((K u).1 = 111 ∧ X z 118 63 [x0, x1, x2, x3, x4] (va_rf (R u 0) :: st) cu (K, I, R, L, sz, ex) Q) := by
  rw [x118_60]
  rfl
theorem v118_63 {z : P0} {st : List Value} {cu : Nat × Nat} {Q : Res → Mem → Prop} {σ : Mem} {x0 x1 x2 x3 x4 : Option Value} : X z 118 63 [x0, x1, x2, x3, x4] (st) cu σ Q = (X z 118 66 [x0, x1, x2, x3, x4] (.int (nI 153) :: st) cu σ Q) := by
  rw [x118_63]
  rfl
theorem v118_66 {z : P0} {st : List Value} {cu : Nat × Nat} {Q : Res → Mem → Prop} {σ : Mem} {x0 x1 x2 x3 x4 : Option Value} : X z 118 66 [x0, x1, x2, x3, x4] (st) cu σ Q = (X z 118 68 [x0, x1, x2, x3, x4] (.int (nI 8) :: st) cu σ Q) := by
  rw [x118_66]
  rfl
theorem v118_68 {z : P0} {st : List Value} {cu : Nat × Nat} {Q : Res → Mem → Prop} {σ : Mem} {x0 x1 x2 x4 : Option Value} {u : Int32} : X z 118 68 [x0, x1, x2, some (.int u), x4] (st) cu σ Q = (X z 118 69 [x0, x1, x2, some (.int u), x4] (.int u :: st) cu σ Q) := by
  rw [x118_68]
  rfl
theorem v118_69 {z : P0} {st : List Value} {cu : Nat × Nat} {Q : Res → Mem → Prop} {σ : Mem} {x0 x1 x2 x3 x4 : Option Value} {u v : Int32} : X z 118 69 [x0, x1, x2, x3, x4] (.int v :: .int u :: st) cu σ Q = (X z 118 70 [x0, x1, x2, x3, x4] (.int (u * v) :: st) cu σ Q) := by
  rw [x118_69]
  rfl
theorem v118_70 {z : P0} {st : List Value} {cu : Nat × Nat} {Q : Res → Mem → Prop} {σ : Mem} {x0 x1 x2 x3 x4 : Option Value} {u v : Int32} : X z 118 70 [x0, x1, x2, x3, x4] (.int v :: .int u :: st) cu σ Q = (X z 118 71 [x0, x1, x2, x3, x4] (.int (u + v) :: st) cu σ Q) := by
  rw [x118_70]
  rfl
theorem v118_71 {z : P0} {st : List Value} {cu : Nat × Nat} {Q : Res → Mem → Prop} {σ : Mem} {x0 x1 x2 x3 : Option Value} {u : Int32} : X z 118 71 [x0, x1, x2, x3, some (.int u)] (st) cu σ Q = (X z 118 73 [x0, x1, x2, x3, some (.int u)] (.int u :: st) cu σ Q) := by
  rw [x118_71]
  rfl
theorem v118_73 {z : P0} {st : List Value} {cu : Nat × Nat} {Q : Res → Mem → Prop} {σ : Mem} {x0 x1 x2 x3 x4 : Option Value} {u v : Int32} : X z 118 73 [x0, x1, x2, x3, x4] (.int v :: .int u :: st) cu σ Q = (X z 118 74 [x0, x1, x2, x3, x4] (.int (u + v) :: st) cu σ Q) := by
  rw [x118_73]
  rfl
theorem v118_74 {z : P0} {st : List Value} {cu : Nat × Nat} {Q : Res → Mem → Prop} {K : Nat → Nat × Nat} {I : Nat → Nat → Int32} {R : Nat → Nat → Option Nat} {L : Nat → Nat → Int64} {sz : Nat} {ex : Bool} {x0 x1 x2 x3 x4 : Option Value} {u : Nat} {v : Int32} : X z 118 74 [x0, x1, x2, x3, x4] (.int v :: .ref u :: st) cu (K, I, R, L, sz, ex) Q = (((K u).1 = 20 ∨ (K u).1 = 50) ∧ vp_in v (K u).2 ∧ X z 118 75 [x0, x1, x2, x3, x4] (.int (I u v.toNatClampNeg) :: st) cu (K, I, R, L, sz, ex) Q) := by
  rw [x118_74]
  rfl
theorem u118_75 {z : P0} {ls : Lcs} {st : List Value} {K : Nat → Nat × Nat} {I : Nat → Nat → Int32} {R : Nat → Nat → Option Nat} {L : Nat → Nat → Int64} {sz : Nat} {ex : Bool} {Q : Res → Mem → Prop} {x : Nat} {a0 : Int32} : X z 118 75 ls (.int a0 :: .ref x :: st) (0, 0) (K, I, R, L, sz, ex) Q = ((K x).1 = 111 ∧ wsum st ≤ 8 ∧ X z 116 0 [some (.ref x), some (.int a0)] [] (0, 0) (K, I, R, L, sz, ex) (aftr (X z) mT 118 75 ls st (0, 0) Q)) := v118_75 (c := 0) (n := 0)
theorem v118_78 {z : P0} {st : List Value} {cu : Nat × Nat} {Q : Res → Mem → Prop} {σ : Mem} {x0 x1 x2 x3 : Option Value} {u : Int32} : X z 118 78 [x0, x1, x2, x3, some (.int u)] (st) cu σ Q = (cat2 x3 = false ∧ X z 118 81 [x0, x1, x2, x3, some (.int (u + nI 1))] (st) cu σ Q) := by
  rw [x118_78]
  obtain ⟨K, I, R, L, sz, ex⟩ := σ
  exact i_iinc.trans (gl_4.trans (ldI_i.trans sl_4))
theorem v118_81 {z : P0} {st : List Value} {cu : Nat × Nat} {Q : Res → Mem → Prop} {σ : Mem} {x0 x1 x2 x3 x4 : Option Value} : X z 118 81 [x0, x1, x2, x3, x4] (st) cu σ Q = (X z 118 43 [x0, x1, x2, x3, x4] (st) cu σ Q) := by
  rw [x118_81]
  rfl
theorem v118_84 {z : P0} {st : List Value} {cu : Nat × Nat} {Q : Res → Mem → Prop} {σ : Mem} {x0 x1 x3 x4 : Option Value} {u : Int32} : X z 118 84 [x0, x1, some (.int u), x3, x4] (st) cu σ Q = (cat2 x1 = false ∧ X z 118 87 [x0, x1, some (.int (u + nI 1)), x3, x4] (st) cu σ Q) := by
  rw [x118_84]
  obtain ⟨K, I, R, L, sz, ex⟩ := σ
  exact i_iinc.trans (gl_2.trans (ldI_i.trans sl_2))
theorem v118_87 {z : P0} {st : List Value} {cu : Nat × Nat} {Q : Res → Mem → Prop} {σ : Mem} {x0 x1 x2 x4 : Option Value} {u : Int32} : X z 118 87 [x0, x1, x2, some (.int u), x4] (st) cu σ Q = (cat2 x2 = false ∧ X z 118 90 [x0, x1, x2, some (.int (u + nI 1)), x4] (st) cu σ Q) := by
  rw [x118_87]
  obtain ⟨K, I, R, L, sz, ex⟩ := σ
  exact i_iinc.trans (gl_3.trans (ldI_i.trans sl_3))
theorem v118_90 {z : P0} {st : List Value} {cu : Nat × Nat} {Q : Res → Mem → Prop} {σ : Mem} {x0 x1 x2 x3 x4 : Option Value} : X z 118 90 [x0, x1, x2, x3, x4] (st) cu σ Q = (X z 118 4 [x0, x1, x2, x3, x4] (st) cu σ Q) := by
  rw [x118_90]
  rfl
theorem v118_93 {z : P0} {cu : Nat × Nat} {Q : Res → Mem → Prop} {σ : Mem} {x0 x1 x2 x3 x4 : Option Value} : X z 118 93 [x0, x1, x2, x3, x4] ([]) cu σ Q = (Q (.inl none) σ) := by
  rw [x118_93]
  rfl
theorem v119_0 {z : P0} {st : List Value} {cu : Nat × Nat} {Q : Res → Mem → Prop} {σ : Mem} {x1 x2 x3 x4 : Option Value} {u : Nat} : X z 119 0 [some (.ref u), x1, x2, x3, x4] (st) cu σ Q = (X z 119 1 [some (.ref u), x1, x2, x3, x4] (.ref u :: st) cu σ Q) := by
  rw [x119_0]
  rfl
theorem v119_1 {z : P0} {st : List Value} {cu : Nat × Nat} {Q : Res → Mem → Prop} {K : Nat → Nat × Nat} {I : Nat → Nat → Int32} {R : Nat → Nat → Option Nat} {L : Nat → Nat → Int64} {sz : Nat} {ex : Bool} {x0 x1 x2 x3 x4 : Option Value} {u : Nat} : X z 119 1 [x0, x1, x2, x3, x4] (.ref u :: st) cu (K, I, R, L, sz, ex) Q = ((K u).1 = 111 ∧ X z 119 4 [x0, x1, x2, x3, x4] (va_rf (R u 0) :: st) cu (K, I, R, L, sz, ex) Q) := by
  rw [x119_1]
  rfl
theorem v119_4 {z : P0} {st : List Value} {cu : Nat × Nat} {Q : Res → Mem → Prop} {σ : Mem} {x0 x1 x2 x3 x4 : Option Value} : X z 119 4 [x0, x1, x2, x3, x4] (st) cu σ Q = (X z 119 6 [x0, x1, x2, x3, x4] (.int (nI 33) :: st) cu σ Q) := by
  rw [x119_4]
  rfl
theorem v119_6 {z : P0} {st : List Value} {cu : Nat × Nat} {Q : Res → Mem → Prop} {σ : Mem} {x1 x2 x3 x4 : Option Value} {u : Nat} : X z 119 6 [some (.ref u), x1, x2, x3, x4] (st) cu σ Q = (X z 119 7 [some (.ref u), x1, x2, x3, x4] (.ref u :: st) cu σ Q) := by
  rw [x119_6]
  rfl
theorem v119_7 {z : P0} {st : List Value} {cu : Nat × Nat} {Q : Res → Mem → Prop} {σ : Mem} {x0 x2 x3 x4 : Option Value} {u : Int32} : X z 119 7 [x0, some (.int u), x2, x3, x4] (st) cu σ Q = (X z 119 8 [x0, some (.int u), x2, x3, x4] (.int u :: st) cu σ Q) := by
  rw [x119_7]
  rfl
theorem u119_8 {z : P0} {ls : Lcs} {st : List Value} {K : Nat → Nat × Nat} {I : Nat → Nat → Int32} {R : Nat → Nat → Option Nat} {L : Nat → Nat → Int64} {sz : Nat} {ex : Bool} {Q : Res → Mem → Prop} {x : Nat} {a0 : Int32} : X z 119 8 ls (.int a0 :: .ref x :: st) (0, 0) (K, I, R, L, sz, ex) Q = ((K x).1 = 111 ∧ wsum st ≤ 8 ∧ X z 113 0 [some (.ref x), some (.int a0), none] [] (0, 0) (K, I, R, L, sz, ex) (aftr (X z) mT 119 8 ls st (0, 0) Q)) := v119_8 (c := 0) (n := 0)
theorem v119_11 {z : P0} {st : List Value} {cu : Nat × Nat} {Q : Res → Mem → Prop} {σ : Mem} {x0 x1 x2 x3 x4 : Option Value} {u v : Int32} : X z 119 11 [x0, x1, x2, x3, x4] (.int v :: .int u :: st) cu σ Q = (X z 119 12 [x0, x1, x2, x3, x4] (.int (u + v) :: st) cu σ Q) := by
  rw [x119_11]
  rfl
theorem v119_12 {z : P0} {st : List Value} {cu : Nat × Nat} {Q : Res → Mem → Prop} {K : Nat → Nat × Nat} {I : Nat → Nat → Int32} {R : Nat → Nat → Option Nat} {L : Nat → Nat → Int64} {sz : Nat} {ex : Bool} {x0 x1 x2 x3 x4 : Option Value} {u : Nat} {v : Int32} : X z 119 12 [x0, x1, x2, x3, x4] (.int v :: .ref u :: st) cu (K, I, R, L, sz, ex) Q = (((K u).1 = 20 ∨ (K u).1 = 50) ∧ vp_in v (K u).2 ∧ X z 119 13 [x0, x1, x2, x3, x4] (.int (I u v.toNatClampNeg) :: st) cu (K, I, R, L, sz, ex) Q) := by
  rw [x119_12]
  rfl
theorem v119_13 {z : P0} {st : List Value} {cu : Nat × Nat} {Q : Res → Mem → Prop} {σ : Mem} {x0 x1 x2 x3 x4 : Option Value} {u : Int32} : X z 119 13 [x0, x1, x2, x3, x4] (.int u :: st) cu σ Q = (cat2 x1 = false ∧ X z 119 14 [x0, x1, some (.int u), x3, x4] (st) cu σ Q) := by
  rw [x119_13]
  obtain ⟨K, I, R, L, sz, ex⟩ := σ
  exact i_istore_n.trans sl_2
theorem v119_14 {z : P0} {st : List Value} {cu : Nat × Nat} {Q : Res → Mem → Prop} {σ : Mem} {x0 x1 x2 x3 x4 : Option Value} : X z 119 14 [x0, x1, x2, x3, x4] (st) cu σ Q = (X z 119 15 [x0, x1, x2, x3, x4] (.int (nI 1) :: st) cu σ Q) := by
  rw [x119_14]
  rfl
theorem v119_15 {z : P0} {st : List Value} {cu : Nat × Nat} {Q : Res → Mem → Prop} {σ : Mem} {x0 x1 x2 x3 x4 : Option Value} {u : Int32} : X z 119 15 [x0, x1, x2, x3, x4] (.int u :: st) cu σ Q = (cat2 x2 = false ∧ X z 119 16 [x0, x1, x2, some (.int u), x4] (st) cu σ Q) := by
  rw [x119_15]
  obtain ⟨K, I, R, L, sz, ex⟩ := σ
  exact i_istore_n.trans sl_3
theorem v119_16 {z : P0} {st : List Value} {cu : Nat × Nat} {Q : Res → Mem → Prop} {σ : Mem} {x0 x1 x2 x3 x4 : Option Value} : X z 119 16 [x0, x1, x2, x3, x4] (st) cu σ Q = (X z 119 17 [x0, x1, x2, x3, x4] (.int (nI 0) :: st) cu σ Q) := by
  rw [x119_16]
  rfl
theorem v119_17 {z : P0} {st : List Value} {cu : Nat × Nat} {Q : Res → Mem → Prop} {σ : Mem} {x0 x1 x2 x3 x4 : Option Value} {u : Int32} : X z 119 17 [x0, x1, x2, x3, x4] (.int u :: st) cu σ Q = (cat2 x3 = false ∧ X z 119 19 [x0, x1, x2, x3, some (.int u)] (st) cu σ Q) := by
  rw [x119_17]
  obtain ⟨K, I, R, L, sz, ex⟩ := σ
  exact i_istore.trans sl_4
theorem v119_19 {z : P0} {st : List Value} {cu : Nat × Nat} {Q : Res → Mem → Prop} {σ : Mem} {x0 x1 x2 x3 : Option Value} {u : Int32} : X z 119 19 [x0, x1, x2, x3, some (.int u)] (st) cu σ Q = (X z 119 21 [x0, x1, x2, x3, some (.int u)] (.int u :: st) cu σ Q) := by
  rw [x119_19]
  rfl
theorem v119_21 {z : P0} {st : List Value} {cu : Nat × Nat} {Q : Res → Mem → Prop} {σ : Mem} {x1 x2 x3 x4 : Option Value} {u : Nat} : X z 119 21 [some (.ref u), x1, x2, x3, x4] (st) cu σ Q = (X z 119 22 [some (.ref u), x1, x2, x3, x4] (.ref u :: st) cu σ Q) := by
  rw [x119_21]
  rfl
theorem v119_22 {z : P0} {st : List Value} {cu : Nat × Nat} {Q : Res → Mem → Prop} {K : Nat → Nat × Nat} {I : Nat → Nat → Int32} {R : Nat → Nat → Option Nat} {L : Nat → Nat → Int64} {sz : Nat} {ex : Bool} {x0 x1 x2 x3 x4 : Option Value} {u : Nat} : X z 119 22 [x0, x1, x2, x3, x4] (.ref u :: st) cu (K, I, R, L, sz, ex) Q = ((K u).1 = 111 ∧ X z 119 25 [x0, x1, x2, x3, x4] (va_rf (R u 0) :: st) cu (K, I, R, L, sz, ex) Q) := by
  rw [x119_22]
  rfl
theorem v119_25 {z : P0} {st : List Value} {cu : Nat × Nat} {Q : Res → Mem → Prop} {σ : Mem} {x0 x1 x2 x3 x4 : Option Value} : X z 119 25 [x0, x1, x2, x3, x4] (st) cu σ Q = (X z 119 27 [x0, x1, x2, x3, x4] (.int (nI 6) :: st) cu σ Q) := by
  rw [x119_25]
  rfl
theorem v119_27 {z : P0} {st : List Value} {cu : Nat × Nat} {Q : Res → Mem → Prop} {K : Nat → Nat × Nat} {I : Nat → Nat → Int32} {R : Nat → Nat → Option Nat} {L : Nat → Nat → Int64} {sz : Nat} {ex : Bool} {x0 x1 x2 x3 x4 : Option Value} {u : Nat} {v : Int32} : X z 119 27 [x0, x1, x2, x3, x4] (.int v :: .ref u :: st) cu (K, I, R, L, sz, ex) Q = (((K u).1 = 20 ∨ (K u).1 = 50) ∧ vp_in v (K u).2 ∧ X z 119 28 [x0, x1, x2, x3, x4] (.int (I u v.toNatClampNeg) :: st) cu (K, I, R, L, sz, ex) Q) := by
  rw [x119_27]
  rfl
theorem v119_28 {z : P0} {st : List Value} {cu : Nat × Nat} {Q : Res → Mem → Prop} {σ : Mem} {x0 x1 x2 x3 x4 : Option Value} {u v : Int32} : X z 119 28 [x0, x1, x2, x3, x4] (.int v :: .int u :: st) cu σ Q = (if u < v then X z 119 31 [x0, x1, x2, x3, x4] (st) cu σ Q else X z 119 75 [x0, x1, x2, x3, x4] (st) cu σ Q) := by
  rw [x119_28]
  obtain ⟨K, I, R, L, sz, ex⟩ := σ
  exact br_ge
theorem v119_31 {z : P0} {st : List Value} {cu : Nat × Nat} {Q : Res → Mem → Prop} {σ : Mem} {x0 x1 x2 x4 : Option Value} {u : Int32} : X z 119 31 [x0, x1, x2, some (.int u), x4] (st) cu σ Q = (X z 119 32 [x0, x1, x2, some (.int u), x4] (.int u :: st) cu σ Q) := by
  rw [x119_31]
  rfl
theorem v119_32 {z : P0} {st : List Value} {cu : Nat × Nat} {Q : Res → Mem → Prop} {σ : Mem} {x0 x1 x2 x3 x4 : Option Value} {u : Int32} : X z 119 32 [x0, x1, x2, x3, x4] (.int u :: st) cu σ Q = (if u = nI 0 then X z 119 67 [x0, x1, x2, x3, x4] (st) cu σ Q else X z 119 35 [x0, x1, x2, x3, x4] (st) cu σ Q) := by
  rw [x119_32]
  rw [nI_0]
  obtain ⟨K, I, R, L, sz, ex⟩ := σ
  exact br_ite
theorem v119_35 {z : P0} {st : List Value} {cu : Nat × Nat} {Q : Res → Mem → Prop} {σ : Mem} {x1 x2 x3 x4 : Option Value} {u : Nat} : X z 119 35 [some (.ref u), x1, x2, x3, x4] (st) cu σ Q = (X z 119 36 [some (.ref u), x1, x2, x3, x4] (.ref u :: st) cu σ Q) := by
  rw [x119_35]
  rfl
theorem v119_36 {z : P0} {st : List Value} {cu : Nat × Nat} {Q : Res → Mem → Prop} {K : Nat → Nat × Nat} {I : Nat → Nat → Int32} {R : Nat → Nat → Option Nat} {L : Nat → Nat → Int64} {sz : Nat} {ex : Bool} {x0 x1 x2 x3 x4 : Option Value} {u : Nat} : X z 119 36 [x0, x1, x2, x3, x4] (.ref u :: st) cu (K, I, R, L, sz, ex) Q = ((K u).1 = 111 ∧ X z 119 39 [x0, x1, x2, x3, x4] (va_rf (R u 6) :: st) cu (K, I, R, L, sz, ex) Q) := by
  rw [x119_36]
  rfl
theorem v119_39 {z : P0} {st : List Value} {cu : Nat × Nat} {Q : Res → Mem → Prop} {σ : Mem} {x0 x2 x3 x4 : Option Value} {u : Int32} : X z 119 39 [x0, some (.int u), x2, x3, x4] (st) cu σ Q = (X z 119 40 [x0, some (.int u), x2, x3, x4] (.int u :: st) cu σ Q) := by
  rw [x119_39]
  rfl
theorem v119_40 {z : P0} {st : List Value} {cu : Nat × Nat} {Q : Res → Mem → Prop} {K : Nat → Nat × Nat} {I : Nat → Nat → Int32} {R : Nat → Nat → Option Nat} {L : Nat → Nat → Int64} {sz : Nat} {ex : Bool} {x0 x1 x2 x3 x4 : Option Value} {u : Nat} {v : Int32} : X z 119 40 [x0, x1, x2, x3, x4] (.int v :: .ref u :: st) cu (K, I, R, L, sz, ex) Q = (((K u).1 = 20 ∨ (K u).1 = 50) ∧ vp_in v (K u).2 ∧ X z 119 41 [x0, x1, x2, x3, x4] (.int (I u v.toNatClampNeg) :: st) cu (K, I, R, L, sz, ex) Q) := by
  rw [x119_40]
  rfl
theorem v119_41 {z : P0} {st : List Value} {cu : Nat × Nat} {Q : Res → Mem → Prop} {σ : Mem} {x0 x1 x2 x3 : Option Value} {u : Int32} : X z 119 41 [x0, x1, x2, x3, some (.int u)] (st) cu σ Q = (X z 119 43 [x0, x1, x2, x3, some (.int u)] (.int u :: st) cu σ Q) := by
  rw [x119_41]
  rfl
theorem v119_43 {z : P0} {st : List Value} {cu : Nat × Nat} {Q : Res → Mem → Prop} {σ : Mem} {x0 x1 x2 x3 x4 : Option Value} {u v : Int32} : X z 119 43 [x0, x1, x2, x3, x4] (.int v :: .int u :: st) cu σ Q = (X z 119 44 [x0, x1, x2, x3, x4] (.int (u >>> (v &&& 31)) :: st) cu σ Q) := by
  rw [x119_43]
  rfl
theorem v119_44 {z : P0} {st : List Value} {cu : Nat × Nat} {Q : Res → Mem → Prop} {σ : Mem} {x0 x1 x2 x3 x4 : Option Value} : X z 119 44 [x0, x1, x2, x3, x4] (st) cu σ Q = (X z 119 45 [x0, x1, x2, x3, x4] (.int (nI 1) :: st) cu σ Q) := by
  rw [x119_44]
  rfl
theorem v119_45 {z : P0} {st : List Value} {cu : Nat × Nat} {Q : Res → Mem → Prop} {σ : Mem} {x0 x1 x2 x3 x4 : Option Value} {u v : Int32} : X z 119 45 [x0, x1, x2, x3, x4] (.int v :: .int u :: st) cu σ Q = (X z 119 46 [x0, x1, x2, x3, x4] (.int (u &&& v) :: st) cu σ Q) := by
  rw [x119_45]
  rfl
theorem v119_46 {z : P0} {st : List Value} {cu : Nat × Nat} {Q : Res → Mem → Prop} {σ : Mem} {x0 x1 x2 x3 x4 : Option Value} {u : Int32} : X z 119 46 [x0, x1, x2, x3, x4] (.int u :: st) cu σ Q = (if u = nI 0 then X z 119 63 [x0, x1, x2, x3, x4] (st) cu σ Q else X z 119 49 [x0, x1, x2, x3, x4] (st) cu σ Q) := by
  rw [x119_46]
  rw [nI_0]
  obtain ⟨K, I, R, L, sz, ex⟩ := σ
  exact br_ite
theorem v119_49 {z : P0} {st : List Value} {cu : Nat × Nat} {Q : Res → Mem → Prop} {σ : Mem} {x1 x2 x3 x4 : Option Value} {u : Nat} : X z 119 49 [some (.ref u), x1, x2, x3, x4] (st) cu σ Q = (X z 119 50 [some (.ref u), x1, x2, x3, x4] (.ref u :: st) cu σ Q) := by
  rw [x119_49]
  rfl
theorem v119_50 {z : P0} {st : List Value} {cu : Nat × Nat} {Q : Res → Mem → Prop} {K : Nat → Nat × Nat} {I : Nat → Nat → Int32} {R : Nat → Nat → Option Nat} {L : Nat → Nat → Int64} {sz : Nat} {ex : Bool} {x0 x1 x2 x3 x4 : Option Value} {u : Nat} : X z 119 50 [x0, x1, x2, x3, x4] (.ref u :: st) cu (K, I, R, L, sz, ex) Q = ((K u).1 = 111 ∧ X z 119 53 [x0, x1, x2, x3, x4] (va_rf (R u 0) :: st) cu (K, I, R, L, sz, ex) Q) := by
  rw [x119_50]
  rfl
theorem v119_53 {z : P0} {st : List Value} {cu : Nat × Nat} {Q : Res → Mem → Prop} {σ : Mem} {x0 x1 x2 x3 x4 : Option Value} : X z 119 53 [x0, x1, x2, x3, x4] (st) cu σ Q = (X z 119 55 [x0, x1, x2, x3, x4] (.int (nI 33) :: st) cu σ Q) := by
  rw [x119_53]
  rfl
theorem v119_55 {z : P0} {st : List Value} {cu : Nat × Nat} {Q : Res → Mem → Prop} {σ : Mem} {x0 x1 x2 x3 : Option Value} {u : Int32} : X z 119 55 [x0, x1, x2, x3, some (.int u)] (st) cu σ Q = (X z 119 57 [x0, x1, x2, x3, some (.int u)] (.int u :: st) cu σ Q) := by
  rw [x119_55]
  rfl
theorem v119_57 {z : P0} {st : List Value} {cu : Nat × Nat} {Q : Res → Mem → Prop} {σ : Mem} {x0 x1 x2 x3 x4 : Option Value} {u v : Int32} : X z 119 57 [x0, x1, x2, x3, x4] (.int v :: .int u :: st) cu σ Q = (X z 119 58 [x0, x1, x2, x3, x4] (.int (u + v) :: st) cu σ Q) := by
  rw [x119_57]
  rfl
theorem v119_58 {z : P0} {st : List Value} {cu : Nat × Nat} {Q : Res → Mem → Prop} {K : Nat → Nat × Nat} {I : Nat → Nat → Int32} {R : Nat → Nat → Option Nat} {L : Nat → Nat → Int64} {sz : Nat} {ex : Bool} {x0 x1 x2 x3 x4 : Option Value} {u : Nat} {v : Int32} : X z 119 58 [x0, x1, x2, x3, x4] (.int v :: .ref u :: st) cu (K, I, R, L, sz, ex) Q = (((K u).1 = 20 ∨ (K u).1 = 50) ∧ vp_in v (K u).2 ∧ X z 119 59 [x0, x1, x2, x3, x4] (.int (I u v.toNatClampNeg) :: st) cu (K, I, R, L, sz, ex) Q) := by
  rw [x119_58]
  rfl
theorem v119_59 {z : P0} {st : List Value} {cu : Nat × Nat} {Q : Res → Mem → Prop} {σ : Mem} {x0 x1 x3 x4 : Option Value} {u : Int32} : X z 119 59 [x0, x1, some (.int u), x3, x4] (st) cu σ Q = (X z 119 60 [x0, x1, some (.int u), x3, x4] (.int u :: st) cu σ Q) := by
  rw [x119_59]
  rfl
theorem v119_60 {z : P0} {st : List Value} {cu : Nat × Nat} {Q : Res → Mem → Prop} {σ : Mem} {x0 x1 x2 x3 x4 : Option Value} {u v : Int32} : X z 119 60 [x0, x1, x2, x3, x4] (.int v :: .int u :: st) cu σ Q = (if u = v then X z 119 63 [x0, x1, x2, x3, x4] (st) cu σ Q else X z 119 67 [x0, x1, x2, x3, x4] (st) cu σ Q) := by
  rw [x119_60]
  obtain ⟨K, I, R, L, sz, ex⟩ := σ
  exact br_ne
theorem v119_63 {z : P0} {st : List Value} {cu : Nat × Nat} {Q : Res → Mem → Prop} {σ : Mem} {x0 x1 x2 x3 x4 : Option Value} : X z 119 63 [x0, x1, x2, x3, x4] (st) cu σ Q = (X z 119 64 [x0, x1, x2, x3, x4] (.int (nI 1) :: st) cu σ Q) := by
  rw [x119_63]
  rfl
theorem v119_64 {z : P0} {st : List Value} {cu : Nat × Nat} {Q : Res → Mem → Prop} {σ : Mem} {x0 x1 x2 x3 x4 : Option Value} : X z 119 64 [x0, x1, x2, x3, x4] (st) cu σ Q = (X z 119 68 [x0, x1, x2, x3, x4] (st) cu σ Q) := by
  rw [x119_64]
  rfl
theorem v119_67 {z : P0} {st : List Value} {cu : Nat × Nat} {Q : Res → Mem → Prop} {σ : Mem} {x0 x1 x2 x3 x4 : Option Value} : X z 119 67 [x0, x1, x2, x3, x4] (st) cu σ Q = (X z 119 68 [x0, x1, x2, x3, x4] (.int (nI 0) :: st) cu σ Q) := by
  rw [x119_67]
  rfl
theorem v119_68 {z : P0} {st : List Value} {cu : Nat × Nat} {Q : Res → Mem → Prop} {σ : Mem} {x0 x1 x2 x3 x4 : Option Value} {u : Int32} : X z 119 68 [x0, x1, x2, x3, x4] (.int u :: st) cu σ Q = (cat2 x2 = false ∧ X z 119 69 [x0, x1, x2, some (.int u), x4] (st) cu σ Q) := by
  rw [x119_68]
  obtain ⟨K, I, R, L, sz, ex⟩ := σ
  exact i_istore_n.trans sl_3
theorem v119_69 {z : P0} {st : List Value} {cu : Nat × Nat} {Q : Res → Mem → Prop} {σ : Mem} {x0 x1 x2 x3 : Option Value} {u : Int32} : X z 119 69 [x0, x1, x2, x3, some (.int u)] (st) cu σ Q = (cat2 x3 = false ∧ X z 119 72 [x0, x1, x2, x3, some (.int (u + nI 1))] (st) cu σ Q) := by
  rw [x119_69]
  obtain ⟨K, I, R, L, sz, ex⟩ := σ
  exact i_iinc.trans (gl_4.trans (ldI_i.trans sl_4))
theorem v119_72 {z : P0} {st : List Value} {cu : Nat × Nat} {Q : Res → Mem → Prop} {σ : Mem} {x0 x1 x2 x3 x4 : Option Value} : X z 119 72 [x0, x1, x2, x3, x4] (st) cu σ Q = (X z 119 19 [x0, x1, x2, x3, x4] (st) cu σ Q) := by
  rw [x119_72]
  rfl
theorem v119_75 {z : P0} {st : List Value} {cu : Nat × Nat} {Q : Res → Mem → Prop} {σ : Mem} {x0 x1 x2 x4 : Option Value} {u : Int32} : X z 119 75 [x0, x1, x2, some (.int u), x4] (st) cu σ Q = (X z 119 76 [x0, x1, x2, some (.int u), x4] (.int u :: st) cu σ Q) := by
  rw [x119_75]
  rfl
theorem v119_76 {z : P0} {st : List Value} {cu : Nat × Nat} {Q : Res → Mem → Prop} {σ : Mem} {x0 x1 x2 x3 x4 : Option Value} {u : Int32} : X z 119 76 [x0, x1, x2, x3, x4] (.int u :: st) cu σ Q = (if u = nI 0 then X z 119 79 [x0, x1, x2, x3, x4] (st) cu σ Q else X z 119 98 [x0, x1, x2, x3, x4] (st) cu σ Q) := by
  rw [x119_76]
  rw [nI_0]
  obtain ⟨K, I, R, L, sz, ex⟩ := σ
  exact br_ne
theorem v119_79 {z : P0} {st : List Value} {cu : Nat × Nat} {Q : Res → Mem → Prop} {σ : Mem} {x1 x2 x3 x4 : Option Value} {u : Nat} : X z 119 79 [some (.ref u), x1, x2, x3, x4] (st) cu σ Q = (X z 119 80 [some (.ref u), x1, x2, x3, x4] (.ref u :: st) cu σ Q) := by
  rw [x119_79]
  rfl
theorem v119_80 {z : P0} {st : List Value} {cu : Nat × Nat} {Q : Res → Mem → Prop} {σ : Mem} {x0 x1 x2 x3 x4 : Option Value} : X z 119 80 [x0, x1, x2, x3, x4] (st) cu σ Q = (X z 119 82 [x0, x1, x2, x3, x4] (.int (nI 97) :: st) cu σ Q) := by
  rw [x119_80]
  rfl
theorem u119_82 {z : P0} {ls : Lcs} {st : List Value} {K : Nat → Nat × Nat} {I : Nat → Nat → Int32} {R : Nat → Nat → Option Nat} {L : Nat → Nat → Int64} {sz : Nat} {ex : Bool} {Q : Res → Mem → Prop} {x : Nat} {a0 : Int32} : X z 119 82 ls (.int a0 :: .ref x :: st) (0, 0) (K, I, R, L, sz, ex) Q = ((K x).1 = 111 ∧ wsum st ≤ 8 ∧ X z 116 0 [some (.ref x), some (.int a0)] [] (0, 0) (K, I, R, L, sz, ex) (aftr (X z) mT 119 82 ls st (0, 0) Q)) := v119_82 (c := 0) (n := 0)
theorem v119_85 {z : P0} {st : List Value} {cu : Nat × Nat} {Q : Res → Mem → Prop} {σ : Mem} {x1 x2 x3 x4 : Option Value} {u : Nat} : X z 119 85 [some (.ref u), x1, x2, x3, x4] (st) cu σ Q = (X z 119 86 [some (.ref u), x1, x2, x3, x4] (.ref u :: st) cu σ Q) := by
  rw [x119_85]
  rfl
theorem v119_86 {z : P0} {st : List Value} {cu : Nat × Nat} {Q : Res → Mem → Prop} {σ : Mem} {x0 x1 x2 x3 x4 : Option Value} : X z 119 86 [x0, x1, x2, x3, x4] (st) cu σ Q = (X z 119 88 [x0, x1, x2, x3, x4] (.int (nI 108) :: st) cu σ Q) := by
  rw [x119_86]
  rfl
theorem u119_88 {z : P0} {ls : Lcs} {st : List Value} {K : Nat → Nat × Nat} {I : Nat → Nat → Int32} {R : Nat → Nat → Option Nat} {L : Nat → Nat → Int64} {sz : Nat} {ex : Bool} {Q : Res → Mem → Prop} {x : Nat} {a0 : Int32} : X z 119 88 ls (.int a0 :: .ref x :: st) (0, 0) (K, I, R, L, sz, ex) Q = ((K x).1 = 111 ∧ wsum st ≤ 8 ∧ X z 116 0 [some (.ref x), some (.int a0)] [] (0, 0) (K, I, R, L, sz, ex) (aftr (X z) mT 119 88 ls st (0, 0) Q)) := v119_88 (c := 0) (n := 0)
theorem v119_91 {z : P0} {st : List Value} {cu : Nat × Nat} {Q : Res → Mem → Prop} {σ : Mem} {x1 x2 x3 x4 : Option Value} {u : Nat} : X z 119 91 [some (.ref u), x1, x2, x3, x4] (st) cu σ Q = (X z 119 92 [some (.ref u), x1, x2, x3, x4] (.ref u :: st) cu σ Q) := by
  rw [x119_91]
  rfl
theorem v119_92 {z : P0} {st : List Value} {cu : Nat × Nat} {Q : Res → Mem → Prop} {σ : Mem} {x0 x1 x2 x3 x4 : Option Value} : X z 119 92 [x0, x1, x2, x3, x4] (st) cu σ Q = (X z 119 94 [x0, x1, x2, x3, x4] (.int (nI 108) :: st) cu σ Q) := by
  rw [x119_92]
  rfl
theorem u119_94 {z : P0} {ls : Lcs} {st : List Value} {K : Nat → Nat × Nat} {I : Nat → Nat → Int32} {R : Nat → Nat → Option Nat} {L : Nat → Nat → Int64} {sz : Nat} {ex : Bool} {Q : Res → Mem → Prop} {x : Nat} {a0 : Int32} : X z 119 94 ls (.int a0 :: .ref x :: st) (0, 0) (K, I, R, L, sz, ex) Q = ((K x).1 = 111 ∧ wsum st ≤ 8 ∧ X z 116 0 [some (.ref x), some (.int a0)] [] (0, 0) (K, I, R, L, sz, ex) (aftr (X z) mT 119 94 ls st (0, 0) Q)) := v119_94 (c := 0) (n := 0)
theorem v119_97 {z : P0} {cu : Nat × Nat} {Q : Res → Mem → Prop} {σ : Mem} {x0 x1 x2 x3 x4 : Option Value} : X z 119 97 [x0, x1, x2, x3, x4] ([]) cu σ Q = (Q (.inl none) σ) := by
  rw [x119_97]
  rfl
theorem v119_98 {z : P0} {st : List Value} {cu : Nat × Nat} {Q : Res → Mem → Prop} {σ : Mem} {x1 x2 x3 x4 : Option Value} {u : Nat} : X z 119 98 [some (.ref u), x1, x2, x3, x4] (st) cu σ Q = (X z 119 99 [some (.ref u), x1, x2, x3, x4] (.ref u :: st) cu σ Q) := by
  rw [x119_98]
  rfl
theorem v119_99 {z : P0} {st : List Value} {cu : Nat × Nat} {Q : Res → Mem → Prop} {σ : Mem} {x0 x1 x3 x4 : Option Value} {u : Int32} : X z 119 99 [x0, x1, some (.int u), x3, x4] (st) cu σ Q = (X z 119 100 [x0, x1, some (.int u), x3, x4] (.int u :: st) cu σ Q) := by
  rw [x119_99]
  rfl
theorem v119_100 {z : P0} {st : List Value} {cu : Nat × Nat} {Q : Res → Mem → Prop} {σ : Mem} {x0 x1 x2 x3 x4 : Option Value} {u : Int32} : X z 119 100 [x0, x1, x2, x3, x4] (.int u :: st) cu σ Q = (if u = nI 0 then X z 119 103 [x0, x1, x2, x3, x4] (st) cu σ Q else X z 119 108 [x0, x1, x2, x3, x4] (st) cu σ Q) := by
  rw [x119_100]
  rw [nI_0]
  obtain ⟨K, I, R, L, sz, ex⟩ := σ
  exact br_ne
theorem v119_103 {z : P0} {st : List Value} {cu : Nat × Nat} {Q : Res → Mem → Prop} {σ : Mem} {x0 x1 x2 x3 x4 : Option Value} : X z 119 103 [x0, x1, x2, x3, x4] (st) cu σ Q = (X z 119 105 [x0, x1, x2, x3, x4] (.int (nI 102) :: st) cu σ Q) := by
  rw [x119_103]
  rfl
theorem v119_105 {z : P0} {st : List Value} {cu : Nat × Nat} {Q : Res → Mem → Prop} {σ : Mem} {x0 x1 x2 x3 x4 : Option Value} : X z 119 105 [x0, x1, x2, x3, x4] (st) cu σ Q = (X z 119 120 [x0, x1, x2, x3, x4] (st) cu σ Q) := by
  rw [x119_105]
  rfl
theorem v119_108 {z : P0} {st : List Value} {cu : Nat × Nat} {Q : Res → Mem → Prop} {σ : Mem} {x0 x1 x3 x4 : Option Value} {u : Int32} : X z 119 108 [x0, x1, some (.int u), x3, x4] (st) cu σ Q = (X z 119 109 [x0, x1, some (.int u), x3, x4] (.int u :: st) cu σ Q) := by
  rw [x119_108]
  rfl
theorem v119_109 {z : P0} {st : List Value} {cu : Nat × Nat} {Q : Res → Mem → Prop} {σ : Mem} {x0 x1 x2 x3 x4 : Option Value} : X z 119 109 [x0, x1, x2, x3, x4] (st) cu σ Q = (X z 119 110 [x0, x1, x2, x3, x4] (.int (nI 1) :: st) cu σ Q) := by
  rw [x119_109]
  rfl
theorem v119_110 {z : P0} {st : List Value} {cu : Nat × Nat} {Q : Res → Mem → Prop} {σ : Mem} {x0 x1 x2 x3 x4 : Option Value} {u v : Int32} : X z 119 110 [x0, x1, x2, x3, x4] (.int v :: .int u :: st) cu σ Q = (if u = v then X z 119 113 [x0, x1, x2, x3, x4] (st) cu σ Q else X z 119 118 [x0, x1, x2, x3, x4] (st) cu σ Q) := by
  rw [x119_110]
  obtain ⟨K, I, R, L, sz, ex⟩ := σ
  exact br_ne
theorem v119_113 {z : P0} {st : List Value} {cu : Nat × Nat} {Q : Res → Mem → Prop} {σ : Mem} {x0 x1 x2 x3 x4 : Option Value} : X z 119 113 [x0, x1, x2, x3, x4] (st) cu σ Q = (X z 119 115 [x0, x1, x2, x3, x4] (.int (nI 109) :: st) cu σ Q) := by
  rw [x119_113]
  rfl
theorem v119_115 {z : P0} {st : List Value} {cu : Nat × Nat} {Q : Res → Mem → Prop} {σ : Mem} {x0 x1 x2 x3 x4 : Option Value} : X z 119 115 [x0, x1, x2, x3, x4] (st) cu σ Q = (X z 119 120 [x0, x1, x2, x3, x4] (st) cu σ Q) := by
  rw [x119_115]
  rfl
theorem v119_118 {z : P0} {st : List Value} {cu : Nat × Nat} {Q : Res → Mem → Prop} {σ : Mem} {x0 x1 x2 x3 x4 : Option Value} : X z 119 118 [x0, x1, x2, x3, x4] (st) cu σ Q = (X z 119 120 [x0, x1, x2, x3, x4] (.int (nI 120) :: st) cu σ Q) := by
  rw [x119_118]
  rfl
theorem u119_120 {z : P0} {ls : Lcs} {st : List Value} {K : Nat → Nat × Nat} {I : Nat → Nat → Int32} {R : Nat → Nat → Option Nat} {L : Nat → Nat → Int64} {sz : Nat} {ex : Bool} {Q : Res → Mem → Prop} {x : Nat} {a0 : Int32} : X z 119 120 ls (.int a0 :: .ref x :: st) (0, 0) (K, I, R, L, sz, ex) Q = ((K x).1 = 111 ∧ wsum st ≤ 8 ∧ X z 116 0 [some (.ref x), some (.int a0)] [] (0, 0) (K, I, R, L, sz, ex) (aftr (X z) mT 119 120 ls st (0, 0) Q)) := v119_120 (c := 0) (n := 0)
theorem v119_123 {z : P0} {st : List Value} {cu : Nat × Nat} {Q : Res → Mem → Prop} {σ : Mem} {x1 x2 x3 x4 : Option Value} {u : Nat} : X z 119 123 [some (.ref u), x1, x2, x3, x4] (st) cu σ Q = (X z 119 124 [some (.ref u), x1, x2, x3, x4] (.ref u :: st) cu σ Q) := by
  rw [x119_123]
  rfl
theorem v119_124 {z : P0} {st : List Value} {cu : Nat × Nat} {Q : Res → Mem → Prop} {K : Nat → Nat × Nat} {I : Nat → Nat → Int32} {R : Nat → Nat → Option Nat} {L : Nat → Nat → Int64} {sz : Nat} {ex : Bool} {x0 x1 x2 x3 x4 : Option Value} {u : Nat} : X z 119 124 [x0, x1, x2, x3, x4] (.ref u :: st) cu (K, I, R, L, sz, ex) Q = ((K u).1 = 111 ∧ X z 119 127 [x0, x1, x2, x3, x4] (va_rf (R u 7) :: st) cu (K, I, R, L, sz, ex) Q) := by
  rw [x119_124]
  rfl
theorem v119_127 {z : P0} {st : List Value} {cu : Nat × Nat} {Q : Res → Mem → Prop} {σ : Mem} {x0 x2 x3 x4 : Option Value} {u : Int32} : X z 119 127 [x0, some (.int u), x2, x3, x4] (st) cu σ Q = (X z 119 128 [x0, some (.int u), x2, x3, x4] (.int u :: st) cu σ Q) := by
  rw [x119_127]
  rfl
theorem v119_128 {z : P0} {st : List Value} {cu : Nat × Nat} {Q : Res → Mem → Prop} {K : Nat → Nat × Nat} {I : Nat → Nat → Int32} {R : Nat → Nat → Option Nat} {L : Nat → Nat → Int64} {sz : Nat} {ex : Bool} {x0 x1 x2 x3 x4 : Option Value} {u : Nat} {v : Int32} : X z 119 128 [x0, x1, x2, x3, x4] (.int v :: .ref u :: st) cu (K, I, R, L, sz, ex) Q = (((K u).1 = 20 ∨ (K u).1 = 50) ∧ vp_in v (K u).2 ∧ X z 119 129 [x0, x1, x2, x3, x4] (.int (I u v.toNatClampNeg) :: st) cu (K, I, R, L, sz, ex) Q) := by
  rw [x119_128]
  rfl
theorem v119_129 {z : P0} {st : List Value} {cu : Nat × Nat} {Q : Res → Mem → Prop} {σ : Mem} {x0 x1 x2 x3 x4 : Option Value} : X z 119 129 [x0, x1, x2, x3, x4] (st) cu σ Q = (X z 119 130 [x0, x1, x2, x3, x4] (.int (nI 1) :: st) cu σ Q) := by
  rw [x119_129]
  rfl
theorem v119_130 {z : P0} {st : List Value} {cu : Nat × Nat} {Q : Res → Mem → Prop} {σ : Mem} {x0 x1 x2 x3 x4 : Option Value} {u v : Int32} : X z 119 130 [x0, x1, x2, x3, x4] (.int v :: .int u :: st) cu σ Q = (if v < u then X z 119 133 [x0, x1, x2, x3, x4] (st) cu σ Q else X z 119 139 [x0, x1, x2, x3, x4] (st) cu σ Q) := by
  rw [x119_130]
  obtain ⟨K, I, R, L, sz, ex⟩ := σ
  exact br_ge
theorem v119_133 {z : P0} {st : List Value} {cu : Nat × Nat} {Q : Res → Mem → Prop} {σ : Mem} {x1 x2 x3 x4 : Option Value} {u : Nat} : X z 119 133 [some (.ref u), x1, x2, x3, x4] (st) cu σ Q = (X z 119 134 [some (.ref u), x1, x2, x3, x4] (.ref u :: st) cu σ Q) := by
  rw [x119_133]
  rfl
theorem v119_134 {z : P0} {st : List Value} {cu : Nat × Nat} {Q : Res → Mem → Prop} {σ : Mem} {x0 x1 x2 x3 x4 : Option Value} : X z 119 134 [x0, x1, x2, x3, x4] (st) cu σ Q = (X z 119 136 [x0, x1, x2, x3, x4] (.int (nI 115) :: st) cu σ Q) := by
  rw [x119_134]
  rfl
theorem u119_136 {z : P0} {ls : Lcs} {st : List Value} {K : Nat → Nat × Nat} {I : Nat → Nat → Int32} {R : Nat → Nat → Option Nat} {L : Nat → Nat → Int64} {sz : Nat} {ex : Bool} {Q : Res → Mem → Prop} {x : Nat} {a0 : Int32} : X z 119 136 ls (.int a0 :: .ref x :: st) (0, 0) (K, I, R, L, sz, ex) Q = ((K x).1 = 111 ∧ wsum st ≤ 8 ∧ X z 116 0 [some (.ref x), some (.int a0)] [] (0, 0) (K, I, R, L, sz, ex) (aftr (X z) mT 119 136 ls st (0, 0) Q)) := v119_136 (c := 0) (n := 0)
theorem v119_139 {z : P0} {cu : Nat × Nat} {Q : Res → Mem → Prop} {σ : Mem} {x0 x1 x2 x3 x4 : Option Value} : X z 119 139 [x0, x1, x2, x3, x4] ([]) cu σ Q = (Q (.inl none) σ) := by
  rw [x119_139]
  rfl
theorem v120_0 {z : P0} {st : List Value} {cu : Nat × Nat} {Q : Res → Mem → Prop} {σ : Mem} {x1 x2 x3 : Option Value} {u : Nat} : X z 120 0 [some (.ref u), x1, x2, x3] (st) cu σ Q = (X z 120 1 [some (.ref u), x1, x2, x3] (.ref u :: st) cu σ Q) := by
  rw [x120_0]
  rfl
theorem v120_1 {z : P0} {st : List Value} {cu : Nat × Nat} {Q : Res → Mem → Prop} {K : Nat → Nat × Nat} {I : Nat → Nat → Int32} {R : Nat → Nat → Option Nat} {L : Nat → Nat → Int64} {sz : Nat} {ex : Bool} {x0 x1 x2 x3 : Option Value} {u : Nat} : X z 120 1 [x0, x1, x2, x3] (.ref u :: st) cu (K, I, R, L, sz, ex) Q = ((K u).1 = 111 ∧ X z 120 4 [x0, x1, x2, x3] (va_rf (R u 0) :: st) cu (K, I, R, L, sz, ex) Q) := by
  rw [x120_1]
  rfl
theorem v120_4 {z : P0} {st : List Value} {cu : Nat × Nat} {Q : Res → Mem → Prop} {σ : Mem} {x0 x1 x2 x3 : Option Value} : X z 120 4 [x0, x1, x2, x3] (st) cu σ Q = (X z 120 7 [x0, x1, x2, x3] (.int (nI 333) :: st) cu σ Q) := by
  rw [x120_4]
  rfl
theorem v120_7 {z : P0} {st : List Value} {cu : Nat × Nat} {Q : Res → Mem → Prop} {σ : Mem} {x0 x1 x2 x3 : Option Value} : X z 120 7 [x0, x1, x2, x3] (st) cu σ Q = (X z 120 9 [x0, x1, x2, x3] (.int (nI 8) :: st) cu σ Q) := by
  rw [x120_7]
  rfl
theorem v120_9 {z : P0} {st : List Value} {cu : Nat × Nat} {Q : Res → Mem → Prop} {σ : Mem} {x0 x2 x3 : Option Value} {u : Int32} : X z 120 9 [x0, some (.int u), x2, x3] (st) cu σ Q = (X z 120 10 [x0, some (.int u), x2, x3] (.int u :: st) cu σ Q) := by
  rw [x120_9]
  rfl
theorem v120_10 {z : P0} {st : List Value} {cu : Nat × Nat} {Q : Res → Mem → Prop} {σ : Mem} {x0 x1 x2 x3 : Option Value} {u v : Int32} : X z 120 10 [x0, x1, x2, x3] (.int v :: .int u :: st) cu σ Q = (X z 120 11 [x0, x1, x2, x3] (.int (u * v) :: st) cu σ Q) := by
  rw [x120_10]
  rfl
theorem v120_11 {z : P0} {st : List Value} {cu : Nat × Nat} {Q : Res → Mem → Prop} {σ : Mem} {x0 x1 x2 x3 : Option Value} {u v : Int32} : X z 120 11 [x0, x1, x2, x3] (.int v :: .int u :: st) cu σ Q = (X z 120 12 [x0, x1, x2, x3] (.int (u + v) :: st) cu σ Q) := by
  rw [x120_11]
  rfl
theorem v120_12 {z : P0} {st : List Value} {cu : Nat × Nat} {Q : Res → Mem → Prop} {K : Nat → Nat × Nat} {I : Nat → Nat → Int32} {R : Nat → Nat → Option Nat} {L : Nat → Nat → Int64} {sz : Nat} {ex : Bool} {x0 x1 x2 x3 : Option Value} {u : Nat} {v : Int32} : X z 120 12 [x0, x1, x2, x3] (.int v :: .ref u :: st) cu (K, I, R, L, sz, ex) Q = (((K u).1 = 20 ∨ (K u).1 = 50) ∧ vp_in v (K u).2 ∧ X z 120 13 [x0, x1, x2, x3] (.int (I u v.toNatClampNeg) :: st) cu (K, I, R, L, sz, ex) Q) := by
  rw [x120_12]
  rfl
theorem v120_13 {z : P0} {st : List Value} {cu : Nat × Nat} {Q : Res → Mem → Prop} {σ : Mem} {x0 x1 x2 x3 : Option Value} {u : Int32} : X z 120 13 [x0, x1, x2, x3] (.int u :: st) cu σ Q = (cat2 x1 = false ∧ X z 120 14 [x0, x1, some (.int u), x3] (st) cu σ Q) := by
  rw [x120_13]
  obtain ⟨K, I, R, L, sz, ex⟩ := σ
  exact i_istore_n.trans sl_2
theorem v120_14 {z : P0} {st : List Value} {cu : Nat × Nat} {Q : Res → Mem → Prop} {σ : Mem} {x0 x1 x3 : Option Value} {u : Int32} : X z 120 14 [x0, x1, some (.int u), x3] (st) cu σ Q = (X z 120 15 [x0, x1, some (.int u), x3] (.int u :: st) cu σ Q) := by
  rw [x120_14]
  rfl
theorem v120_15 {z : P0} {st : List Value} {cu : Nat × Nat} {Q : Res → Mem → Prop} {σ : Mem} {x0 x1 x2 x3 : Option Value} : X z 120 15 [x0, x1, x2, x3] (st) cu σ Q = (X z 120 17 [x0, x1, x2, x3] (.int (nI 97) :: st) cu σ Q) := by
  rw [x120_15]
  rfl
theorem v120_17 {z : P0} {st : List Value} {cu : Nat × Nat} {Q : Res → Mem → Prop} {σ : Mem} {x0 x1 x2 x3 : Option Value} {u v : Int32} : X z 120 17 [x0, x1, x2, x3] (.int v :: .int u :: st) cu σ Q = (if u = v then X z 120 44 [x0, x1, x2, x3] (st) cu σ Q else X z 120 20 [x0, x1, x2, x3] (st) cu σ Q) := by
  rw [x120_17]
  obtain ⟨K, I, R, L, sz, ex⟩ := σ
  exact br_ite
theorem v120_20 {z : P0} {st : List Value} {cu : Nat × Nat} {Q : Res → Mem → Prop} {σ : Mem} {x0 x1 x3 : Option Value} {u : Int32} : X z 120 20 [x0, x1, some (.int u), x3] (st) cu σ Q = (X z 120 21 [x0, x1, some (.int u), x3] (.int u :: st) cu σ Q) := by
  rw [x120_20]
  rfl
theorem v120_21 {z : P0} {st : List Value} {cu : Nat × Nat} {Q : Res → Mem → Prop} {σ : Mem} {x0 x1 x2 x3 : Option Value} : X z 120 21 [x0, x1, x2, x3] (st) cu σ Q = (X z 120 23 [x0, x1, x2, x3] (.int (nI 101) :: st) cu σ Q) := by
  rw [x120_21]
  rfl
theorem v120_23 {z : P0} {st : List Value} {cu : Nat × Nat} {Q : Res → Mem → Prop} {σ : Mem} {x0 x1 x2 x3 : Option Value} {u v : Int32} : X z 120 23 [x0, x1, x2, x3] (.int v :: .int u :: st) cu σ Q = (if u = v then X z 120 44 [x0, x1, x2, x3] (st) cu σ Q else X z 120 26 [x0, x1, x2, x3] (st) cu σ Q) := by
  rw [x120_23]
  obtain ⟨K, I, R, L, sz, ex⟩ := σ
  exact br_ite
theorem v120_26 {z : P0} {st : List Value} {cu : Nat × Nat} {Q : Res → Mem → Prop} {σ : Mem} {x0 x1 x3 : Option Value} {u : Int32} : X z 120 26 [x0, x1, some (.int u), x3] (st) cu σ Q = (X z 120 27 [x0, x1, some (.int u), x3] (.int u :: st) cu σ Q) := by
  rw [x120_26]
  rfl
theorem v120_27 {z : P0} {st : List Value} {cu : Nat × Nat} {Q : Res → Mem → Prop} {σ : Mem} {x0 x1 x2 x3 : Option Value} : X z 120 27 [x0, x1, x2, x3] (st) cu σ Q = (X z 120 29 [x0, x1, x2, x3] (.int (nI 105) :: st) cu σ Q) := by
  rw [x120_27]
  rfl
theorem v120_29 {z : P0} {st : List Value} {cu : Nat × Nat} {Q : Res → Mem → Prop} {σ : Mem} {x0 x1 x2 x3 : Option Value} {u v : Int32} : X z 120 29 [x0, x1, x2, x3] (.int v :: .int u :: st) cu σ Q = (if u = v then X z 120 44 [x0, x1, x2, x3] (st) cu σ Q else X z 120 32 [x0, x1, x2, x3] (st) cu σ Q) := by
  rw [x120_29]
  obtain ⟨K, I, R, L, sz, ex⟩ := σ
  exact br_ite
theorem v120_32 {z : P0} {st : List Value} {cu : Nat × Nat} {Q : Res → Mem → Prop} {σ : Mem} {x0 x1 x3 : Option Value} {u : Int32} : X z 120 32 [x0, x1, some (.int u), x3] (st) cu σ Q = (X z 120 33 [x0, x1, some (.int u), x3] (.int u :: st) cu σ Q) := by
  rw [x120_32]
  rfl
theorem v120_33 {z : P0} {st : List Value} {cu : Nat × Nat} {Q : Res → Mem → Prop} {σ : Mem} {x0 x1 x2 x3 : Option Value} : X z 120 33 [x0, x1, x2, x3] (st) cu σ Q = (X z 120 35 [x0, x1, x2, x3] (.int (nI 111) :: st) cu σ Q) := by
  rw [x120_33]
  rfl
theorem v120_35 {z : P0} {st : List Value} {cu : Nat × Nat} {Q : Res → Mem → Prop} {σ : Mem} {x0 x1 x2 x3 : Option Value} {u v : Int32} : X z 120 35 [x0, x1, x2, x3] (.int v :: .int u :: st) cu σ Q = (if u = v then X z 120 44 [x0, x1, x2, x3] (st) cu σ Q else X z 120 38 [x0, x1, x2, x3] (st) cu σ Q) := by
  rw [x120_35]
  obtain ⟨K, I, R, L, sz, ex⟩ := σ
  exact br_ite
theorem v120_38 {z : P0} {st : List Value} {cu : Nat × Nat} {Q : Res → Mem → Prop} {σ : Mem} {x0 x1 x3 : Option Value} {u : Int32} : X z 120 38 [x0, x1, some (.int u), x3] (st) cu σ Q = (X z 120 39 [x0, x1, some (.int u), x3] (.int u :: st) cu σ Q) := by
  rw [x120_38]
  rfl
theorem v120_39 {z : P0} {st : List Value} {cu : Nat × Nat} {Q : Res → Mem → Prop} {σ : Mem} {x0 x1 x2 x3 : Option Value} : X z 120 39 [x0, x1, x2, x3] (st) cu σ Q = (X z 120 41 [x0, x1, x2, x3] (.int (nI 117) :: st) cu σ Q) := by
  rw [x120_39]
  rfl
theorem v120_41 {z : P0} {st : List Value} {cu : Nat × Nat} {Q : Res → Mem → Prop} {σ : Mem} {x0 x1 x2 x3 : Option Value} {u v : Int32} : X z 120 41 [x0, x1, x2, x3] (.int v :: .int u :: st) cu σ Q = (if u = v then X z 120 44 [x0, x1, x2, x3] (st) cu σ Q else X z 120 48 [x0, x1, x2, x3] (st) cu σ Q) := by
  rw [x120_41]
  obtain ⟨K, I, R, L, sz, ex⟩ := σ
  exact br_ne
theorem v120_44 {z : P0} {st : List Value} {cu : Nat × Nat} {Q : Res → Mem → Prop} {σ : Mem} {x0 x1 x2 x3 : Option Value} : X z 120 44 [x0, x1, x2, x3] (st) cu σ Q = (X z 120 45 [x0, x1, x2, x3] (.int (nI 1) :: st) cu σ Q) := by
  rw [x120_44]
  rfl
theorem v120_45 {z : P0} {st : List Value} {cu : Nat × Nat} {Q : Res → Mem → Prop} {σ : Mem} {x0 x1 x2 x3 : Option Value} : X z 120 45 [x0, x1, x2, x3] (st) cu σ Q = (X z 120 49 [x0, x1, x2, x3] (st) cu σ Q) := by
  rw [x120_45]
  rfl
theorem v120_48 {z : P0} {st : List Value} {cu : Nat × Nat} {Q : Res → Mem → Prop} {σ : Mem} {x0 x1 x2 x3 : Option Value} : X z 120 48 [x0, x1, x2, x3] (st) cu σ Q = (X z 120 49 [x0, x1, x2, x3] (.int (nI 0) :: st) cu σ Q) := by
  rw [x120_48]
  rfl
theorem v120_49 {z : P0} {st : List Value} {cu : Nat × Nat} {Q : Res → Mem → Prop} {σ : Mem} {x0 x1 x2 x3 : Option Value} {u : Int32} : X z 120 49 [x0, x1, x2, x3] (.int u :: st) cu σ Q = (cat2 x2 = false ∧ X z 120 50 [x0, x1, x2, some (.int u)] (st) cu σ Q) := by
  rw [x120_49]
  obtain ⟨K, I, R, L, sz, ex⟩ := σ
  exact i_istore_n.trans sl_3
theorem v120_50 {z : P0} {st : List Value} {cu : Nat × Nat} {Q : Res → Mem → Prop} {σ : Mem} {x1 x2 x3 : Option Value} {u : Nat} : X z 120 50 [some (.ref u), x1, x2, x3] (st) cu σ Q = (X z 120 51 [some (.ref u), x1, x2, x3] (.ref u :: st) cu σ Q) := by
  rw [x120_50]
  rfl
theorem v120_51 {z : P0} {st : List Value} {cu : Nat × Nat} {Q : Res → Mem → Prop} {K : Nat → Nat × Nat} {I : Nat → Nat → Int32} {R : Nat → Nat → Option Nat} {L : Nat → Nat → Int64} {sz : Nat} {ex : Bool} {x0 x1 x2 x3 : Option Value} {u : Nat} : X z 120 51 [x0, x1, x2, x3] (.ref u :: st) cu (K, I, R, L, sz, ex) Q = ((K u).1 = 111 ∧ X z 120 54 [x0, x1, x2, x3] (va_rf (R u 0) :: st) cu (K, I, R, L, sz, ex) Q) := by
  rw [x120_51]
  rfl
theorem v120_54 {z : P0} {st : List Value} {cu : Nat × Nat} {Q : Res → Mem → Prop} {σ : Mem} {x0 x1 x2 x3 : Option Value} : X z 120 54 [x0, x1, x2, x3] (st) cu σ Q = (X z 120 57 [x0, x1, x2, x3] (.int (nI 323) :: st) cu σ Q) := by
  rw [x120_54]
  rfl
theorem v120_57 {z : P0} {st : List Value} {cu : Nat × Nat} {Q : Res → Mem → Prop} {σ : Mem} {x0 x2 x3 : Option Value} {u : Int32} : X z 120 57 [x0, some (.int u), x2, x3] (st) cu σ Q = (X z 120 58 [x0, some (.int u), x2, x3] (.int u :: st) cu σ Q) := by
  rw [x120_57]
  rfl
theorem v120_58 {z : P0} {st : List Value} {cu : Nat × Nat} {Q : Res → Mem → Prop} {σ : Mem} {x0 x1 x2 x3 : Option Value} {u v : Int32} : X z 120 58 [x0, x1, x2, x3] (.int v :: .int u :: st) cu σ Q = (X z 120 59 [x0, x1, x2, x3] (.int (u + v) :: st) cu σ Q) := by
  rw [x120_58]
  rfl
theorem v120_59 {z : P0} {st : List Value} {cu : Nat × Nat} {Q : Res → Mem → Prop} {K : Nat → Nat × Nat} {I : Nat → Nat → Int32} {R : Nat → Nat → Option Nat} {L : Nat → Nat → Int64} {sz : Nat} {ex : Bool} {x0 x1 x2 x3 : Option Value} {u : Nat} {v : Int32} : X z 120 59 [x0, x1, x2, x3] (.int v :: .ref u :: st) cu (K, I, R, L, sz, ex) Q = (((K u).1 = 20 ∨ (K u).1 = 50) ∧ vp_in v (K u).2 ∧ X z 120 60 [x0, x1, x2, x3] (.int (I u v.toNatClampNeg) :: st) cu (K, I, R, L, sz, ex) Q) := by
  rw [x120_59]
  rfl
theorem v120_60 {z : P0} {st : List Value} {cu : Nat × Nat} {Q : Res → Mem → Prop} {σ : Mem} {x0 x1 x2 x3 : Option Value} : X z 120 60 [x0, x1, x2, x3] (st) cu σ Q = (X z 120 61 [x0, x1, x2, x3] (.int (nI 1) :: st) cu σ Q) := by
  rw [x120_60]
  rfl
theorem v120_61 {z : P0} {st : List Value} {cu : Nat × Nat} {Q : Res → Mem → Prop} {σ : Mem} {x0 x1 x2 x3 : Option Value} {u v : Int32} : X z 120 61 [x0, x1, x2, x3] (.int v :: .int u :: st) cu σ Q = (if u = v then X z 120 64 [x0, x1, x2, x3] (st) cu σ Q else X z 120 68 [x0, x1, x2, x3] (st) cu σ Q) := by
  rw [x120_61]
  obtain ⟨K, I, R, L, sz, ex⟩ := σ
  exact br_ne
theorem v120_64 {z : P0} {st : List Value} {cu : Nat × Nat} {Q : Res → Mem → Prop} {σ : Mem} {x0 x1 x2 x3 : Option Value} : X z 120 64 [x0, x1, x2, x3] (st) cu σ Q = (X z 120 65 [x0, x1, x2, x3] (.int (nI 4) :: st) cu σ Q) := by
  rw [x120_64]
  rfl
theorem v120_65 {z : P0} {st : List Value} {cu : Nat × Nat} {Q : Res → Mem → Prop} {σ : Mem} {x0 x1 x2 x3 : Option Value} : X z 120 65 [x0, x1, x2, x3] (st) cu σ Q = (X z 120 77 [x0, x1, x2, x3] (st) cu σ Q) := by
  rw [x120_65]
  rfl
theorem v120_68 {z : P0} {st : List Value} {cu : Nat × Nat} {Q : Res → Mem → Prop} {σ : Mem} {x0 x1 x2 : Option Value} {u : Int32} : X z 120 68 [x0, x1, x2, some (.int u)] (st) cu σ Q = (X z 120 69 [x0, x1, x2, some (.int u)] (.int u :: st) cu σ Q) := by
  rw [x120_68]
  rfl
theorem v120_69 {z : P0} {st : List Value} {cu : Nat × Nat} {Q : Res → Mem → Prop} {σ : Mem} {x0 x1 x2 x3 : Option Value} {u : Int32} : X z 120 69 [x0, x1, x2, x3] (.int u :: st) cu σ Q = (if u = nI 0 then X z 120 76 [x0, x1, x2, x3] (st) cu σ Q else X z 120 72 [x0, x1, x2, x3] (st) cu σ Q) := by
  rw [x120_69]
  rw [nI_0]
  obtain ⟨K, I, R, L, sz, ex⟩ := σ
  exact br_ite
theorem v120_72 {z : P0} {st : List Value} {cu : Nat × Nat} {Q : Res → Mem → Prop} {σ : Mem} {x0 x1 x2 x3 : Option Value} : X z 120 72 [x0, x1, x2, x3] (st) cu σ Q = (X z 120 73 [x0, x1, x2, x3] (.int (nI 2) :: st) cu σ Q) := by
  rw [x120_72]
  rfl
theorem v120_73 {z : P0} {st : List Value} {cu : Nat × Nat} {Q : Res → Mem → Prop} {σ : Mem} {x0 x1 x2 x3 : Option Value} : X z 120 73 [x0, x1, x2, x3] (st) cu σ Q = (X z 120 77 [x0, x1, x2, x3] (st) cu σ Q) := by
  rw [x120_73]
  rfl
theorem v120_76 {z : P0} {st : List Value} {cu : Nat × Nat} {Q : Res → Mem → Prop} {σ : Mem} {x0 x1 x2 x3 : Option Value} : X z 120 76 [x0, x1, x2, x3] (st) cu σ Q = (X z 120 77 [x0, x1, x2, x3] (.int (nI 1) :: st) cu σ Q) := by
  rw [x120_76]
  rfl
theorem v120_77 {z : P0} {cu : Nat × Nat} {Q : Res → Mem → Prop} {σ : Mem} {x0 x1 x2 x3 : Option Value} {v : Int32} : X z 120 77 [x0, x1, x2, x3] ([.int v]) cu σ Q = (Q (.inl (some (.int v))) σ) := by
  rw [x120_77]
  exact propext ⟨fun h => h.2, fun h => ⟨trivial, h⟩⟩
theorem v121_0 {z : P0} {st : List Value} {cu : Nat × Nat} {Q : Res → Mem → Prop} {σ : Mem} {x1 x2 x3 : Option Value} {u : Nat} : X z 121 0 [some (.ref u), x1, x2, x3] (st) cu σ Q = (X z 121 1 [some (.ref u), x1, x2, x3] (.ref u :: st) cu σ Q) := by
  rw [x121_0]
  rfl
theorem v121_1 {z : P0} {st : List Value} {cu : Nat × Nat} {Q : Res → Mem → Prop} {σ : Mem} {x0 x2 x3 : Option Value} {u : Int32} : X z 121 1 [x0, some (.int u), x2, x3] (st) cu σ Q = (X z 121 2 [x0, some (.int u), x2, x3] (.int u :: st) cu σ Q) := by
  rw [x121_1]
  rfl
theorem u121_2 {z : P0} {ls : Lcs} {st : List Value} {K : Nat → Nat × Nat} {I : Nat → Nat → Int32} {R : Nat → Nat → Option Nat} {L : Nat → Nat → Int64} {sz : Nat} {ex : Bool} {Q : Res → Mem → Prop} {x : Nat} {a0 : Int32} : X z 121 2 ls (.int a0 :: .ref x :: st) (0, 0) (K, I, R, L, sz, ex) Q = ((K x).1 = 111 ∧ wsum st ≤ 8 ∧ X z 120 0 [some (.ref x), some (.int a0), none, none] [] (0, 0) (K, I, R, L, sz, ex) (aftr (X z) mT 121 2 ls st (0, 0) Q)) := v121_2 (c := 0) (n := 0)
theorem v121_5 {z : P0} {st : List Value} {cu : Nat × Nat} {Q : Res → Mem → Prop} {σ : Mem} {x0 x1 x2 x3 : Option Value} {u : Int32} : X z 121 5 [x0, x1, x2, x3] (.int u :: st) cu σ Q = (cat2 x1 = false ∧ X z 121 6 [x0, x1, some (.int u), x3] (st) cu σ Q) := by
  rw [x121_5]
  obtain ⟨K, I, R, L, sz, ex⟩ := σ
  exact i_istore_n.trans sl_2
theorem v121_6 {z : P0} {st : List Value} {cu : Nat × Nat} {Q : Res → Mem → Prop} {σ : Mem} {x0 x1 x3 : Option Value} {u : Int32} : X z 121 6 [x0, x1, some (.int u), x3] (st) cu σ Q = (X z 121 7 [x0, x1, some (.int u), x3] (.int u :: st) cu σ Q) := by
  rw [x121_6]
  rfl
theorem v121_7 {z : P0} {st : List Value} {cu : Nat × Nat} {Q : Res → Mem → Prop} {σ : Mem} {x0 x1 x2 x3 : Option Value} : X z 121 7 [x0, x1, x2, x3] (st) cu σ Q = (X z 121 8 [x0, x1, x2, x3] (.int (nI 4) :: st) cu σ Q) := by
  rw [x121_7]
  rfl
theorem v121_8 {z : P0} {st : List Value} {cu : Nat × Nat} {Q : Res → Mem → Prop} {σ : Mem} {x0 x1 x2 x3 : Option Value} {u v : Int32} : X z 121 8 [x0, x1, x2, x3] (.int v :: .int u :: st) cu σ Q = (if u = v then X z 121 11 [x0, x1, x2, x3] (st) cu σ Q else X z 121 38 [x0, x1, x2, x3] (st) cu σ Q) := by
  rw [x121_8]
  obtain ⟨K, I, R, L, sz, ex⟩ := σ
  exact br_ne
theorem v121_11 {z : P0} {st : List Value} {cu : Nat × Nat} {Q : Res → Mem → Prop} {σ : Mem} {x1 x2 x3 : Option Value} {u : Nat} : X z 121 11 [some (.ref u), x1, x2, x3] (st) cu σ Q = (X z 121 12 [some (.ref u), x1, x2, x3] (.ref u :: st) cu σ Q) := by
  rw [x121_11]
  rfl
theorem v121_12 {z : P0} {st : List Value} {cu : Nat × Nat} {Q : Res → Mem → Prop} {σ : Mem} {x0 x1 x2 x3 : Option Value} : X z 121 12 [x0, x1, x2, x3] (st) cu σ Q = (X z 121 14 [x0, x1, x2, x3] (.int (nI 115) :: st) cu σ Q) := by
  rw [x121_12]
  rfl
theorem u121_14 {z : P0} {ls : Lcs} {st : List Value} {K : Nat → Nat × Nat} {I : Nat → Nat → Int32} {R : Nat → Nat → Option Nat} {L : Nat → Nat → Int64} {sz : Nat} {ex : Bool} {Q : Res → Mem → Prop} {x : Nat} {a0 : Int32} : X z 121 14 ls (.int a0 :: .ref x :: st) (0, 0) (K, I, R, L, sz, ex) Q = ((K x).1 = 111 ∧ wsum st ≤ 8 ∧ X z 116 0 [some (.ref x), some (.int a0)] [] (0, 0) (K, I, R, L, sz, ex) (aftr (X z) mT 121 14 ls st (0, 0) Q)) := v121_14 (c := 0) (n := 0)
theorem v121_17 {z : P0} {st : List Value} {cu : Nat × Nat} {Q : Res → Mem → Prop} {σ : Mem} {x1 x2 x3 : Option Value} {u : Nat} : X z 121 17 [some (.ref u), x1, x2, x3] (st) cu σ Q = (X z 121 18 [some (.ref u), x1, x2, x3] (.ref u :: st) cu σ Q) := by
  rw [x121_17]
  rfl
theorem v121_18 {z : P0} {st : List Value} {cu : Nat × Nat} {Q : Res → Mem → Prop} {σ : Mem} {x0 x1 x2 x3 : Option Value} : X z 121 18 [x0, x1, x2, x3] (st) cu σ Q = (X z 121 20 [x0, x1, x2, x3] (.int (nI 111) :: st) cu σ Q) := by
  rw [x121_18]
  rfl
theorem u121_20 {z : P0} {ls : Lcs} {st : List Value} {K : Nat → Nat × Nat} {I : Nat → Nat → Int32} {R : Nat → Nat → Option Nat} {L : Nat → Nat → Int64} {sz : Nat} {ex : Bool} {Q : Res → Mem → Prop} {x : Nat} {a0 : Int32} : X z 121 20 ls (.int a0 :: .ref x :: st) (0, 0) (K, I, R, L, sz, ex) Q = ((K x).1 = 111 ∧ wsum st ≤ 8 ∧ X z 116 0 [some (.ref x), some (.int a0)] [] (0, 0) (K, I, R, L, sz, ex) (aftr (X z) mT 121 20 ls st (0, 0) Q)) := v121_20 (c := 0) (n := 0)
theorem v121_23 {z : P0} {st : List Value} {cu : Nat × Nat} {Q : Res → Mem → Prop} {σ : Mem} {x1 x2 x3 : Option Value} {u : Nat} : X z 121 23 [some (.ref u), x1, x2, x3] (st) cu σ Q = (X z 121 24 [some (.ref u), x1, x2, x3] (.ref u :: st) cu σ Q) := by
  rw [x121_23]
  rfl
theorem v121_24 {z : P0} {st : List Value} {cu : Nat × Nat} {Q : Res → Mem → Prop} {σ : Mem} {x0 x1 x2 x3 : Option Value} : X z 121 24 [x0, x1, x2, x3] (st) cu σ Q = (X z 121 26 [x0, x1, x2, x3] (.int (nI 109) :: st) cu σ Q) := by
  rw [x121_24]
  rfl
theorem u121_26 {z : P0} {ls : Lcs} {st : List Value} {K : Nat → Nat × Nat} {I : Nat → Nat → Int32} {R : Nat → Nat → Option Nat} {L : Nat → Nat → Int64} {sz : Nat} {ex : Bool} {Q : Res → Mem → Prop} {x : Nat} {a0 : Int32} : X z 121 26 ls (.int a0 :: .ref x :: st) (0, 0) (K, I, R, L, sz, ex) Q = ((K x).1 = 111 ∧ wsum st ≤ 8 ∧ X z 116 0 [some (.ref x), some (.int a0)] [] (0, 0) (K, I, R, L, sz, ex) (aftr (X z) mT 121 26 ls st (0, 0) Q)) := v121_26 (c := 0) (n := 0)
theorem v121_29 {z : P0} {st : List Value} {cu : Nat × Nat} {Q : Res → Mem → Prop} {σ : Mem} {x1 x2 x3 : Option Value} {u : Nat} : X z 121 29 [some (.ref u), x1, x2, x3] (st) cu σ Q = (X z 121 30 [some (.ref u), x1, x2, x3] (.ref u :: st) cu σ Q) := by
  rw [x121_29]
  rfl
theorem v121_30 {z : P0} {st : List Value} {cu : Nat × Nat} {Q : Res → Mem → Prop} {σ : Mem} {x0 x1 x2 x3 : Option Value} : X z 121 30 [x0, x1, x2, x3] (st) cu σ Q = (X z 121 32 [x0, x1, x2, x3] (.int (nI 101) :: st) cu σ Q) := by
  rw [x121_30]
  rfl
theorem u121_32 {z : P0} {ls : Lcs} {st : List Value} {K : Nat → Nat × Nat} {I : Nat → Nat → Int32} {R : Nat → Nat → Option Nat} {L : Nat → Nat → Int64} {sz : Nat} {ex : Bool} {Q : Res → Mem → Prop} {x : Nat} {a0 : Int32} : X z 121 32 ls (.int a0 :: .ref x :: st) (0, 0) (K, I, R, L, sz, ex) Q = ((K x).1 = 111 ∧ wsum st ≤ 8 ∧ X z 116 0 [some (.ref x), some (.int a0)] [] (0, 0) (K, I, R, L, sz, ex) (aftr (X z) mT 121 32 ls st (0, 0) Q)) := v121_32 (c := 0) (n := 0)
theorem v121_35 {z : P0} {st : List Value} {cu : Nat × Nat} {Q : Res → Mem → Prop} {σ : Mem} {x0 x1 x2 x3 : Option Value} : X z 121 35 [x0, x1, x2, x3] (st) cu σ Q = (X z 121 55 [x0, x1, x2, x3] (st) cu σ Q) := by
  rw [x121_35]
  rfl
theorem v121_38 {z : P0} {st : List Value} {cu : Nat × Nat} {Q : Res → Mem → Prop} {σ : Mem} {x1 x2 x3 : Option Value} {u : Nat} : X z 121 38 [some (.ref u), x1, x2, x3] (st) cu σ Q = (X z 121 39 [some (.ref u), x1, x2, x3] (.ref u :: st) cu σ Q) := by
  rw [x121_38]
  rfl
theorem v121_39 {z : P0} {st : List Value} {cu : Nat × Nat} {Q : Res → Mem → Prop} {σ : Mem} {x0 x1 x2 x3 : Option Value} : X z 121 39 [x0, x1, x2, x3] (st) cu σ Q = (X z 121 41 [x0, x1, x2, x3] (.int (nI 97) :: st) cu σ Q) := by
  rw [x121_39]
  rfl
theorem u121_41 {z : P0} {ls : Lcs} {st : List Value} {K : Nat → Nat × Nat} {I : Nat → Nat → Int32} {R : Nat → Nat → Option Nat} {L : Nat → Nat → Int64} {sz : Nat} {ex : Bool} {Q : Res → Mem → Prop} {x : Nat} {a0 : Int32} : X z 121 41 ls (.int a0 :: .ref x :: st) (0, 0) (K, I, R, L, sz, ex) Q = ((K x).1 = 111 ∧ wsum st ≤ 8 ∧ X z 116 0 [some (.ref x), some (.int a0)] [] (0, 0) (K, I, R, L, sz, ex) (aftr (X z) mT 121 41 ls st (0, 0) Q)) := v121_41 (c := 0) (n := 0)
theorem v121_44 {z : P0} {st : List Value} {cu : Nat × Nat} {Q : Res → Mem → Prop} {σ : Mem} {x0 x1 x3 : Option Value} {u : Int32} : X z 121 44 [x0, x1, some (.int u), x3] (st) cu σ Q = (X z 121 45 [x0, x1, some (.int u), x3] (.int u :: st) cu σ Q) := by
  rw [x121_44]
  rfl
theorem v121_45 {z : P0} {st : List Value} {cu : Nat × Nat} {Q : Res → Mem → Prop} {σ : Mem} {x0 x1 x2 x3 : Option Value} : X z 121 45 [x0, x1, x2, x3] (st) cu σ Q = (X z 121 46 [x0, x1, x2, x3] (.int (nI 2) :: st) cu σ Q) := by
  rw [x121_45]
  rfl
theorem v121_46 {z : P0} {st : List Value} {cu : Nat × Nat} {Q : Res → Mem → Prop} {σ : Mem} {x0 x1 x2 x3 : Option Value} {u v : Int32} : X z 121 46 [x0, x1, x2, x3] (.int v :: .int u :: st) cu σ Q = (if u = v then X z 121 49 [x0, x1, x2, x3] (st) cu σ Q else X z 121 55 [x0, x1, x2, x3] (st) cu σ Q) := by
  rw [x121_46]
  obtain ⟨K, I, R, L, sz, ex⟩ := σ
  exact br_ne
theorem v121_49 {z : P0} {st : List Value} {cu : Nat × Nat} {Q : Res → Mem → Prop} {σ : Mem} {x1 x2 x3 : Option Value} {u : Nat} : X z 121 49 [some (.ref u), x1, x2, x3] (st) cu σ Q = (X z 121 50 [some (.ref u), x1, x2, x3] (.ref u :: st) cu σ Q) := by
  rw [x121_49]
  rfl
theorem v121_50 {z : P0} {st : List Value} {cu : Nat × Nat} {Q : Res → Mem → Prop} {σ : Mem} {x0 x1 x2 x3 : Option Value} : X z 121 50 [x0, x1, x2, x3] (st) cu σ Q = (X z 121 52 [x0, x1, x2, x3] (.int (nI 110) :: st) cu σ Q) := by
  rw [x121_50]
  rfl
theorem u121_52 {z : P0} {ls : Lcs} {st : List Value} {K : Nat → Nat × Nat} {I : Nat → Nat → Int32} {R : Nat → Nat → Option Nat} {L : Nat → Nat → Int64} {sz : Nat} {ex : Bool} {Q : Res → Mem → Prop} {x : Nat} {a0 : Int32} : X z 121 52 ls (.int a0 :: .ref x :: st) (0, 0) (K, I, R, L, sz, ex) Q = ((K x).1 = 111 ∧ wsum st ≤ 8 ∧ X z 116 0 [some (.ref x), some (.int a0)] [] (0, 0) (K, I, R, L, sz, ex) (aftr (X z) mT 121 52 ls st (0, 0) Q)) := v121_52 (c := 0) (n := 0)
theorem v121_55 {z : P0} {st : List Value} {cu : Nat × Nat} {Q : Res → Mem → Prop} {σ : Mem} {x1 x2 x3 : Option Value} {u : Nat} : X z 121 55 [some (.ref u), x1, x2, x3] (st) cu σ Q = (X z 121 56 [some (.ref u), x1, x2, x3] (.ref u :: st) cu σ Q) := by
  rw [x121_55]
  rfl
theorem v121_56 {z : P0} {st : List Value} {cu : Nat × Nat} {Q : Res → Mem → Prop} {σ : Mem} {x0 x1 x2 x3 : Option Value} : X z 121 56 [x0, x1, x2, x3] (st) cu σ Q = (X z 121 58 [x0, x1, x2, x3] (.int (nI 95) :: st) cu σ Q) := by
  rw [x121_56]
  rfl
theorem u121_58 {z : P0} {ls : Lcs} {st : List Value} {K : Nat → Nat × Nat} {I : Nat → Nat → Int32} {R : Nat → Nat → Option Nat} {L : Nat → Nat → Int64} {sz : Nat} {ex : Bool} {Q : Res → Mem → Prop} {x : Nat} {a0 : Int32} : X z 121 58 ls (.int a0 :: .ref x :: st) (0, 0) (K, I, R, L, sz, ex) Q = ((K x).1 = 111 ∧ wsum st ≤ 8 ∧ X z 116 0 [some (.ref x), some (.int a0)] [] (0, 0) (K, I, R, L, sz, ex) (aftr (X z) mT 121 58 ls st (0, 0) Q)) := v121_58 (c := 0) (n := 0)
theorem v121_61 {z : P0} {st : List Value} {cu : Nat × Nat} {Q : Res → Mem → Prop} {σ : Mem} {x0 x1 x2 x3 : Option Value} : X z 121 61 [x0, x1, x2, x3] (st) cu σ Q = (X z 121 62 [x0, x1, x2, x3] (.int (nI 0) :: st) cu σ Q) := by
  rw [x121_61]
  rfl
theorem v121_62 {z : P0} {st : List Value} {cu : Nat × Nat} {Q : Res → Mem → Prop} {σ : Mem} {x0 x1 x2 x3 : Option Value} {u : Int32} : X z 121 62 [x0, x1, x2, x3] (.int u :: st) cu σ Q = (cat2 x2 = false ∧ X z 121 63 [x0, x1, x2, some (.int u)] (st) cu σ Q) := by
  rw [x121_62]
  obtain ⟨K, I, R, L, sz, ex⟩ := σ
  exact i_istore_n.trans sl_3
theorem v121_63 {z : P0} {st : List Value} {cu : Nat × Nat} {Q : Res → Mem → Prop} {σ : Mem} {x0 x1 x2 : Option Value} {u : Int32} : X z 121 63 [x0, x1, x2, some (.int u)] (st) cu σ Q = (X z 121 64 [x0, x1, x2, some (.int u)] (.int u :: st) cu σ Q) := by
  rw [x121_63]
  rfl
theorem v121_64 {z : P0} {st : List Value} {cu : Nat × Nat} {Q : Res → Mem → Prop} {σ : Mem} {x1 x2 x3 : Option Value} {u : Nat} : X z 121 64 [some (.ref u), x1, x2, x3] (st) cu σ Q = (X z 121 65 [some (.ref u), x1, x2, x3] (.ref u :: st) cu σ Q) := by
  rw [x121_64]
  rfl
theorem v121_65 {z : P0} {st : List Value} {cu : Nat × Nat} {Q : Res → Mem → Prop} {K : Nat → Nat × Nat} {I : Nat → Nat → Int32} {R : Nat → Nat → Option Nat} {L : Nat → Nat → Int64} {sz : Nat} {ex : Bool} {x0 x1 x2 x3 : Option Value} {u : Nat} : X z 121 65 [x0, x1, x2, x3] (.ref u :: st) cu (K, I, R, L, sz, ex) Q = ((K u).1 = 111 ∧ X z 121 68 [x0, x1, x2, x3] (va_rf (R u 0) :: st) cu (K, I, R, L, sz, ex) Q) := by
  rw [x121_65]
  rfl
theorem v121_68 {z : P0} {st : List Value} {cu : Nat × Nat} {Q : Res → Mem → Prop} {σ : Mem} {x0 x1 x2 x3 : Option Value} : X z 121 68 [x0, x1, x2, x3] (st) cu σ Q = (X z 121 71 [x0, x1, x2, x3] (.int (nI 313) :: st) cu σ Q) := by
  rw [x121_68]
  rfl
theorem v121_71 {z : P0} {st : List Value} {cu : Nat × Nat} {Q : Res → Mem → Prop} {σ : Mem} {x0 x2 x3 : Option Value} {u : Int32} : X z 121 71 [x0, some (.int u), x2, x3] (st) cu σ Q = (X z 121 72 [x0, some (.int u), x2, x3] (.int u :: st) cu σ Q) := by
  rw [x121_71]
  rfl
theorem v121_72 {z : P0} {st : List Value} {cu : Nat × Nat} {Q : Res → Mem → Prop} {σ : Mem} {x0 x1 x2 x3 : Option Value} {u v : Int32} : X z 121 72 [x0, x1, x2, x3] (.int v :: .int u :: st) cu σ Q = (X z 121 73 [x0, x1, x2, x3] (.int (u + v) :: st) cu σ Q) := by
  rw [x121_72]
  rfl
theorem v121_73 {z : P0} {st : List Value} {cu : Nat × Nat} {Q : Res → Mem → Prop} {K : Nat → Nat × Nat} {I : Nat → Nat → Int32} {R : Nat → Nat → Option Nat} {L : Nat → Nat → Int64} {sz : Nat} {ex : Bool} {x0 x1 x2 x3 : Option Value} {u : Nat} {v : Int32} : X z 121 73 [x0, x1, x2, x3] (.int v :: .ref u :: st) cu (K, I, R, L, sz, ex) Q = (((K u).1 = 20 ∨ (K u).1 = 50) ∧ vp_in v (K u).2 ∧ X z 121 74 [x0, x1, x2, x3] (.int (I u v.toNatClampNeg) :: st) cu (K, I, R, L, sz, ex) Q) := by
  rw [x121_73]
  rfl
theorem v121_74 {z : P0} {st : List Value} {cu : Nat × Nat} {Q : Res → Mem → Prop} {σ : Mem} {x0 x1 x2 x3 : Option Value} {u v : Int32} : X z 121 74 [x0, x1, x2, x3] (.int v :: .int u :: st) cu σ Q = (if u < v then X z 121 77 [x0, x1, x2, x3] (st) cu σ Q else X z 121 102 [x0, x1, x2, x3] (st) cu σ Q) := by
  rw [x121_74]
  obtain ⟨K, I, R, L, sz, ex⟩ := σ
  exact br_ge
theorem v121_77 {z : P0} {st : List Value} {cu : Nat × Nat} {Q : Res → Mem → Prop} {σ : Mem} {x1 x2 x3 : Option Value} {u : Nat} : X z 121 77 [some (.ref u), x1, x2, x3] (st) cu σ Q = (X z 121 78 [some (.ref u), x1, x2, x3] (.ref u :: st) cu σ Q) := by
  rw [x121_77]
  rfl
theorem v121_78 {z : P0} {st : List Value} {cu : Nat × Nat} {Q : Res → Mem → Prop} {σ : Mem} {x1 x2 x3 : Option Value} {u : Nat} : X z 121 78 [some (.ref u), x1, x2, x3] (st) cu σ Q = (X z 121 79 [some (.ref u), x1, x2, x3] (.ref u :: st) cu σ Q) := by
  rw [x121_78]
  rfl
theorem v121_79 {z : P0} {st : List Value} {cu : Nat × Nat} {Q : Res → Mem → Prop} {K : Nat → Nat × Nat} {I : Nat → Nat → Int32} {R : Nat → Nat → Option Nat} {L : Nat → Nat → Int64} {sz : Nat} {ex : Bool} {x0 x1 x2 x3 : Option Value} {u : Nat} : X z 121 79 [x0, x1, x2, x3] (.ref u :: st) cu (K, I, R, L, sz, ex) Q = ((K u).1 = 111 ∧ X z 121 82 [x0, x1, x2, x3] (va_rf (R u 0) :: st) cu (K, I, R, L, sz, ex) Q) := by
  rw [x121_79]
  rfl
theorem v121_82 {z : P0} {st : List Value} {cu : Nat × Nat} {Q : Res → Mem → Prop} {σ : Mem} {x0 x1 x2 x3 : Option Value} : X z 121 82 [x0, x1, x2, x3] (st) cu σ Q = (X z 121 85 [x0, x1, x2, x3] (.int (nI 333) :: st) cu σ Q) := by
  rw [x121_82]
  rfl
theorem v121_85 {z : P0} {st : List Value} {cu : Nat × Nat} {Q : Res → Mem → Prop} {σ : Mem} {x0 x1 x2 x3 : Option Value} : X z 121 85 [x0, x1, x2, x3] (st) cu σ Q = (X z 121 87 [x0, x1, x2, x3] (.int (nI 8) :: st) cu σ Q) := by
  rw [x121_85]
  rfl
theorem v121_87 {z : P0} {st : List Value} {cu : Nat × Nat} {Q : Res → Mem → Prop} {σ : Mem} {x0 x2 x3 : Option Value} {u : Int32} : X z 121 87 [x0, some (.int u), x2, x3] (st) cu σ Q = (X z 121 88 [x0, some (.int u), x2, x3] (.int u :: st) cu σ Q) := by
  rw [x121_87]
  rfl
theorem v121_88 {z : P0} {st : List Value} {cu : Nat × Nat} {Q : Res → Mem → Prop} {σ : Mem} {x0 x1 x2 x3 : Option Value} {u v : Int32} : X z 121 88 [x0, x1, x2, x3] (.int v :: .int u :: st) cu σ Q = (X z 121 89 [x0, x1, x2, x3] (.int (u * v) :: st) cu σ Q) := by
  rw [x121_88]
  rfl
theorem v121_89 {z : P0} {st : List Value} {cu : Nat × Nat} {Q : Res → Mem → Prop} {σ : Mem} {x0 x1 x2 x3 : Option Value} {u v : Int32} : X z 121 89 [x0, x1, x2, x3] (.int v :: .int u :: st) cu σ Q = (X z 121 90 [x0, x1, x2, x3] (.int (u + v) :: st) cu σ Q) := by
  rw [x121_89]
  rfl
theorem v121_90 {z : P0} {st : List Value} {cu : Nat × Nat} {Q : Res → Mem → Prop} {σ : Mem} {x0 x1 x2 : Option Value} {u : Int32} : X z 121 90 [x0, x1, x2, some (.int u)] (st) cu σ Q = (X z 121 91 [x0, x1, x2, some (.int u)] (.int u :: st) cu σ Q) := by
  rw [x121_90]
  rfl
theorem v121_91 {z : P0} {st : List Value} {cu : Nat × Nat} {Q : Res → Mem → Prop} {σ : Mem} {x0 x1 x2 x3 : Option Value} {u v : Int32} : X z 121 91 [x0, x1, x2, x3] (.int v :: .int u :: st) cu σ Q = (X z 121 92 [x0, x1, x2, x3] (.int (u + v) :: st) cu σ Q) := by
  rw [x121_91]
  rfl
theorem v121_92 {z : P0} {st : List Value} {cu : Nat × Nat} {Q : Res → Mem → Prop} {K : Nat → Nat × Nat} {I : Nat → Nat → Int32} {R : Nat → Nat → Option Nat} {L : Nat → Nat → Int64} {sz : Nat} {ex : Bool} {x0 x1 x2 x3 : Option Value} {u : Nat} {v : Int32} : X z 121 92 [x0, x1, x2, x3] (.int v :: .ref u :: st) cu (K, I, R, L, sz, ex) Q = (((K u).1 = 20 ∨ (K u).1 = 50) ∧ vp_in v (K u).2 ∧ X z 121 93 [x0, x1, x2, x3] (.int (I u v.toNatClampNeg) :: st) cu (K, I, R, L, sz, ex) Q) := by
  rw [x121_92]
  rfl
theorem u121_93 {z : P0} {ls : Lcs} {st : List Value} {K : Nat → Nat × Nat} {I : Nat → Nat → Int32} {R : Nat → Nat → Option Nat} {L : Nat → Nat → Int64} {sz : Nat} {ex : Bool} {Q : Res → Mem → Prop} {x : Nat} {a0 : Int32} : X z 121 93 ls (.int a0 :: .ref x :: st) (0, 0) (K, I, R, L, sz, ex) Q = ((K x).1 = 111 ∧ wsum st ≤ 8 ∧ X z 116 0 [some (.ref x), some (.int a0)] [] (0, 0) (K, I, R, L, sz, ex) (aftr (X z) mT 121 93 ls st (0, 0) Q)) := v121_93 (c := 0) (n := 0)
theorem v121_96 {z : P0} {st : List Value} {cu : Nat × Nat} {Q : Res → Mem → Prop} {σ : Mem} {x0 x1 x2 : Option Value} {u : Int32} : X z 121 96 [x0, x1, x2, some (.int u)] (st) cu σ Q = (cat2 x2 = false ∧ X z 121 99 [x0, x1, x2, some (.int (u + nI 1))] (st) cu σ Q) := by
  rw [x121_96]
  obtain ⟨K, I, R, L, sz, ex⟩ := σ
  exact i_iinc.trans (gl_3.trans (ldI_i.trans sl_3))
theorem v121_99 {z : P0} {st : List Value} {cu : Nat × Nat} {Q : Res → Mem → Prop} {σ : Mem} {x0 x1 x2 x3 : Option Value} : X z 121 99 [x0, x1, x2, x3] (st) cu σ Q = (X z 121 63 [x0, x1, x2, x3] (st) cu σ Q) := by
  rw [x121_99]
  rfl
theorem v121_102 {z : P0} {cu : Nat × Nat} {Q : Res → Mem → Prop} {σ : Mem} {x0 x1 x2 x3 : Option Value} : X z 121 102 [x0, x1, x2, x3] ([]) cu σ Q = (Q (.inl none) σ) := by
  rw [x121_102]
  rfl
theorem v122_0 {z : P0} {st : List Value} {cu : Nat × Nat} {Q : Res → Mem → Prop} {σ : Mem} {x0 x1 x2 x3 x4 x5 : Option Value} : X z 122 0 [x0, x1, x2, x3, x4, x5] (st) cu σ Q = (X z 122 1 [x0, x1, x2, x3, x4, x5] (.int (nI 0) :: st) cu σ Q) := by
  rw [x122_0]
  rfl
theorem v122_1 {z : P0} {st : List Value} {cu : Nat × Nat} {Q : Res → Mem → Prop} {σ : Mem} {x0 x1 x2 x3 x4 x5 : Option Value} {u : Int32} : X z 122 1 [x0, x1, x2, x3, x4, x5] (.int u :: st) cu σ Q = (cat2 x1 = false ∧ X z 122 2 [x0, x1, some (.int u), x3, x4, x5] (st) cu σ Q) := by
  rw [x122_1]
  obtain ⟨K, I, R, L, sz, ex⟩ := σ
  exact i_istore_n.trans sl_2
theorem v122_2 {z : P0} {st : List Value} {cu : Nat × Nat} {Q : Res → Mem → Prop} {σ : Mem} {x0 x1 x2 x3 x4 x5 : Option Value} : X z 122 2 [x0, x1, x2, x3, x4, x5] (st) cu σ Q = (X z 122 3 [x0, x1, x2, x3, x4, x5] (.int (nI 0) :: st) cu σ Q) := by
  rw [x122_2]
  rfl
theorem v122_3 {z : P0} {st : List Value} {cu : Nat × Nat} {Q : Res → Mem → Prop} {σ : Mem} {x0 x1 x2 x3 x4 x5 : Option Value} {u : Int32} : X z 122 3 [x0, x1, x2, x3, x4, x5] (.int u :: st) cu σ Q = (cat2 x2 = false ∧ X z 122 4 [x0, x1, x2, some (.int u), x4, x5] (st) cu σ Q) := by
  rw [x122_3]
  obtain ⟨K, I, R, L, sz, ex⟩ := σ
  exact i_istore_n.trans sl_3
theorem v122_4 {z : P0} {st : List Value} {cu : Nat × Nat} {Q : Res → Mem → Prop} {σ : Mem} {x0 x1 x2 x3 x4 x5 : Option Value} : X z 122 4 [x0, x1, x2, x3, x4, x5] (st) cu σ Q = (X z 122 5 [x0, x1, x2, x3, x4, x5] (.int (nI 0) :: st) cu σ Q) := by
  rw [x122_4]
  rfl
theorem v122_5 {z : P0} {st : List Value} {cu : Nat × Nat} {Q : Res → Mem → Prop} {σ : Mem} {x0 x1 x2 x3 x4 x5 : Option Value} {u : Int32} : X z 122 5 [x0, x1, x2, x3, x4, x5] (.int u :: st) cu σ Q = (cat2 x3 = false ∧ X z 122 7 [x0, x1, x2, x3, some (.int u), x5] (st) cu σ Q) := by
  rw [x122_5]
  obtain ⟨K, I, R, L, sz, ex⟩ := σ
  exact i_istore.trans sl_4
theorem v122_7 {z : P0} {st : List Value} {cu : Nat × Nat} {Q : Res → Mem → Prop} {σ : Mem} {x0 x1 x2 x3 x5 : Option Value} {u : Int32} : X z 122 7 [x0, x1, x2, x3, some (.int u), x5] (st) cu σ Q = (X z 122 9 [x0, x1, x2, x3, some (.int u), x5] (.int u :: st) cu σ Q) := by
  rw [x122_7]
  rfl
theorem v122_9 {z : P0} {st : List Value} {cu : Nat × Nat} {Q : Res → Mem → Prop} {σ : Mem} {x1 x2 x3 x4 x5 : Option Value} {u : Nat} : X z 122 9 [some (.ref u), x1, x2, x3, x4, x5] (st) cu σ Q = (X z 122 10 [some (.ref u), x1, x2, x3, x4, x5] (.ref u :: st) cu σ Q) := by
  rw [x122_9]
  rfl
theorem v122_10 {z : P0} {st : List Value} {cu : Nat × Nat} {Q : Res → Mem → Prop} {K : Nat → Nat × Nat} {I : Nat → Nat → Int32} {R : Nat → Nat → Option Nat} {L : Nat → Nat → Int64} {sz : Nat} {ex : Bool} {x0 x1 x2 x3 x4 x5 : Option Value} {u : Nat} : X z 122 10 [x0, x1, x2, x3, x4, x5] (.ref u :: st) cu (K, I, R, L, sz, ex) Q = ((K u).1 = 111 ∧ X z 122 13 [x0, x1, x2, x3, x4, x5] (va_rf (R u 0) :: st) cu (K, I, R, L, sz, ex) Q) := by
  rw [x122_10]
  rfl
theorem v122_13 {z : P0} {st : List Value} {cu : Nat × Nat} {Q : Res → Mem → Prop} {σ : Mem} {x0 x1 x2 x3 x4 x5 : Option Value} : X z 122 13 [x0, x1, x2, x3, x4, x5] (st) cu σ Q = (X z 122 15 [x0, x1, x2, x3, x4, x5] (.int (nI 6) :: st) cu σ Q) := by
  rw [x122_13]
  rfl
theorem v122_15 {z : P0} {st : List Value} {cu : Nat × Nat} {Q : Res → Mem → Prop} {K : Nat → Nat × Nat} {I : Nat → Nat → Int32} {R : Nat → Nat → Option Nat} {L : Nat → Nat → Int64} {sz : Nat} {ex : Bool} {x0 x1 x2 x3 x4 x5 : Option Value} {u : Nat} {v : Int32} : X z 122 15 [x0, x1, x2, x3, x4, x5] (.int v :: .ref u :: st) cu (K, I, R, L, sz, ex) Q = (((K u).1 = 20 ∨ (K u).1 = 50) ∧ vp_in v (K u).2 ∧ X z 122 16 [x0, x1, x2, x3, x4, x5] (.int (I u v.toNatClampNeg) :: st) cu (K, I, R, L, sz, ex) Q) := by
  rw [x122_15]
  rfl
theorem v122_16 {z : P0} {st : List Value} {cu : Nat × Nat} {Q : Res → Mem → Prop} {σ : Mem} {x0 x1 x2 x3 x4 x5 : Option Value} {u v : Int32} : X z 122 16 [x0, x1, x2, x3, x4, x5] (.int v :: .int u :: st) cu σ Q = (if u < v then X z 122 19 [x0, x1, x2, x3, x4, x5] (st) cu σ Q else X z 122 101 [x0, x1, x2, x3, x4, x5] (st) cu σ Q) := by
  rw [x122_16]
  obtain ⟨K, I, R, L, sz, ex⟩ := σ
  exact br_ge
theorem v122_19 {z : P0} {st : List Value} {cu : Nat × Nat} {Q : Res → Mem → Prop} {σ : Mem} {x1 x2 x3 x4 x5 : Option Value} {u : Nat} : X z 122 19 [some (.ref u), x1, x2, x3, x4, x5] (st) cu σ Q = (X z 122 20 [some (.ref u), x1, x2, x3, x4, x5] (.ref u :: st) cu σ Q) := by
  rw [x122_19]
  rfl
theorem v122_20 {z : P0} {st : List Value} {cu : Nat × Nat} {Q : Res → Mem → Prop} {K : Nat → Nat × Nat} {I : Nat → Nat → Int32} {R : Nat → Nat → Option Nat} {L : Nat → Nat → Int64} {sz : Nat} {ex : Bool} {x0 x1 x2 x3 x4 x5 : Option Value} {u : Nat} : X z 122 20 [x0, x1, x2, x3, x4, x5] (.ref u :: st) cu (K, I, R, L, sz, ex) Q = ((K u).1 = 111 ∧ X z 122 23 [x0, x1, x2, x3, x4, x5] (va_rf (R u 6) :: st) cu (K, I, R, L, sz, ex) Q) := by
  rw [x122_20]
  rfl
theorem v122_23 {z : P0} {st : List Value} {cu : Nat × Nat} {Q : Res → Mem → Prop} {σ : Mem} {x0 x2 x3 x4 x5 : Option Value} {u : Int32} : X z 122 23 [x0, some (.int u), x2, x3, x4, x5] (st) cu σ Q = (X z 122 24 [x0, some (.int u), x2, x3, x4, x5] (.int u :: st) cu σ Q) := by
  rw [x122_23]
  rfl
theorem v122_24 {z : P0} {st : List Value} {cu : Nat × Nat} {Q : Res → Mem → Prop} {K : Nat → Nat × Nat} {I : Nat → Nat → Int32} {R : Nat → Nat → Option Nat} {L : Nat → Nat → Int64} {sz : Nat} {ex : Bool} {x0 x1 x2 x3 x4 x5 : Option Value} {u : Nat} {v : Int32} : X z 122 24 [x0, x1, x2, x3, x4, x5] (.int v :: .ref u :: st) cu (K, I, R, L, sz, ex) Q = (((K u).1 = 20 ∨ (K u).1 = 50) ∧ vp_in v (K u).2 ∧ X z 122 25 [x0, x1, x2, x3, x4, x5] (.int (I u v.toNatClampNeg) :: st) cu (K, I, R, L, sz, ex) Q) := by
  rw [x122_24]
  rfl
theorem v122_25 {z : P0} {st : List Value} {cu : Nat × Nat} {Q : Res → Mem → Prop} {σ : Mem} {x0 x1 x2 x3 x5 : Option Value} {u : Int32} : X z 122 25 [x0, x1, x2, x3, some (.int u), x5] (st) cu σ Q = (X z 122 27 [x0, x1, x2, x3, some (.int u), x5] (.int u :: st) cu σ Q) := by
  rw [x122_25]
  rfl
theorem v122_27 {z : P0} {st : List Value} {cu : Nat × Nat} {Q : Res → Mem → Prop} {σ : Mem} {x0 x1 x2 x3 x4 x5 : Option Value} {u v : Int32} : X z 122 27 [x0, x1, x2, x3, x4, x5] (.int v :: .int u :: st) cu σ Q = (X z 122 28 [x0, x1, x2, x3, x4, x5] (.int (u >>> (v &&& 31)) :: st) cu σ Q) := by
  rw [x122_27]
  rfl
theorem v122_28 {z : P0} {st : List Value} {cu : Nat × Nat} {Q : Res → Mem → Prop} {σ : Mem} {x0 x1 x2 x3 x4 x5 : Option Value} : X z 122 28 [x0, x1, x2, x3, x4, x5] (st) cu σ Q = (X z 122 29 [x0, x1, x2, x3, x4, x5] (.int (nI 1) :: st) cu σ Q) := by
  rw [x122_28]
  rfl
theorem v122_29 {z : P0} {st : List Value} {cu : Nat × Nat} {Q : Res → Mem → Prop} {σ : Mem} {x0 x1 x2 x3 x4 x5 : Option Value} {u v : Int32} : X z 122 29 [x0, x1, x2, x3, x4, x5] (.int v :: .int u :: st) cu σ Q = (X z 122 30 [x0, x1, x2, x3, x4, x5] (.int (u &&& v) :: st) cu σ Q) := by
  rw [x122_29]
  rfl
theorem v122_30 {z : P0} {st : List Value} {cu : Nat × Nat} {Q : Res → Mem → Prop} {σ : Mem} {x0 x1 x2 x3 x4 x5 : Option Value} : X z 122 30 [x0, x1, x2, x3, x4, x5] (st) cu σ Q = (X z 122 31 [x0, x1, x2, x3, x4, x5] (.int (nI 1) :: st) cu σ Q) := by
  rw [x122_30]
  rfl
theorem v122_31 {z : P0} {st : List Value} {cu : Nat × Nat} {Q : Res → Mem → Prop} {σ : Mem} {x0 x1 x2 x3 x4 x5 : Option Value} {u v : Int32} : X z 122 31 [x0, x1, x2, x3, x4, x5] (.int v :: .int u :: st) cu σ Q = (if u = v then X z 122 34 [x0, x1, x2, x3, x4, x5] (st) cu σ Q else X z 122 55 [x0, x1, x2, x3, x4, x5] (st) cu σ Q) := by
  rw [x122_31]
  obtain ⟨K, I, R, L, sz, ex⟩ := σ
  exact br_ne
theorem v122_34 {z : P0} {st : List Value} {cu : Nat × Nat} {Q : Res → Mem → Prop} {σ : Mem} {x0 x1 x2 x4 x5 : Option Value} {u : Int32} : X z 122 34 [x0, x1, x2, some (.int u), x4, x5] (st) cu σ Q = (X z 122 35 [x0, x1, x2, some (.int u), x4, x5] (.int u :: st) cu σ Q) := by
  rw [x122_34]
  rfl
theorem v122_35 {z : P0} {st : List Value} {cu : Nat × Nat} {Q : Res → Mem → Prop} {σ : Mem} {x1 x2 x3 x4 x5 : Option Value} {u : Nat} : X z 122 35 [some (.ref u), x1, x2, x3, x4, x5] (st) cu σ Q = (X z 122 36 [some (.ref u), x1, x2, x3, x4, x5] (.ref u :: st) cu σ Q) := by
  rw [x122_35]
  rfl
theorem v122_36 {z : P0} {st : List Value} {cu : Nat × Nat} {Q : Res → Mem → Prop} {K : Nat → Nat × Nat} {I : Nat → Nat → Int32} {R : Nat → Nat → Option Nat} {L : Nat → Nat → Int64} {sz : Nat} {ex : Bool} {x0 x1 x2 x3 x4 x5 : Option Value} {u : Nat} : X z 122 36 [x0, x1, x2, x3, x4, x5] (.ref u :: st) cu (K, I, R, L, sz, ex) Q = ((K u).1 = 111 ∧ X z 122 39 [x0, x1, x2, x3, x4, x5] (va_rf (R u 0) :: st) cu (K, I, R, L, sz, ex) Q) := by
  rw [x122_36]
  rfl
theorem v122_39 {z : P0} {st : List Value} {cu : Nat × Nat} {Q : Res → Mem → Prop} {σ : Mem} {x0 x1 x2 x3 x4 x5 : Option Value} : X z 122 39 [x0, x1, x2, x3, x4, x5] (st) cu σ Q = (X z 122 41 [x0, x1, x2, x3, x4, x5] (.int (nI 53) :: st) cu σ Q) := by
  rw [x122_39]
  rfl
theorem v122_41 {z : P0} {st : List Value} {cu : Nat × Nat} {Q : Res → Mem → Prop} {σ : Mem} {x0 x1 x2 x3 x5 : Option Value} {u : Int32} : X z 122 41 [x0, x1, x2, x3, some (.int u), x5] (st) cu σ Q = (X z 122 43 [x0, x1, x2, x3, some (.int u), x5] (.int u :: st) cu σ Q) := by
  rw [x122_41]
  rfl
theorem v122_43 {z : P0} {st : List Value} {cu : Nat × Nat} {Q : Res → Mem → Prop} {σ : Mem} {x0 x1 x2 x3 x4 x5 : Option Value} {u v : Int32} : X z 122 43 [x0, x1, x2, x3, x4, x5] (.int v :: .int u :: st) cu σ Q = (X z 122 44 [x0, x1, x2, x3, x4, x5] (.int (u + v) :: st) cu σ Q) := by
  rw [x122_43]
  rfl
theorem v122_44 {z : P0} {st : List Value} {cu : Nat × Nat} {Q : Res → Mem → Prop} {K : Nat → Nat × Nat} {I : Nat → Nat → Int32} {R : Nat → Nat → Option Nat} {L : Nat → Nat → Int64} {sz : Nat} {ex : Bool} {x0 x1 x2 x3 x4 x5 : Option Value} {u : Nat} {v : Int32} : X z 122 44 [x0, x1, x2, x3, x4, x5] (.int v :: .ref u :: st) cu (K, I, R, L, sz, ex) Q = (((K u).1 = 20 ∨ (K u).1 = 50) ∧ vp_in v (K u).2 ∧ X z 122 45 [x0, x1, x2, x3, x4, x5] (.int (I u v.toNatClampNeg) :: st) cu (K, I, R, L, sz, ex) Q) := by
  rw [x122_44]
  rfl
theorem v122_45 {z : P0} {st : List Value} {cu : Nat × Nat} {Q : Res → Mem → Prop} {σ : Mem} {x0 x1 x2 x3 x4 x5 : Option Value} {u v : Int32} : X z 122 45 [x0, x1, x2, x3, x4, x5] (.int v :: .int u :: st) cu σ Q = (X z 122 46 [x0, x1, x2, x3, x4, x5] (.int (u >>> (v &&& 31)) :: st) cu σ Q) := by
  rw [x122_45]
  rfl
theorem v122_46 {z : P0} {st : List Value} {cu : Nat × Nat} {Q : Res → Mem → Prop} {σ : Mem} {x0 x1 x2 x3 x4 x5 : Option Value} : X z 122 46 [x0, x1, x2, x3, x4, x5] (st) cu σ Q = (X z 122 47 [x0, x1, x2, x3, x4, x5] (.int (nI 1) :: st) cu σ Q) := by
  rw [x122_46]
  rfl
theorem v122_47 {z : P0} {st : List Value} {cu : Nat × Nat} {Q : Res → Mem → Prop} {σ : Mem} {x0 x1 x2 x3 x4 x5 : Option Value} {u v : Int32} : X z 122 47 [x0, x1, x2, x3, x4, x5] (.int v :: .int u :: st) cu σ Q = (X z 122 48 [x0, x1, x2, x3, x4, x5] (.int (u &&& v) :: st) cu σ Q) := by
  rw [x122_47]
  rfl
theorem v122_48 {z : P0} {st : List Value} {cu : Nat × Nat} {Q : Res → Mem → Prop} {σ : Mem} {x0 x1 x2 x3 x4 x5 : Option Value} {u : Int32} : X z 122 48 [x0, x1, x2, x3, x4, x5] (.int u :: st) cu σ Q = (if u = nI 0 then X z 122 51 [x0, x1, x2, x3, x4, x5] (st) cu σ Q else X z 122 55 [x0, x1, x2, x3, x4, x5] (st) cu σ Q) := by
  rw [x122_48]
  rw [nI_0]
  obtain ⟨K, I, R, L, sz, ex⟩ := σ
  exact br_ne
theorem v122_51 {z : P0} {st : List Value} {cu : Nat × Nat} {Q : Res → Mem → Prop} {σ : Mem} {x0 x1 x2 x3 x4 x5 : Option Value} : X z 122 51 [x0, x1, x2, x3, x4, x5] (st) cu σ Q = (X z 122 52 [x0, x1, x2, x3, x4, x5] (.int (nI 1) :: st) cu σ Q) := by
  rw [x122_51]
  rfl
theorem v122_52 {z : P0} {st : List Value} {cu : Nat × Nat} {Q : Res → Mem → Prop} {σ : Mem} {x0 x1 x2 x3 x4 x5 : Option Value} : X z 122 52 [x0, x1, x2, x3, x4, x5] (st) cu σ Q = (X z 122 56 [x0, x1, x2, x3, x4, x5] (st) cu σ Q) := by
  rw [x122_52]
  rfl
theorem v122_55 {z : P0} {st : List Value} {cu : Nat × Nat} {Q : Res → Mem → Prop} {σ : Mem} {x0 x1 x2 x3 x4 x5 : Option Value} : X z 122 55 [x0, x1, x2, x3, x4, x5] (st) cu σ Q = (X z 122 56 [x0, x1, x2, x3, x4, x5] (.int (nI 0) :: st) cu σ Q) := by
  rw [x122_55]
  rfl
theorem v122_56 {z : P0} {st : List Value} {cu : Nat × Nat} {Q : Res → Mem → Prop} {σ : Mem} {x0 x1 x2 x3 x4 x5 : Option Value} {u : Int32} : X z 122 56 [x0, x1, x2, x3, x4, x5] (.int u :: st) cu σ Q = (cat2 x4 = false ∧ X z 122 58 [x0, x1, x2, x3, x4, some (.int u)] (st) cu σ Q) := by
  rw [x122_56]
  obtain ⟨K, I, R, L, sz, ex⟩ := σ
  exact i_istore.trans sl_5
theorem v122_58 {z : P0} {st : List Value} {cu : Nat × Nat} {Q : Res → Mem → Prop} {σ : Mem} {x0 x1 x2 x4 x5 : Option Value} {u : Int32} : X z 122 58 [x0, x1, x2, some (.int u), x4, x5] (st) cu σ Q = (X z 122 59 [x0, x1, x2, some (.int u), x4, x5] (.int u :: st) cu σ Q) := by
  rw [x122_58]
  rfl
theorem v122_59 {z : P0} {st : List Value} {cu : Nat × Nat} {Q : Res → Mem → Prop} {σ : Mem} {x0 x1 x2 x3 x4 : Option Value} {u : Int32} : X z 122 59 [x0, x1, x2, x3, x4, some (.int u)] (st) cu σ Q = (X z 122 61 [x0, x1, x2, x3, x4, some (.int u)] (.int u :: st) cu σ Q) := by
  rw [x122_59]
  rfl
theorem v122_61 {z : P0} {st : List Value} {cu : Nat × Nat} {Q : Res → Mem → Prop} {σ : Mem} {x0 x1 x2 x3 x4 x5 : Option Value} {u : Int32} : X z 122 61 [x0, x1, x2, x3, x4, x5] (.int u :: st) cu σ Q = (if u = nI 0 then X z 122 79 [x0, x1, x2, x3, x4, x5] (st) cu σ Q else X z 122 64 [x0, x1, x2, x3, x4, x5] (st) cu σ Q) := by
  rw [x122_61]
  rw [nI_0]
  obtain ⟨K, I, R, L, sz, ex⟩ := σ
  exact br_ite
theorem v122_64 {z : P0} {st : List Value} {cu : Nat × Nat} {Q : Res → Mem → Prop} {σ : Mem} {x0 x1 x2 x3 x4 x5 : Option Value} : X z 122 64 [x0, x1, x2, x3, x4, x5] (st) cu σ Q = (X z 122 65 [x0, x1, x2, x3, x4, x5] (.int (nI 1) :: st) cu σ Q) := by
  rw [x122_64]
  rfl
theorem v122_65 {z : P0} {st : List Value} {cu : Nat × Nat} {Q : Res → Mem → Prop} {σ : Mem} {x1 x2 x3 x4 x5 : Option Value} {u : Nat} : X z 122 65 [some (.ref u), x1, x2, x3, x4, x5] (st) cu σ Q = (X z 122 66 [some (.ref u), x1, x2, x3, x4, x5] (.ref u :: st) cu σ Q) := by
  rw [x122_65]
  rfl
theorem v122_66 {z : P0} {st : List Value} {cu : Nat × Nat} {Q : Res → Mem → Prop} {K : Nat → Nat × Nat} {I : Nat → Nat → Int32} {R : Nat → Nat → Option Nat} {L : Nat → Nat → Int64} {sz : Nat} {ex : Bool} {x0 x1 x2 x3 x4 x5 : Option Value} {u : Nat} : X z 122 66 [x0, x1, x2, x3, x4, x5] (.ref u :: st) cu (K, I, R, L, sz, ex) Q = ((K u).1 = 111 ∧ X z 122 69 [x0, x1, x2, x3, x4, x5] (va_rf (R u 0) :: st) cu (K, I, R, L, sz, ex) Q) := by
  rw [x122_66]
  rfl
theorem v122_69 {z : P0} {st : List Value} {cu : Nat × Nat} {Q : Res → Mem → Prop} {σ : Mem} {x0 x1 x2 x3 x4 x5 : Option Value} : X z 122 69 [x0, x1, x2, x3, x4, x5] (st) cu σ Q = (X z 122 71 [x0, x1, x2, x3, x4, x5] (.int (nI 53) :: st) cu σ Q) := by
  rw [x122_69]
  rfl
theorem v122_71 {z : P0} {st : List Value} {cu : Nat × Nat} {Q : Res → Mem → Prop} {σ : Mem} {x0 x1 x2 x3 x5 : Option Value} {u : Int32} : X z 122 71 [x0, x1, x2, x3, some (.int u), x5] (st) cu σ Q = (X z 122 73 [x0, x1, x2, x3, some (.int u), x5] (.int u :: st) cu σ Q) := by
  rw [x122_71]
  rfl
theorem v122_73 {z : P0} {st : List Value} {cu : Nat × Nat} {Q : Res → Mem → Prop} {σ : Mem} {x0 x1 x2 x3 x4 x5 : Option Value} {u v : Int32} : X z 122 73 [x0, x1, x2, x3, x4, x5] (.int v :: .int u :: st) cu σ Q = (X z 122 74 [x0, x1, x2, x3, x4, x5] (.int (u + v) :: st) cu σ Q) := by
  rw [x122_73]
  rfl
theorem v122_74 {z : P0} {st : List Value} {cu : Nat × Nat} {Q : Res → Mem → Prop} {K : Nat → Nat × Nat} {I : Nat → Nat → Int32} {R : Nat → Nat → Option Nat} {L : Nat → Nat → Int64} {sz : Nat} {ex : Bool} {x0 x1 x2 x3 x4 x5 : Option Value} {u : Nat} {v : Int32} : X z 122 74 [x0, x1, x2, x3, x4, x5] (.int v :: .ref u :: st) cu (K, I, R, L, sz, ex) Q = (((K u).1 = 20 ∨ (K u).1 = 50) ∧ vp_in v (K u).2 ∧ X z 122 75 [x0, x1, x2, x3, x4, x5] (.int (I u v.toNatClampNeg) :: st) cu (K, I, R, L, sz, ex) Q) := by
  rw [x122_74]
  rfl
theorem v122_75 {z : P0} {st : List Value} {cu : Nat × Nat} {Q : Res → Mem → Prop} {σ : Mem} {x0 x1 x2 x3 x4 x5 : Option Value} {u v : Int32} : X z 122 75 [x0, x1, x2, x3, x4, x5] (.int v :: .int u :: st) cu σ Q = (X z 122 76 [x0, x1, x2, x3, x4, x5] (.int (u <<< (v &&& 31)) :: st) cu σ Q) := by
  rw [x122_75]
  rfl
theorem v122_76 {z : P0} {st : List Value} {cu : Nat × Nat} {Q : Res → Mem → Prop} {σ : Mem} {x0 x1 x2 x3 x4 x5 : Option Value} : X z 122 76 [x0, x1, x2, x3, x4, x5] (st) cu σ Q = (X z 122 80 [x0, x1, x2, x3, x4, x5] (st) cu σ Q) := by
  rw [x122_76]
  rfl
theorem v122_79 {z : P0} {st : List Value} {cu : Nat × Nat} {Q : Res → Mem → Prop} {σ : Mem} {x0 x1 x2 x3 x4 x5 : Option Value} : X z 122 79 [x0, x1, x2, x3, x4, x5] (st) cu σ Q = (X z 122 80 [x0, x1, x2, x3, x4, x5] (.int (nI 0) :: st) cu σ Q) := by
  rw [x122_79]
  rfl
theorem v122_80 {z : P0} {st : List Value} {cu : Nat × Nat} {Q : Res → Mem → Prop} {σ : Mem} {x0 x1 x2 x3 x4 x5 : Option Value} {u v : Int32} : X z 122 80 [x0, x1, x2, x3, x4, x5] (.int v :: .int u :: st) cu σ Q = (X z 122 81 [x0, x1, x2, x3, x4, x5] (.int (u ||| v) :: st) cu σ Q) := by
  rw [x122_80]
  rfl
theorem v122_81 {z : P0} {st : List Value} {cu : Nat × Nat} {Q : Res → Mem → Prop} {σ : Mem} {x0 x1 x2 x3 x4 x5 : Option Value} {u : Int32} : X z 122 81 [x0, x1, x2, x3, x4, x5] (.int u :: st) cu σ Q = (cat2 x2 = false ∧ X z 122 82 [x0, x1, x2, some (.int u), x4, x5] (st) cu σ Q) := by
  rw [x122_81]
  obtain ⟨K, I, R, L, sz, ex⟩ := σ
  exact i_istore_n.trans sl_3
theorem v122_82 {z : P0} {st : List Value} {cu : Nat × Nat} {Q : Res → Mem → Prop} {σ : Mem} {x0 x1 x3 x4 x5 : Option Value} {u : Int32} : X z 122 82 [x0, x1, some (.int u), x3, x4, x5] (st) cu σ Q = (X z 122 83 [x0, x1, some (.int u), x3, x4, x5] (.int u :: st) cu σ Q) := by
  rw [x122_82]
  rfl
theorem v122_83 {z : P0} {st : List Value} {cu : Nat × Nat} {Q : Res → Mem → Prop} {σ : Mem} {x0 x1 x2 x3 x4 : Option Value} {u : Int32} : X z 122 83 [x0, x1, x2, x3, x4, some (.int u)] (st) cu σ Q = (X z 122 85 [x0, x1, x2, x3, x4, some (.int u)] (.int u :: st) cu σ Q) := by
  rw [x122_83]
  rfl
theorem v122_85 {z : P0} {st : List Value} {cu : Nat × Nat} {Q : Res → Mem → Prop} {σ : Mem} {x0 x1 x2 x3 x4 x5 : Option Value} {u : Int32} : X z 122 85 [x0, x1, x2, x3, x4, x5] (.int u :: st) cu σ Q = (if u = nI 0 then X z 122 92 [x0, x1, x2, x3, x4, x5] (st) cu σ Q else X z 122 88 [x0, x1, x2, x3, x4, x5] (st) cu σ Q) := by
  rw [x122_85]
  rw [nI_0]
  obtain ⟨K, I, R, L, sz, ex⟩ := σ
  exact br_ite
theorem v122_88 {z : P0} {st : List Value} {cu : Nat × Nat} {Q : Res → Mem → Prop} {σ : Mem} {x0 x1 x2 x3 x4 x5 : Option Value} : X z 122 88 [x0, x1, x2, x3, x4, x5] (st) cu σ Q = (X z 122 89 [x0, x1, x2, x3, x4, x5] (.int (nI 1) :: st) cu σ Q) := by
  rw [x122_88]
  rfl
theorem v122_89 {z : P0} {st : List Value} {cu : Nat × Nat} {Q : Res → Mem → Prop} {σ : Mem} {x0 x1 x2 x3 x4 x5 : Option Value} : X z 122 89 [x0, x1, x2, x3, x4, x5] (st) cu σ Q = (X z 122 93 [x0, x1, x2, x3, x4, x5] (st) cu σ Q) := by
  rw [x122_89]
  rfl
theorem v122_92 {z : P0} {st : List Value} {cu : Nat × Nat} {Q : Res → Mem → Prop} {σ : Mem} {x0 x1 x2 x3 x4 x5 : Option Value} : X z 122 92 [x0, x1, x2, x3, x4, x5] (st) cu σ Q = (X z 122 93 [x0, x1, x2, x3, x4, x5] (.int (nI 0) :: st) cu σ Q) := by
  rw [x122_92]
  rfl
theorem v122_93 {z : P0} {st : List Value} {cu : Nat × Nat} {Q : Res → Mem → Prop} {σ : Mem} {x0 x1 x2 x3 x4 x5 : Option Value} {u v : Int32} : X z 122 93 [x0, x1, x2, x3, x4, x5] (.int v :: .int u :: st) cu σ Q = (X z 122 94 [x0, x1, x2, x3, x4, x5] (.int (u + v) :: st) cu σ Q) := by
  rw [x122_93]
  rfl
theorem v122_94 {z : P0} {st : List Value} {cu : Nat × Nat} {Q : Res → Mem → Prop} {σ : Mem} {x0 x1 x2 x3 x4 x5 : Option Value} {u : Int32} : X z 122 94 [x0, x1, x2, x3, x4, x5] (.int u :: st) cu σ Q = (cat2 x1 = false ∧ X z 122 95 [x0, x1, some (.int u), x3, x4, x5] (st) cu σ Q) := by
  rw [x122_94]
  obtain ⟨K, I, R, L, sz, ex⟩ := σ
  exact i_istore_n.trans sl_2
theorem v122_95 {z : P0} {st : List Value} {cu : Nat × Nat} {Q : Res → Mem → Prop} {σ : Mem} {x0 x1 x2 x3 x5 : Option Value} {u : Int32} : X z 122 95 [x0, x1, x2, x3, some (.int u), x5] (st) cu σ Q = (cat2 x3 = false ∧ X z 122 98 [x0, x1, x2, x3, some (.int (u + nI 1)), x5] (st) cu σ Q) := by
  rw [x122_95]
  obtain ⟨K, I, R, L, sz, ex⟩ := σ
  exact i_iinc.trans (gl_4.trans (ldI_i.trans sl_4))
theorem v122_98 {z : P0} {st : List Value} {cu : Nat × Nat} {Q : Res → Mem → Prop} {σ : Mem} {x0 x1 x2 x3 x4 x5 : Option Value} : X z 122 98 [x0, x1, x2, x3, x4, x5] (st) cu σ Q = (X z 122 7 [x0, x1, x2, x3, x4, x5] (st) cu σ Q) := by
  rw [x122_98]
  rfl
theorem v122_101 {z : P0} {st : List Value} {cu : Nat × Nat} {Q : Res → Mem → Prop} {σ : Mem} {x0 x1 x2 x3 x4 x5 : Option Value} : X z 122 101 [x0, x1, x2, x3, x4, x5] (st) cu σ Q = (X z 122 102 [x0, x1, x2, x3, x4, x5] (.int (nI 0) :: st) cu σ Q) := by
  rw [x122_101]
  rfl
theorem v122_102 {z : P0} {st : List Value} {cu : Nat × Nat} {Q : Res → Mem → Prop} {σ : Mem} {x0 x1 x2 x3 x4 x5 : Option Value} {u : Int32} : X z 122 102 [x0, x1, x2, x3, x4, x5] (.int u :: st) cu σ Q = (cat2 x3 = false ∧ X z 122 104 [x0, x1, x2, x3, some (.int u), x5] (st) cu σ Q) := by
  rw [x122_102]
  obtain ⟨K, I, R, L, sz, ex⟩ := σ
  exact i_istore.trans sl_4
theorem v122_104 {z : P0} {st : List Value} {cu : Nat × Nat} {Q : Res → Mem → Prop} {σ : Mem} {x0 x1 x2 x3 x4 x5 : Option Value} : X z 122 104 [x0, x1, x2, x3, x4, x5] (st) cu σ Q = (X z 122 105 [x0, x1, x2, x3, x4, x5] (.int (nI 0) :: st) cu σ Q) := by
  rw [x122_104]
  rfl
theorem v122_105 {z : P0} {st : List Value} {cu : Nat × Nat} {Q : Res → Mem → Prop} {σ : Mem} {x0 x1 x2 x3 x4 x5 : Option Value} {u : Int32} : X z 122 105 [x0, x1, x2, x3, x4, x5] (.int u :: st) cu σ Q = (cat2 x4 = false ∧ X z 122 107 [x0, x1, x2, x3, x4, some (.int u)] (st) cu σ Q) := by
  rw [x122_105]
  obtain ⟨K, I, R, L, sz, ex⟩ := σ
  exact i_istore.trans sl_5
theorem v122_107 {z : P0} {st : List Value} {cu : Nat × Nat} {Q : Res → Mem → Prop} {σ : Mem} {x0 x1 x2 x3 x4 : Option Value} {u : Int32} : X z 122 107 [x0, x1, x2, x3, x4, some (.int u)] (st) cu σ Q = (X z 122 109 [x0, x1, x2, x3, x4, some (.int u)] (.int u :: st) cu σ Q) := by
  rw [x122_107]
  rfl
theorem v122_109 {z : P0} {st : List Value} {cu : Nat × Nat} {Q : Res → Mem → Prop} {σ : Mem} {x1 x2 x3 x4 x5 : Option Value} {u : Nat} : X z 122 109 [some (.ref u), x1, x2, x3, x4, x5] (st) cu σ Q = (X z 122 110 [some (.ref u), x1, x2, x3, x4, x5] (.ref u :: st) cu σ Q) := by
  rw [x122_109]
  rfl
theorem v122_110 {z : P0} {st : List Value} {cu : Nat × Nat} {Q : Res → Mem → Prop} {K : Nat → Nat × Nat} {I : Nat → Nat → Int32} {R : Nat → Nat → Option Nat} {L : Nat → Nat → Int64} {sz : Nat} {ex : Bool} {x0 x1 x2 x3 x4 x5 : Option Value} {u : Nat} : X z 122 110 [x0, x1, x2, x3, x4, x5] (.ref u :: st) cu (K, I, R, L, sz, ex) Q = ((K u).1 = 111 ∧ X z 122 113 [x0, x1, x2, x3, x4, x5] (va_rf (R u 0) :: st) cu (K, I, R, L, sz, ex) Q) := by
  rw [x122_110]
  rfl
theorem v122_113 {z : P0} {st : List Value} {cu : Nat × Nat} {Q : Res → Mem → Prop} {σ : Mem} {x0 x1 x2 x3 x4 x5 : Option Value} : X z 122 113 [x0, x1, x2, x3, x4, x5] (st) cu σ Q = (X z 122 115 [x0, x1, x2, x3, x4, x5] (.int (nI 6) :: st) cu σ Q) := by
  rw [x122_113]
  rfl
theorem v122_115 {z : P0} {st : List Value} {cu : Nat × Nat} {Q : Res → Mem → Prop} {K : Nat → Nat × Nat} {I : Nat → Nat → Int32} {R : Nat → Nat → Option Nat} {L : Nat → Nat → Int64} {sz : Nat} {ex : Bool} {x0 x1 x2 x3 x4 x5 : Option Value} {u : Nat} {v : Int32} : X z 122 115 [x0, x1, x2, x3, x4, x5] (.int v :: .ref u :: st) cu (K, I, R, L, sz, ex) Q = (((K u).1 = 20 ∨ (K u).1 = 50) ∧ vp_in v (K u).2 ∧ X z 122 116 [x0, x1, x2, x3, x4, x5] (.int (I u v.toNatClampNeg) :: st) cu (K, I, R, L, sz, ex) Q) := by
  rw [x122_115]
  rfl
theorem v122_116 {z : P0} {st : List Value} {cu : Nat × Nat} {Q : Res → Mem → Prop} {σ : Mem} {x0 x1 x2 x3 x4 x5 : Option Value} {u v : Int32} : X z 122 116 [x0, x1, x2, x3, x4, x5] (.int v :: .int u :: st) cu σ Q = (if u < v then X z 122 119 [x0, x1, x2, x3, x4, x5] (st) cu σ Q else X z 122 199 [x0, x1, x2, x3, x4, x5] (st) cu σ Q) := by
  rw [x122_116]
  obtain ⟨K, I, R, L, sz, ex⟩ := σ
  exact br_ge
theorem v122_119 {z : P0} {st : List Value} {cu : Nat × Nat} {Q : Res → Mem → Prop} {σ : Mem} {x1 x2 x3 x4 x5 : Option Value} {u : Nat} : X z 122 119 [some (.ref u), x1, x2, x3, x4, x5] (st) cu σ Q = (X z 122 120 [some (.ref u), x1, x2, x3, x4, x5] (.ref u :: st) cu σ Q) := by
  rw [x122_119]
  rfl
theorem v122_120 {z : P0} {st : List Value} {cu : Nat × Nat} {Q : Res → Mem → Prop} {K : Nat → Nat × Nat} {I : Nat → Nat → Int32} {R : Nat → Nat → Option Nat} {L : Nat → Nat → Int64} {sz : Nat} {ex : Bool} {x0 x1 x2 x3 x4 x5 : Option Value} {u : Nat} : X z 122 120 [x0, x1, x2, x3, x4, x5] (.ref u :: st) cu (K, I, R, L, sz, ex) Q = ((K u).1 = 111 ∧ X z 122 123 [x0, x1, x2, x3, x4, x5] (va_rf (R u 6) :: st) cu (K, I, R, L, sz, ex) Q) := by
  rw [x122_120]
  rfl
theorem v122_123 {z : P0} {st : List Value} {cu : Nat × Nat} {Q : Res → Mem → Prop} {σ : Mem} {x0 x2 x3 x4 x5 : Option Value} {u : Int32} : X z 122 123 [x0, some (.int u), x2, x3, x4, x5] (st) cu σ Q = (X z 122 124 [x0, some (.int u), x2, x3, x4, x5] (.int u :: st) cu σ Q) := by
  rw [x122_123]
  rfl
theorem v122_124 {z : P0} {st : List Value} {cu : Nat × Nat} {Q : Res → Mem → Prop} {K : Nat → Nat × Nat} {I : Nat → Nat → Int32} {R : Nat → Nat → Option Nat} {L : Nat → Nat → Int64} {sz : Nat} {ex : Bool} {x0 x1 x2 x3 x4 x5 : Option Value} {u : Nat} {v : Int32} : X z 122 124 [x0, x1, x2, x3, x4, x5] (.int v :: .ref u :: st) cu (K, I, R, L, sz, ex) Q = (((K u).1 = 20 ∨ (K u).1 = 50) ∧ vp_in v (K u).2 ∧ X z 122 125 [x0, x1, x2, x3, x4, x5] (.int (I u v.toNatClampNeg) :: st) cu (K, I, R, L, sz, ex) Q) := by
  rw [x122_124]
  rfl
theorem v122_125 {z : P0} {st : List Value} {cu : Nat × Nat} {Q : Res → Mem → Prop} {σ : Mem} {x0 x1 x2 x3 x4 : Option Value} {u : Int32} : X z 122 125 [x0, x1, x2, x3, x4, some (.int u)] (st) cu σ Q = (X z 122 127 [x0, x1, x2, x3, x4, some (.int u)] (.int u :: st) cu σ Q) := by
  rw [x122_125]
  rfl
theorem v122_127 {z : P0} {st : List Value} {cu : Nat × Nat} {Q : Res → Mem → Prop} {σ : Mem} {x0 x1 x2 x3 x4 x5 : Option Value} {u v : Int32} : X z 122 127 [x0, x1, x2, x3, x4, x5] (.int v :: .int u :: st) cu σ Q = (X z 122 128 [x0, x1, x2, x3, x4, x5] (.int (u >>> (v &&& 31)) :: st) cu σ Q) := by
  rw [x122_127]
  rfl
theorem v122_128 {z : P0} {st : List Value} {cu : Nat × Nat} {Q : Res → Mem → Prop} {σ : Mem} {x0 x1 x2 x3 x4 x5 : Option Value} : X z 122 128 [x0, x1, x2, x3, x4, x5] (st) cu σ Q = (X z 122 129 [x0, x1, x2, x3, x4, x5] (.int (nI 1) :: st) cu σ Q) := by
  rw [x122_128]
  rfl
theorem v122_129 {z : P0} {st : List Value} {cu : Nat × Nat} {Q : Res → Mem → Prop} {σ : Mem} {x0 x1 x2 x3 x4 x5 : Option Value} {u v : Int32} : X z 122 129 [x0, x1, x2, x3, x4, x5] (.int v :: .int u :: st) cu σ Q = (X z 122 130 [x0, x1, x2, x3, x4, x5] (.int (u &&& v) :: st) cu σ Q) := by
  rw [x122_129]
  rfl
theorem v122_130 {z : P0} {st : List Value} {cu : Nat × Nat} {Q : Res → Mem → Prop} {σ : Mem} {x0 x1 x2 x3 x4 x5 : Option Value} : X z 122 130 [x0, x1, x2, x3, x4, x5] (st) cu σ Q = (X z 122 131 [x0, x1, x2, x3, x4, x5] (.int (nI 1) :: st) cu σ Q) := by
  rw [x122_130]
  rfl
theorem v122_131 {z : P0} {st : List Value} {cu : Nat × Nat} {Q : Res → Mem → Prop} {σ : Mem} {x0 x1 x2 x3 x4 x5 : Option Value} {u v : Int32} : X z 122 131 [x0, x1, x2, x3, x4, x5] (.int v :: .int u :: st) cu σ Q = (if u = v then X z 122 134 [x0, x1, x2, x3, x4, x5] (st) cu σ Q else X z 122 193 [x0, x1, x2, x3, x4, x5] (st) cu σ Q) := by
  rw [x122_131]
  obtain ⟨K, I, R, L, sz, ex⟩ := σ
  exact br_ne
theorem v122_134 {z : P0} {st : List Value} {cu : Nat × Nat} {Q : Res → Mem → Prop} {σ : Mem} {x0 x1 x2 x4 x5 : Option Value} {u : Int32} : X z 122 134 [x0, x1, x2, some (.int u), x4, x5] (st) cu σ Q = (X z 122 135 [x0, x1, x2, some (.int u), x4, x5] (.int u :: st) cu σ Q) := by
  rw [x122_134]
  rfl
theorem v122_135 {z : P0} {st : List Value} {cu : Nat × Nat} {Q : Res → Mem → Prop} {σ : Mem} {x1 x2 x3 x4 x5 : Option Value} {u : Nat} : X z 122 135 [some (.ref u), x1, x2, x3, x4, x5] (st) cu σ Q = (X z 122 136 [some (.ref u), x1, x2, x3, x4, x5] (.ref u :: st) cu σ Q) := by
  rw [x122_135]
  rfl
theorem v122_136 {z : P0} {st : List Value} {cu : Nat × Nat} {Q : Res → Mem → Prop} {K : Nat → Nat × Nat} {I : Nat → Nat → Int32} {R : Nat → Nat → Option Nat} {L : Nat → Nat → Int64} {sz : Nat} {ex : Bool} {x0 x1 x2 x3 x4 x5 : Option Value} {u : Nat} : X z 122 136 [x0, x1, x2, x3, x4, x5] (.ref u :: st) cu (K, I, R, L, sz, ex) Q = ((K u).1 = 111 ∧ X z 122 139 [x0, x1, x2, x3, x4, x5] (va_rf (R u 0) :: st) cu (K, I, R, L, sz, ex) Q) := by
  rw [x122_136]
  rfl
theorem v122_139 {z : P0} {st : List Value} {cu : Nat × Nat} {Q : Res → Mem → Prop} {σ : Mem} {x0 x1 x2 x3 x4 x5 : Option Value} : X z 122 139 [x0, x1, x2, x3, x4, x5] (st) cu σ Q = (X z 122 141 [x0, x1, x2, x3, x4, x5] (.int (nI 53) :: st) cu σ Q) := by
  rw [x122_139]
  rfl
theorem v122_141 {z : P0} {st : List Value} {cu : Nat × Nat} {Q : Res → Mem → Prop} {σ : Mem} {x0 x1 x2 x3 x4 : Option Value} {u : Int32} : X z 122 141 [x0, x1, x2, x3, x4, some (.int u)] (st) cu σ Q = (X z 122 143 [x0, x1, x2, x3, x4, some (.int u)] (.int u :: st) cu σ Q) := by
  rw [x122_141]
  rfl
theorem v122_143 {z : P0} {st : List Value} {cu : Nat × Nat} {Q : Res → Mem → Prop} {σ : Mem} {x0 x1 x2 x3 x4 x5 : Option Value} {u v : Int32} : X z 122 143 [x0, x1, x2, x3, x4, x5] (.int v :: .int u :: st) cu σ Q = (X z 122 144 [x0, x1, x2, x3, x4, x5] (.int (u + v) :: st) cu σ Q) := by
  rw [x122_143]
  rfl
theorem v122_144 {z : P0} {st : List Value} {cu : Nat × Nat} {Q : Res → Mem → Prop} {K : Nat → Nat × Nat} {I : Nat → Nat → Int32} {R : Nat → Nat → Option Nat} {L : Nat → Nat → Int64} {sz : Nat} {ex : Bool} {x0 x1 x2 x3 x4 x5 : Option Value} {u : Nat} {v : Int32} : X z 122 144 [x0, x1, x2, x3, x4, x5] (.int v :: .ref u :: st) cu (K, I, R, L, sz, ex) Q = (((K u).1 = 20 ∨ (K u).1 = 50) ∧ vp_in v (K u).2 ∧ X z 122 145 [x0, x1, x2, x3, x4, x5] (.int (I u v.toNatClampNeg) :: st) cu (K, I, R, L, sz, ex) Q) := by
  rw [x122_144]
  rfl
theorem v122_145 {z : P0} {st : List Value} {cu : Nat × Nat} {Q : Res → Mem → Prop} {σ : Mem} {x0 x1 x2 x3 x4 x5 : Option Value} {u v : Int32} : X z 122 145 [x0, x1, x2, x3, x4, x5] (.int v :: .int u :: st) cu σ Q = (X z 122 146 [x0, x1, x2, x3, x4, x5] (.int (u >>> (v &&& 31)) :: st) cu σ Q) := by
  rw [x122_145]
  rfl
theorem v122_146 {z : P0} {st : List Value} {cu : Nat × Nat} {Q : Res → Mem → Prop} {σ : Mem} {x0 x1 x2 x3 x4 x5 : Option Value} : X z 122 146 [x0, x1, x2, x3, x4, x5] (st) cu σ Q = (X z 122 147 [x0, x1, x2, x3, x4, x5] (.int (nI 1) :: st) cu σ Q) := by
  rw [x122_146]
  rfl
theorem v122_147 {z : P0} {st : List Value} {cu : Nat × Nat} {Q : Res → Mem → Prop} {σ : Mem} {x0 x1 x2 x3 x4 x5 : Option Value} {u v : Int32} : X z 122 147 [x0, x1, x2, x3, x4, x5] (.int v :: .int u :: st) cu σ Q = (X z 122 148 [x0, x1, x2, x3, x4, x5] (.int (u &&& v) :: st) cu σ Q) := by
  rw [x122_147]
  rfl
theorem v122_148 {z : P0} {st : List Value} {cu : Nat × Nat} {Q : Res → Mem → Prop} {σ : Mem} {x0 x1 x2 x3 x4 x5 : Option Value} : X z 122 148 [x0, x1, x2, x3, x4, x5] (st) cu σ Q = (X z 122 149 [x0, x1, x2, x3, x4, x5] (.int (nI 1) :: st) cu σ Q) := by
  rw [x122_148]
  rfl
theorem v122_149 {z : P0} {st : List Value} {cu : Nat × Nat} {Q : Res → Mem → Prop} {σ : Mem} {x0 x1 x2 x3 x4 x5 : Option Value} {u v : Int32} : X z 122 149 [x0, x1, x2, x3, x4, x5] (.int v :: .int u :: st) cu σ Q = (if u = v then X z 122 152 [x0, x1, x2, x3, x4, x5] (st) cu σ Q else X z 122 193 [x0, x1, x2, x3, x4, x5] (st) cu σ Q) := by
  rw [x122_149]
  obtain ⟨K, I, R, L, sz, ex⟩ := σ
  exact br_ne
theorem v122_152 {z : P0} {st : List Value} {cu : Nat × Nat} {Q : Res → Mem → Prop} {σ : Mem} {x0 x1 x2 x4 x5 : Option Value} {u : Int32} : X z 122 152 [x0, x1, x2, some (.int u), x4, x5] (st) cu σ Q = (X z 122 153 [x0, x1, x2, some (.int u), x4, x5] (.int u :: st) cu σ Q) := by
  rw [x122_152]
  rfl
theorem v122_153 {z : P0} {st : List Value} {cu : Nat × Nat} {Q : Res → Mem → Prop} {σ : Mem} {x0 x1 x2 x3 x4 x5 : Option Value} : X z 122 153 [x0, x1, x2, x3, x4, x5] (st) cu σ Q = (X z 122 154 [x0, x1, x2, x3, x4, x5] (.int (nI 1) :: st) cu σ Q) := by
  rw [x122_153]
  rfl
theorem v122_154 {z : P0} {st : List Value} {cu : Nat × Nat} {Q : Res → Mem → Prop} {σ : Mem} {x1 x2 x3 x4 x5 : Option Value} {u : Nat} : X z 122 154 [some (.ref u), x1, x2, x3, x4, x5] (st) cu σ Q = (X z 122 155 [some (.ref u), x1, x2, x3, x4, x5] (.ref u :: st) cu σ Q) := by
  rw [x122_154]
  rfl
theorem v122_155 {z : P0} {st : List Value} {cu : Nat × Nat} {Q : Res → Mem → Prop} {K : Nat → Nat × Nat} {I : Nat → Nat → Int32} {R : Nat → Nat → Option Nat} {L : Nat → Nat → Int64} {sz : Nat} {ex : Bool} {x0 x1 x2 x3 x4 x5 : Option Value} {u : Nat} : X z 122 155 [x0, x1, x2, x3, x4, x5] (.ref u :: st) cu (K, I, R, L, sz, ex) Q = ((K u).1 = 111 ∧ X z 122 158 [x0, x1, x2, x3, x4, x5] (va_rf (R u 0) :: st) cu (K, I, R, L, sz, ex) Q) := by
  rw [x122_155]
  rfl
theorem v122_158 {z : P0} {st : List Value} {cu : Nat × Nat} {Q : Res → Mem → Prop} {σ : Mem} {x0 x1 x2 x3 x4 x5 : Option Value} : X z 122 158 [x0, x1, x2, x3, x4, x5] (st) cu σ Q = (X z 122 160 [x0, x1, x2, x3, x4, x5] (.int (nI 53) :: st) cu σ Q) := by
  rw [x122_158]
  rfl
theorem v122_160 {z : P0} {st : List Value} {cu : Nat × Nat} {Q : Res → Mem → Prop} {σ : Mem} {x0 x1 x2 x3 x4 : Option Value} {u : Int32} : X z 122 160 [x0, x1, x2, x3, x4, some (.int u)] (st) cu σ Q = (X z 122 162 [x0, x1, x2, x3, x4, some (.int u)] (.int u :: st) cu σ Q) := by
  rw [x122_160]
  rfl
theorem v122_162 {z : P0} {st : List Value} {cu : Nat × Nat} {Q : Res → Mem → Prop} {σ : Mem} {x0 x1 x2 x3 x4 x5 : Option Value} {u v : Int32} : X z 122 162 [x0, x1, x2, x3, x4, x5] (.int v :: .int u :: st) cu σ Q = (X z 122 163 [x0, x1, x2, x3, x4, x5] (.int (u + v) :: st) cu σ Q) := by
  rw [x122_162]
  rfl
theorem v122_163 {z : P0} {st : List Value} {cu : Nat × Nat} {Q : Res → Mem → Prop} {K : Nat → Nat × Nat} {I : Nat → Nat → Int32} {R : Nat → Nat → Option Nat} {L : Nat → Nat → Int64} {sz : Nat} {ex : Bool} {x0 x1 x2 x3 x4 x5 : Option Value} {u : Nat} {v : Int32} : X z 122 163 [x0, x1, x2, x3, x4, x5] (.int v :: .ref u :: st) cu (K, I, R, L, sz, ex) Q = (((K u).1 = 20 ∨ (K u).1 = 50) ∧ vp_in v (K u).2 ∧ X z 122 164 [x0, x1, x2, x3, x4, x5] (.int (I u v.toNatClampNeg) :: st) cu (K, I, R, L, sz, ex) Q) := by
  rw [x122_163]
  rfl
theorem v122_164 {z : P0} {st : List Value} {cu : Nat × Nat} {Q : Res → Mem → Prop} {σ : Mem} {x0 x1 x2 x3 x4 x5 : Option Value} {u v : Int32} : X z 122 164 [x0, x1, x2, x3, x4, x5] (.int v :: .int u :: st) cu σ Q = (X z 122 165 [x0, x1, x2, x3, x4, x5] (.int (u <<< (v &&& 31)) :: st) cu σ Q) := by
  rw [x122_164]
  rfl
theorem v122_165 {z : P0} {st : List Value} {cu : Nat × Nat} {Q : Res → Mem → Prop} {σ : Mem} {x0 x1 x2 x3 x4 x5 : Option Value} : X z 122 165 [x0, x1, x2, x3, x4, x5] (st) cu σ Q = (X z 122 166 [x0, x1, x2, x3, x4, x5] (.int (nI 4294967295) :: st) cu σ Q) := by
  rw [x122_165]
  rw [neg1]
  rfl
theorem v122_166 {z : P0} {st : List Value} {cu : Nat × Nat} {Q : Res → Mem → Prop} {σ : Mem} {x0 x1 x2 x3 x4 x5 : Option Value} {u v : Int32} : X z 122 166 [x0, x1, x2, x3, x4, x5] (.int v :: .int u :: st) cu σ Q = (X z 122 167 [x0, x1, x2, x3, x4, x5] (.int (u ^^^ v) :: st) cu σ Q) := by
  rw [x122_166]
  rfl
theorem v122_167 {z : P0} {st : List Value} {cu : Nat × Nat} {Q : Res → Mem → Prop} {σ : Mem} {x0 x1 x2 x3 x4 x5 : Option Value} {u v : Int32} : X z 122 167 [x0, x1, x2, x3, x4, x5] (.int v :: .int u :: st) cu σ Q = (X z 122 168 [x0, x1, x2, x3, x4, x5] (.int (u &&& v) :: st) cu σ Q) := by
  rw [x122_167]
  rfl
theorem v122_168 {z : P0} {st : List Value} {cu : Nat × Nat} {Q : Res → Mem → Prop} {σ : Mem} {x0 x1 x2 x3 x4 x5 : Option Value} {u : Int32} : X z 122 168 [x0, x1, x2, x3, x4, x5] (.int u :: st) cu σ Q = (cat2 x2 = false ∧ X z 122 169 [x0, x1, x2, some (.int u), x4, x5] (st) cu σ Q) := by
  rw [x122_168]
  obtain ⟨K, I, R, L, sz, ex⟩ := σ
  exact i_istore_n.trans sl_3
theorem v122_169 {z : P0} {st : List Value} {cu : Nat × Nat} {Q : Res → Mem → Prop} {σ : Mem} {x1 x2 x3 x4 x5 : Option Value} {u : Nat} : X z 122 169 [some (.ref u), x1, x2, x3, x4, x5] (st) cu σ Q = (X z 122 170 [some (.ref u), x1, x2, x3, x4, x5] (.ref u :: st) cu σ Q) := by
  rw [x122_169]
  rfl
theorem v122_170 {z : P0} {st : List Value} {cu : Nat × Nat} {Q : Res → Mem → Prop} {σ : Mem} {x0 x1 x2 x3 x5 : Option Value} {u : Int32} : X z 122 170 [x0, x1, x2, x3, some (.int u), x5] (st) cu σ Q = (X z 122 172 [x0, x1, x2, x3, some (.int u), x5] (.int u :: st) cu σ Q) := by
  rw [x122_170]
  rfl
theorem v122_172 {z : P0} {st : List Value} {cu : Nat × Nat} {Q : Res → Mem → Prop} {σ : Mem} {x0 x1 x3 x4 x5 : Option Value} {u : Int32} : X z 122 172 [x0, x1, some (.int u), x3, x4, x5] (st) cu σ Q = (X z 122 173 [x0, x1, some (.int u), x3, x4, x5] (.int u :: st) cu σ Q) := by
  rw [x122_172]
  rfl
theorem u122_173 {z : P0} {ls : Lcs} {st : List Value} {K : Nat → Nat × Nat} {I : Nat → Nat → Int32} {R : Nat → Nat → Option Nat} {L : Nat → Nat → Int64} {sz : Nat} {ex : Bool} {Q : Res → Mem → Prop} {x : Nat} {a0 : Int32} {a1 : Int32} : X z 122 173 ls (.int a1 :: .int a0 :: .ref x :: st) (0, 0) (K, I, R, L, sz, ex) Q = ((K x).1 = 111 ∧ wsum st ≤ 8 ∧ X z 117 0 [some (.ref x), some (.int a0), some (.int a1)] [] (0, 0) (K, I, R, L, sz, ex) (aftr (X z) mT 122 173 ls st (0, 0) Q)) := v122_173 (c := 0) (n := 0)
theorem v122_176 {z : P0} {st : List Value} {cu : Nat × Nat} {Q : Res → Mem → Prop} {σ : Mem} {x1 x2 x3 x4 x5 : Option Value} {u : Nat} : X z 122 176 [some (.ref u), x1, x2, x3, x4, x5] (st) cu σ Q = (X z 122 177 [some (.ref u), x1, x2, x3, x4, x5] (.ref u :: st) cu σ Q) := by
  rw [x122_176]
  rfl
theorem v122_177 {z : P0} {st : List Value} {cu : Nat × Nat} {Q : Res → Mem → Prop} {σ : Mem} {x1 x2 x3 x4 x5 : Option Value} {u : Nat} : X z 122 177 [some (.ref u), x1, x2, x3, x4, x5] (st) cu σ Q = (X z 122 178 [some (.ref u), x1, x2, x3, x4, x5] (.ref u :: st) cu σ Q) := by
  rw [x122_177]
  rfl
theorem v122_178 {z : P0} {st : List Value} {cu : Nat × Nat} {Q : Res → Mem → Prop} {K : Nat → Nat × Nat} {I : Nat → Nat → Int32} {R : Nat → Nat → Option Nat} {L : Nat → Nat → Int64} {sz : Nat} {ex : Bool} {x0 x1 x2 x3 x4 x5 : Option Value} {u : Nat} : X z 122 178 [x0, x1, x2, x3, x4, x5] (.ref u :: st) cu (K, I, R, L, sz, ex) Q = ((K u).1 = 111 ∧ X z 122 181 [x0, x1, x2, x3, x4, x5] (va_rf (R u 0) :: st) cu (K, I, R, L, sz, ex) Q) := by
  rw [x122_178]
  rfl
theorem v122_181 {z : P0} {st : List Value} {cu : Nat × Nat} {Q : Res → Mem → Prop} {σ : Mem} {x0 x1 x2 x3 x4 x5 : Option Value} : X z 122 181 [x0, x1, x2, x3, x4, x5] (st) cu σ Q = (X z 122 183 [x0, x1, x2, x3, x4, x5] (.int (nI 53) :: st) cu σ Q) := by
  rw [x122_181]
  rfl
theorem v122_183 {z : P0} {st : List Value} {cu : Nat × Nat} {Q : Res → Mem → Prop} {σ : Mem} {x0 x1 x2 x3 x4 : Option Value} {u : Int32} : X z 122 183 [x0, x1, x2, x3, x4, some (.int u)] (st) cu σ Q = (X z 122 185 [x0, x1, x2, x3, x4, some (.int u)] (.int u :: st) cu σ Q) := by
  rw [x122_183]
  rfl
theorem v122_185 {z : P0} {st : List Value} {cu : Nat × Nat} {Q : Res → Mem → Prop} {σ : Mem} {x0 x1 x2 x3 x4 x5 : Option Value} {u v : Int32} : X z 122 185 [x0, x1, x2, x3, x4, x5] (.int v :: .int u :: st) cu σ Q = (X z 122 186 [x0, x1, x2, x3, x4, x5] (.int (u + v) :: st) cu σ Q) := by
  rw [x122_185]
  rfl
theorem v122_186 {z : P0} {st : List Value} {cu : Nat × Nat} {Q : Res → Mem → Prop} {K : Nat → Nat × Nat} {I : Nat → Nat → Int32} {R : Nat → Nat → Option Nat} {L : Nat → Nat → Int64} {sz : Nat} {ex : Bool} {x0 x1 x2 x3 x4 x5 : Option Value} {u : Nat} {v : Int32} : X z 122 186 [x0, x1, x2, x3, x4, x5] (.int v :: .ref u :: st) cu (K, I, R, L, sz, ex) Q = (((K u).1 = 20 ∨ (K u).1 = 50) ∧ vp_in v (K u).2 ∧ X z 122 187 [x0, x1, x2, x3, x4, x5] (.int (I u v.toNatClampNeg) :: st) cu (K, I, R, L, sz, ex) Q) := by
  rw [x122_186]
  rfl
theorem u122_187 {z : P0} {ls : Lcs} {st : List Value} {K : Nat → Nat × Nat} {I : Nat → Nat → Int32} {R : Nat → Nat → Option Nat} {L : Nat → Nat → Int64} {sz : Nat} {ex : Bool} {Q : Res → Mem → Prop} {x : Nat} {a0 : Int32} : X z 122 187 ls (.int a0 :: .ref x :: st) (0, 0) (K, I, R, L, sz, ex) Q = ((K x).1 = 111 ∧ wsum st ≤ 8 ∧ X z 121 0 [some (.ref x), some (.int a0), none, none] [] (0, 0) (K, I, R, L, sz, ex) (aftr (X z) mT 122 187 ls st (0, 0) Q)) := v122_187 (c := 0) (n := 0)
theorem v122_190 {z : P0} {st : List Value} {cu : Nat × Nat} {Q : Res → Mem → Prop} {σ : Mem} {x0 x1 x2 x3 x5 : Option Value} {u : Int32} : X z 122 190 [x0, x1, x2, x3, some (.int u), x5] (st) cu σ Q = (cat2 x3 = false ∧ X z 122 193 [x0, x1, x2, x3, some (.int (u + nI 1)), x5] (st) cu σ Q) := by
  rw [x122_190]
  obtain ⟨K, I, R, L, sz, ex⟩ := σ
  exact i_iinc.trans (gl_4.trans (ldI_i.trans sl_4))
theorem v122_193 {z : P0} {st : List Value} {cu : Nat × Nat} {Q : Res → Mem → Prop} {σ : Mem} {x0 x1 x2 x3 x4 : Option Value} {u : Int32} : X z 122 193 [x0, x1, x2, x3, x4, some (.int u)] (st) cu σ Q = (cat2 x4 = false ∧ X z 122 196 [x0, x1, x2, x3, x4, some (.int (u + nI 1))] (st) cu σ Q) := by
  rw [x122_193]
  obtain ⟨K, I, R, L, sz, ex⟩ := σ
  exact i_iinc.trans (gl_5.trans (ldI_i.trans sl_5))
theorem v122_196 {z : P0} {st : List Value} {cu : Nat × Nat} {Q : Res → Mem → Prop} {σ : Mem} {x0 x1 x2 x3 x4 x5 : Option Value} : X z 122 196 [x0, x1, x2, x3, x4, x5] (st) cu σ Q = (X z 122 107 [x0, x1, x2, x3, x4, x5] (st) cu σ Q) := by
  rw [x122_196]
  rfl
theorem v122_199 {z : P0} {cu : Nat × Nat} {Q : Res → Mem → Prop} {σ : Mem} {x0 x1 x2 x3 x4 x5 : Option Value} : X z 122 199 [x0, x1, x2, x3, x4, x5] ([]) cu σ Q = (Q (.inl none) σ) := by
  rw [x122_199]
  rfl
theorem v123_0 {z : P0} {st : List Value} {cu : Nat × Nat} {Q : Res → Mem → Prop} {σ : Mem} {x0 x2 : Option Value} {u : Int32} : X z 123 0 [x0, some (.int u), x2] (st) cu σ Q = (X z 123 1 [x0, some (.int u), x2] (.int u :: st) cu σ Q) := by
  rw [x123_0]
  rfl
theorem w123_1_355 {z : P0} {st : List Value} {cu : Nat × Nat} {Q : Res → Mem → Prop} {σ : Mem} {x0 x1 x2 : Option Value} : X z 123 1 [x0, x1, x2] (.int (nI 355) :: st) cu σ Q = (X z 123 68 [x0, x1, x2] (st) cu σ Q) := by
  rw [x123_1]
  exact lsw_at (t := 68) (by decide +kernel)
theorem w123_1_359 {z : P0} {st : List Value} {cu : Nat × Nat} {Q : Res → Mem → Prop} {σ : Mem} {x0 x1 x2 : Option Value} : X z 123 1 [x0, x1, x2] (.int (nI 359) :: st) cu σ Q = (X z 123 52 [x0, x1, x2] (st) cu σ Q) := by
  rw [x123_1]
  exact lsw_at (t := 52) (by decide +kernel)
theorem w123_1_366 {z : P0} {st : List Value} {cu : Nat × Nat} {Q : Res → Mem → Prop} {σ : Mem} {x0 x1 x2 : Option Value} : X z 123 1 [x0, x1, x2] (.int (nI 366) :: st) cu σ Q = (X z 123 44 [x0, x1, x2] (st) cu σ Q) := by
  rw [x123_1]
  exact lsw_at (t := 44) (by decide +kernel)
theorem w123_1_375 {z : P0} {st : List Value} {cu : Nat × Nat} {Q : Res → Mem → Prop} {σ : Mem} {x0 x1 x2 : Option Value} : X z 123 1 [x0, x1, x2] (.int (nI 375) :: st) cu σ Q = (X z 123 60 [x0, x1, x2] (st) cu σ Q) := by
  rw [x123_1]
  exact lsw_at (t := 60) (by decide +kernel)
theorem w123_1_d {z : P0} {st : List Value} {cu : Nat × Nat} {Q : Res → Mem → Prop} {σ : Mem} {x0 x1 x2 : Option Value} {j : Nat} (h : j < 2147483648 ∧ ¬ j = 355 ∧ ¬ j = 359 ∧ ¬ j = 366 ∧ ¬ j = 375) : X z 123 1 [x0, x1, x2] (.int (nI j) :: st) cu σ Q = (X z 123 84 [x0, x1, x2] (st) cu σ Q) := by
  rw [x123_1]
  exact lsw_at (t := 84) (by
    rw [nI_toInt h.1]
    obtain ⟨h0, h1, h2, h3, h4⟩ := h
    show (1 : Int) + (if (355 : Int) = (j : Int) then 67 else if (359 : Int) = (j : Int) then 51 else if (366 : Int) = (j : Int) then 43 else if (375 : Int) = (j : Int) then 59 else 83) = _
    rw [if_neg (by omega), if_neg (by omega), if_neg (by omega), if_neg (by omega)]
    rfl)
theorem v123_44 {z : P0} {st : List Value} {cu : Nat × Nat} {Q : Res → Mem → Prop} {σ : Mem} {x1 x2 : Option Value} {u : Nat} : X z 123 44 [some (.ref u), x1, x2] (st) cu σ Q = (X z 123 45 [some (.ref u), x1, x2] (.ref u :: st) cu σ Q) := by
  rw [x123_44]
  rfl
theorem v123_45 {z : P0} {st : List Value} {cu : Nat × Nat} {Q : Res → Mem → Prop} {σ : Mem} {x0 x1 : Option Value} {u : Int32} : X z 123 45 [x0, x1, some (.int u)] (st) cu σ Q = (X z 123 46 [x0, x1, some (.int u)] (.int u :: st) cu σ Q) := by
  rw [x123_45]
  rfl
theorem u123_46 {z : P0} {ls : Lcs} {st : List Value} {K : Nat → Nat × Nat} {I : Nat → Nat → Int32} {R : Nat → Nat → Option Nat} {L : Nat → Nat → Int64} {sz : Nat} {ex : Bool} {Q : Res → Mem → Prop} {x : Nat} {a0 : Int32} : X z 123 46 ls (.int a0 :: .ref x :: st) (0, 0) (K, I, R, L, sz, ex) Q = ((K x).1 = 111 ∧ wsum st ≤ 8 ∧ X z 118 0 [some (.ref x), some (.int a0), none, none, none] [] (0, 0) (K, I, R, L, sz, ex) (aftr (X z) mT 123 46 ls st (0, 0) Q)) := v123_46 (c := 0) (n := 0)
theorem v123_49 {z : P0} {st : List Value} {cu : Nat × Nat} {Q : Res → Mem → Prop} {σ : Mem} {x0 x1 x2 : Option Value} : X z 123 49 [x0, x1, x2] (st) cu σ Q = (X z 123 89 [x0, x1, x2] (st) cu σ Q) := by
  rw [x123_49]
  rfl
theorem v123_52 {z : P0} {st : List Value} {cu : Nat × Nat} {Q : Res → Mem → Prop} {σ : Mem} {x1 x2 : Option Value} {u : Nat} : X z 123 52 [some (.ref u), x1, x2] (st) cu σ Q = (X z 123 53 [some (.ref u), x1, x2] (.ref u :: st) cu σ Q) := by
  rw [x123_52]
  rfl
theorem v123_53 {z : P0} {st : List Value} {cu : Nat × Nat} {Q : Res → Mem → Prop} {σ : Mem} {x0 x1 : Option Value} {u : Int32} : X z 123 53 [x0, x1, some (.int u)] (st) cu σ Q = (X z 123 54 [x0, x1, some (.int u)] (.int u :: st) cu σ Q) := by
  rw [x123_53]
  rfl
theorem u123_54 {z : P0} {ls : Lcs} {st : List Value} {K : Nat → Nat × Nat} {I : Nat → Nat → Int32} {R : Nat → Nat → Option Nat} {L : Nat → Nat → Int64} {sz : Nat} {ex : Bool} {Q : Res → Mem → Prop} {x : Nat} {a0 : Int32} : X z 123 54 ls (.int a0 :: .ref x :: st) (0, 0) (K, I, R, L, sz, ex) Q = ((K x).1 = 111 ∧ wsum st ≤ 8 ∧ X z 119 0 [some (.ref x), some (.int a0), none, none, none] [] (0, 0) (K, I, R, L, sz, ex) (aftr (X z) mT 123 54 ls st (0, 0) Q)) := v123_54 (c := 0) (n := 0)
theorem v123_57 {z : P0} {st : List Value} {cu : Nat × Nat} {Q : Res → Mem → Prop} {σ : Mem} {x0 x1 x2 : Option Value} : X z 123 57 [x0, x1, x2] (st) cu σ Q = (X z 123 89 [x0, x1, x2] (st) cu σ Q) := by
  rw [x123_57]
  rfl
theorem v123_60 {z : P0} {st : List Value} {cu : Nat × Nat} {Q : Res → Mem → Prop} {σ : Mem} {x1 x2 : Option Value} {u : Nat} : X z 123 60 [some (.ref u), x1, x2] (st) cu σ Q = (X z 123 61 [some (.ref u), x1, x2] (.ref u :: st) cu σ Q) := by
  rw [x123_60]
  rfl
theorem v123_61 {z : P0} {st : List Value} {cu : Nat × Nat} {Q : Res → Mem → Prop} {σ : Mem} {x0 x1 : Option Value} {u : Int32} : X z 123 61 [x0, x1, some (.int u)] (st) cu σ Q = (X z 123 62 [x0, x1, some (.int u)] (.int u :: st) cu σ Q) := by
  rw [x123_61]
  rfl
theorem u123_62 {z : P0} {ls : Lcs} {st : List Value} {K : Nat → Nat × Nat} {I : Nat → Nat → Int32} {R : Nat → Nat → Option Nat} {L : Nat → Nat → Int64} {sz : Nat} {ex : Bool} {Q : Res → Mem → Prop} {x : Nat} {a0 : Int32} : X z 123 62 ls (.int a0 :: .ref x :: st) (0, 0) (K, I, R, L, sz, ex) Q = ((K x).1 = 111 ∧ wsum st ≤ 8 ∧ X z 122 0 [some (.ref x), some (.int a0), none, none, none, none] [] (0, 0) (K, I, R, L, sz, ex) (aftr (X z) mT 123 62 ls st (0, 0) Q)) := v123_62 (c := 0) (n := 0)
theorem v123_65 {z : P0} {st : List Value} {cu : Nat × Nat} {Q : Res → Mem → Prop} {σ : Mem} {x0 x1 x2 : Option Value} : X z 123 65 [x0, x1, x2] (st) cu σ Q = (X z 123 89 [x0, x1, x2] (st) cu σ Q) := by
  rw [x123_65]
  rfl
theorem v123_68 {z : P0} {st : List Value} {cu : Nat × Nat} {Q : Res → Mem → Prop} {σ : Mem} {x1 x2 : Option Value} {u : Nat} : X z 123 68 [some (.ref u), x1, x2] (st) cu σ Q = (X z 123 69 [some (.ref u), x1, x2] (.ref u :: st) cu σ Q) := by
  rw [x123_68]
  rfl
theorem v123_69 {z : P0} {st : List Value} {cu : Nat × Nat} {Q : Res → Mem → Prop} {σ : Mem} {x0 x1 x2 : Option Value} : X z 123 69 [x0, x1, x2] (st) cu σ Q = (X z 123 71 [x0, x1, x2] (.int (nI 48) :: st) cu σ Q) := by
  rw [x123_69]
  rfl
theorem v123_71 {z : P0} {st : List Value} {cu : Nat × Nat} {Q : Res → Mem → Prop} {σ : Mem} {x1 x2 : Option Value} {u : Nat} : X z 123 71 [some (.ref u), x1, x2] (st) cu σ Q = (X z 123 72 [some (.ref u), x1, x2] (.ref u :: st) cu σ Q) := by
  rw [x123_71]
  rfl
theorem v123_72 {z : P0} {st : List Value} {cu : Nat × Nat} {Q : Res → Mem → Prop} {K : Nat → Nat × Nat} {I : Nat → Nat → Int32} {R : Nat → Nat → Option Nat} {L : Nat → Nat → Int64} {sz : Nat} {ex : Bool} {x0 x1 x2 : Option Value} {u : Nat} : X z 123 72 [x0, x1, x2] (.ref u :: st) cu (K, I, R, L, sz, ex) Q = ((K u).1 = 111 ∧ X z 123 75 [x0, x1, x2] (va_rf (R u 7) :: st) cu (K, I, R, L, sz, ex) Q) := by
  rw [x123_72]
  rfl
theorem v123_75 {z : P0} {st : List Value} {cu : Nat × Nat} {Q : Res → Mem → Prop} {σ : Mem} {x0 x1 : Option Value} {u : Int32} : X z 123 75 [x0, x1, some (.int u)] (st) cu σ Q = (X z 123 76 [x0, x1, some (.int u)] (.int u :: st) cu σ Q) := by
  rw [x123_75]
  rfl
theorem v123_76 {z : P0} {st : List Value} {cu : Nat × Nat} {Q : Res → Mem → Prop} {K : Nat → Nat × Nat} {I : Nat → Nat → Int32} {R : Nat → Nat → Option Nat} {L : Nat → Nat → Int64} {sz : Nat} {ex : Bool} {x0 x1 x2 : Option Value} {u : Nat} {v : Int32} : X z 123 76 [x0, x1, x2] (.int v :: .ref u :: st) cu (K, I, R, L, sz, ex) Q = (((K u).1 = 20 ∨ (K u).1 = 50) ∧ vp_in v (K u).2 ∧ X z 123 77 [x0, x1, x2] (.int (I u v.toNatClampNeg) :: st) cu (K, I, R, L, sz, ex) Q) := by
  rw [x123_76]
  rfl
theorem v123_77 {z : P0} {st : List Value} {cu : Nat × Nat} {Q : Res → Mem → Prop} {σ : Mem} {x0 x1 x2 : Option Value} {u v : Int32} : X z 123 77 [x0, x1, x2] (.int v :: .int u :: st) cu σ Q = (X z 123 78 [x0, x1, x2] (.int (u + v) :: st) cu σ Q) := by
  rw [x123_77]
  rfl
theorem u123_78 {z : P0} {ls : Lcs} {st : List Value} {K : Nat → Nat × Nat} {I : Nat → Nat → Int32} {R : Nat → Nat → Option Nat} {L : Nat → Nat → Int64} {sz : Nat} {ex : Bool} {Q : Res → Mem → Prop} {x : Nat} {a0 : Int32} : X z 123 78 ls (.int a0 :: .ref x :: st) (0, 0) (K, I, R, L, sz, ex) Q = ((K x).1 = 111 ∧ wsum st ≤ 8 ∧ X z 116 0 [some (.ref x), some (.int a0)] [] (0, 0) (K, I, R, L, sz, ex) (aftr (X z) mT 123 78 ls st (0, 0) Q)) := v123_78 (c := 0) (n := 0)
theorem v123_81 {z : P0} {st : List Value} {cu : Nat × Nat} {Q : Res → Mem → Prop} {σ : Mem} {x0 x1 x2 : Option Value} : X z 123 81 [x0, x1, x2] (st) cu σ Q = (X z 123 89 [x0, x1, x2] (st) cu σ Q) := by
  rw [x123_81]
  rfl
theorem v123_84 {z : P0} {st : List Value} {cu : Nat × Nat} {Q : Res → Mem → Prop} {σ : Mem} {x1 x2 : Option Value} {u : Nat} : X z 123 84 [some (.ref u), x1, x2] (st) cu σ Q = (X z 123 85 [some (.ref u), x1, x2] (.ref u :: st) cu σ Q) := by
  rw [x123_84]
  rfl
theorem v123_85 {z : P0} {st : List Value} {cu : Nat × Nat} {Q : Res → Mem → Prop} {σ : Mem} {x0 x2 : Option Value} {u : Int32} : X z 123 85 [x0, some (.int u), x2] (st) cu σ Q = (X z 123 86 [x0, some (.int u), x2] (.int u :: st) cu σ Q) := by
  rw [x123_85]
  rfl
theorem u123_86 {z : P0} {ls : Lcs} {st : List Value} {K : Nat → Nat × Nat} {I : Nat → Nat → Int32} {R : Nat → Nat → Option Nat} {L : Nat → Nat → Int64} {sz : Nat} {ex : Bool} {Q : Res → Mem → Prop} {x : Nat} {a0 : Int32} : X z 123 86 ls (.int a0 :: .ref x :: st) (0, 0) (K, I, R, L, sz, ex) Q = ((K x).1 = 111 ∧ wsum st ≤ 8 ∧ X z 116 0 [some (.ref x), some (.int a0)] [] (0, 0) (K, I, R, L, sz, ex) (aftr (X z) mT 123 86 ls st (0, 0) Q)) := v123_86 (c := 0) (n := 0)
theorem v123_89 {z : P0} {cu : Nat × Nat} {Q : Res → Mem → Prop} {σ : Mem} {x0 x1 x2 : Option Value} : X z 123 89 [x0, x1, x2] ([]) cu σ Q = (Q (.inl none) σ) := by
  rw [x123_89]
  rfl
theorem v124_0 {z : P0} {st : List Value} {cu : Nat × Nat} {Q : Res → Mem → Prop} {σ : Mem} {x1 x2 x3 x4 : Option Value} {u : Nat} : X z 124 0 [some (.ref u), x1, x2, x3, x4] (st) cu σ Q = (X z 124 1 [some (.ref u), x1, x2, x3, x4] (.ref u :: st) cu σ Q) := by
  rw [x124_0]
  rfl
theorem v124_1 {z : P0} {st : List Value} {cu : Nat × Nat} {Q : Res → Mem → Prop} {σ : Mem} {x0 x1 x2 x3 x4 : Option Value} : X z 124 1 [x0, x1, x2, x3, x4] (st) cu σ Q = (X z 124 2 [x0, x1, x2, x3, x4] (.int (nI 0) :: st) cu σ Q) := by
  rw [x124_1]
  rfl
theorem v124_2 {z : P0} {st : List Value} {cu : Nat × Nat} {Q : Res → Mem → Prop} {K : Nat → Nat × Nat} {I : Nat → Nat → Int32} {R : Nat → Nat → Option Nat} {L : Nat → Nat → Int64} {sz : Nat} {ex : Bool} {x0 x1 x2 x3 x4 : Option Value} {u : Nat} {v : Int32} : X z 124 2 [x0, x1, x2, x3, x4] (.int v :: .ref u :: st) cu (K, I, R, L, sz, ex) Q = ((K u).1 = 111 ∧ X z 124 5 [x0, x1, x2, x3, x4] (st) cu (K, up2 I u 14 v, R, L, sz, ex) Q) := by
  rw [x124_2]
  exact i_putI
theorem v124_5 {z : P0} {st : List Value} {cu : Nat × Nat} {Q : Res → Mem → Prop} {σ : Mem} {x0 x1 x2 x3 x4 : Option Value} : X z 124 5 [x0, x1, x2, x3, x4] (st) cu σ Q = (X z 124 6 [x0, x1, x2, x3, x4] (.int (nI 0) :: st) cu σ Q) := by
  rw [x124_5]
  rfl
theorem v124_6 {z : P0} {st : List Value} {cu : Nat × Nat} {Q : Res → Mem → Prop} {σ : Mem} {x0 x1 x2 x3 x4 : Option Value} {u : Int32} : X z 124 6 [x0, x1, x2, x3, x4] (.int u :: st) cu σ Q = (cat2 x1 = false ∧ X z 124 7 [x0, x1, some (.int u), x3, x4] (st) cu σ Q) := by
  rw [x124_6]
  obtain ⟨K, I, R, L, sz, ex⟩ := σ
  exact i_istore_n.trans sl_2
theorem v124_7 {z : P0} {st : List Value} {cu : Nat × Nat} {Q : Res → Mem → Prop} {σ : Mem} {x0 x1 x2 x3 x4 : Option Value} : X z 124 7 [x0, x1, x2, x3, x4] (st) cu σ Q = (X z 124 8 [x0, x1, x2, x3, x4] (.int (nI 0) :: st) cu σ Q) := by
  rw [x124_7]
  rfl
theorem v124_8 {z : P0} {st : List Value} {cu : Nat × Nat} {Q : Res → Mem → Prop} {σ : Mem} {x0 x1 x2 x3 x4 : Option Value} {u : Int32} : X z 124 8 [x0, x1, x2, x3, x4] (.int u :: st) cu σ Q = (cat2 x2 = false ∧ X z 124 9 [x0, x1, x2, some (.int u), x4] (st) cu σ Q) := by
  rw [x124_8]
  obtain ⟨K, I, R, L, sz, ex⟩ := σ
  exact i_istore_n.trans sl_3
theorem v124_9 {z : P0} {st : List Value} {cu : Nat × Nat} {Q : Res → Mem → Prop} {σ : Mem} {x0 x1 x2 x4 : Option Value} {u : Int32} : X z 124 9 [x0, x1, x2, some (.int u), x4] (st) cu σ Q = (X z 124 10 [x0, x1, x2, some (.int u), x4] (.int u :: st) cu σ Q) := by
  rw [x124_9]
  rfl
theorem v124_10 {z : P0} {st : List Value} {cu : Nat × Nat} {Q : Res → Mem → Prop} {σ : Mem} {x1 x2 x3 x4 : Option Value} {u : Nat} : X z 124 10 [some (.ref u), x1, x2, x3, x4] (st) cu σ Q = (X z 124 11 [some (.ref u), x1, x2, x3, x4] (.ref u :: st) cu σ Q) := by
  rw [x124_10]
  rfl
theorem v124_11 {z : P0} {st : List Value} {cu : Nat × Nat} {Q : Res → Mem → Prop} {K : Nat → Nat × Nat} {I : Nat → Nat → Int32} {R : Nat → Nat → Option Nat} {L : Nat → Nat → Int64} {sz : Nat} {ex : Bool} {x0 x1 x2 x3 x4 : Option Value} {u : Nat} : X z 124 11 [x0, x1, x2, x3, x4] (.ref u :: st) cu (K, I, R, L, sz, ex) Q = ((K u).1 = 111 ∧ X z 124 14 [x0, x1, x2, x3, x4] (va_rf (R u 0) :: st) cu (K, I, R, L, sz, ex) Q) := by
  rw [x124_11]
  rfl
theorem v124_14 {z : P0} {st : List Value} {cu : Nat × Nat} {Q : Res → Mem → Prop} {σ : Mem} {x0 x1 x2 x3 x4 : Option Value} : X z 124 14 [x0, x1, x2, x3, x4] (st) cu σ Q = (X z 124 16 [x0, x1, x2, x3, x4] (.int (nI 12) :: st) cu σ Q) := by
  rw [x124_14]
  rfl
theorem v124_16 {z : P0} {st : List Value} {cu : Nat × Nat} {Q : Res → Mem → Prop} {K : Nat → Nat × Nat} {I : Nat → Nat → Int32} {R : Nat → Nat → Option Nat} {L : Nat → Nat → Int64} {sz : Nat} {ex : Bool} {x0 x1 x2 x3 x4 : Option Value} {u : Nat} {v : Int32} : X z 124 16 [x0, x1, x2, x3, x4] (.int v :: .ref u :: st) cu (K, I, R, L, sz, ex) Q = (((K u).1 = 20 ∨ (K u).1 = 50) ∧ vp_in v (K u).2 ∧ X z 124 17 [x0, x1, x2, x3, x4] (.int (I u v.toNatClampNeg) :: st) cu (K, I, R, L, sz, ex) Q) := by
  rw [x124_16]
  rfl
theorem v124_17 {z : P0} {st : List Value} {cu : Nat × Nat} {Q : Res → Mem → Prop} {σ : Mem} {x0 x1 x2 x3 x4 : Option Value} {u v : Int32} : X z 124 17 [x0, x1, x2, x3, x4] (.int v :: .int u :: st) cu σ Q = (if u < v then X z 124 20 [x0, x1, x2, x3, x4] (st) cu σ Q else X z 124 89 [x0, x1, x2, x3, x4] (st) cu σ Q) := by
  rw [x124_17]
  obtain ⟨K, I, R, L, sz, ex⟩ := σ
  exact br_ge
theorem v124_20 {z : P0} {st : List Value} {cu : Nat × Nat} {Q : Res → Mem → Prop} {σ : Mem} {x1 x2 x3 x4 : Option Value} {u : Nat} : X z 124 20 [some (.ref u), x1, x2, x3, x4] (st) cu σ Q = (X z 124 21 [some (.ref u), x1, x2, x3, x4] (.ref u :: st) cu σ Q) := by
  rw [x124_20]
  rfl
theorem v124_21 {z : P0} {st : List Value} {cu : Nat × Nat} {Q : Res → Mem → Prop} {K : Nat → Nat × Nat} {I : Nat → Nat → Int32} {R : Nat → Nat → Option Nat} {L : Nat → Nat → Int64} {sz : Nat} {ex : Bool} {x0 x1 x2 x3 x4 : Option Value} {u : Nat} : X z 124 21 [x0, x1, x2, x3, x4] (.ref u :: st) cu (K, I, R, L, sz, ex) Q = ((K u).1 = 111 ∧ X z 124 24 [x0, x1, x2, x3, x4] (va_rf (R u 0) :: st) cu (K, I, R, L, sz, ex) Q) := by
  rw [x124_21]
  rfl
theorem v124_24 {z : P0} {st : List Value} {cu : Nat × Nat} {Q : Res → Mem → Prop} {σ : Mem} {x0 x1 x2 x3 x4 : Option Value} : X z 124 24 [x0, x1, x2, x3, x4] (st) cu σ Q = (X z 124 27 [x0, x1, x2, x3, x4] (.int (nI 413) :: st) cu σ Q) := by
  rw [x124_24]
  rfl
theorem v124_27 {z : P0} {st : List Value} {cu : Nat × Nat} {Q : Res → Mem → Prop} {σ : Mem} {x0 x1 x2 x4 : Option Value} {u : Int32} : X z 124 27 [x0, x1, x2, some (.int u), x4] (st) cu σ Q = (X z 124 28 [x0, x1, x2, some (.int u), x4] (.int u :: st) cu σ Q) := by
  rw [x124_27]
  rfl
theorem v124_28 {z : P0} {st : List Value} {cu : Nat × Nat} {Q : Res → Mem → Prop} {σ : Mem} {x0 x1 x2 x3 x4 : Option Value} {u v : Int32} : X z 124 28 [x0, x1, x2, x3, x4] (.int v :: .int u :: st) cu σ Q = (X z 124 29 [x0, x1, x2, x3, x4] (.int (u + v) :: st) cu σ Q) := by
  rw [x124_28]
  rfl
theorem v124_29 {z : P0} {st : List Value} {cu : Nat × Nat} {Q : Res → Mem → Prop} {K : Nat → Nat × Nat} {I : Nat → Nat → Int32} {R : Nat → Nat → Option Nat} {L : Nat → Nat → Int64} {sz : Nat} {ex : Bool} {x0 x1 x2 x3 x4 : Option Value} {u : Nat} {v : Int32} : X z 124 29 [x0, x1, x2, x3, x4] (.int v :: .ref u :: st) cu (K, I, R, L, sz, ex) Q = (((K u).1 = 20 ∨ (K u).1 = 50) ∧ vp_in v (K u).2 ∧ X z 124 30 [x0, x1, x2, x3, x4] (.int (I u v.toNatClampNeg) :: st) cu (K, I, R, L, sz, ex) Q) := by
  rw [x124_29]
  rfl
theorem v124_30 {z : P0} {st : List Value} {cu : Nat × Nat} {Q : Res → Mem → Prop} {σ : Mem} {x0 x1 x2 x3 x4 : Option Value} {u : Int32} : X z 124 30 [x0, x1, x2, x3, x4] (.int u :: st) cu σ Q = (cat2 x3 = false ∧ X z 124 32 [x0, x1, x2, x3, some (.int u)] (st) cu σ Q) := by
  rw [x124_30]
  obtain ⟨K, I, R, L, sz, ex⟩ := σ
  exact i_istore.trans sl_4
theorem v124_32 {z : P0} {st : List Value} {cu : Nat × Nat} {Q : Res → Mem → Prop} {σ : Mem} {x0 x1 x2 x3 : Option Value} {u : Int32} : X z 124 32 [x0, x1, x2, x3, some (.int u)] (st) cu σ Q = (X z 124 34 [x0, x1, x2, x3, some (.int u)] (.int u :: st) cu σ Q) := by
  rw [x124_32]
  rfl
theorem v124_34 {z : P0} {st : List Value} {cu : Nat × Nat} {Q : Res → Mem → Prop} {σ : Mem} {x0 x1 x2 x3 x4 : Option Value} : X z 124 34 [x0, x1, x2, x3, x4] (st) cu σ Q = (X z 124 36 [x0, x1, x2, x3, x4] (.int (nI 123) :: st) cu σ Q) := by
  rw [x124_34]
  rfl
theorem v124_36 {z : P0} {st : List Value} {cu : Nat × Nat} {Q : Res → Mem → Prop} {σ : Mem} {x0 x1 x2 x3 x4 : Option Value} {u v : Int32} : X z 124 36 [x0, x1, x2, x3, x4] (.int v :: .int u :: st) cu σ Q = (if u = v then X z 124 46 [x0, x1, x2, x3, x4] (st) cu σ Q else X z 124 39 [x0, x1, x2, x3, x4] (st) cu σ Q) := by
  rw [x124_36]
  obtain ⟨K, I, R, L, sz, ex⟩ := σ
  exact br_ite
theorem v124_39 {z : P0} {st : List Value} {cu : Nat × Nat} {Q : Res → Mem → Prop} {σ : Mem} {x0 x1 x2 x3 : Option Value} {u : Int32} : X z 124 39 [x0, x1, x2, x3, some (.int u)] (st) cu σ Q = (X z 124 41 [x0, x1, x2, x3, some (.int u)] (.int u :: st) cu σ Q) := by
  rw [x124_39]
  rfl
theorem v124_41 {z : P0} {st : List Value} {cu : Nat × Nat} {Q : Res → Mem → Prop} {σ : Mem} {x0 x1 x2 x3 x4 : Option Value} : X z 124 41 [x0, x1, x2, x3, x4] (st) cu σ Q = (X z 124 43 [x0, x1, x2, x3, x4] (.int (nI 125) :: st) cu σ Q) := by
  rw [x124_41]
  rfl
theorem v124_43 {z : P0} {st : List Value} {cu : Nat × Nat} {Q : Res → Mem → Prop} {σ : Mem} {x0 x1 x2 x3 x4 : Option Value} {u v : Int32} : X z 124 43 [x0, x1, x2, x3, x4] (.int v :: .int u :: st) cu σ Q = (if u = v then X z 124 46 [x0, x1, x2, x3, x4] (st) cu σ Q else X z 124 62 [x0, x1, x2, x3, x4] (st) cu σ Q) := by
  rw [x124_43]
  obtain ⟨K, I, R, L, sz, ex⟩ := σ
  exact br_ne
theorem v124_46 {z : P0} {st : List Value} {cu : Nat × Nat} {Q : Res → Mem → Prop} {σ : Mem} {x0 x1 x2 x3 : Option Value} {u : Int32} : X z 124 46 [x0, x1, x2, x3, some (.int u)] (st) cu σ Q = (X z 124 48 [x0, x1, x2, x3, some (.int u)] (.int u :: st) cu σ Q) := by
  rw [x124_46]
  rfl
theorem v124_48 {z : P0} {st : List Value} {cu : Nat × Nat} {Q : Res → Mem → Prop} {σ : Mem} {x0 x1 x2 x3 x4 : Option Value} : X z 124 48 [x0, x1, x2, x3, x4] (st) cu σ Q = (X z 124 50 [x0, x1, x2, x3, x4] (.int (nI 123) :: st) cu σ Q) := by
  rw [x124_48]
  rfl
theorem v124_50 {z : P0} {st : List Value} {cu : Nat × Nat} {Q : Res → Mem → Prop} {σ : Mem} {x0 x1 x2 x3 x4 : Option Value} {u v : Int32} : X z 124 50 [x0, x1, x2, x3, x4] (.int v :: .int u :: st) cu σ Q = (if u = v then X z 124 53 [x0, x1, x2, x3, x4] (st) cu σ Q else X z 124 57 [x0, x1, x2, x3, x4] (st) cu σ Q) := by
  rw [x124_50]
  obtain ⟨K, I, R, L, sz, ex⟩ := σ
  exact br_ne
theorem v124_53 {z : P0} {st : List Value} {cu : Nat × Nat} {Q : Res → Mem → Prop} {σ : Mem} {x0 x1 x2 x3 x4 : Option Value} : X z 124 53 [x0, x1, x2, x3, x4] (st) cu σ Q = (X z 124 54 [x0, x1, x2, x3, x4] (.int (nI 1) :: st) cu σ Q) := by
  rw [x124_53]
  rfl
theorem v124_54 {z : P0} {st : List Value} {cu : Nat × Nat} {Q : Res → Mem → Prop} {σ : Mem} {x0 x1 x2 x3 x4 : Option Value} : X z 124 54 [x0, x1, x2, x3, x4] (st) cu σ Q = (X z 124 58 [x0, x1, x2, x3, x4] (st) cu σ Q) := by
  rw [x124_54]
  rfl
theorem v124_57 {z : P0} {st : List Value} {cu : Nat × Nat} {Q : Res → Mem → Prop} {σ : Mem} {x0 x1 x2 x3 x4 : Option Value} : X z 124 57 [x0, x1, x2, x3, x4] (st) cu σ Q = (X z 124 58 [x0, x1, x2, x3, x4] (.int (nI 0) :: st) cu σ Q) := by
  rw [x124_57]
  rfl
theorem v124_58 {z : P0} {st : List Value} {cu : Nat × Nat} {Q : Res → Mem → Prop} {σ : Mem} {x0 x1 x2 x3 x4 : Option Value} {u : Int32} : X z 124 58 [x0, x1, x2, x3, x4] (.int u :: st) cu σ Q = (cat2 x1 = false ∧ X z 124 59 [x0, x1, some (.int u), x3, x4] (st) cu σ Q) := by
  rw [x124_58]
  obtain ⟨K, I, R, L, sz, ex⟩ := σ
  exact i_istore_n.trans sl_2
theorem v124_59 {z : P0} {st : List Value} {cu : Nat × Nat} {Q : Res → Mem → Prop} {σ : Mem} {x0 x1 x2 x3 x4 : Option Value} : X z 124 59 [x0, x1, x2, x3, x4] (st) cu σ Q = (X z 124 83 [x0, x1, x2, x3, x4] (st) cu σ Q) := by
  rw [x124_59]
  rfl
theorem v124_62 {z : P0} {st : List Value} {cu : Nat × Nat} {Q : Res → Mem → Prop} {σ : Mem} {x0 x1 x3 x4 : Option Value} {u : Int32} : X z 124 62 [x0, x1, some (.int u), x3, x4] (st) cu σ Q = (X z 124 63 [x0, x1, some (.int u), x3, x4] (.int u :: st) cu σ Q) := by
  rw [x124_62]
  rfl
theorem v124_63 {z : P0} {st : List Value} {cu : Nat × Nat} {Q : Res → Mem → Prop} {σ : Mem} {x0 x1 x2 x3 x4 : Option Value} {u : Int32} : X z 124 63 [x0, x1, x2, x3, x4] (.int u :: st) cu σ Q = (if u = nI 0 then X z 124 76 [x0, x1, x2, x3, x4] (st) cu σ Q else X z 124 66 [x0, x1, x2, x3, x4] (st) cu σ Q) := by
  rw [x124_63]
  rw [nI_0]
  obtain ⟨K, I, R, L, sz, ex⟩ := σ
  exact br_ite
theorem v124_66 {z : P0} {st : List Value} {cu : Nat × Nat} {Q : Res → Mem → Prop} {σ : Mem} {x1 x2 x3 x4 : Option Value} {u : Nat} : X z 124 66 [some (.ref u), x1, x2, x3, x4] (st) cu σ Q = (X z 124 67 [some (.ref u), x1, x2, x3, x4] (.ref u :: st) cu σ Q) := by
  rw [x124_66]
  rfl
theorem v124_67 {z : P0} {st : List Value} {cu : Nat × Nat} {Q : Res → Mem → Prop} {K : Nat → Nat × Nat} {I : Nat → Nat → Int32} {R : Nat → Nat → Option Nat} {L : Nat → Nat → Int64} {sz : Nat} {ex : Bool} {x0 x1 x2 x3 x4 : Option Value} {u : Nat} : X z 124 67 [x0, x1, x2, x3, x4] (.ref u :: st) cu (K, I, R, L, sz, ex) Q = ((K u).1 = 111 ∧ X z 124 70 [x0, x1, x2, x3, x4] (va_rf (R u 7) :: st) cu (K, I, R, L, sz, ex) Q) := by
  rw [x124_67]
  rfl
theorem v124_70 {z : P0} {st : List Value} {cu : Nat × Nat} {Q : Res → Mem → Prop} {σ : Mem} {x0 x2 x3 x4 : Option Value} {u : Int32} : X z 124 70 [x0, some (.int u), x2, x3, x4] (st) cu σ Q = (X z 124 71 [x0, some (.int u), x2, x3, x4] (.int u :: st) cu σ Q) := by
  rw [x124_70]
  rfl
theorem v124_71 {z : P0} {st : List Value} {cu : Nat × Nat} {Q : Res → Mem → Prop} {K : Nat → Nat × Nat} {I : Nat → Nat → Int32} {R : Nat → Nat → Option Nat} {L : Nat → Nat → Int64} {sz : Nat} {ex : Bool} {x0 x1 x2 x3 x4 : Option Value} {u : Nat} {v : Int32} : X z 124 71 [x0, x1, x2, x3, x4] (.int v :: .ref u :: st) cu (K, I, R, L, sz, ex) Q = (((K u).1 = 20 ∨ (K u).1 = 50) ∧ vp_in v (K u).2 ∧ X z 124 72 [x0, x1, x2, x3, x4] (.int (I u v.toNatClampNeg) :: st) cu (K, I, R, L, sz, ex) Q) := by
  rw [x124_71]
  rfl
theorem v124_72 {z : P0} {st : List Value} {cu : Nat × Nat} {Q : Res → Mem → Prop} {σ : Mem} {x0 x1 x2 x3 x4 : Option Value} : X z 124 72 [x0, x1, x2, x3, x4] (st) cu σ Q = (X z 124 73 [x0, x1, x2, x3, x4] (.int (nI 1) :: st) cu σ Q) := by
  rw [x124_72]
  rfl
theorem v124_73 {z : P0} {st : List Value} {cu : Nat × Nat} {Q : Res → Mem → Prop} {σ : Mem} {x0 x1 x2 x3 x4 : Option Value} {u v : Int32} : X z 124 73 [x0, x1, x2, x3, x4] (.int v :: .int u :: st) cu σ Q = (if v < u then X z 124 76 [x0, x1, x2, x3, x4] (st) cu σ Q else X z 124 83 [x0, x1, x2, x3, x4] (st) cu σ Q) := by
  rw [x124_73]
  obtain ⟨K, I, R, L, sz, ex⟩ := σ
  exact br_ge
theorem v124_76 {z : P0} {st : List Value} {cu : Nat × Nat} {Q : Res → Mem → Prop} {σ : Mem} {x1 x2 x3 x4 : Option Value} {u : Nat} : X z 124 76 [some (.ref u), x1, x2, x3, x4] (st) cu σ Q = (X z 124 77 [some (.ref u), x1, x2, x3, x4] (.ref u :: st) cu σ Q) := by
  rw [x124_76]
  rfl
theorem v124_77 {z : P0} {st : List Value} {cu : Nat × Nat} {Q : Res → Mem → Prop} {σ : Mem} {x0 x1 x2 x3 : Option Value} {u : Int32} : X z 124 77 [x0, x1, x2, x3, some (.int u)] (st) cu σ Q = (X z 124 79 [x0, x1, x2, x3, some (.int u)] (.int u :: st) cu σ Q) := by
  rw [x124_77]
  rfl
theorem v124_79 {z : P0} {st : List Value} {cu : Nat × Nat} {Q : Res → Mem → Prop} {σ : Mem} {x0 x2 x3 x4 : Option Value} {u : Int32} : X z 124 79 [x0, some (.int u), x2, x3, x4] (st) cu σ Q = (X z 124 80 [x0, some (.int u), x2, x3, x4] (.int u :: st) cu σ Q) := by
  rw [x124_79]
  rfl
theorem u124_80 {z : P0} {ls : Lcs} {st : List Value} {K : Nat → Nat × Nat} {I : Nat → Nat → Int32} {R : Nat → Nat → Option Nat} {L : Nat → Nat → Int64} {sz : Nat} {ex : Bool} {Q : Res → Mem → Prop} {x : Nat} {a0 : Int32} {a1 : Int32} : X z 124 80 ls (.int a1 :: .int a0 :: .ref x :: st) (0, 0) (K, I, R, L, sz, ex) Q = ((K x).1 = 111 ∧ wsum st ≤ 8 ∧ X z 123 0 [some (.ref x), some (.int a0), some (.int a1)] [] (0, 0) (K, I, R, L, sz, ex) (aftr (X z) mT 124 80 ls st (0, 0) Q)) := v124_80 (c := 0) (n := 0)
theorem v124_83 {z : P0} {st : List Value} {cu : Nat × Nat} {Q : Res → Mem → Prop} {σ : Mem} {x0 x1 x2 x4 : Option Value} {u : Int32} : X z 124 83 [x0, x1, x2, some (.int u), x4] (st) cu σ Q = (cat2 x2 = false ∧ X z 124 86 [x0, x1, x2, some (.int (u + nI 1)), x4] (st) cu σ Q) := by
  rw [x124_83]
  obtain ⟨K, I, R, L, sz, ex⟩ := σ
  exact i_iinc.trans (gl_3.trans (ldI_i.trans sl_3))
theorem v124_86 {z : P0} {st : List Value} {cu : Nat × Nat} {Q : Res → Mem → Prop} {σ : Mem} {x0 x1 x2 x3 x4 : Option Value} : X z 124 86 [x0, x1, x2, x3, x4] (st) cu σ Q = (X z 124 9 [x0, x1, x2, x3, x4] (st) cu σ Q) := by
  rw [x124_86]
  rfl
theorem v124_89 {z : P0} {cu : Nat × Nat} {Q : Res → Mem → Prop} {σ : Mem} {x0 x1 x2 x3 x4 : Option Value} : X z 124 89 [x0, x1, x2, x3, x4] ([]) cu σ Q = (Q (.inl none) σ) := by
  rw [x124_89]
  rfl
theorem v125_0 {z : P0} {st : List Value} {cu : Nat × Nat} {Q : Res → Mem → Prop} {σ : Mem} {u : Nat} : X z 125 0 [some (.ref u)] (st) cu σ Q = (X z 125 1 [some (.ref u)] (.ref u :: st) cu σ Q) := by
  rw [x125_0]
  rfl
theorem v125_1 {z : P0} {st : List Value} {cu : Nat × Nat} {Q : Res → Mem → Prop} {σ : Mem} {x0 : Option Value} {u : Nat} : X z 125 1 [x0] (.ref u :: st) cu σ Q = (X z 125 2 [x0] (.ref u :: .ref u :: st) cu σ Q) := by
  rw [x125_1]
  exact propext ⟨fun h => h.2, fun h => ⟨rfl, h⟩⟩
theorem v125_1i {z : P0} {st : List Value} {cu : Nat × Nat} {Q : Res → Mem → Prop} {σ : Mem} {x0 : Option Value} {u : Int32} : X z 125 1 [x0] (.int u :: st) cu σ Q = (X z 125 2 [x0] (.int u :: .int u :: st) cu σ Q) := by
  rw [x125_1]
  exact propext ⟨fun h => h.2, fun h => ⟨rfl, h⟩⟩
theorem v125_2 {z : P0} {st : List Value} {cu : Nat × Nat} {Q : Res → Mem → Prop} {K : Nat → Nat × Nat} {I : Nat → Nat → Int32} {R : Nat → Nat → Option Nat} {L : Nat → Nat → Int64} {sz : Nat} {ex : Bool} {x0 : Option Value} {u : Nat} : X z 125 2 [x0] (.ref u :: st) cu (K, I, R, L, sz, ex) Q = ((K u).1 = 111 ∧ X z 125 5 [x0] (.int (I u 17) :: st) cu (K, I, R, L, sz, ex) Q) := by
  rw [x125_2]
  rfl
theorem v125_5 {z : P0} {st : List Value} {cu : Nat × Nat} {Q : Res → Mem → Prop} {σ : Mem} {x0 : Option Value} : X z 125 5 [x0] (st) cu σ Q = (X z 125 6 [x0] (.int (nI 1) :: st) cu σ Q) := by
  rw [x125_5]
  rfl
theorem v125_6 {z : P0} {st : List Value} {cu : Nat × Nat} {Q : Res → Mem → Prop} {σ : Mem} {x0 : Option Value} {u v : Int32} : X z 125 6 [x0] (.int v :: .int u :: st) cu σ Q = (X z 125 7 [x0] (.int (u + v) :: st) cu σ Q) := by
  rw [x125_6]
  rfl
theorem v125_7 {z : P0} {st : List Value} {cu : Nat × Nat} {Q : Res → Mem → Prop} {K : Nat → Nat × Nat} {I : Nat → Nat → Int32} {R : Nat → Nat → Option Nat} {L : Nat → Nat → Int64} {sz : Nat} {ex : Bool} {x0 : Option Value} {u : Nat} {v : Int32} : X z 125 7 [x0] (.int v :: .ref u :: st) cu (K, I, R, L, sz, ex) Q = ((K u).1 = 111 ∧ X z 125 10 [x0] (st) cu (K, up2 I u 17 v, R, L, sz, ex) Q) := by
  rw [x125_7]
  exact i_putI
theorem v125_10 {z : P0} {st : List Value} {cu : Nat × Nat} {Q : Res → Mem → Prop} {σ : Mem} {u : Nat} : X z 125 10 [some (.ref u)] (st) cu σ Q = (X z 125 11 [some (.ref u)] (.ref u :: st) cu σ Q) := by
  rw [x125_10]
  rfl
theorem v125_11 {z : P0} {st : List Value} {cu : Nat × Nat} {Q : Res → Mem → Prop} {σ : Mem} {x0 : Option Value} : X z 125 11 [x0] (st) cu σ Q = (X z 125 12 [x0] (.int (nI 0) :: st) cu σ Q) := by
  rw [x125_11]
  rfl
theorem v125_12 {z : P0} {st : List Value} {cu : Nat × Nat} {Q : Res → Mem → Prop} {K : Nat → Nat × Nat} {I : Nat → Nat → Int32} {R : Nat → Nat → Option Nat} {L : Nat → Nat → Int64} {sz : Nat} {ex : Bool} {x0 : Option Value} {u : Nat} {v : Int32} : X z 125 12 [x0] (.int v :: .ref u :: st) cu (K, I, R, L, sz, ex) Q = ((K u).1 = 111 ∧ X z 125 15 [x0] (st) cu (K, up2 I u 15 v, R, L, sz, ex) Q) := by
  rw [x125_12]
  exact i_putI
theorem v125_15 {z : P0} {st : List Value} {cu : Nat × Nat} {Q : Res → Mem → Prop} {σ : Mem} {u : Nat} : X z 125 15 [some (.ref u)] (st) cu σ Q = (X z 125 16 [some (.ref u)] (.ref u :: st) cu σ Q) := by
  rw [x125_15]
  rfl
theorem v125_16 {z : P0} {st : List Value} {cu : Nat × Nat} {Q : Res → Mem → Prop} {σ : Mem} {x0 : Option Value} : X z 125 16 [x0] (st) cu σ Q = (X z 125 17 [x0] (.int (nI 1) :: st) cu σ Q) := by
  rw [x125_16]
  rfl
theorem v125_17 {z : P0} {st : List Value} {cu : Nat × Nat} {Q : Res → Mem → Prop} {K : Nat → Nat × Nat} {I : Nat → Nat → Int32} {R : Nat → Nat → Option Nat} {L : Nat → Nat → Int64} {sz : Nat} {ex : Bool} {x0 : Option Value} {u : Nat} {v : Int32} : X z 125 17 [x0] (.int v :: .ref u :: st) cu (K, I, R, L, sz, ex) Q = ((v = nI 0 ∨ v = nI 1) ∧ (K u).1 = 111 ∧ X z 125 20 [x0] (st) cu (K, up2 I u 16 v, R, L, sz, ex) Q) := by
  rw [x125_17]
  rw [nI_0, one1]
  exact i_putZ
theorem v125_20 {z : P0} {cu : Nat × Nat} {Q : Res → Mem → Prop} {σ : Mem} {x0 : Option Value} : X z 125 20 [x0] ([]) cu σ Q = (Q (.inl none) σ) := by
  rw [x125_20]
  rfl
theorem v126_0 {z : P0} {st : List Value} {cu : Nat × Nat} {Q : Res → Mem → Prop} {σ : Mem} {x1 : Option Value} {u : Nat} : X z 126 0 [some (.ref u), x1] (st) cu σ Q = (X z 126 1 [some (.ref u), x1] (.ref u :: st) cu σ Q) := by
  rw [x126_0]
  rfl
theorem v126_1 {z : P0} {st : List Value} {cu : Nat × Nat} {Q : Res → Mem → Prop} {K : Nat → Nat × Nat} {I : Nat → Nat → Int32} {R : Nat → Nat → Option Nat} {L : Nat → Nat → Int64} {sz : Nat} {ex : Bool} {x0 x1 : Option Value} {u : Nat} : X z 126 1 [x0, x1] (.ref u :: st) cu (K, I, R, L, sz, ex) Q = ((K u).1 = 111 ∧ X z 126 4 [x0, x1] (.int (I u 16) :: st) cu (K, I, R, L, sz, ex) Q) := by
  rw [x126_1]
  rfl
theorem v126_4 {z : P0} {st : List Value} {cu : Nat × Nat} {Q : Res → Mem → Prop} {σ : Mem} {x0 x1 : Option Value} {u : Int32} : X z 126 4 [x0, x1] (.int u :: st) cu σ Q = (if u = nI 0 then X z 126 7 [x0, x1] (st) cu σ Q else X z 126 28 [x0, x1] (st) cu σ Q) := by
  rw [x126_4]
  rw [nI_0]
  obtain ⟨K, I, R, L, sz, ex⟩ := σ
  exact br_ne
theorem v126_7 {z : P0} {st : List Value} {cu : Nat × Nat} {Q : Res → Mem → Prop} {σ : Mem} {x1 : Option Value} {u : Nat} : X z 126 7 [some (.ref u), x1] (st) cu σ Q = (X z 126 8 [some (.ref u), x1] (.ref u :: st) cu σ Q) := by
  rw [x126_7]
  rfl
theorem v126_8 {z : P0} {st : List Value} {cu : Nat × Nat} {Q : Res → Mem → Prop} {K : Nat → Nat × Nat} {I : Nat → Nat → Int32} {R : Nat → Nat → Option Nat} {L : Nat → Nat → Int64} {sz : Nat} {ex : Bool} {x0 x1 : Option Value} {u : Nat} : X z 126 8 [x0, x1] (.ref u :: st) cu (K, I, R, L, sz, ex) Q = ((K u).1 = 111 ∧ X z 126 11 [x0, x1] (.int (I u 15) :: st) cu (K, I, R, L, sz, ex) Q) := by
  rw [x126_8]
  rfl
theorem v126_11 {z : P0} {st : List Value} {cu : Nat × Nat} {Q : Res → Mem → Prop} {σ : Mem} {x0 x1 : Option Value} : X z 126 11 [x0, x1] (st) cu σ Q = (X z 126 12 [x0, x1] (.int (nI 1) :: st) cu σ Q) := by
  rw [x126_11]
  rfl
theorem v126_12 {z : P0} {st : List Value} {cu : Nat × Nat} {Q : Res → Mem → Prop} {σ : Mem} {x0 x1 : Option Value} {u v : Int32} : X z 126 12 [x0, x1] (.int v :: .int u :: st) cu σ Q = (X z 126 13 [x0, x1] (.int (u + v) :: st) cu σ Q) := by
  rw [x126_12]
  rfl
theorem v126_13 {z : P0} {st : List Value} {cu : Nat × Nat} {Q : Res → Mem → Prop} {σ : Mem} {x0 : Option Value} {u : Int32} : X z 126 13 [x0, some (.int u)] (st) cu σ Q = (X z 126 14 [x0, some (.int u)] (.int u :: st) cu σ Q) := by
  rw [x126_13]
  rfl
theorem v126_14 {z : P0} {st : List Value} {cu : Nat × Nat} {Q : Res → Mem → Prop} {σ : Mem} {x0 x1 : Option Value} {u v : Int32} : X z 126 14 [x0, x1] (.int v :: .int u :: st) cu σ Q = (X z 126 15 [x0, x1] (.int (u + v) :: st) cu σ Q) := by
  rw [x126_14]
  rfl
theorem v126_15 {z : P0} {st : List Value} {cu : Nat × Nat} {Q : Res → Mem → Prop} {σ : Mem} {x1 : Option Value} {u : Nat} : X z 126 15 [some (.ref u), x1] (st) cu σ Q = (X z 126 16 [some (.ref u), x1] (.ref u :: st) cu σ Q) := by
  rw [x126_15]
  rfl
theorem v126_16 {z : P0} {st : List Value} {cu : Nat × Nat} {Q : Res → Mem → Prop} {K : Nat → Nat × Nat} {I : Nat → Nat → Int32} {R : Nat → Nat → Option Nat} {L : Nat → Nat → Int64} {sz : Nat} {ex : Bool} {x0 x1 : Option Value} {u : Nat} : X z 126 16 [x0, x1] (.ref u :: st) cu (K, I, R, L, sz, ex) Q = ((K u).1 = 111 ∧ X z 126 19 [x0, x1] (va_rf (R u 0) :: st) cu (K, I, R, L, sz, ex) Q) := by
  rw [x126_16]
  rfl
theorem v126_19 {z : P0} {st : List Value} {cu : Nat × Nat} {Q : Res → Mem → Prop} {σ : Mem} {x0 x1 : Option Value} : X z 126 19 [x0, x1] (st) cu σ Q = (X z 126 20 [x0, x1] (.int (nI 0) :: st) cu σ Q) := by
  rw [x126_19]
  rfl
theorem v126_20 {z : P0} {st : List Value} {cu : Nat × Nat} {Q : Res → Mem → Prop} {K : Nat → Nat × Nat} {I : Nat → Nat → Int32} {R : Nat → Nat → Option Nat} {L : Nat → Nat → Int64} {sz : Nat} {ex : Bool} {x0 x1 : Option Value} {u : Nat} {v : Int32} : X z 126 20 [x0, x1] (.int v :: .ref u :: st) cu (K, I, R, L, sz, ex) Q = (((K u).1 = 20 ∨ (K u).1 = 50) ∧ vp_in v (K u).2 ∧ X z 126 21 [x0, x1] (.int (I u v.toNatClampNeg) :: st) cu (K, I, R, L, sz, ex) Q) := by
  rw [x126_20]
  rfl
theorem v126_21 {z : P0} {st : List Value} {cu : Nat × Nat} {Q : Res → Mem → Prop} {σ : Mem} {x0 x1 : Option Value} {u v : Int32} : X z 126 21 [x0, x1] (.int v :: .int u :: st) cu σ Q = (if v < u then X z 126 24 [x0, x1] (st) cu σ Q else X z 126 28 [x0, x1] (st) cu σ Q) := by
  rw [x126_21]
  obtain ⟨K, I, R, L, sz, ex⟩ := σ
  exact br_ge
theorem v126_24 {z : P0} {st : List Value} {cu : Nat × Nat} {Q : Res → Mem → Prop} {σ : Mem} {x1 : Option Value} {u : Nat} : X z 126 24 [some (.ref u), x1] (st) cu σ Q = (X z 126 25 [some (.ref u), x1] (.ref u :: st) cu σ Q) := by
  rw [x126_24]
  rfl
theorem u126_25 {z : P0} {ls : Lcs} {st : List Value} {K : Nat → Nat × Nat} {I : Nat → Nat → Int32} {R : Nat → Nat → Option Nat} {L : Nat → Nat → Int64} {sz : Nat} {ex : Bool} {Q : Res → Mem → Prop} {x : Nat} : X z 126 25 ls (.ref x :: st) (0, 0) (K, I, R, L, sz, ex) Q = ((K x).1 = 111 ∧ wsum st ≤ 8 ∧ X z 125 0 [some (.ref x)] [] (0, 0) (K, I, R, L, sz, ex) (aftr (X z) mT 126 25 ls st (0, 0) Q)) := v126_25 (c := 0) (n := 0)
theorem v126_28 {z : P0} {st : List Value} {cu : Nat × Nat} {Q : Res → Mem → Prop} {σ : Mem} {x1 : Option Value} {u : Nat} : X z 126 28 [some (.ref u), x1] (st) cu σ Q = (X z 126 29 [some (.ref u), x1] (.ref u :: st) cu σ Q) := by
  rw [x126_28]
  rfl
theorem v126_29 {z : P0} {st : List Value} {cu : Nat × Nat} {Q : Res → Mem → Prop} {σ : Mem} {x0 x1 : Option Value} {u : Nat} : X z 126 29 [x0, x1] (.ref u :: st) cu σ Q = (X z 126 30 [x0, x1] (.ref u :: .ref u :: st) cu σ Q) := by
  rw [x126_29]
  exact propext ⟨fun h => h.2, fun h => ⟨rfl, h⟩⟩
theorem v126_29i {z : P0} {st : List Value} {cu : Nat × Nat} {Q : Res → Mem → Prop} {σ : Mem} {x0 x1 : Option Value} {u : Int32} : X z 126 29 [x0, x1] (.int u :: st) cu σ Q = (X z 126 30 [x0, x1] (.int u :: .int u :: st) cu σ Q) := by
  rw [x126_29]
  exact propext ⟨fun h => h.2, fun h => ⟨rfl, h⟩⟩
theorem v126_30 {z : P0} {st : List Value} {cu : Nat × Nat} {Q : Res → Mem → Prop} {K : Nat → Nat × Nat} {I : Nat → Nat → Int32} {R : Nat → Nat → Option Nat} {L : Nat → Nat → Int64} {sz : Nat} {ex : Bool} {x0 x1 : Option Value} {u : Nat} : X z 126 30 [x0, x1] (.ref u :: st) cu (K, I, R, L, sz, ex) Q = ((K u).1 = 111 ∧ X z 126 33 [x0, x1] (.int (I u 15) :: st) cu (K, I, R, L, sz, ex) Q) := by
  rw [x126_30]
  rfl
theorem v126_33 {z : P0} {st : List Value} {cu : Nat × Nat} {Q : Res → Mem → Prop} {σ : Mem} {x0 : Option Value} {u : Int32} : X z 126 33 [x0, some (.int u)] (st) cu σ Q = (X z 126 34 [x0, some (.int u)] (.int u :: st) cu σ Q) := by
  rw [x126_33]
  rfl
theorem v126_34 {z : P0} {st : List Value} {cu : Nat × Nat} {Q : Res → Mem → Prop} {σ : Mem} {x1 : Option Value} {u : Nat} : X z 126 34 [some (.ref u), x1] (st) cu σ Q = (X z 126 35 [some (.ref u), x1] (.ref u :: st) cu σ Q) := by
  rw [x126_34]
  rfl
theorem v126_35 {z : P0} {st : List Value} {cu : Nat × Nat} {Q : Res → Mem → Prop} {K : Nat → Nat × Nat} {I : Nat → Nat → Int32} {R : Nat → Nat → Option Nat} {L : Nat → Nat → Int64} {sz : Nat} {ex : Bool} {x0 x1 : Option Value} {u : Nat} : X z 126 35 [x0, x1] (.ref u :: st) cu (K, I, R, L, sz, ex) Q = ((K u).1 = 111 ∧ X z 126 38 [x0, x1] (.int (I u 16) :: st) cu (K, I, R, L, sz, ex) Q) := by
  rw [x126_35]
  rfl
theorem v126_38 {z : P0} {st : List Value} {cu : Nat × Nat} {Q : Res → Mem → Prop} {σ : Mem} {x0 x1 : Option Value} {u : Int32} : X z 126 38 [x0, x1] (.int u :: st) cu σ Q = (if u = nI 0 then X z 126 45 [x0, x1] (st) cu σ Q else X z 126 41 [x0, x1] (st) cu σ Q) := by
  rw [x126_38]
  rw [nI_0]
  obtain ⟨K, I, R, L, sz, ex⟩ := σ
  exact br_ite
theorem v126_41 {z : P0} {st : List Value} {cu : Nat × Nat} {Q : Res → Mem → Prop} {σ : Mem} {x0 x1 : Option Value} : X z 126 41 [x0, x1] (st) cu σ Q = (X z 126 42 [x0, x1] (.int (nI 0) :: st) cu σ Q) := by
  rw [x126_41]
  rfl
theorem v126_42 {z : P0} {st : List Value} {cu : Nat × Nat} {Q : Res → Mem → Prop} {σ : Mem} {x0 x1 : Option Value} : X z 126 42 [x0, x1] (st) cu σ Q = (X z 126 46 [x0, x1] (st) cu σ Q) := by
  rw [x126_42]
  rfl
theorem v126_45 {z : P0} {st : List Value} {cu : Nat × Nat} {Q : Res → Mem → Prop} {σ : Mem} {x0 x1 : Option Value} : X z 126 45 [x0, x1] (st) cu σ Q = (X z 126 46 [x0, x1] (.int (nI 1) :: st) cu σ Q) := by
  rw [x126_45]
  rfl
theorem v126_46 {z : P0} {st : List Value} {cu : Nat × Nat} {Q : Res → Mem → Prop} {σ : Mem} {x0 x1 : Option Value} {u v : Int32} : X z 126 46 [x0, x1] (.int v :: .int u :: st) cu σ Q = (X z 126 47 [x0, x1] (.int (u + v) :: st) cu σ Q) := by
  rw [x126_46]
  rfl
theorem v126_47 {z : P0} {st : List Value} {cu : Nat × Nat} {Q : Res → Mem → Prop} {σ : Mem} {x0 x1 : Option Value} {u v : Int32} : X z 126 47 [x0, x1] (.int v :: .int u :: st) cu σ Q = (X z 126 48 [x0, x1] (.int (u + v) :: st) cu σ Q) := by
  rw [x126_47]
  rfl
theorem v126_48 {z : P0} {st : List Value} {cu : Nat × Nat} {Q : Res → Mem → Prop} {K : Nat → Nat × Nat} {I : Nat → Nat → Int32} {R : Nat → Nat → Option Nat} {L : Nat → Nat → Int64} {sz : Nat} {ex : Bool} {x0 x1 : Option Value} {u : Nat} {v : Int32} : X z 126 48 [x0, x1] (.int v :: .ref u :: st) cu (K, I, R, L, sz, ex) Q = ((K u).1 = 111 ∧ X z 126 51 [x0, x1] (st) cu (K, up2 I u 15 v, R, L, sz, ex) Q) := by
  rw [x126_48]
  exact i_putI
theorem v126_51 {z : P0} {st : List Value} {cu : Nat × Nat} {Q : Res → Mem → Prop} {σ : Mem} {x1 : Option Value} {u : Nat} : X z 126 51 [some (.ref u), x1] (st) cu σ Q = (X z 126 52 [some (.ref u), x1] (.ref u :: st) cu σ Q) := by
  rw [x126_51]
  rfl
theorem v126_52 {z : P0} {st : List Value} {cu : Nat × Nat} {Q : Res → Mem → Prop} {σ : Mem} {x0 x1 : Option Value} : X z 126 52 [x0, x1] (st) cu σ Q = (X z 126 53 [x0, x1] (.int (nI 0) :: st) cu σ Q) := by
  rw [x126_52]
  rfl
theorem v126_53 {z : P0} {st : List Value} {cu : Nat × Nat} {Q : Res → Mem → Prop} {K : Nat → Nat × Nat} {I : Nat → Nat → Int32} {R : Nat → Nat → Option Nat} {L : Nat → Nat → Int64} {sz : Nat} {ex : Bool} {x0 x1 : Option Value} {u : Nat} {v : Int32} : X z 126 53 [x0, x1] (.int v :: .ref u :: st) cu (K, I, R, L, sz, ex) Q = ((v = nI 0 ∨ v = nI 1) ∧ (K u).1 = 111 ∧ X z 126 56 [x0, x1] (st) cu (K, up2 I u 16 v, R, L, sz, ex) Q) := by
  rw [x126_53]
  rw [nI_0, one1]
  exact i_putZ
theorem v126_56 {z : P0} {cu : Nat × Nat} {Q : Res → Mem → Prop} {σ : Mem} {x0 x1 : Option Value} : X z 126 56 [x0, x1] ([]) cu σ Q = (Q (.inl none) σ) := by
  rw [x126_56]
  rfl
theorem v127_0 {z : P0} {st : List Value} {cu : Nat × Nat} {Q : Res → Mem → Prop} {σ : Mem} {x0 x2 : Option Value} {u : Int32} : X z 127 0 [x0, some (.int u), x2] (st) cu σ Q = (X z 127 1 [x0, some (.int u), x2] (.int u :: st) cu σ Q) := by
  rw [x127_0]
  rfl
theorem v127_1 {z : P0} {st : List Value} {cu : Nat × Nat} {Q : Res → Mem → Prop} {σ : Mem} {x0 x1 x2 : Option Value} {u : Int32} : X z 127 1 [x0, x1, x2] (.int u :: st) cu σ Q = (cat2 x1 = false ∧ X z 127 2 [x0, x1, some (.int u)] (st) cu σ Q) := by
  rw [x127_1]
  obtain ⟨K, I, R, L, sz, ex⟩ := σ
  exact i_istore_n.trans sl_2
theorem v127_2 {z : P0} {st : List Value} {cu : Nat × Nat} {Q : Res → Mem → Prop} {σ : Mem} {x0 x1 : Option Value} {u : Int32} : X z 127 2 [x0, x1, some (.int u)] (st) cu σ Q = (X z 127 3 [x0, x1, some (.int u)] (.int u :: st) cu σ Q) := by
  rw [x127_2]
  rfl
theorem v127_3 {z : P0} {st : List Value} {cu : Nat × Nat} {Q : Res → Mem → Prop} {σ : Mem} {x1 x2 : Option Value} {u : Nat} : X z 127 3 [some (.ref u), x1, x2] (st) cu σ Q = (X z 127 4 [some (.ref u), x1, x2] (.ref u :: st) cu σ Q) := by
  rw [x127_3]
  rfl
theorem v127_4 {z : P0} {st : List Value} {cu : Nat × Nat} {Q : Res → Mem → Prop} {K : Nat → Nat × Nat} {I : Nat → Nat → Int32} {R : Nat → Nat → Option Nat} {L : Nat → Nat → Int64} {sz : Nat} {ex : Bool} {x0 x1 x2 : Option Value} {u : Nat} : X z 127 4 [x0, x1, x2] (.ref u :: st) cu (K, I, R, L, sz, ex) Q = ((K u).1 = 111 ∧ X z 127 7 [x0, x1, x2] (va_rf (R u 0) :: st) cu (K, I, R, L, sz, ex) Q) := by
  rw [x127_4]
  rfl
theorem v127_7 {z : P0} {st : List Value} {cu : Nat × Nat} {Q : Res → Mem → Prop} {σ : Mem} {x0 x1 x2 : Option Value} : X z 127 7 [x0, x1, x2] (st) cu σ Q = (X z 127 8 [x0, x1, x2] (.int (nI 0) :: st) cu σ Q) := by
  rw [x127_7]
  rfl
theorem v127_8 {z : P0} {st : List Value} {cu : Nat × Nat} {Q : Res → Mem → Prop} {K : Nat → Nat × Nat} {I : Nat → Nat → Int32} {R : Nat → Nat → Option Nat} {L : Nat → Nat → Int64} {sz : Nat} {ex : Bool} {x0 x1 x2 : Option Value} {u : Nat} {v : Int32} : X z 127 8 [x0, x1, x2] (.int v :: .ref u :: st) cu (K, I, R, L, sz, ex) Q = (((K u).1 = 20 ∨ (K u).1 = 50) ∧ vp_in v (K u).2 ∧ X z 127 9 [x0, x1, x2] (.int (I u v.toNatClampNeg) :: st) cu (K, I, R, L, sz, ex) Q) := by
  rw [x127_8]
  rfl
theorem v127_9 {z : P0} {st : List Value} {cu : Nat × Nat} {Q : Res → Mem → Prop} {σ : Mem} {x0 x1 x2 : Option Value} {u v : Int32} : X z 127 9 [x0, x1, x2] (.int v :: .int u :: st) cu σ Q = (if v < u then X z 127 12 [x0, x1, x2] (st) cu σ Q else X z 127 34 [x0, x1, x2] (st) cu σ Q) := by
  rw [x127_9]
  obtain ⟨K, I, R, L, sz, ex⟩ := σ
  exact br_ge
theorem v127_12 {z : P0} {st : List Value} {cu : Nat × Nat} {Q : Res → Mem → Prop} {σ : Mem} {x1 x2 : Option Value} {u : Nat} : X z 127 12 [some (.ref u), x1, x2] (st) cu σ Q = (X z 127 13 [some (.ref u), x1, x2] (.ref u :: st) cu σ Q) := by
  rw [x127_12]
  rfl
theorem v127_13 {z : P0} {st : List Value} {cu : Nat × Nat} {Q : Res → Mem → Prop} {σ : Mem} {x1 x2 : Option Value} {u : Nat} : X z 127 13 [some (.ref u), x1, x2] (st) cu σ Q = (X z 127 14 [some (.ref u), x1, x2] (.ref u :: st) cu σ Q) := by
  rw [x127_13]
  rfl
theorem v127_14 {z : P0} {st : List Value} {cu : Nat × Nat} {Q : Res → Mem → Prop} {K : Nat → Nat × Nat} {I : Nat → Nat → Int32} {R : Nat → Nat → Option Nat} {L : Nat → Nat → Int64} {sz : Nat} {ex : Bool} {x0 x1 x2 : Option Value} {u : Nat} : X z 127 14 [x0, x1, x2] (.ref u :: st) cu (K, I, R, L, sz, ex) Q = ((K u).1 = 111 ∧ X z 127 17 [x0, x1, x2] (va_rf (R u 0) :: st) cu (K, I, R, L, sz, ex) Q) := by
  rw [x127_14]
  rfl
theorem v127_17 {z : P0} {st : List Value} {cu : Nat × Nat} {Q : Res → Mem → Prop} {σ : Mem} {x0 x1 x2 : Option Value} : X z 127 17 [x0, x1, x2] (st) cu σ Q = (X z 127 18 [x0, x1, x2] (.int (nI 0) :: st) cu σ Q) := by
  rw [x127_17]
  rfl
theorem v127_18 {z : P0} {st : List Value} {cu : Nat × Nat} {Q : Res → Mem → Prop} {K : Nat → Nat × Nat} {I : Nat → Nat → Int32} {R : Nat → Nat → Option Nat} {L : Nat → Nat → Int64} {sz : Nat} {ex : Bool} {x0 x1 x2 : Option Value} {u : Nat} {v : Int32} : X z 127 18 [x0, x1, x2] (.int v :: .ref u :: st) cu (K, I, R, L, sz, ex) Q = (((K u).1 = 20 ∨ (K u).1 = 50) ∧ vp_in v (K u).2 ∧ X z 127 19 [x0, x1, x2] (.int (I u v.toNatClampNeg) :: st) cu (K, I, R, L, sz, ex) Q) := by
  rw [x127_18]
  rfl
theorem u127_19 {z : P0} {ls : Lcs} {st : List Value} {K : Nat → Nat × Nat} {I : Nat → Nat → Int32} {R : Nat → Nat → Option Nat} {L : Nat → Nat → Int64} {sz : Nat} {ex : Bool} {Q : Res → Mem → Prop} {x : Nat} {a0 : Int32} : X z 127 19 ls (.int a0 :: .ref x :: st) (0, 0) (K, I, R, L, sz, ex) Q = ((K x).1 = 111 ∧ wsum st ≤ 8 ∧ X z 126 0 [some (.ref x), some (.int a0)] [] (0, 0) (K, I, R, L, sz, ex) (aftr (X z) mT 127 19 ls st (0, 0) Q)) := v127_19 (c := 0) (n := 0)
theorem v127_22 {z : P0} {st : List Value} {cu : Nat × Nat} {Q : Res → Mem → Prop} {σ : Mem} {x0 x1 : Option Value} {u : Int32} : X z 127 22 [x0, x1, some (.int u)] (st) cu σ Q = (X z 127 23 [x0, x1, some (.int u)] (.int u :: st) cu σ Q) := by
  rw [x127_22]
  rfl
theorem v127_23 {z : P0} {st : List Value} {cu : Nat × Nat} {Q : Res → Mem → Prop} {σ : Mem} {x1 x2 : Option Value} {u : Nat} : X z 127 23 [some (.ref u), x1, x2] (st) cu σ Q = (X z 127 24 [some (.ref u), x1, x2] (.ref u :: st) cu σ Q) := by
  rw [x127_23]
  rfl
theorem v127_24 {z : P0} {st : List Value} {cu : Nat × Nat} {Q : Res → Mem → Prop} {K : Nat → Nat × Nat} {I : Nat → Nat → Int32} {R : Nat → Nat → Option Nat} {L : Nat → Nat → Int64} {sz : Nat} {ex : Bool} {x0 x1 x2 : Option Value} {u : Nat} : X z 127 24 [x0, x1, x2] (.ref u :: st) cu (K, I, R, L, sz, ex) Q = ((K u).1 = 111 ∧ X z 127 27 [x0, x1, x2] (va_rf (R u 0) :: st) cu (K, I, R, L, sz, ex) Q) := by
  rw [x127_24]
  rfl
theorem v127_27 {z : P0} {st : List Value} {cu : Nat × Nat} {Q : Res → Mem → Prop} {σ : Mem} {x0 x1 x2 : Option Value} : X z 127 27 [x0, x1, x2] (st) cu σ Q = (X z 127 28 [x0, x1, x2] (.int (nI 0) :: st) cu σ Q) := by
  rw [x127_27]
  rfl
theorem v127_28 {z : P0} {st : List Value} {cu : Nat × Nat} {Q : Res → Mem → Prop} {K : Nat → Nat × Nat} {I : Nat → Nat → Int32} {R : Nat → Nat → Option Nat} {L : Nat → Nat → Int64} {sz : Nat} {ex : Bool} {x0 x1 x2 : Option Value} {u : Nat} {v : Int32} : X z 127 28 [x0, x1, x2] (.int v :: .ref u :: st) cu (K, I, R, L, sz, ex) Q = (((K u).1 = 20 ∨ (K u).1 = 50) ∧ vp_in v (K u).2 ∧ X z 127 29 [x0, x1, x2] (.int (I u v.toNatClampNeg) :: st) cu (K, I, R, L, sz, ex) Q) := by
  rw [x127_28]
  rfl
theorem v127_29 {z : P0} {st : List Value} {cu : Nat × Nat} {Q : Res → Mem → Prop} {σ : Mem} {x0 x1 x2 : Option Value} {u v : Int32} : X z 127 29 [x0, x1, x2] (.int v :: .int u :: st) cu σ Q = (X z 127 30 [x0, x1, x2] (.int (u - v) :: st) cu σ Q) := by
  rw [x127_29]
  rfl
theorem v127_30 {z : P0} {st : List Value} {cu : Nat × Nat} {Q : Res → Mem → Prop} {σ : Mem} {x0 x1 x2 : Option Value} {u : Int32} : X z 127 30 [x0, x1, x2] (.int u :: st) cu σ Q = (cat2 x1 = false ∧ X z 127 31 [x0, x1, some (.int u)] (st) cu σ Q) := by
  rw [x127_30]
  obtain ⟨K, I, R, L, sz, ex⟩ := σ
  exact i_istore_n.trans sl_2
theorem v127_31 {z : P0} {st : List Value} {cu : Nat × Nat} {Q : Res → Mem → Prop} {σ : Mem} {x0 x1 x2 : Option Value} : X z 127 31 [x0, x1, x2] (st) cu σ Q = (X z 127 2 [x0, x1, x2] (st) cu σ Q) := by
  rw [x127_31]
  rfl
theorem v127_34 {z : P0} {st : List Value} {cu : Nat × Nat} {Q : Res → Mem → Prop} {σ : Mem} {x1 x2 : Option Value} {u : Nat} : X z 127 34 [some (.ref u), x1, x2] (st) cu σ Q = (X z 127 35 [some (.ref u), x1, x2] (.ref u :: st) cu σ Q) := by
  rw [x127_34]
  rfl
theorem v127_35 {z : P0} {st : List Value} {cu : Nat × Nat} {Q : Res → Mem → Prop} {σ : Mem} {x0 x1 : Option Value} {u : Int32} : X z 127 35 [x0, x1, some (.int u)] (st) cu σ Q = (X z 127 36 [x0, x1, some (.int u)] (.int u :: st) cu σ Q) := by
  rw [x127_35]
  rfl
theorem u127_36 {z : P0} {ls : Lcs} {st : List Value} {K : Nat → Nat × Nat} {I : Nat → Nat → Int32} {R : Nat → Nat → Option Nat} {L : Nat → Nat → Int64} {sz : Nat} {ex : Bool} {Q : Res → Mem → Prop} {x : Nat} {a0 : Int32} : X z 127 36 ls (.int a0 :: .ref x :: st) (0, 0) (K, I, R, L, sz, ex) Q = ((K x).1 = 111 ∧ wsum st ≤ 8 ∧ X z 126 0 [some (.ref x), some (.int a0)] [] (0, 0) (K, I, R, L, sz, ex) (aftr (X z) mT 127 36 ls st (0, 0) Q)) := v127_36 (c := 0) (n := 0)
theorem v127_39 {z : P0} {cu : Nat × Nat} {Q : Res → Mem → Prop} {σ : Mem} {x0 x1 x2 : Option Value} : X z 127 39 [x0, x1, x2] ([]) cu σ Q = (Q (.inl none) σ) := by
  rw [x127_39]
  rfl
theorem v128_0 {z : P0} {st : List Value} {cu : Nat × Nat} {Q : Res → Mem → Prop} {σ : Mem} {x0 : Option Value} {u : Int32} : X z 128 0 [x0, some (.int u)] (st) cu σ Q = (X z 128 1 [x0, some (.int u)] (.int u :: st) cu σ Q) := by
  rw [x128_0]
  rfl
theorem v128_1 {z : P0} {st : List Value} {cu : Nat × Nat} {Q : Res → Mem → Prop} {σ : Mem} {x1 : Option Value} {u : Nat} : X z 128 1 [some (.ref u), x1] (st) cu σ Q = (X z 128 2 [some (.ref u), x1] (.ref u :: st) cu σ Q) := by
  rw [x128_1]
  rfl
theorem v128_2 {z : P0} {st : List Value} {cu : Nat × Nat} {Q : Res → Mem → Prop} {K : Nat → Nat × Nat} {I : Nat → Nat → Int32} {R : Nat → Nat → Option Nat} {L : Nat → Nat → Int64} {sz : Nat} {ex : Bool} {x0 x1 : Option Value} {u : Nat} : X z 128 2 [x0, x1] (.ref u :: st) cu (K, I, R, L, sz, ex) Q = ((K u).1 = 111 ∧ X z 128 5 [x0, x1] (va_rf (R u 0) :: st) cu (K, I, R, L, sz, ex) Q) := by
  rw [x128_2]
  rfl
theorem v128_5 {z : P0} {st : List Value} {cu : Nat × Nat} {Q : Res → Mem → Prop} {σ : Mem} {x0 x1 : Option Value} : X z 128 5 [x0, x1] (st) cu σ Q = (X z 128 6 [x0, x1] (.int (nI 1) :: st) cu σ Q) := by
  rw [x128_5]
  rfl
theorem v128_6 {z : P0} {st : List Value} {cu : Nat × Nat} {Q : Res → Mem → Prop} {K : Nat → Nat × Nat} {I : Nat → Nat → Int32} {R : Nat → Nat → Option Nat} {L : Nat → Nat → Int64} {sz : Nat} {ex : Bool} {x0 x1 : Option Value} {u : Nat} {v : Int32} : X z 128 6 [x0, x1] (.int v :: .ref u :: st) cu (K, I, R, L, sz, ex) Q = (((K u).1 = 20 ∨ (K u).1 = 50) ∧ vp_in v (K u).2 ∧ X z 128 7 [x0, x1] (.int (I u v.toNatClampNeg) :: st) cu (K, I, R, L, sz, ex) Q) := by
  rw [x128_6]
  rfl
theorem v128_7 {z : P0} {st : List Value} {cu : Nat × Nat} {Q : Res → Mem → Prop} {σ : Mem} {x0 x1 : Option Value} {u v : Int32} : X z 128 7 [x0, x1] (.int v :: .int u :: st) cu σ Q = (X z 128 8 [x0, x1] (.int (u + v) :: st) cu σ Q) := by
  rw [x128_7]
  rfl
theorem v128_8 {z : P0} {st : List Value} {cu : Nat × Nat} {Q : Res → Mem → Prop} {σ : Mem} {x0 x1 : Option Value} : X z 128 8 [x0, x1] (st) cu σ Q = (X z 128 9 [x0, x1] (.int (nI 1) :: st) cu σ Q) := by
  rw [x128_8]
  rfl
theorem v128_9 {z : P0} {st : List Value} {cu : Nat × Nat} {Q : Res → Mem → Prop} {σ : Mem} {x0 x1 : Option Value} {u v : Int32} : X z 128 9 [x0, x1] (.int v :: .int u :: st) cu σ Q = (X z 128 10 [x0, x1] (.int (u - v) :: st) cu σ Q) := by
  rw [x128_9]
  rfl
theorem v128_10 {z : P0} {st : List Value} {cu : Nat × Nat} {Q : Res → Mem → Prop} {σ : Mem} {x1 : Option Value} {u : Nat} : X z 128 10 [some (.ref u), x1] (st) cu σ Q = (X z 128 11 [some (.ref u), x1] (.ref u :: st) cu σ Q) := by
  rw [x128_10]
  rfl
theorem v128_11 {z : P0} {st : List Value} {cu : Nat × Nat} {Q : Res → Mem → Prop} {K : Nat → Nat × Nat} {I : Nat → Nat → Int32} {R : Nat → Nat → Option Nat} {L : Nat → Nat → Int64} {sz : Nat} {ex : Bool} {x0 x1 : Option Value} {u : Nat} : X z 128 11 [x0, x1] (.ref u :: st) cu (K, I, R, L, sz, ex) Q = ((K u).1 = 111 ∧ X z 128 14 [x0, x1] (va_rf (R u 0) :: st) cu (K, I, R, L, sz, ex) Q) := by
  rw [x128_11]
  rfl
theorem v128_14 {z : P0} {st : List Value} {cu : Nat × Nat} {Q : Res → Mem → Prop} {σ : Mem} {x0 x1 : Option Value} : X z 128 14 [x0, x1] (st) cu σ Q = (X z 128 15 [x0, x1] (.int (nI 1) :: st) cu σ Q) := by
  rw [x128_14]
  rfl
theorem v128_15 {z : P0} {st : List Value} {cu : Nat × Nat} {Q : Res → Mem → Prop} {K : Nat → Nat × Nat} {I : Nat → Nat → Int32} {R : Nat → Nat → Option Nat} {L : Nat → Nat → Int64} {sz : Nat} {ex : Bool} {x0 x1 : Option Value} {u : Nat} {v : Int32} : X z 128 15 [x0, x1] (.int v :: .ref u :: st) cu (K, I, R, L, sz, ex) Q = (((K u).1 = 20 ∨ (K u).1 = 50) ∧ vp_in v (K u).2 ∧ X z 128 16 [x0, x1] (.int (I u v.toNatClampNeg) :: st) cu (K, I, R, L, sz, ex) Q) := by
  rw [x128_15]
  rfl
theorem v128_16 {z : P0} {st : List Value} {cu : Nat × Nat} {Q : Res → Mem → Prop} {σ : Mem} {x0 x1 : Option Value} {u v : Int32} : X z 128 16 [x0, x1] (.int v :: .int u :: st) cu σ Q = (¬ v = 0 ∧ X z 128 17 [x0, x1] (.int (u / v) :: st) cu σ Q) := by
  rw [x128_16]
  rfl
theorem v128_17 {z : P0} {cu : Nat × Nat} {Q : Res → Mem → Prop} {σ : Mem} {x0 x1 : Option Value} {v : Int32} : X z 128 17 [x0, x1] ([.int v]) cu σ Q = (Q (.inl (some (.int v))) σ) := by
  rw [x128_17]
  exact propext ⟨fun h => h.2, fun h => ⟨trivial, h⟩⟩
theorem v129_0 {z : P0} {st : List Value} {cu : Nat × Nat} {Q : Res → Mem → Prop} {σ : Mem} {x0 x1 x2 x3 x4 x5 x6 : Option Value} : X z 129 0 [x0, x1, x2, x3, x4, x5, x6] (st) cu σ Q = (X z 129 1 [x0, x1, x2, x3, x4, x5, x6] (.int (nI 0) :: st) cu σ Q) := by
  rw [x129_0]
  rfl
theorem v129_1 {z : P0} {st : List Value} {cu : Nat × Nat} {Q : Res → Mem → Prop} {σ : Mem} {x0 x1 x2 x3 x4 x5 x6 : Option Value} {u : Int32} : X z 129 1 [x0, x1, x2, x3, x4, x5, x6] (.int u :: st) cu σ Q = (cat2 x1 = false ∧ X z 129 2 [x0, x1, some (.int u), x3, x4, x5, x6] (st) cu σ Q) := by
  rw [x129_1]
  obtain ⟨K, I, R, L, sz, ex⟩ := σ
  exact i_istore_n.trans sl_2
theorem v129_2 {z : P0} {st : List Value} {cu : Nat × Nat} {Q : Res → Mem → Prop} {σ : Mem} {x0 x1 x2 x3 x4 x5 x6 : Option Value} : X z 129 2 [x0, x1, x2, x3, x4, x5, x6] (st) cu σ Q = (X z 129 3 [x0, x1, x2, x3, x4, x5, x6] (.int (nI 0) :: st) cu σ Q) := by
  rw [x129_2]
  rfl
theorem v129_3 {z : P0} {st : List Value} {cu : Nat × Nat} {Q : Res → Mem → Prop} {σ : Mem} {x0 x1 x2 x3 x4 x5 x6 : Option Value} {u : Int32} : X z 129 3 [x0, x1, x2, x3, x4, x5, x6] (.int u :: st) cu σ Q = (cat2 x2 = false ∧ X z 129 4 [x0, x1, x2, some (.int u), x4, x5, x6] (st) cu σ Q) := by
  rw [x129_3]
  obtain ⟨K, I, R, L, sz, ex⟩ := σ
  exact i_istore_n.trans sl_3
theorem v129_4 {z : P0} {st : List Value} {cu : Nat × Nat} {Q : Res → Mem → Prop} {σ : Mem} {x1 x2 x3 x4 x5 x6 : Option Value} {u : Nat} : X z 129 4 [some (.ref u), x1, x2, x3, x4, x5, x6] (st) cu σ Q = (X z 129 5 [some (.ref u), x1, x2, x3, x4, x5, x6] (.ref u :: st) cu σ Q) := by
  rw [x129_4]
  rfl
theorem v129_5 {z : P0} {st : List Value} {cu : Nat × Nat} {Q : Res → Mem → Prop} {σ : Mem} {x0 x1 x2 x3 x4 x5 x6 : Option Value} : X z 129 5 [x0, x1, x2, x3, x4, x5, x6] (st) cu σ Q = (X z 129 6 [x0, x1, x2, x3, x4, x5, x6] (.int (nI 0) :: st) cu σ Q) := by
  rw [x129_5]
  rfl
theorem v129_6 {z : P0} {st : List Value} {cu : Nat × Nat} {Q : Res → Mem → Prop} {K : Nat → Nat × Nat} {I : Nat → Nat → Int32} {R : Nat → Nat → Option Nat} {L : Nat → Nat → Int64} {sz : Nat} {ex : Bool} {x0 x1 x2 x3 x4 x5 x6 : Option Value} {u : Nat} {v : Int32} : X z 129 6 [x0, x1, x2, x3, x4, x5, x6] (.int v :: .ref u :: st) cu (K, I, R, L, sz, ex) Q = ((K u).1 = 111 ∧ X z 129 9 [x0, x1, x2, x3, x4, x5, x6] (st) cu (K, up2 I u 17 v, R, L, sz, ex) Q) := by
  rw [x129_6]
  exact i_putI
theorem v129_9 {z : P0} {st : List Value} {cu : Nat × Nat} {Q : Res → Mem → Prop} {σ : Mem} {x1 x2 x3 x4 x5 x6 : Option Value} {u : Nat} : X z 129 9 [some (.ref u), x1, x2, x3, x4, x5, x6] (st) cu σ Q = (X z 129 10 [some (.ref u), x1, x2, x3, x4, x5, x6] (.ref u :: st) cu σ Q) := by
  rw [x129_9]
  rfl
theorem v129_10 {z : P0} {st : List Value} {cu : Nat × Nat} {Q : Res → Mem → Prop} {K : Nat → Nat × Nat} {I : Nat → Nat → Int32} {R : Nat → Nat → Option Nat} {L : Nat → Nat → Int64} {sz : Nat} {ex : Bool} {x0 x1 x2 x3 x4 x5 x6 : Option Value} {u : Nat} : X z 129 10 [x0, x1, x2, x3, x4, x5, x6] (.ref u :: st) cu (K, I, R, L, sz, ex) Q = ((K u).1 = 111 ∧ X z 129 13 [x0, x1, x2, x3, x4, x5, x6] (va_rf (R u 10) :: st) cu (K, I, R, L, sz, ex) Q) := by
  rw [x129_10]
  rfl
theorem v129_13 {z : P0} {st : List Value} {cu : Nat × Nat} {Q : Res → Mem → Prop} {σ : Mem} {x0 x2 x3 x4 x5 x6 : Option Value} {u : Int32} : X z 129 13 [x0, some (.int u), x2, x3, x4, x5, x6] (st) cu σ Q = (X z 129 14 [x0, some (.int u), x2, x3, x4, x5, x6] (.int u :: st) cu σ Q) := by
  rw [x129_13]
  rfl
theorem v129_14 {z : P0} {st : List Value} {cu : Nat × Nat} {Q : Res → Mem → Prop} {σ : Mem} {x0 x1 x2 x3 x4 x5 x6 : Option Value} : X z 129 14 [x0, x1, x2, x3, x4, x5, x6] (st) cu σ Q = (X z 129 15 [x0, x1, x2, x3, x4, x5, x6] (.int (nI 0) :: st) cu σ Q) := by
  rw [x129_14]
  rfl
theorem v129_15 {z : P0} {st : List Value} {cu : Nat × Nat} {Q : Res → Mem → Prop} {K : Nat → Nat × Nat} {I : Nat → Nat → Int32} {R : Nat → Nat → Option Nat} {L : Nat → Nat → Int64} {sz : Nat} {ex : Bool} {x0 x1 x2 x3 x4 x5 x6 : Option Value} {u : Nat} {j v : Int32} : X z 129 15 [x0, x1, x2, x3, x4, x5, x6] (.int v :: .int j :: .ref u :: st) cu (K, I, R, L, sz, ex) Q = ((K u).1 = 20 ∧ vp_in j (K u).2 ∧ X z 129 16 [x0, x1, x2, x3, x4, x5, x6] (st) cu (K, up2 I u j.toNatClampNeg v, R, L, sz, ex) Q) := by
  rw [x129_15]
  rfl
theorem v129_16 {z : P0} {st : List Value} {cu : Nat × Nat} {Q : Res → Mem → Prop} {σ : Mem} {x1 x2 x3 x4 x5 x6 : Option Value} {u : Nat} : X z 129 16 [some (.ref u), x1, x2, x3, x4, x5, x6] (st) cu σ Q = (X z 129 17 [some (.ref u), x1, x2, x3, x4, x5, x6] (.ref u :: st) cu σ Q) := by
  rw [x129_16]
  rfl
theorem u129_17 {z : P0} {ls : Lcs} {st : List Value} {K : Nat → Nat × Nat} {I : Nat → Nat → Int32} {R : Nat → Nat → Option Nat} {L : Nat → Nat → Int64} {sz : Nat} {ex : Bool} {Q : Res → Mem → Prop} {x : Nat} : X z 129 17 ls (.ref x :: st) (0, 0) (K, I, R, L, sz, ex) Q = ((K x).1 = 111 ∧ wsum st ≤ 8 ∧ X z 125 0 [some (.ref x)] [] (0, 0) (K, I, R, L, sz, ex) (aftr (X z) mT 129 17 ls st (0, 0) Q)) := v129_17 (c := 0) (n := 0)
theorem v129_20 {z : P0} {st : List Value} {cu : Nat × Nat} {Q : Res → Mem → Prop} {σ : Mem} {x0 x1 x2 x3 x4 x5 x6 : Option Value} : X z 129 20 [x0, x1, x2, x3, x4, x5, x6] (st) cu σ Q = (X z 129 21 [x0, x1, x2, x3, x4, x5, x6] (.int (nI 0) :: st) cu σ Q) := by
  rw [x129_20]
  rfl
theorem v129_21 {z : P0} {st : List Value} {cu : Nat × Nat} {Q : Res → Mem → Prop} {σ : Mem} {x0 x1 x2 x3 x4 x5 x6 : Option Value} {u : Int32} : X z 129 21 [x0, x1, x2, x3, x4, x5, x6] (.int u :: st) cu σ Q = (cat2 x3 = false ∧ X z 129 23 [x0, x1, x2, x3, some (.int u), x5, x6] (st) cu σ Q) := by
  rw [x129_21]
  obtain ⟨K, I, R, L, sz, ex⟩ := σ
  exact i_istore.trans sl_4
theorem v129_23 {z : P0} {st : List Value} {cu : Nat × Nat} {Q : Res → Mem → Prop} {σ : Mem} {x0 x1 x2 x3 x5 x6 : Option Value} {u : Int32} : X z 129 23 [x0, x1, x2, x3, some (.int u), x5, x6] (st) cu σ Q = (X z 129 25 [x0, x1, x2, x3, some (.int u), x5, x6] (.int u :: st) cu σ Q) := by
  rw [x129_23]
  rfl
theorem v129_25 {z : P0} {st : List Value} {cu : Nat × Nat} {Q : Res → Mem → Prop} {σ : Mem} {x1 x2 x3 x4 x5 x6 : Option Value} {u : Nat} : X z 129 25 [some (.ref u), x1, x2, x3, x4, x5, x6] (st) cu σ Q = (X z 129 26 [some (.ref u), x1, x2, x3, x4, x5, x6] (.ref u :: st) cu σ Q) := by
  rw [x129_25]
  rfl
theorem v129_26 {z : P0} {st : List Value} {cu : Nat × Nat} {Q : Res → Mem → Prop} {K : Nat → Nat × Nat} {I : Nat → Nat → Int32} {R : Nat → Nat → Option Nat} {L : Nat → Nat → Int64} {sz : Nat} {ex : Bool} {x0 x1 x2 x3 x4 x5 x6 : Option Value} {u : Nat} : X z 129 26 [x0, x1, x2, x3, x4, x5, x6] (.ref u :: st) cu (K, I, R, L, sz, ex) Q = ((K u).1 = 111 ∧ X z 129 29 [x0, x1, x2, x3, x4, x5, x6] (.int (I u 14) :: st) cu (K, I, R, L, sz, ex) Q) := by
  rw [x129_26]
  rfl
theorem v129_29 {z : P0} {st : List Value} {cu : Nat × Nat} {Q : Res → Mem → Prop} {σ : Mem} {x0 x1 x2 x3 x4 x5 x6 : Option Value} {u v : Int32} : X z 129 29 [x0, x1, x2, x3, x4, x5, x6] (.int v :: .int u :: st) cu σ Q = (if u < v then X z 129 32 [x0, x1, x2, x3, x4, x5, x6] (st) cu σ Q else X z 129 149 [x0, x1, x2, x3, x4, x5, x6] (st) cu σ Q) := by
  rw [x129_29]
  obtain ⟨K, I, R, L, sz, ex⟩ := σ
  exact br_ge
theorem v129_32 {z : P0} {st : List Value} {cu : Nat × Nat} {Q : Res → Mem → Prop} {σ : Mem} {x1 x2 x3 x4 x5 x6 : Option Value} {u : Nat} : X z 129 32 [some (.ref u), x1, x2, x3, x4, x5, x6] (st) cu σ Q = (X z 129 33 [some (.ref u), x1, x2, x3, x4, x5, x6] (.ref u :: st) cu σ Q) := by
  rw [x129_32]
  rfl
theorem v129_33 {z : P0} {st : List Value} {cu : Nat × Nat} {Q : Res → Mem → Prop} {K : Nat → Nat × Nat} {I : Nat → Nat → Int32} {R : Nat → Nat → Option Nat} {L : Nat → Nat → Int64} {sz : Nat} {ex : Bool} {x0 x1 x2 x3 x4 x5 x6 : Option Value} {u : Nat} : X z 129 33 [x0, x1, x2, x3, x4, x5, x6] (.ref u :: st) cu (K, I, R, L, sz, ex) Q = ((K u).1 = 111 ∧ X z 129 36 [x0, x1, x2, x3, x4, x5, x6] (va_rf (R u 13) :: st) cu (K, I, R, L, sz, ex) Q) := by
  rw [x129_33]
  rfl
theorem v129_36 {z : P0} {st : List Value} {cu : Nat × Nat} {Q : Res → Mem → Prop} {σ : Mem} {x0 x1 x2 x3 x5 x6 : Option Value} {u : Int32} : X z 129 36 [x0, x1, x2, x3, some (.int u), x5, x6] (st) cu σ Q = (X z 129 38 [x0, x1, x2, x3, some (.int u), x5, x6] (.int u :: st) cu σ Q) := by
  rw [x129_36]
  rfl
theorem v129_38 {z : P0} {st : List Value} {cu : Nat × Nat} {Q : Res → Mem → Prop} {K : Nat → Nat × Nat} {I : Nat → Nat → Int32} {R : Nat → Nat → Option Nat} {L : Nat → Nat → Int64} {sz : Nat} {ex : Bool} {x0 x1 x2 x3 x4 x5 x6 : Option Value} {u : Nat} {v : Int32} : X z 129 38 [x0, x1, x2, x3, x4, x5, x6] (.int v :: .ref u :: st) cu (K, I, R, L, sz, ex) Q = (((K u).1 = 20 ∨ (K u).1 = 50) ∧ vp_in v (K u).2 ∧ X z 129 39 [x0, x1, x2, x3, x4, x5, x6] (.int (I u v.toNatClampNeg) :: st) cu (K, I, R, L, sz, ex) Q) := by
  rw [x129_38]
  rfl
theorem v129_39 {z : P0} {st : List Value} {cu : Nat × Nat} {Q : Res → Mem → Prop} {σ : Mem} {x0 x1 x2 x3 x4 x5 x6 : Option Value} {u : Int32} : X z 129 39 [x0, x1, x2, x3, x4, x5, x6] (.int u :: st) cu σ Q = (cat2 x4 = false ∧ X z 129 41 [x0, x1, x2, x3, x4, some (.int u), x6] (st) cu σ Q) := by
  rw [x129_39]
  obtain ⟨K, I, R, L, sz, ex⟩ := σ
  exact i_istore.trans sl_5
theorem v129_41 {z : P0} {st : List Value} {cu : Nat × Nat} {Q : Res → Mem → Prop} {σ : Mem} {x0 x1 x2 x3 x4 x6 : Option Value} {u : Int32} : X z 129 41 [x0, x1, x2, x3, x4, some (.int u), x6] (st) cu σ Q = (X z 129 43 [x0, x1, x2, x3, x4, some (.int u), x6] (.int u :: st) cu σ Q) := by
  rw [x129_41]
  rfl
theorem v129_43 {z : P0} {st : List Value} {cu : Nat × Nat} {Q : Res → Mem → Prop} {σ : Mem} {x0 x1 x2 x3 x4 x5 x6 : Option Value} : X z 129 43 [x0, x1, x2, x3, x4, x5, x6] (st) cu σ Q = (X z 129 45 [x0, x1, x2, x3, x4, x5, x6] (.int (nI 95) :: st) cu σ Q) := by
  rw [x129_43]
  rfl
theorem v129_45 {z : P0} {st : List Value} {cu : Nat × Nat} {Q : Res → Mem → Prop} {σ : Mem} {x0 x1 x2 x3 x4 x5 x6 : Option Value} {u v : Int32} : X z 129 45 [x0, x1, x2, x3, x4, x5, x6] (.int v :: .int u :: st) cu σ Q = (if u = v then X z 129 62 [x0, x1, x2, x3, x4, x5, x6] (st) cu σ Q else X z 129 48 [x0, x1, x2, x3, x4, x5, x6] (st) cu σ Q) := by
  rw [x129_45]
  obtain ⟨K, I, R, L, sz, ex⟩ := σ
  exact br_ite
theorem v129_48 {z : P0} {st : List Value} {cu : Nat × Nat} {Q : Res → Mem → Prop} {σ : Mem} {x0 x1 x2 x3 x4 x6 : Option Value} {u : Int32} : X z 129 48 [x0, x1, x2, x3, x4, some (.int u), x6] (st) cu σ Q = (X z 129 50 [x0, x1, x2, x3, x4, some (.int u), x6] (.int u :: st) cu σ Q) := by
  rw [x129_48]
  rfl
theorem v129_50 {z : P0} {st : List Value} {cu : Nat × Nat} {Q : Res → Mem → Prop} {σ : Mem} {x0 x1 x2 x3 x4 x5 x6 : Option Value} : X z 129 50 [x0, x1, x2, x3, x4, x5, x6] (st) cu σ Q = (X z 129 52 [x0, x1, x2, x3, x4, x5, x6] (.int (nI 47) :: st) cu σ Q) := by
  rw [x129_50]
  rfl
theorem v129_52 {z : P0} {st : List Value} {cu : Nat × Nat} {Q : Res → Mem → Prop} {σ : Mem} {x0 x1 x2 x3 x4 x5 x6 : Option Value} {u v : Int32} : X z 129 52 [x0, x1, x2, x3, x4, x5, x6] (.int v :: .int u :: st) cu σ Q = (if u = v then X z 129 62 [x0, x1, x2, x3, x4, x5, x6] (st) cu σ Q else X z 129 55 [x0, x1, x2, x3, x4, x5, x6] (st) cu σ Q) := by
  rw [x129_52]
  obtain ⟨K, I, R, L, sz, ex⟩ := σ
  exact br_ite
theorem v129_55 {z : P0} {st : List Value} {cu : Nat × Nat} {Q : Res → Mem → Prop} {σ : Mem} {x0 x1 x2 x3 x4 x6 : Option Value} {u : Int32} : X z 129 55 [x0, x1, x2, x3, x4, some (.int u), x6] (st) cu σ Q = (X z 129 57 [x0, x1, x2, x3, x4, some (.int u), x6] (.int u :: st) cu σ Q) := by
  rw [x129_55]
  rfl
theorem v129_57 {z : P0} {st : List Value} {cu : Nat × Nat} {Q : Res → Mem → Prop} {σ : Mem} {x0 x1 x2 x3 x4 x5 x6 : Option Value} : X z 129 57 [x0, x1, x2, x3, x4, x5, x6] (st) cu σ Q = (X z 129 59 [x0, x1, x2, x3, x4, x5, x6] (.int (nI 124) :: st) cu σ Q) := by
  rw [x129_57]
  rfl
theorem v129_59 {z : P0} {st : List Value} {cu : Nat × Nat} {Q : Res → Mem → Prop} {σ : Mem} {x0 x1 x2 x3 x4 x5 x6 : Option Value} {u v : Int32} : X z 129 59 [x0, x1, x2, x3, x4, x5, x6] (.int v :: .int u :: st) cu σ Q = (if u = v then X z 129 62 [x0, x1, x2, x3, x4, x5, x6] (st) cu σ Q else X z 129 66 [x0, x1, x2, x3, x4, x5, x6] (st) cu σ Q) := by
  rw [x129_59]
  obtain ⟨K, I, R, L, sz, ex⟩ := σ
  exact br_ne
theorem v129_62 {z : P0} {st : List Value} {cu : Nat × Nat} {Q : Res → Mem → Prop} {σ : Mem} {x0 x1 x2 x3 x4 x5 x6 : Option Value} : X z 129 62 [x0, x1, x2, x3, x4, x5, x6] (st) cu σ Q = (X z 129 63 [x0, x1, x2, x3, x4, x5, x6] (.int (nI 1) :: st) cu σ Q) := by
  rw [x129_62]
  rfl
theorem v129_63 {z : P0} {st : List Value} {cu : Nat × Nat} {Q : Res → Mem → Prop} {σ : Mem} {x0 x1 x2 x3 x4 x5 x6 : Option Value} : X z 129 63 [x0, x1, x2, x3, x4, x5, x6] (st) cu σ Q = (X z 129 67 [x0, x1, x2, x3, x4, x5, x6] (st) cu σ Q) := by
  rw [x129_63]
  rfl
theorem v129_66 {z : P0} {st : List Value} {cu : Nat × Nat} {Q : Res → Mem → Prop} {σ : Mem} {x0 x1 x2 x3 x4 x5 x6 : Option Value} : X z 129 66 [x0, x1, x2, x3, x4, x5, x6] (st) cu σ Q = (X z 129 67 [x0, x1, x2, x3, x4, x5, x6] (.int (nI 0) :: st) cu σ Q) := by
  rw [x129_66]
  rfl
theorem v129_67 {z : P0} {st : List Value} {cu : Nat × Nat} {Q : Res → Mem → Prop} {σ : Mem} {x0 x1 x2 x3 x4 x5 x6 : Option Value} {u : Int32} : X z 129 67 [x0, x1, x2, x3, x4, x5, x6] (.int u :: st) cu σ Q = (cat2 x5 = false ∧ X z 129 69 [x0, x1, x2, x3, x4, x5, some (.int u)] (st) cu σ Q) := by
  rw [x129_67]
  obtain ⟨K, I, R, L, sz, ex⟩ := σ
  exact i_istore.trans sl_6
theorem v129_69 {z : P0} {st : List Value} {cu : Nat × Nat} {Q : Res → Mem → Prop} {σ : Mem} {x0 x1 x3 x4 x5 x6 : Option Value} {u : Int32} : X z 129 69 [x0, x1, some (.int u), x3, x4, x5, x6] (st) cu σ Q = (X z 129 70 [x0, x1, some (.int u), x3, x4, x5, x6] (.int u :: st) cu σ Q) := by
  rw [x129_69]
  rfl
theorem v129_70 {z : P0} {st : List Value} {cu : Nat × Nat} {Q : Res → Mem → Prop} {σ : Mem} {x0 x1 x2 x3 x4 x5 : Option Value} {u : Int32} : X z 129 70 [x0, x1, x2, x3, x4, x5, some (.int u)] (st) cu σ Q = (X z 129 72 [x0, x1, x2, x3, x4, x5, some (.int u)] (.int u :: st) cu σ Q) := by
  rw [x129_70]
  rfl
theorem v129_72 {z : P0} {st : List Value} {cu : Nat × Nat} {Q : Res → Mem → Prop} {σ : Mem} {x0 x1 x2 x3 x4 x5 x6 : Option Value} {u : Int32} : X z 129 72 [x0, x1, x2, x3, x4, x5, x6] (.int u :: st) cu σ Q = (if u = nI 0 then X z 129 79 [x0, x1, x2, x3, x4, x5, x6] (st) cu σ Q else X z 129 75 [x0, x1, x2, x3, x4, x5, x6] (st) cu σ Q) := by
  rw [x129_72]
  rw [nI_0]
  obtain ⟨K, I, R, L, sz, ex⟩ := σ
  exact br_ite
theorem v129_75 {z : P0} {st : List Value} {cu : Nat × Nat} {Q : Res → Mem → Prop} {σ : Mem} {x0 x1 x2 x3 x4 x5 x6 : Option Value} : X z 129 75 [x0, x1, x2, x3, x4, x5, x6] (st) cu σ Q = (X z 129 76 [x0, x1, x2, x3, x4, x5, x6] (.int (nI 0) :: st) cu σ Q) := by
  rw [x129_75]
  rfl
theorem v129_76 {z : P0} {st : List Value} {cu : Nat × Nat} {Q : Res → Mem → Prop} {σ : Mem} {x0 x1 x2 x3 x4 x5 x6 : Option Value} : X z 129 76 [x0, x1, x2, x3, x4, x5, x6] (st) cu σ Q = (X z 129 80 [x0, x1, x2, x3, x4, x5, x6] (st) cu σ Q) := by
  rw [x129_76]
  rfl
theorem v129_79 {z : P0} {st : List Value} {cu : Nat × Nat} {Q : Res → Mem → Prop} {σ : Mem} {x0 x1 x2 x3 x4 x5 x6 : Option Value} : X z 129 79 [x0, x1, x2, x3, x4, x5, x6] (st) cu σ Q = (X z 129 80 [x0, x1, x2, x3, x4, x5, x6] (.int (nI 1) :: st) cu σ Q) := by
  rw [x129_79]
  rfl
theorem v129_80 {z : P0} {st : List Value} {cu : Nat × Nat} {Q : Res → Mem → Prop} {σ : Mem} {x0 x1 x2 x3 x4 x5 x6 : Option Value} {u v : Int32} : X z 129 80 [x0, x1, x2, x3, x4, x5, x6] (.int v :: .int u :: st) cu σ Q = (X z 129 81 [x0, x1, x2, x3, x4, x5, x6] (.int (u + v) :: st) cu σ Q) := by
  rw [x129_80]
  rfl
theorem v129_81 {z : P0} {st : List Value} {cu : Nat × Nat} {Q : Res → Mem → Prop} {σ : Mem} {x0 x1 x2 x3 x4 x5 x6 : Option Value} {u : Int32} : X z 129 81 [x0, x1, x2, x3, x4, x5, x6] (.int u :: st) cu σ Q = (cat2 x1 = false ∧ X z 129 82 [x0, x1, some (.int u), x3, x4, x5, x6] (st) cu σ Q) := by
  rw [x129_81]
  obtain ⟨K, I, R, L, sz, ex⟩ := σ
  exact i_istore_n.trans sl_2
theorem v129_82 {z : P0} {st : List Value} {cu : Nat × Nat} {Q : Res → Mem → Prop} {σ : Mem} {x0 x1 x2 x3 x4 x5 : Option Value} {u : Int32} : X z 129 82 [x0, x1, x2, x3, x4, x5, some (.int u)] (st) cu σ Q = (X z 129 84 [x0, x1, x2, x3, x4, x5, some (.int u)] (.int u :: st) cu σ Q) := by
  rw [x129_82]
  rfl
theorem v129_84 {z : P0} {st : List Value} {cu : Nat × Nat} {Q : Res → Mem → Prop} {σ : Mem} {x0 x1 x2 x3 x4 x5 x6 : Option Value} {u : Int32} : X z 129 84 [x0, x1, x2, x3, x4, x5, x6] (.int u :: st) cu σ Q = (if u = nI 0 then X z 129 94 [x0, x1, x2, x3, x4, x5, x6] (st) cu σ Q else X z 129 87 [x0, x1, x2, x3, x4, x5, x6] (st) cu σ Q) := by
  rw [x129_84]
  rw [nI_0]
  obtain ⟨K, I, R, L, sz, ex⟩ := σ
  exact br_ite
theorem v129_87 {z : P0} {st : List Value} {cu : Nat × Nat} {Q : Res → Mem → Prop} {σ : Mem} {x1 x2 x3 x4 x5 x6 : Option Value} {u : Nat} : X z 129 87 [some (.ref u), x1, x2, x3, x4, x5, x6] (st) cu σ Q = (X z 129 88 [some (.ref u), x1, x2, x3, x4, x5, x6] (.ref u :: st) cu σ Q) := by
  rw [x129_87]
  rfl
theorem v129_88 {z : P0} {st : List Value} {cu : Nat × Nat} {Q : Res → Mem → Prop} {σ : Mem} {x0 x1 x3 x4 x5 x6 : Option Value} {u : Int32} : X z 129 88 [x0, x1, some (.int u), x3, x4, x5, x6] (st) cu σ Q = (X z 129 89 [x0, x1, some (.int u), x3, x4, x5, x6] (.int u :: st) cu σ Q) := by
  rw [x129_88]
  rfl
theorem u129_89 {z : P0} {ls : Lcs} {st : List Value} {K : Nat → Nat × Nat} {I : Nat → Nat → Int32} {R : Nat → Nat → Option Nat} {L : Nat → Nat → Int64} {sz : Nat} {ex : Bool} {Q : Res → Mem → Prop} {x : Nat} {a0 : Int32} : X z 129 89 ls (.int a0 :: .ref x :: st) (0, 0) (K, I, R, L, sz, ex) Q = ((K x).1 = 111 ∧ wsum st ≤ 8 ∧ X z 127 0 [some (.ref x), some (.int a0), none] [] (0, 0) (K, I, R, L, sz, ex) (aftr (X z) mT 129 89 ls st (0, 0) Q)) := v129_89 (c := 0) (n := 0)
theorem v129_92 {z : P0} {st : List Value} {cu : Nat × Nat} {Q : Res → Mem → Prop} {σ : Mem} {x0 x1 x2 x3 x4 x5 x6 : Option Value} : X z 129 92 [x0, x1, x2, x3, x4, x5, x6] (st) cu σ Q = (X z 129 93 [x0, x1, x2, x3, x4, x5, x6] (.int (nI 0) :: st) cu σ Q) := by
  rw [x129_92]
  rfl
theorem v129_93 {z : P0} {st : List Value} {cu : Nat × Nat} {Q : Res → Mem → Prop} {σ : Mem} {x0 x1 x2 x3 x4 x5 x6 : Option Value} {u : Int32} : X z 129 93 [x0, x1, x2, x3, x4, x5, x6] (.int u :: st) cu σ Q = (cat2 x1 = false ∧ X z 129 94 [x0, x1, some (.int u), x3, x4, x5, x6] (st) cu σ Q) := by
  rw [x129_93]
  obtain ⟨K, I, R, L, sz, ex⟩ := σ
  exact i_istore_n.trans sl_2
theorem v129_94 {z : P0} {st : List Value} {cu : Nat × Nat} {Q : Res → Mem → Prop} {σ : Mem} {x0 x1 x2 x3 x4 x6 : Option Value} {u : Int32} : X z 129 94 [x0, x1, x2, x3, x4, some (.int u), x6] (st) cu σ Q = (X z 129 96 [x0, x1, x2, x3, x4, some (.int u), x6] (.int u :: st) cu σ Q) := by
  rw [x129_94]
  rfl
theorem v129_96 {z : P0} {st : List Value} {cu : Nat × Nat} {Q : Res → Mem → Prop} {σ : Mem} {x0 x1 x2 x3 x4 x5 x6 : Option Value} : X z 129 96 [x0, x1, x2, x3, x4, x5, x6] (st) cu σ Q = (X z 129 98 [x0, x1, x2, x3, x4, x5, x6] (.int (nI 124) :: st) cu σ Q) := by
  rw [x129_96]
  rfl
theorem v129_98 {z : P0} {st : List Value} {cu : Nat × Nat} {Q : Res → Mem → Prop} {σ : Mem} {x0 x1 x2 x3 x4 x5 x6 : Option Value} {u v : Int32} : X z 129 98 [x0, x1, x2, x3, x4, x5, x6] (.int v :: .int u :: st) cu σ Q = (if u = v then X z 129 101 [x0, x1, x2, x3, x4, x5, x6] (st) cu σ Q else X z 129 125 [x0, x1, x2, x3, x4, x5, x6] (st) cu σ Q) := by
  rw [x129_98]
  obtain ⟨K, I, R, L, sz, ex⟩ := σ
  exact br_ne
theorem v129_101 {z : P0} {st : List Value} {cu : Nat × Nat} {Q : Res → Mem → Prop} {σ : Mem} {x1 x2 x3 x4 x5 x6 : Option Value} {u : Nat} : X z 129 101 [some (.ref u), x1, x2, x3, x4, x5, x6] (st) cu σ Q = (X z 129 102 [some (.ref u), x1, x2, x3, x4, x5, x6] (.ref u :: st) cu σ Q) := by
  rw [x129_101]
  rfl
theorem v129_102 {z : P0} {st : List Value} {cu : Nat × Nat} {Q : Res → Mem → Prop} {K : Nat → Nat × Nat} {I : Nat → Nat → Int32} {R : Nat → Nat → Option Nat} {L : Nat → Nat → Int64} {sz : Nat} {ex : Bool} {x0 x1 x2 x3 x4 x5 x6 : Option Value} {u : Nat} : X z 129 102 [x0, x1, x2, x3, x4, x5, x6] (.ref u :: st) cu (K, I, R, L, sz, ex) Q = ((K u).1 = 111 ∧ X z 129 105 [x0, x1, x2, x3, x4, x5, x6] (va_rf (R u 10) :: st) cu (K, I, R, L, sz, ex) Q) := by
  rw [x129_102]
  rfl
theorem v129_105 {z : P0} {st : List Value} {cu : Nat × Nat} {Q : Res → Mem → Prop} {σ : Mem} {x0 x2 x3 x4 x5 x6 : Option Value} {u : Int32} : X z 129 105 [x0, some (.int u), x2, x3, x4, x5, x6] (st) cu σ Q = (X z 129 106 [x0, some (.int u), x2, x3, x4, x5, x6] (.int u :: st) cu σ Q) := by
  rw [x129_105]
  rfl
theorem v129_106 {z : P0} {st : List Value} {cu : Nat × Nat} {Q : Res → Mem → Prop} {σ : Mem} {x0 x1 x2 x3 x4 x5 x6 : Option Value} {u : Int32} {v : Nat} : X z 129 106 [x0, x1, x2, x3, x4, x5, x6] (.int u :: .ref v :: st) cu σ Q = (X z 129 107 [x0, x1, x2, x3, x4, x5, x6] (.int u :: .ref v :: .int u :: .ref v :: st) cu σ Q) := by
  rw [x129_106]
  rfl
theorem v129_107 {z : P0} {st : List Value} {cu : Nat × Nat} {Q : Res → Mem → Prop} {K : Nat → Nat × Nat} {I : Nat → Nat → Int32} {R : Nat → Nat → Option Nat} {L : Nat → Nat → Int64} {sz : Nat} {ex : Bool} {x0 x1 x2 x3 x4 x5 x6 : Option Value} {u : Nat} {v : Int32} : X z 129 107 [x0, x1, x2, x3, x4, x5, x6] (.int v :: .ref u :: st) cu (K, I, R, L, sz, ex) Q = (((K u).1 = 20 ∨ (K u).1 = 50) ∧ vp_in v (K u).2 ∧ X z 129 108 [x0, x1, x2, x3, x4, x5, x6] (.int (I u v.toNatClampNeg) :: st) cu (K, I, R, L, sz, ex) Q) := by
  rw [x129_107]
  rfl
theorem v129_108 {z : P0} {st : List Value} {cu : Nat × Nat} {Q : Res → Mem → Prop} {σ : Mem} {x1 x2 x3 x4 x5 x6 : Option Value} {u : Nat} : X z 129 108 [some (.ref u), x1, x2, x3, x4, x5, x6] (st) cu σ Q = (X z 129 109 [some (.ref u), x1, x2, x3, x4, x5, x6] (.ref u :: st) cu σ Q) := by
  rw [x129_108]
  rfl
theorem v129_109 {z : P0} {st : List Value} {cu : Nat × Nat} {Q : Res → Mem → Prop} {σ : Mem} {x1 x2 x3 x4 x5 x6 : Option Value} {u : Nat} : X z 129 109 [some (.ref u), x1, x2, x3, x4, x5, x6] (st) cu σ Q = (X z 129 110 [some (.ref u), x1, x2, x3, x4, x5, x6] (.ref u :: st) cu σ Q) := by
  rw [x129_109]
  rfl
theorem v129_110 {z : P0} {st : List Value} {cu : Nat × Nat} {Q : Res → Mem → Prop} {K : Nat → Nat × Nat} {I : Nat → Nat → Int32} {R : Nat → Nat → Option Nat} {L : Nat → Nat → Int64} {sz : Nat} {ex : Bool} {x0 x1 x2 x3 x4 x5 x6 : Option Value} {u : Nat} : X z 129 110 [x0, x1, x2, x3, x4, x5, x6] (.ref u :: st) cu (K, I, R, L, sz, ex) Q = ((K u).1 = 111 ∧ X z 129 113 [x0, x1, x2, x3, x4, x5, x6] (.int (I u 17) :: st) cu (K, I, R, L, sz, ex) Q) := by
  rw [x129_110]
  rfl
theorem v129_113 {z : P0} {st : List Value} {cu : Nat × Nat} {Q : Res → Mem → Prop} {σ : Mem} {x0 x1 x2 x4 x5 x6 : Option Value} {u : Int32} : X z 129 113 [x0, x1, x2, some (.int u), x4, x5, x6] (st) cu σ Q = (X z 129 114 [x0, x1, x2, some (.int u), x4, x5, x6] (.int u :: st) cu σ Q) := by
  rw [x129_113]
  rfl
theorem v129_114 {z : P0} {st : List Value} {cu : Nat × Nat} {Q : Res → Mem → Prop} {σ : Mem} {x0 x1 x2 x3 x4 x5 x6 : Option Value} {u v : Int32} : X z 129 114 [x0, x1, x2, x3, x4, x5, x6] (.int v :: .int u :: st) cu σ Q = (X z 129 115 [x0, x1, x2, x3, x4, x5, x6] (.int (u - v) :: st) cu σ Q) := by
  rw [x129_114]
  rfl
theorem u129_115 {z : P0} {ls : Lcs} {st : List Value} {K : Nat → Nat × Nat} {I : Nat → Nat → Int32} {R : Nat → Nat → Option Nat} {L : Nat → Nat → Int64} {sz : Nat} {ex : Bool} {Q : Res → Mem → Prop} {x : Nat} {a0 : Int32} : X z 129 115 ls (.int a0 :: .ref x :: st) (0, 0) (K, I, R, L, sz, ex) Q = ((K x).1 = 111 ∧ wsum st ≤ 8 ∧ X z 128 0 [some (.ref x), some (.int a0)] [] (0, 0) (K, I, R, L, sz, ex) (aftr (X z) mT 129 115 ls st (0, 0) Q)) := v129_115 (c := 0) (n := 0)
theorem v129_118 {z : P0} {st : List Value} {cu : Nat × Nat} {Q : Res → Mem → Prop} {σ : Mem} {x0 x1 x2 x3 x4 x5 x6 : Option Value} {u v : Int32} : X z 129 118 [x0, x1, x2, x3, x4, x5, x6] (.int v :: .int u :: st) cu σ Q = (X z 129 119 [x0, x1, x2, x3, x4, x5, x6] (.int (u + v) :: st) cu σ Q) := by
  rw [x129_118]
  rfl
theorem v129_119 {z : P0} {st : List Value} {cu : Nat × Nat} {Q : Res → Mem → Prop} {K : Nat → Nat × Nat} {I : Nat → Nat → Int32} {R : Nat → Nat → Option Nat} {L : Nat → Nat → Int64} {sz : Nat} {ex : Bool} {x0 x1 x2 x3 x4 x5 x6 : Option Value} {u : Nat} {j v : Int32} : X z 129 119 [x0, x1, x2, x3, x4, x5, x6] (.int v :: .int j :: .ref u :: st) cu (K, I, R, L, sz, ex) Q = ((K u).1 = 20 ∧ vp_in j (K u).2 ∧ X z 129 120 [x0, x1, x2, x3, x4, x5, x6] (st) cu (K, up2 I u j.toNatClampNeg v, R, L, sz, ex) Q) := by
  rw [x129_119]
  rfl
theorem v129_120 {z : P0} {st : List Value} {cu : Nat × Nat} {Q : Res → Mem → Prop} {σ : Mem} {x1 x2 x3 x4 x5 x6 : Option Value} {u : Nat} : X z 129 120 [some (.ref u), x1, x2, x3, x4, x5, x6] (st) cu σ Q = (X z 129 121 [some (.ref u), x1, x2, x3, x4, x5, x6] (.ref u :: st) cu σ Q) := by
  rw [x129_120]
  rfl
theorem v129_121 {z : P0} {st : List Value} {cu : Nat × Nat} {Q : Res → Mem → Prop} {K : Nat → Nat × Nat} {I : Nat → Nat → Int32} {R : Nat → Nat → Option Nat} {L : Nat → Nat → Int64} {sz : Nat} {ex : Bool} {x0 x1 x2 x3 x4 x5 x6 : Option Value} {u : Nat} : X z 129 121 [x0, x1, x2, x3, x4, x5, x6] (.ref u :: st) cu (K, I, R, L, sz, ex) Q = ((K u).1 = 111 ∧ X z 129 124 [x0, x1, x2, x3, x4, x5, x6] (.int (I u 17) :: st) cu (K, I, R, L, sz, ex) Q) := by
  rw [x129_121]
  rfl
theorem v129_124 {z : P0} {st : List Value} {cu : Nat × Nat} {Q : Res → Mem → Prop} {σ : Mem} {x0 x1 x2 x3 x4 x5 x6 : Option Value} {u : Int32} : X z 129 124 [x0, x1, x2, x3, x4, x5, x6] (.int u :: st) cu σ Q = (cat2 x2 = false ∧ X z 129 125 [x0, x1, x2, some (.int u), x4, x5, x6] (st) cu σ Q) := by
  rw [x129_124]
  obtain ⟨K, I, R, L, sz, ex⟩ := σ
  exact i_istore_n.trans sl_3
theorem v129_125 {z : P0} {st : List Value} {cu : Nat × Nat} {Q : Res → Mem → Prop} {σ : Mem} {x0 x1 x2 x3 x4 x6 : Option Value} {u : Int32} : X z 129 125 [x0, x1, x2, x3, x4, some (.int u), x6] (st) cu σ Q = (X z 129 127 [x0, x1, x2, x3, x4, some (.int u), x6] (.int u :: st) cu σ Q) := by
  rw [x129_125]
  rfl
theorem v129_127 {z : P0} {st : List Value} {cu : Nat × Nat} {Q : Res → Mem → Prop} {σ : Mem} {x0 x1 x2 x3 x4 x5 x6 : Option Value} : X z 129 127 [x0, x1, x2, x3, x4, x5, x6] (st) cu σ Q = (X z 129 129 [x0, x1, x2, x3, x4, x5, x6] (.int (nI 47) :: st) cu σ Q) := by
  rw [x129_127]
  rfl
theorem v129_129 {z : P0} {st : List Value} {cu : Nat × Nat} {Q : Res → Mem → Prop} {σ : Mem} {x0 x1 x2 x3 x4 x5 x6 : Option Value} {u v : Int32} : X z 129 129 [x0, x1, x2, x3, x4, x5, x6] (.int v :: .int u :: st) cu σ Q = (if u = v then X z 129 139 [x0, x1, x2, x3, x4, x5, x6] (st) cu σ Q else X z 129 132 [x0, x1, x2, x3, x4, x5, x6] (st) cu σ Q) := by
  rw [x129_129]
  obtain ⟨K, I, R, L, sz, ex⟩ := σ
  exact br_ite
theorem v129_132 {z : P0} {st : List Value} {cu : Nat × Nat} {Q : Res → Mem → Prop} {σ : Mem} {x0 x1 x2 x3 x4 x6 : Option Value} {u : Int32} : X z 129 132 [x0, x1, x2, x3, x4, some (.int u), x6] (st) cu σ Q = (X z 129 134 [x0, x1, x2, x3, x4, some (.int u), x6] (.int u :: st) cu σ Q) := by
  rw [x129_132]
  rfl
theorem v129_134 {z : P0} {st : List Value} {cu : Nat × Nat} {Q : Res → Mem → Prop} {σ : Mem} {x0 x1 x2 x3 x4 x5 x6 : Option Value} : X z 129 134 [x0, x1, x2, x3, x4, x5, x6] (st) cu σ Q = (X z 129 136 [x0, x1, x2, x3, x4, x5, x6] (.int (nI 124) :: st) cu σ Q) := by
  rw [x129_134]
  rfl
theorem v129_136 {z : P0} {st : List Value} {cu : Nat × Nat} {Q : Res → Mem → Prop} {σ : Mem} {x0 x1 x2 x3 x4 x5 x6 : Option Value} {u v : Int32} : X z 129 136 [x0, x1, x2, x3, x4, x5, x6] (.int v :: .int u :: st) cu σ Q = (if u = v then X z 129 139 [x0, x1, x2, x3, x4, x5, x6] (st) cu σ Q else X z 129 143 [x0, x1, x2, x3, x4, x5, x6] (st) cu σ Q) := by
  rw [x129_136]
  obtain ⟨K, I, R, L, sz, ex⟩ := σ
  exact br_ne
theorem v129_139 {z : P0} {st : List Value} {cu : Nat × Nat} {Q : Res → Mem → Prop} {σ : Mem} {x1 x2 x3 x4 x5 x6 : Option Value} {u : Nat} : X z 129 139 [some (.ref u), x1, x2, x3, x4, x5, x6] (st) cu σ Q = (X z 129 140 [some (.ref u), x1, x2, x3, x4, x5, x6] (.ref u :: st) cu σ Q) := by
  rw [x129_139]
  rfl
theorem u129_140 {z : P0} {ls : Lcs} {st : List Value} {K : Nat → Nat × Nat} {I : Nat → Nat → Int32} {R : Nat → Nat → Option Nat} {L : Nat → Nat → Int64} {sz : Nat} {ex : Bool} {Q : Res → Mem → Prop} {x : Nat} : X z 129 140 ls (.ref x :: st) (0, 0) (K, I, R, L, sz, ex) Q = ((K x).1 = 111 ∧ wsum st ≤ 8 ∧ X z 125 0 [some (.ref x)] [] (0, 0) (K, I, R, L, sz, ex) (aftr (X z) mT 129 140 ls st (0, 0) Q)) := v129_140 (c := 0) (n := 0)
theorem v129_143 {z : P0} {st : List Value} {cu : Nat × Nat} {Q : Res → Mem → Prop} {σ : Mem} {x0 x1 x2 x3 x5 x6 : Option Value} {u : Int32} : X z 129 143 [x0, x1, x2, x3, some (.int u), x5, x6] (st) cu σ Q = (cat2 x3 = false ∧ X z 129 146 [x0, x1, x2, x3, some (.int (u + nI 1)), x5, x6] (st) cu σ Q) := by
  rw [x129_143]
  obtain ⟨K, I, R, L, sz, ex⟩ := σ
  exact i_iinc.trans (gl_4.trans (ldI_i.trans sl_4))
theorem v129_146 {z : P0} {st : List Value} {cu : Nat × Nat} {Q : Res → Mem → Prop} {σ : Mem} {x0 x1 x2 x3 x4 x5 x6 : Option Value} : X z 129 146 [x0, x1, x2, x3, x4, x5, x6] (st) cu σ Q = (X z 129 23 [x0, x1, x2, x3, x4, x5, x6] (st) cu σ Q) := by
  rw [x129_146]
  rfl
theorem v129_149 {z : P0} {st : List Value} {cu : Nat × Nat} {Q : Res → Mem → Prop} {σ : Mem} {x1 x2 x3 x4 x5 x6 : Option Value} {u : Nat} : X z 129 149 [some (.ref u), x1, x2, x3, x4, x5, x6] (st) cu σ Q = (X z 129 150 [some (.ref u), x1, x2, x3, x4, x5, x6] (.ref u :: st) cu σ Q) := by
  rw [x129_149]
  rfl
theorem v129_150 {z : P0} {st : List Value} {cu : Nat × Nat} {Q : Res → Mem → Prop} {σ : Mem} {x0 x1 x3 x4 x5 x6 : Option Value} {u : Int32} : X z 129 150 [x0, x1, some (.int u), x3, x4, x5, x6] (st) cu σ Q = (X z 129 151 [x0, x1, some (.int u), x3, x4, x5, x6] (.int u :: st) cu σ Q) := by
  rw [x129_150]
  rfl
theorem u129_151 {z : P0} {ls : Lcs} {st : List Value} {K : Nat → Nat × Nat} {I : Nat → Nat → Int32} {R : Nat → Nat → Option Nat} {L : Nat → Nat → Int64} {sz : Nat} {ex : Bool} {Q : Res → Mem → Prop} {x : Nat} {a0 : Int32} : X z 129 151 ls (.int a0 :: .ref x :: st) (0, 0) (K, I, R, L, sz, ex) Q = ((K x).1 = 111 ∧ wsum st ≤ 8 ∧ X z 127 0 [some (.ref x), some (.int a0), none] [] (0, 0) (K, I, R, L, sz, ex) (aftr (X z) mT 129 151 ls st (0, 0) Q)) := v129_151 (c := 0) (n := 0)
theorem v129_154 {z : P0} {st : List Value} {cu : Nat × Nat} {Q : Res → Mem → Prop} {σ : Mem} {x1 x2 x3 x4 x5 x6 : Option Value} {u : Nat} : X z 129 154 [some (.ref u), x1, x2, x3, x4, x5, x6] (st) cu σ Q = (X z 129 155 [some (.ref u), x1, x2, x3, x4, x5, x6] (.ref u :: st) cu σ Q) := by
  rw [x129_154]
  rfl
theorem v129_155 {z : P0} {st : List Value} {cu : Nat × Nat} {Q : Res → Mem → Prop} {K : Nat → Nat × Nat} {I : Nat → Nat → Int32} {R : Nat → Nat → Option Nat} {L : Nat → Nat → Int64} {sz : Nat} {ex : Bool} {x0 x1 x2 x3 x4 x5 x6 : Option Value} {u : Nat} : X z 129 155 [x0, x1, x2, x3, x4, x5, x6] (.ref u :: st) cu (K, I, R, L, sz, ex) Q = ((K u).1 = 111 ∧ X z 129 158 [x0, x1, x2, x3, x4, x5, x6] (va_rf (R u 10) :: st) cu (K, I, R, L, sz, ex) Q) := by
  rw [x129_155]
  rfl
theorem v129_158 {z : P0} {st : List Value} {cu : Nat × Nat} {Q : Res → Mem → Prop} {σ : Mem} {x0 x2 x3 x4 x5 x6 : Option Value} {u : Int32} : X z 129 158 [x0, some (.int u), x2, x3, x4, x5, x6] (st) cu σ Q = (X z 129 159 [x0, some (.int u), x2, x3, x4, x5, x6] (.int u :: st) cu σ Q) := by
  rw [x129_158]
  rfl
theorem v129_159 {z : P0} {st : List Value} {cu : Nat × Nat} {Q : Res → Mem → Prop} {σ : Mem} {x0 x1 x2 x3 x4 x5 x6 : Option Value} {u : Int32} {v : Nat} : X z 129 159 [x0, x1, x2, x3, x4, x5, x6] (.int u :: .ref v :: st) cu σ Q = (X z 129 160 [x0, x1, x2, x3, x4, x5, x6] (.int u :: .ref v :: .int u :: .ref v :: st) cu σ Q) := by
  rw [x129_159]
  rfl
theorem v129_160 {z : P0} {st : List Value} {cu : Nat × Nat} {Q : Res → Mem → Prop} {K : Nat → Nat × Nat} {I : Nat → Nat → Int32} {R : Nat → Nat → Option Nat} {L : Nat → Nat → Int64} {sz : Nat} {ex : Bool} {x0 x1 x2 x3 x4 x5 x6 : Option Value} {u : Nat} {v : Int32} : X z 129 160 [x0, x1, x2, x3, x4, x5, x6] (.int v :: .ref u :: st) cu (K, I, R, L, sz, ex) Q = (((K u).1 = 20 ∨ (K u).1 = 50) ∧ vp_in v (K u).2 ∧ X z 129 161 [x0, x1, x2, x3, x4, x5, x6] (.int (I u v.toNatClampNeg) :: st) cu (K, I, R, L, sz, ex) Q) := by
  rw [x129_160]
  rfl
theorem v129_161 {z : P0} {st : List Value} {cu : Nat × Nat} {Q : Res → Mem → Prop} {σ : Mem} {x1 x2 x3 x4 x5 x6 : Option Value} {u : Nat} : X z 129 161 [some (.ref u), x1, x2, x3, x4, x5, x6] (st) cu σ Q = (X z 129 162 [some (.ref u), x1, x2, x3, x4, x5, x6] (.ref u :: st) cu σ Q) := by
  rw [x129_161]
  rfl
theorem v129_162 {z : P0} {st : List Value} {cu : Nat × Nat} {Q : Res → Mem → Prop} {σ : Mem} {x1 x2 x3 x4 x5 x6 : Option Value} {u : Nat} : X z 129 162 [some (.ref u), x1, x2, x3, x4, x5, x6] (st) cu σ Q = (X z 129 163 [some (.ref u), x1, x2, x3, x4, x5, x6] (.ref u :: st) cu σ Q) := by
  rw [x129_162]
  rfl
theorem v129_163 {z : P0} {st : List Value} {cu : Nat × Nat} {Q : Res → Mem → Prop} {K : Nat → Nat × Nat} {I : Nat → Nat → Int32} {R : Nat → Nat → Option Nat} {L : Nat → Nat → Int64} {sz : Nat} {ex : Bool} {x0 x1 x2 x3 x4 x5 x6 : Option Value} {u : Nat} : X z 129 163 [x0, x1, x2, x3, x4, x5, x6] (.ref u :: st) cu (K, I, R, L, sz, ex) Q = ((K u).1 = 111 ∧ X z 129 166 [x0, x1, x2, x3, x4, x5, x6] (.int (I u 17) :: st) cu (K, I, R, L, sz, ex) Q) := by
  rw [x129_163]
  rfl
theorem v129_166 {z : P0} {st : List Value} {cu : Nat × Nat} {Q : Res → Mem → Prop} {σ : Mem} {x0 x1 x2 x4 x5 x6 : Option Value} {u : Int32} : X z 129 166 [x0, x1, x2, some (.int u), x4, x5, x6] (st) cu σ Q = (X z 129 167 [x0, x1, x2, some (.int u), x4, x5, x6] (.int u :: st) cu σ Q) := by
  rw [x129_166]
  rfl
theorem v129_167 {z : P0} {st : List Value} {cu : Nat × Nat} {Q : Res → Mem → Prop} {σ : Mem} {x0 x1 x2 x3 x4 x5 x6 : Option Value} {u v : Int32} : X z 129 167 [x0, x1, x2, x3, x4, x5, x6] (.int v :: .int u :: st) cu σ Q = (X z 129 168 [x0, x1, x2, x3, x4, x5, x6] (.int (u - v) :: st) cu σ Q) := by
  rw [x129_167]
  rfl
theorem u129_168 {z : P0} {ls : Lcs} {st : List Value} {K : Nat → Nat × Nat} {I : Nat → Nat → Int32} {R : Nat → Nat → Option Nat} {L : Nat → Nat → Int64} {sz : Nat} {ex : Bool} {Q : Res → Mem → Prop} {x : Nat} {a0 : Int32} : X z 129 168 ls (.int a0 :: .ref x :: st) (0, 0) (K, I, R, L, sz, ex) Q = ((K x).1 = 111 ∧ wsum st ≤ 8 ∧ X z 128 0 [some (.ref x), some (.int a0)] [] (0, 0) (K, I, R, L, sz, ex) (aftr (X z) mT 129 168 ls st (0, 0) Q)) := v129_168 (c := 0) (n := 0)
theorem v129_171 {z : P0} {st : List Value} {cu : Nat × Nat} {Q : Res → Mem → Prop} {σ : Mem} {x0 x1 x2 x3 x4 x5 x6 : Option Value} {u v : Int32} : X z 129 171 [x0, x1, x2, x3, x4, x5, x6] (.int v :: .int u :: st) cu σ Q = (X z 129 172 [x0, x1, x2, x3, x4, x5, x6] (.int (u + v) :: st) cu σ Q) := by
  rw [x129_171]
  rfl
theorem v129_172 {z : P0} {st : List Value} {cu : Nat × Nat} {Q : Res → Mem → Prop} {K : Nat → Nat × Nat} {I : Nat → Nat → Int32} {R : Nat → Nat → Option Nat} {L : Nat → Nat → Int64} {sz : Nat} {ex : Bool} {x0 x1 x2 x3 x4 x5 x6 : Option Value} {u : Nat} {j v : Int32} : X z 129 172 [x0, x1, x2, x3, x4, x5, x6] (.int v :: .int j :: .ref u :: st) cu (K, I, R, L, sz, ex) Q = ((K u).1 = 20 ∧ vp_in j (K u).2 ∧ X z 129 173 [x0, x1, x2, x3, x4, x5, x6] (st) cu (K, up2 I u j.toNatClampNeg v, R, L, sz, ex) Q) := by
  rw [x129_172]
  rfl
theorem v129_173 {z : P0} {st : List Value} {cu : Nat × Nat} {Q : Res → Mem → Prop} {σ : Mem} {x1 x2 x3 x4 x5 x6 : Option Value} {u : Nat} : X z 129 173 [some (.ref u), x1, x2, x3, x4, x5, x6] (st) cu σ Q = (X z 129 174 [some (.ref u), x1, x2, x3, x4, x5, x6] (.ref u :: st) cu σ Q) := by
  rw [x129_173]
  rfl
theorem v129_174 {z : P0} {st : List Value} {cu : Nat × Nat} {Q : Res → Mem → Prop} {K : Nat → Nat × Nat} {I : Nat → Nat → Int32} {R : Nat → Nat → Option Nat} {L : Nat → Nat → Int64} {sz : Nat} {ex : Bool} {x0 x1 x2 x3 x4 x5 x6 : Option Value} {u : Nat} : X z 129 174 [x0, x1, x2, x3, x4, x5, x6] (.ref u :: st) cu (K, I, R, L, sz, ex) Q = ((K u).1 = 111 ∧ X z 129 177 [x0, x1, x2, x3, x4, x5, x6] (va_rf (R u 9) :: st) cu (K, I, R, L, sz, ex) Q) := by
  rw [x129_174]
  rfl
theorem v129_177 {z : P0} {st : List Value} {cu : Nat × Nat} {Q : Res → Mem → Prop} {σ : Mem} {x0 x2 x3 x4 x5 x6 : Option Value} {u : Int32} : X z 129 177 [x0, some (.int u), x2, x3, x4, x5, x6] (st) cu σ Q = (X z 129 178 [x0, some (.int u), x2, x3, x4, x5, x6] (.int u :: st) cu σ Q) := by
  rw [x129_177]
  rfl
theorem v129_178 {z : P0} {st : List Value} {cu : Nat × Nat} {Q : Res → Mem → Prop} {σ : Mem} {x1 x2 x3 x4 x5 x6 : Option Value} {u : Nat} : X z 129 178 [some (.ref u), x1, x2, x3, x4, x5, x6] (st) cu σ Q = (X z 129 179 [some (.ref u), x1, x2, x3, x4, x5, x6] (.ref u :: st) cu σ Q) := by
  rw [x129_178]
  rfl
theorem v129_179 {z : P0} {st : List Value} {cu : Nat × Nat} {Q : Res → Mem → Prop} {K : Nat → Nat × Nat} {I : Nat → Nat → Int32} {R : Nat → Nat → Option Nat} {L : Nat → Nat → Int64} {sz : Nat} {ex : Bool} {x0 x1 x2 x3 x4 x5 x6 : Option Value} {u : Nat} : X z 129 179 [x0, x1, x2, x3, x4, x5, x6] (.ref u :: st) cu (K, I, R, L, sz, ex) Q = ((K u).1 = 111 ∧ X z 129 182 [x0, x1, x2, x3, x4, x5, x6] (.int (I u 17) :: st) cu (K, I, R, L, sz, ex) Q) := by
  rw [x129_179]
  rfl
theorem v129_182 {z : P0} {st : List Value} {cu : Nat × Nat} {Q : Res → Mem → Prop} {K : Nat → Nat × Nat} {I : Nat → Nat → Int32} {R : Nat → Nat → Option Nat} {L : Nat → Nat → Int64} {sz : Nat} {ex : Bool} {x0 x1 x2 x3 x4 x5 x6 : Option Value} {u : Nat} {j v : Int32} : X z 129 182 [x0, x1, x2, x3, x4, x5, x6] (.int v :: .int j :: .ref u :: st) cu (K, I, R, L, sz, ex) Q = ((K u).1 = 20 ∧ vp_in j (K u).2 ∧ X z 129 183 [x0, x1, x2, x3, x4, x5, x6] (st) cu (K, up2 I u j.toNatClampNeg v, R, L, sz, ex) Q) := by
  rw [x129_182]
  rfl
theorem v129_183 {z : P0} {st : List Value} {cu : Nat × Nat} {Q : Res → Mem → Prop} {σ : Mem} {x1 x2 x3 x4 x5 x6 : Option Value} {u : Nat} : X z 129 183 [some (.ref u), x1, x2, x3, x4, x5, x6] (st) cu σ Q = (X z 129 184 [some (.ref u), x1, x2, x3, x4, x5, x6] (.ref u :: st) cu σ Q) := by
  rw [x129_183]
  rfl
theorem v129_184 {z : P0} {st : List Value} {cu : Nat × Nat} {Q : Res → Mem → Prop} {K : Nat → Nat × Nat} {I : Nat → Nat → Int32} {R : Nat → Nat → Option Nat} {L : Nat → Nat → Int64} {sz : Nat} {ex : Bool} {x0 x1 x2 x3 x4 x5 x6 : Option Value} {u : Nat} : X z 129 184 [x0, x1, x2, x3, x4, x5, x6] (.ref u :: st) cu (K, I, R, L, sz, ex) Q = ((K u).1 = 111 ∧ X z 129 187 [x0, x1, x2, x3, x4, x5, x6] (va_rf (R u 8) :: st) cu (K, I, R, L, sz, ex) Q) := by
  rw [x129_184]
  rfl
theorem v129_187 {z : P0} {st : List Value} {cu : Nat × Nat} {Q : Res → Mem → Prop} {σ : Mem} {x0 x2 x3 x4 x5 x6 : Option Value} {u : Int32} : X z 129 187 [x0, some (.int u), x2, x3, x4, x5, x6] (st) cu σ Q = (X z 129 188 [x0, some (.int u), x2, x3, x4, x5, x6] (.int u :: st) cu σ Q) := by
  rw [x129_187]
  rfl
theorem v129_188 {z : P0} {st : List Value} {cu : Nat × Nat} {Q : Res → Mem → Prop} {σ : Mem} {x1 x2 x3 x4 x5 x6 : Option Value} {u : Nat} : X z 129 188 [some (.ref u), x1, x2, x3, x4, x5, x6] (st) cu σ Q = (X z 129 189 [some (.ref u), x1, x2, x3, x4, x5, x6] (.ref u :: st) cu σ Q) := by
  rw [x129_188]
  rfl
theorem v129_189 {z : P0} {st : List Value} {cu : Nat × Nat} {Q : Res → Mem → Prop} {K : Nat → Nat × Nat} {I : Nat → Nat → Int32} {R : Nat → Nat → Option Nat} {L : Nat → Nat → Int64} {sz : Nat} {ex : Bool} {x0 x1 x2 x3 x4 x5 x6 : Option Value} {u : Nat} : X z 129 189 [x0, x1, x2, x3, x4, x5, x6] (.ref u :: st) cu (K, I, R, L, sz, ex) Q = ((K u).1 = 111 ∧ X z 129 192 [x0, x1, x2, x3, x4, x5, x6] (.int (I u 14) :: st) cu (K, I, R, L, sz, ex) Q) := by
  rw [x129_189]
  rfl
theorem v129_192 {z : P0} {st : List Value} {cu : Nat × Nat} {Q : Res → Mem → Prop} {K : Nat → Nat × Nat} {I : Nat → Nat → Int32} {R : Nat → Nat → Option Nat} {L : Nat → Nat → Int64} {sz : Nat} {ex : Bool} {x0 x1 x2 x3 x4 x5 x6 : Option Value} {u : Nat} {j v : Int32} : X z 129 192 [x0, x1, x2, x3, x4, x5, x6] (.int v :: .int j :: .ref u :: st) cu (K, I, R, L, sz, ex) Q = ((K u).1 = 20 ∧ vp_in j (K u).2 ∧ X z 129 193 [x0, x1, x2, x3, x4, x5, x6] (st) cu (K, up2 I u j.toNatClampNeg v, R, L, sz, ex) Q) := by
  rw [x129_192]
  rfl
theorem v129_193 {z : P0} {cu : Nat × Nat} {Q : Res → Mem → Prop} {σ : Mem} {x0 x1 x2 x3 x4 x5 x6 : Option Value} : X z 129 193 [x0, x1, x2, x3, x4, x5, x6] ([]) cu σ Q = (Q (.inl none) σ) := by
  rw [x129_193]
  rfl
theorem v130_0 {z : P0} {st : List Value} {cu : Nat × Nat} {Q : Res → Mem → Prop} {σ : Mem} {x1 : Option Value} {u : Nat} : X z 130 0 [some (.ref u), x1] (st) cu σ Q = (X z 130 1 [some (.ref u), x1] (.ref u :: st) cu σ Q) := by
  rw [x130_0]
  rfl
theorem u130_1 {z : P0} {ls : Lcs} {st : List Value} {K : Nat → Nat × Nat} {I : Nat → Nat → Int32} {R : Nat → Nat → Option Nat} {L : Nat → Nat → Int64} {sz : Nat} {ex : Bool} {Q : Res → Mem → Prop} {x : Nat} : X z 130 1 ls (.ref x :: st) (0, 0) (K, I, R, L, sz, ex) Q = ((K x).1 = 111 ∧ wsum st ≤ 8 ∧ X z 115 0 [some (.ref x), none, none] [] (0, 0) (K, I, R, L, sz, ex) (aftr (X z) mT 130 1 ls st (0, 0) Q)) := v130_1 (c := 0) (n := 0)
theorem v130_4 {z : P0} {st : List Value} {cu : Nat × Nat} {Q : Res → Mem → Prop} {σ : Mem} {x0 x1 : Option Value} : X z 130 4 [x0, x1] (st) cu σ Q = (X z 130 5 [x0, x1] (.int (nI 0) :: st) cu σ Q) := by
  rw [x130_4]
  rfl
theorem v130_5 {z : P0} {st : List Value} {cu : Nat × Nat} {Q : Res → Mem → Prop} {σ : Mem} {x0 x1 : Option Value} {u : Int32} : X z 130 5 [x0, x1] (.int u :: st) cu σ Q = (cat2 x0 = false ∧ X z 130 6 [x0, some (.int u)] (st) cu σ Q) := by
  rw [x130_5]
  obtain ⟨K, I, R, L, sz, ex⟩ := σ
  exact i_istore_n.trans sl_1
theorem v130_6 {z : P0} {st : List Value} {cu : Nat × Nat} {Q : Res → Mem → Prop} {σ : Mem} {x0 : Option Value} {u : Int32} : X z 130 6 [x0, some (.int u)] (st) cu σ Q = (X z 130 7 [x0, some (.int u)] (.int u :: st) cu σ Q) := by
  rw [x130_6]
  rfl
theorem v130_7 {z : P0} {st : List Value} {cu : Nat × Nat} {Q : Res → Mem → Prop} {σ : Mem} {x1 : Option Value} {u : Nat} : X z 130 7 [some (.ref u), x1] (st) cu σ Q = (X z 130 8 [some (.ref u), x1] (.ref u :: st) cu σ Q) := by
  rw [x130_7]
  rfl
theorem v130_8 {z : P0} {st : List Value} {cu : Nat × Nat} {Q : Res → Mem → Prop} {K : Nat → Nat × Nat} {I : Nat → Nat → Int32} {R : Nat → Nat → Option Nat} {L : Nat → Nat → Int64} {sz : Nat} {ex : Bool} {x0 x1 : Option Value} {u : Nat} : X z 130 8 [x0, x1] (.ref u :: st) cu (K, I, R, L, sz, ex) Q = ((K u).1 = 111 ∧ X z 130 11 [x0, x1] (.int (I u 12) :: st) cu (K, I, R, L, sz, ex) Q) := by
  rw [x130_8]
  rfl
theorem v130_11 {z : P0} {st : List Value} {cu : Nat × Nat} {Q : Res → Mem → Prop} {σ : Mem} {x0 x1 : Option Value} {u v : Int32} : X z 130 11 [x0, x1] (.int v :: .int u :: st) cu σ Q = (if u < v then X z 130 14 [x0, x1] (st) cu σ Q else X z 130 30 [x0, x1] (st) cu σ Q) := by
  rw [x130_11]
  obtain ⟨K, I, R, L, sz, ex⟩ := σ
  exact br_ge
theorem v130_14 {z : P0} {st : List Value} {cu : Nat × Nat} {Q : Res → Mem → Prop} {σ : Mem} {x1 : Option Value} {u : Nat} : X z 130 14 [some (.ref u), x1] (st) cu σ Q = (X z 130 15 [some (.ref u), x1] (.ref u :: st) cu σ Q) := by
  rw [x130_14]
  rfl
theorem v130_15 {z : P0} {st : List Value} {cu : Nat × Nat} {Q : Res → Mem → Prop} {σ : Mem} {x0 : Option Value} {u : Int32} : X z 130 15 [x0, some (.int u)] (st) cu σ Q = (X z 130 16 [x0, some (.int u)] (.int u :: st) cu σ Q) := by
  rw [x130_15]
  rfl
theorem u130_16 {z : P0} {ls : Lcs} {st : List Value} {K : Nat → Nat × Nat} {I : Nat → Nat → Int32} {R : Nat → Nat → Option Nat} {L : Nat → Nat → Int64} {sz : Nat} {ex : Bool} {Q : Res → Mem → Prop} {x : Nat} {a0 : Int32} : X z 130 16 ls (.int a0 :: .ref x :: st) (0, 0) (K, I, R, L, sz, ex) Q = ((K x).1 = 111 ∧ wsum st ≤ 8 ∧ X z 124 0 [some (.ref x), some (.int a0), none, none, none] [] (0, 0) (K, I, R, L, sz, ex) (aftr (X z) mT 130 16 ls st (0, 0) Q)) := v130_16 (c := 0) (n := 0)
theorem v130_19 {z : P0} {st : List Value} {cu : Nat × Nat} {Q : Res → Mem → Prop} {σ : Mem} {x1 : Option Value} {u : Nat} : X z 130 19 [some (.ref u), x1] (st) cu σ Q = (X z 130 20 [some (.ref u), x1] (.ref u :: st) cu σ Q) := by
  rw [x130_19]
  rfl
theorem v130_20 {z : P0} {st : List Value} {cu : Nat × Nat} {Q : Res → Mem → Prop} {σ : Mem} {x0 : Option Value} {u : Int32} : X z 130 20 [x0, some (.int u)] (st) cu σ Q = (X z 130 21 [x0, some (.int u)] (.int u :: st) cu σ Q) := by
  rw [x130_20]
  rfl
theorem u130_21 {z : P0} {ls : Lcs} {st : List Value} {K : Nat → Nat × Nat} {I : Nat → Nat → Int32} {R : Nat → Nat → Option Nat} {L : Nat → Nat → Int64} {sz : Nat} {ex : Bool} {Q : Res → Mem → Prop} {x : Nat} {a0 : Int32} : X z 130 21 ls (.int a0 :: .ref x :: st) (0, 0) (K, I, R, L, sz, ex) Q = ((K x).1 = 111 ∧ wsum st ≤ 8 ∧ X z 129 0 [some (.ref x), some (.int a0), none, none, none, none, none] [] (0, 0) (K, I, R, L, sz, ex) (aftr (X z) mT 130 21 ls st (0, 0) Q)) := v130_21 (c := 0) (n := 0)
theorem v130_24 {z : P0} {st : List Value} {cu : Nat × Nat} {Q : Res → Mem → Prop} {σ : Mem} {x0 : Option Value} {u : Int32} : X z 130 24 [x0, some (.int u)] (st) cu σ Q = (cat2 x0 = false ∧ X z 130 27 [x0, some (.int (u + nI 1))] (st) cu σ Q) := by
  rw [x130_24]
  obtain ⟨K, I, R, L, sz, ex⟩ := σ
  exact i_iinc.trans (gl_1.trans (ldI_i.trans sl_1))
theorem v130_27 {z : P0} {st : List Value} {cu : Nat × Nat} {Q : Res → Mem → Prop} {σ : Mem} {x0 x1 : Option Value} : X z 130 27 [x0, x1] (st) cu σ Q = (X z 130 6 [x0, x1] (st) cu σ Q) := by
  rw [x130_27]
  rfl
theorem v130_30 {z : P0} {cu : Nat × Nat} {Q : Res → Mem → Prop} {σ : Mem} {x0 x1 : Option Value} : X z 130 30 [x0, x1] ([]) cu σ Q = (Q (.inl none) σ) := by
  rw [x130_30]
  rfl
theorem v131_0 {z : P0} {st : List Value} {cu : Nat × Nat} {Q : Res → Mem → Prop} {σ : Mem} {x1 : Option Value} {u : Nat} : X z 131 0 [some (.ref u), x1] (st) cu σ Q = (X z 131 1 [some (.ref u), x1] (.ref u :: st) cu σ Q) := by
  rw [x131_0]
  rfl
theorem v131_1 {z : P0} {st : List Value} {cu : Nat × Nat} {Q : Res → Mem → Prop} {K : Nat → Nat × Nat} {I : Nat → Nat → Int32} {R : Nat → Nat → Option Nat} {L : Nat → Nat → Int64} {sz : Nat} {ex : Bool} {x0 x1 : Option Value} {u : Nat} : X z 131 1 [x0, x1] (.ref u :: st) cu (K, I, R, L, sz, ex) Q = ((K u).1 = 111 ∧ X z 131 4 [x0, x1] (va_rf (R u 10) :: st) cu (K, I, R, L, sz, ex) Q) := by
  rw [x131_1]
  rfl
theorem v131_4 {z : P0} {st : List Value} {cu : Nat × Nat} {Q : Res → Mem → Prop} {σ : Mem} {x0 : Option Value} {u : Int32} : X z 131 4 [x0, some (.int u)] (st) cu σ Q = (X z 131 5 [x0, some (.int u)] (.int u :: st) cu σ Q) := by
  rw [x131_4]
  rfl
theorem v131_5 {z : P0} {st : List Value} {cu : Nat × Nat} {Q : Res → Mem → Prop} {K : Nat → Nat × Nat} {I : Nat → Nat → Int32} {R : Nat → Nat → Option Nat} {L : Nat → Nat → Int64} {sz : Nat} {ex : Bool} {x0 x1 : Option Value} {u : Nat} {v : Int32} : X z 131 5 [x0, x1] (.int v :: .ref u :: st) cu (K, I, R, L, sz, ex) Q = (((K u).1 = 20 ∨ (K u).1 = 50) ∧ vp_in v (K u).2 ∧ X z 131 6 [x0, x1] (.int (I u v.toNatClampNeg) :: st) cu (K, I, R, L, sz, ex) Q) := by
  rw [x131_5]
  rfl
theorem v131_6 {z : P0} {st : List Value} {cu : Nat × Nat} {Q : Res → Mem → Prop} {σ : Mem} {x1 : Option Value} {u : Nat} : X z 131 6 [some (.ref u), x1] (st) cu σ Q = (X z 131 7 [some (.ref u), x1] (.ref u :: st) cu σ Q) := by
  rw [x131_6]
  rfl
theorem v131_7 {z : P0} {st : List Value} {cu : Nat × Nat} {Q : Res → Mem → Prop} {K : Nat → Nat × Nat} {I : Nat → Nat → Int32} {R : Nat → Nat → Option Nat} {L : Nat → Nat → Int64} {sz : Nat} {ex : Bool} {x0 x1 : Option Value} {u : Nat} : X z 131 7 [x0, x1] (.ref u :: st) cu (K, I, R, L, sz, ex) Q = ((K u).1 = 111 ∧ X z 131 10 [x0, x1] (va_rf (R u 0) :: st) cu (K, I, R, L, sz, ex) Q) := by
  rw [x131_7]
  rfl
theorem v131_10 {z : P0} {st : List Value} {cu : Nat × Nat} {Q : Res → Mem → Prop} {σ : Mem} {x0 x1 : Option Value} : X z 131 10 [x0, x1] (st) cu σ Q = (X z 131 11 [x0, x1] (.int (nI 4) :: st) cu σ Q) := by
  rw [x131_10]
  rfl
theorem v131_11 {z : P0} {st : List Value} {cu : Nat × Nat} {Q : Res → Mem → Prop} {K : Nat → Nat × Nat} {I : Nat → Nat → Int32} {R : Nat → Nat → Option Nat} {L : Nat → Nat → Int64} {sz : Nat} {ex : Bool} {x0 x1 : Option Value} {u : Nat} {v : Int32} : X z 131 11 [x0, x1] (.int v :: .ref u :: st) cu (K, I, R, L, sz, ex) Q = (((K u).1 = 20 ∨ (K u).1 = 50) ∧ vp_in v (K u).2 ∧ X z 131 12 [x0, x1] (.int (I u v.toNatClampNeg) :: st) cu (K, I, R, L, sz, ex) Q) := by
  rw [x131_11]
  rfl
theorem v131_12 {z : P0} {st : List Value} {cu : Nat × Nat} {Q : Res → Mem → Prop} {σ : Mem} {x0 x1 : Option Value} {u v : Int32} : X z 131 12 [x0, x1] (.int v :: .int u :: st) cu σ Q = (if v < u then X z 131 19 [x0, x1] (st) cu σ Q else X z 131 15 [x0, x1] (st) cu σ Q) := by
  rw [x131_12]
  obtain ⟨K, I, R, L, sz, ex⟩ := σ
  exact br_ite
theorem v131_15 {z : P0} {st : List Value} {cu : Nat × Nat} {Q : Res → Mem → Prop} {σ : Mem} {x0 x1 : Option Value} : X z 131 15 [x0, x1] (st) cu σ Q = (X z 131 16 [x0, x1] (.int (nI 1) :: st) cu σ Q) := by
  rw [x131_15]
  rfl
theorem v131_16 {z : P0} {st : List Value} {cu : Nat × Nat} {Q : Res → Mem → Prop} {σ : Mem} {x0 x1 : Option Value} : X z 131 16 [x0, x1] (st) cu σ Q = (X z 131 20 [x0, x1] (st) cu σ Q) := by
  rw [x131_16]
  rfl
theorem v131_19 {z : P0} {st : List Value} {cu : Nat × Nat} {Q : Res → Mem → Prop} {σ : Mem} {x0 x1 : Option Value} : X z 131 19 [x0, x1] (st) cu σ Q = (X z 131 20 [x0, x1] (.int (nI 0) :: st) cu σ Q) := by
  rw [x131_19]
  rfl
theorem v131_20 {z : P0} {cu : Nat × Nat} {Q : Res → Mem → Prop} {σ : Mem} {x0 x1 : Option Value} {v : Int32} : X z 131 20 [x0, x1] ([.int v]) cu σ Q = ((v = nI 0 ∨ v = nI 1) ∧ Q (.inl (some (.int v))) σ) := by
  rw [x131_20]
  rw [nI_0, one1]
  rfl
theorem v132_0 {z : P0} {st : List Value} {cu : Nat × Nat} {Q : Res → Mem → Prop} {σ : Mem} {x0 x1 x2 x3 x4 : Option Value} : X z 132 0 [x0, x1, x2, x3, x4] (st) cu σ Q = (X z 132 1 [x0, x1, x2, x3, x4] (.int (nI 0) :: st) cu σ Q) := by
  rw [x132_0]
  rfl
theorem v132_1 {z : P0} {st : List Value} {cu : Nat × Nat} {Q : Res → Mem → Prop} {σ : Mem} {x0 x1 x2 x3 x4 : Option Value} {u : Int32} : X z 132 1 [x0, x1, x2, x3, x4] (.int u :: st) cu σ Q = (cat2 x1 = false ∧ X z 132 2 [x0, x1, some (.int u), x3, x4] (st) cu σ Q) := by
  rw [x132_1]
  obtain ⟨K, I, R, L, sz, ex⟩ := σ
  exact i_istore_n.trans sl_2
theorem v132_2 {z : P0} {st : List Value} {cu : Nat × Nat} {Q : Res → Mem → Prop} {σ : Mem} {x0 x1 x2 x3 x4 : Option Value} : X z 132 2 [x0, x1, x2, x3, x4] (st) cu σ Q = (X z 132 3 [x0, x1, x2, x3, x4] (.int (nI 0) :: st) cu σ Q) := by
  rw [x132_2]
  rfl
theorem v132_3 {z : P0} {st : List Value} {cu : Nat × Nat} {Q : Res → Mem → Prop} {σ : Mem} {x0 x1 x2 x3 x4 : Option Value} {u : Int32} : X z 132 3 [x0, x1, x2, x3, x4] (.int u :: st) cu σ Q = (cat2 x2 = false ∧ X z 132 4 [x0, x1, x2, some (.int u), x4] (st) cu σ Q) := by
  rw [x132_3]
  obtain ⟨K, I, R, L, sz, ex⟩ := σ
  exact i_istore_n.trans sl_3
theorem v132_4 {z : P0} {st : List Value} {cu : Nat × Nat} {Q : Res → Mem → Prop} {σ : Mem} {x0 x1 x2 x4 : Option Value} {u : Int32} : X z 132 4 [x0, x1, x2, some (.int u), x4] (st) cu σ Q = (X z 132 5 [x0, x1, x2, some (.int u), x4] (.int u :: st) cu σ Q) := by
  rw [x132_4]
  rfl
theorem v132_5 {z : P0} {st : List Value} {cu : Nat × Nat} {Q : Res → Mem → Prop} {σ : Mem} {x1 x2 x3 x4 : Option Value} {u : Nat} : X z 132 5 [some (.ref u), x1, x2, x3, x4] (st) cu σ Q = (X z 132 6 [some (.ref u), x1, x2, x3, x4] (.ref u :: st) cu σ Q) := by
  rw [x132_5]
  rfl
theorem v132_6 {z : P0} {st : List Value} {cu : Nat × Nat} {Q : Res → Mem → Prop} {K : Nat → Nat × Nat} {I : Nat → Nat → Int32} {R : Nat → Nat → Option Nat} {L : Nat → Nat → Int64} {sz : Nat} {ex : Bool} {x0 x1 x2 x3 x4 : Option Value} {u : Nat} : X z 132 6 [x0, x1, x2, x3, x4] (.ref u :: st) cu (K, I, R, L, sz, ex) Q = ((K u).1 = 111 ∧ X z 132 9 [x0, x1, x2, x3, x4] (.int (I u 12) :: st) cu (K, I, R, L, sz, ex) Q) := by
  rw [x132_6]
  rfl
theorem v132_9 {z : P0} {st : List Value} {cu : Nat × Nat} {Q : Res → Mem → Prop} {σ : Mem} {x0 x1 x2 x3 x4 : Option Value} {u v : Int32} : X z 132 9 [x0, x1, x2, x3, x4] (.int v :: .int u :: st) cu σ Q = (if u < v then X z 132 12 [x0, x1, x2, x3, x4] (st) cu σ Q else X z 132 86 [x0, x1, x2, x3, x4] (st) cu σ Q) := by
  rw [x132_9]
  obtain ⟨K, I, R, L, sz, ex⟩ := σ
  exact br_ge
theorem v132_12 {z : P0} {st : List Value} {cu : Nat × Nat} {Q : Res → Mem → Prop} {σ : Mem} {x0 x2 x3 x4 : Option Value} {u : Int32} : X z 132 12 [x0, some (.int u), x2, x3, x4] (st) cu σ Q = (X z 132 13 [x0, some (.int u), x2, x3, x4] (.int u :: st) cu σ Q) := by
  rw [x132_12]
  rfl
theorem v132_13 {z : P0} {st : List Value} {cu : Nat × Nat} {Q : Res → Mem → Prop} {σ : Mem} {x0 x1 x2 x3 x4 : Option Value} {u : Int32} : X z 132 13 [x0, x1, x2, x3, x4] (.int u :: st) cu σ Q = (if u = nI 0 then X z 132 16 [x0, x1, x2, x3, x4] (st) cu σ Q else X z 132 20 [x0, x1, x2, x3, x4] (st) cu σ Q) := by
  rw [x132_13]
  rw [nI_0]
  obtain ⟨K, I, R, L, sz, ex⟩ := σ
  exact br_ne
theorem v132_16 {z : P0} {st : List Value} {cu : Nat × Nat} {Q : Res → Mem → Prop} {σ : Mem} {x0 x1 x2 x3 x4 : Option Value} : X z 132 16 [x0, x1, x2, x3, x4] (st) cu σ Q = (X z 132 17 [x0, x1, x2, x3, x4] (.int (nI 1) :: st) cu σ Q) := by
  rw [x132_16]
  rfl
theorem v132_17 {z : P0} {st : List Value} {cu : Nat × Nat} {Q : Res → Mem → Prop} {σ : Mem} {x0 x1 x2 x3 x4 : Option Value} : X z 132 17 [x0, x1, x2, x3, x4] (st) cu σ Q = (X z 132 61 [x0, x1, x2, x3, x4] (st) cu σ Q) := by
  rw [x132_17]
  rfl
theorem v132_20 {z : P0} {st : List Value} {cu : Nat × Nat} {Q : Res → Mem → Prop} {σ : Mem} {x0 x2 x3 x4 : Option Value} {u : Int32} : X z 132 20 [x0, some (.int u), x2, x3, x4] (st) cu σ Q = (X z 132 21 [x0, some (.int u), x2, x3, x4] (.int u :: st) cu σ Q) := by
  rw [x132_20]
  rfl
theorem v132_21 {z : P0} {st : List Value} {cu : Nat × Nat} {Q : Res → Mem → Prop} {σ : Mem} {x0 x1 x2 x3 x4 : Option Value} : X z 132 21 [x0, x1, x2, x3, x4] (st) cu σ Q = (X z 132 22 [x0, x1, x2, x3, x4] (.int (nI 1) :: st) cu σ Q) := by
  rw [x132_21]
  rfl
theorem v132_22 {z : P0} {st : List Value} {cu : Nat × Nat} {Q : Res → Mem → Prop} {σ : Mem} {x0 x1 x2 x3 x4 : Option Value} {u v : Int32} : X z 132 22 [x0, x1, x2, x3, x4] (.int v :: .int u :: st) cu σ Q = (if u = v then X z 132 25 [x0, x1, x2, x3, x4] (st) cu σ Q else X z 132 34 [x0, x1, x2, x3, x4] (st) cu σ Q) := by
  rw [x132_22]
  obtain ⟨K, I, R, L, sz, ex⟩ := σ
  exact br_ne
theorem v132_25 {z : P0} {st : List Value} {cu : Nat × Nat} {Q : Res → Mem → Prop} {σ : Mem} {x1 x2 x3 x4 : Option Value} {u : Nat} : X z 132 25 [some (.ref u), x1, x2, x3, x4] (st) cu σ Q = (X z 132 26 [some (.ref u), x1, x2, x3, x4] (.ref u :: st) cu σ Q) := by
  rw [x132_25]
  rfl
theorem v132_26 {z : P0} {st : List Value} {cu : Nat × Nat} {Q : Res → Mem → Prop} {K : Nat → Nat × Nat} {I : Nat → Nat → Int32} {R : Nat → Nat → Option Nat} {L : Nat → Nat → Int64} {sz : Nat} {ex : Bool} {x0 x1 x2 x3 x4 : Option Value} {u : Nat} : X z 132 26 [x0, x1, x2, x3, x4] (.ref u :: st) cu (K, I, R, L, sz, ex) Q = ((K u).1 = 111 ∧ X z 132 29 [x0, x1, x2, x3, x4] (va_rf (R u 7) :: st) cu (K, I, R, L, sz, ex) Q) := by
  rw [x132_26]
  rfl
theorem v132_29 {z : P0} {st : List Value} {cu : Nat × Nat} {Q : Res → Mem → Prop} {σ : Mem} {x0 x1 x2 x4 : Option Value} {u : Int32} : X z 132 29 [x0, x1, x2, some (.int u), x4] (st) cu σ Q = (X z 132 30 [x0, x1, x2, some (.int u), x4] (.int u :: st) cu σ Q) := by
  rw [x132_29]
  rfl
theorem v132_30 {z : P0} {st : List Value} {cu : Nat × Nat} {Q : Res → Mem → Prop} {K : Nat → Nat × Nat} {I : Nat → Nat → Int32} {R : Nat → Nat → Option Nat} {L : Nat → Nat → Int64} {sz : Nat} {ex : Bool} {x0 x1 x2 x3 x4 : Option Value} {u : Nat} {v : Int32} : X z 132 30 [x0, x1, x2, x3, x4] (.int v :: .ref u :: st) cu (K, I, R, L, sz, ex) Q = (((K u).1 = 20 ∨ (K u).1 = 50) ∧ vp_in v (K u).2 ∧ X z 132 31 [x0, x1, x2, x3, x4] (.int (I u v.toNatClampNeg) :: st) cu (K, I, R, L, sz, ex) Q) := by
  rw [x132_30]
  rfl
theorem v132_31 {z : P0} {st : List Value} {cu : Nat × Nat} {Q : Res → Mem → Prop} {σ : Mem} {x0 x1 x2 x3 x4 : Option Value} : X z 132 31 [x0, x1, x2, x3, x4] (st) cu σ Q = (X z 132 61 [x0, x1, x2, x3, x4] (st) cu σ Q) := by
  rw [x132_31]
  rfl
theorem v132_34 {z : P0} {st : List Value} {cu : Nat × Nat} {Q : Res → Mem → Prop} {σ : Mem} {x0 x2 x3 x4 : Option Value} {u : Int32} : X z 132 34 [x0, some (.int u), x2, x3, x4] (st) cu σ Q = (X z 132 35 [x0, some (.int u), x2, x3, x4] (.int u :: st) cu σ Q) := by
  rw [x132_34]
  rfl
theorem v132_35 {z : P0} {st : List Value} {cu : Nat × Nat} {Q : Res → Mem → Prop} {σ : Mem} {x0 x1 x2 x3 x4 : Option Value} : X z 132 35 [x0, x1, x2, x3, x4] (st) cu σ Q = (X z 132 36 [x0, x1, x2, x3, x4] (.int (nI 2) :: st) cu σ Q) := by
  rw [x132_35]
  rfl
theorem v132_36 {z : P0} {st : List Value} {cu : Nat × Nat} {Q : Res → Mem → Prop} {σ : Mem} {x0 x1 x2 x3 x4 : Option Value} {u v : Int32} : X z 132 36 [x0, x1, x2, x3, x4] (.int v :: .int u :: st) cu σ Q = (if u = v then X z 132 39 [x0, x1, x2, x3, x4] (st) cu σ Q else X z 132 48 [x0, x1, x2, x3, x4] (st) cu σ Q) := by
  rw [x132_36]
  obtain ⟨K, I, R, L, sz, ex⟩ := σ
  exact br_ne
theorem v132_39 {z : P0} {st : List Value} {cu : Nat × Nat} {Q : Res → Mem → Prop} {σ : Mem} {x1 x2 x3 x4 : Option Value} {u : Nat} : X z 132 39 [some (.ref u), x1, x2, x3, x4] (st) cu σ Q = (X z 132 40 [some (.ref u), x1, x2, x3, x4] (.ref u :: st) cu σ Q) := by
  rw [x132_39]
  rfl
theorem v132_40 {z : P0} {st : List Value} {cu : Nat × Nat} {Q : Res → Mem → Prop} {K : Nat → Nat × Nat} {I : Nat → Nat → Int32} {R : Nat → Nat → Option Nat} {L : Nat → Nat → Int64} {sz : Nat} {ex : Bool} {x0 x1 x2 x3 x4 : Option Value} {u : Nat} : X z 132 40 [x0, x1, x2, x3, x4] (.ref u :: st) cu (K, I, R, L, sz, ex) Q = ((K u).1 = 111 ∧ X z 132 43 [x0, x1, x2, x3, x4] (va_rf (R u 10) :: st) cu (K, I, R, L, sz, ex) Q) := by
  rw [x132_40]
  rfl
theorem v132_43 {z : P0} {st : List Value} {cu : Nat × Nat} {Q : Res → Mem → Prop} {σ : Mem} {x0 x1 x2 x4 : Option Value} {u : Int32} : X z 132 43 [x0, x1, x2, some (.int u), x4] (st) cu σ Q = (X z 132 44 [x0, x1, x2, some (.int u), x4] (.int u :: st) cu σ Q) := by
  rw [x132_43]
  rfl
theorem v132_44 {z : P0} {st : List Value} {cu : Nat × Nat} {Q : Res → Mem → Prop} {K : Nat → Nat × Nat} {I : Nat → Nat → Int32} {R : Nat → Nat → Option Nat} {L : Nat → Nat → Int64} {sz : Nat} {ex : Bool} {x0 x1 x2 x3 x4 : Option Value} {u : Nat} {v : Int32} : X z 132 44 [x0, x1, x2, x3, x4] (.int v :: .ref u :: st) cu (K, I, R, L, sz, ex) Q = (((K u).1 = 20 ∨ (K u).1 = 50) ∧ vp_in v (K u).2 ∧ X z 132 45 [x0, x1, x2, x3, x4] (.int (I u v.toNatClampNeg) :: st) cu (K, I, R, L, sz, ex) Q) := by
  rw [x132_44]
  rfl
theorem v132_45 {z : P0} {st : List Value} {cu : Nat × Nat} {Q : Res → Mem → Prop} {σ : Mem} {x0 x1 x2 x3 x4 : Option Value} : X z 132 45 [x0, x1, x2, x3, x4] (st) cu σ Q = (X z 132 61 [x0, x1, x2, x3, x4] (st) cu σ Q) := by
  rw [x132_45]
  rfl
theorem v132_48 {z : P0} {st : List Value} {cu : Nat × Nat} {Q : Res → Mem → Prop} {σ : Mem} {x1 x2 x3 x4 : Option Value} {u : Nat} : X z 132 48 [some (.ref u), x1, x2, x3, x4] (st) cu σ Q = (X z 132 49 [some (.ref u), x1, x2, x3, x4] (.ref u :: st) cu σ Q) := by
  rw [x132_48]
  rfl
theorem v132_49 {z : P0} {st : List Value} {cu : Nat × Nat} {Q : Res → Mem → Prop} {K : Nat → Nat × Nat} {I : Nat → Nat → Int32} {R : Nat → Nat → Option Nat} {L : Nat → Nat → Int64} {sz : Nat} {ex : Bool} {x0 x1 x2 x3 x4 : Option Value} {u : Nat} : X z 132 49 [x0, x1, x2, x3, x4] (.ref u :: st) cu (K, I, R, L, sz, ex) Q = ((K u).1 = 111 ∧ X z 132 52 [x0, x1, x2, x3, x4] (va_rf (R u 10) :: st) cu (K, I, R, L, sz, ex) Q) := by
  rw [x132_49]
  rfl
theorem v132_52 {z : P0} {st : List Value} {cu : Nat × Nat} {Q : Res → Mem → Prop} {σ : Mem} {x0 x1 x2 x4 : Option Value} {u : Int32} : X z 132 52 [x0, x1, x2, some (.int u), x4] (st) cu σ Q = (X z 132 53 [x0, x1, x2, some (.int u), x4] (.int u :: st) cu σ Q) := by
  rw [x132_52]
  rfl
theorem v132_53 {z : P0} {st : List Value} {cu : Nat × Nat} {Q : Res → Mem → Prop} {K : Nat → Nat × Nat} {I : Nat → Nat → Int32} {R : Nat → Nat → Option Nat} {L : Nat → Nat → Int64} {sz : Nat} {ex : Bool} {x0 x1 x2 x3 x4 : Option Value} {u : Nat} {v : Int32} : X z 132 53 [x0, x1, x2, x3, x4] (.int v :: .ref u :: st) cu (K, I, R, L, sz, ex) Q = (((K u).1 = 20 ∨ (K u).1 = 50) ∧ vp_in v (K u).2 ∧ X z 132 54 [x0, x1, x2, x3, x4] (.int (I u v.toNatClampNeg) :: st) cu (K, I, R, L, sz, ex) Q) := by
  rw [x132_53]
  rfl
theorem v132_54 {z : P0} {st : List Value} {cu : Nat × Nat} {Q : Res → Mem → Prop} {σ : Mem} {x1 x2 x3 x4 : Option Value} {u : Nat} : X z 132 54 [some (.ref u), x1, x2, x3, x4] (st) cu σ Q = (X z 132 55 [some (.ref u), x1, x2, x3, x4] (.ref u :: st) cu σ Q) := by
  rw [x132_54]
  rfl
theorem v132_55 {z : P0} {st : List Value} {cu : Nat × Nat} {Q : Res → Mem → Prop} {K : Nat → Nat × Nat} {I : Nat → Nat → Int32} {R : Nat → Nat → Option Nat} {L : Nat → Nat → Int64} {sz : Nat} {ex : Bool} {x0 x1 x2 x3 x4 : Option Value} {u : Nat} : X z 132 55 [x0, x1, x2, x3, x4] (.ref u :: st) cu (K, I, R, L, sz, ex) Q = ((K u).1 = 111 ∧ X z 132 58 [x0, x1, x2, x3, x4] (va_rf (R u 0) :: st) cu (K, I, R, L, sz, ex) Q) := by
  rw [x132_55]
  rfl
theorem v132_58 {z : P0} {st : List Value} {cu : Nat × Nat} {Q : Res → Mem → Prop} {σ : Mem} {x0 x1 x2 x3 x4 : Option Value} : X z 132 58 [x0, x1, x2, x3, x4] (st) cu σ Q = (X z 132 59 [x0, x1, x2, x3, x4] (.int (nI 5) :: st) cu σ Q) := by
  rw [x132_58]
  rfl
theorem v132_59 {z : P0} {st : List Value} {cu : Nat × Nat} {Q : Res → Mem → Prop} {K : Nat → Nat × Nat} {I : Nat → Nat → Int32} {R : Nat → Nat → Option Nat} {L : Nat → Nat → Int64} {sz : Nat} {ex : Bool} {x0 x1 x2 x3 x4 : Option Value} {u : Nat} {v : Int32} : X z 132 59 [x0, x1, x2, x3, x4] (.int v :: .ref u :: st) cu (K, I, R, L, sz, ex) Q = (((K u).1 = 20 ∨ (K u).1 = 50) ∧ vp_in v (K u).2 ∧ X z 132 60 [x0, x1, x2, x3, x4] (.int (I u v.toNatClampNeg) :: st) cu (K, I, R, L, sz, ex) Q) := by
  rw [x132_59]
  rfl
theorem v132_60 {z : P0} {st : List Value} {cu : Nat × Nat} {Q : Res → Mem → Prop} {σ : Mem} {x0 x1 x2 x3 x4 : Option Value} {u v : Int32} : X z 132 60 [x0, x1, x2, x3, x4] (.int v :: .int u :: st) cu σ Q = (X z 132 61 [x0, x1, x2, x3, x4] (.int (u * v) :: st) cu σ Q) := by
  rw [x132_60]
  rfl
theorem v132_61 {z : P0} {st : List Value} {cu : Nat × Nat} {Q : Res → Mem → Prop} {σ : Mem} {x0 x1 x2 x3 x4 : Option Value} {u : Int32} : X z 132 61 [x0, x1, x2, x3, x4] (.int u :: st) cu σ Q = (cat2 x3 = false ∧ X z 132 63 [x0, x1, x2, x3, some (.int u)] (st) cu σ Q) := by
  rw [x132_61]
  obtain ⟨K, I, R, L, sz, ex⟩ := σ
  exact i_istore.trans sl_4
theorem v132_63 {z : P0} {st : List Value} {cu : Nat × Nat} {Q : Res → Mem → Prop} {σ : Mem} {x0 x1 x3 x4 : Option Value} {u : Int32} : X z 132 63 [x0, x1, some (.int u), x3, x4] (st) cu σ Q = (X z 132 64 [x0, x1, some (.int u), x3, x4] (.int u :: st) cu σ Q) := by
  rw [x132_63]
  rfl
theorem v132_64 {z : P0} {st : List Value} {cu : Nat × Nat} {Q : Res → Mem → Prop} {σ : Mem} {x1 x2 x3 x4 : Option Value} {u : Nat} : X z 132 64 [some (.ref u), x1, x2, x3, x4] (st) cu σ Q = (X z 132 65 [some (.ref u), x1, x2, x3, x4] (.ref u :: st) cu σ Q) := by
  rw [x132_64]
  rfl
theorem v132_65 {z : P0} {st : List Value} {cu : Nat × Nat} {Q : Res → Mem → Prop} {σ : Mem} {x0 x1 x2 x4 : Option Value} {u : Int32} : X z 132 65 [x0, x1, x2, some (.int u), x4] (st) cu σ Q = (X z 132 66 [x0, x1, x2, some (.int u), x4] (.int u :: st) cu σ Q) := by
  rw [x132_65]
  rfl
theorem u132_66 {z : P0} {ls : Lcs} {st : List Value} {K : Nat → Nat × Nat} {I : Nat → Nat → Int32} {R : Nat → Nat → Option Nat} {L : Nat → Nat → Int64} {sz : Nat} {ex : Bool} {Q : Res → Mem → Prop} {x : Nat} {a0 : Int32} : X z 132 66 ls (.int a0 :: .ref x :: st) (0, 0) (K, I, R, L, sz, ex) Q = ((K x).1 = 111 ∧ wsum st ≤ 8 ∧ X z 131 0 [some (.ref x), some (.int a0)] [] (0, 0) (K, I, R, L, sz, ex) (aftr (X z) mT 132 66 ls st (0, 0) Q)) := v132_66 (c := 0) (n := 0)
theorem v132_69 {z : P0} {st : List Value} {cu : Nat × Nat} {Q : Res → Mem → Prop} {σ : Mem} {x0 x1 x2 x3 x4 : Option Value} {u : Int32} : X z 132 69 [x0, x1, x2, x3, x4] (.int u :: st) cu σ Q = (if u = nI 0 then X z 132 77 [x0, x1, x2, x3, x4] (st) cu σ Q else X z 132 72 [x0, x1, x2, x3, x4] (st) cu σ Q) := by
  rw [x132_69]
  rw [nI_0]
  obtain ⟨K, I, R, L, sz, ex⟩ := σ
  exact br_ite
theorem v132_72 {z : P0} {st : List Value} {cu : Nat × Nat} {Q : Res → Mem → Prop} {σ : Mem} {x0 x1 x2 x3 : Option Value} {u : Int32} : X z 132 72 [x0, x1, x2, x3, some (.int u)] (st) cu σ Q = (X z 132 74 [x0, x1, x2, x3, some (.int u)] (.int u :: st) cu σ Q) := by
  rw [x132_72]
  rfl
theorem v132_74 {z : P0} {st : List Value} {cu : Nat × Nat} {Q : Res → Mem → Prop} {σ : Mem} {x0 x1 x2 x3 x4 : Option Value} : X z 132 74 [x0, x1, x2, x3, x4] (st) cu σ Q = (X z 132 78 [x0, x1, x2, x3, x4] (st) cu σ Q) := by
  rw [x132_74]
  rfl
theorem v132_77 {z : P0} {st : List Value} {cu : Nat × Nat} {Q : Res → Mem → Prop} {σ : Mem} {x0 x1 x2 x3 x4 : Option Value} : X z 132 77 [x0, x1, x2, x3, x4] (st) cu σ Q = (X z 132 78 [x0, x1, x2, x3, x4] (.int (nI 0) :: st) cu σ Q) := by
  rw [x132_77]
  rfl
theorem v132_78 {z : P0} {st : List Value} {cu : Nat × Nat} {Q : Res → Mem → Prop} {σ : Mem} {x0 x1 x2 x3 x4 : Option Value} {u v : Int32} : X z 132 78 [x0, x1, x2, x3, x4] (.int v :: .int u :: st) cu σ Q = (X z 132 79 [x0, x1, x2, x3, x4] (.int (u + v) :: st) cu σ Q) := by
  rw [x132_78]
  rfl
theorem v132_79 {z : P0} {st : List Value} {cu : Nat × Nat} {Q : Res → Mem → Prop} {σ : Mem} {x0 x1 x2 x3 x4 : Option Value} {u : Int32} : X z 132 79 [x0, x1, x2, x3, x4] (.int u :: st) cu σ Q = (cat2 x1 = false ∧ X z 132 80 [x0, x1, some (.int u), x3, x4] (st) cu σ Q) := by
  rw [x132_79]
  obtain ⟨K, I, R, L, sz, ex⟩ := σ
  exact i_istore_n.trans sl_2
theorem v132_80 {z : P0} {st : List Value} {cu : Nat × Nat} {Q : Res → Mem → Prop} {σ : Mem} {x0 x1 x2 x4 : Option Value} {u : Int32} : X z 132 80 [x0, x1, x2, some (.int u), x4] (st) cu σ Q = (cat2 x2 = false ∧ X z 132 83 [x0, x1, x2, some (.int (u + nI 1)), x4] (st) cu σ Q) := by
  rw [x132_80]
  obtain ⟨K, I, R, L, sz, ex⟩ := σ
  exact i_iinc.trans (gl_3.trans (ldI_i.trans sl_3))
theorem v132_83 {z : P0} {st : List Value} {cu : Nat × Nat} {Q : Res → Mem → Prop} {σ : Mem} {x0 x1 x2 x3 x4 : Option Value} : X z 132 83 [x0, x1, x2, x3, x4] (st) cu σ Q = (X z 132 4 [x0, x1, x2, x3, x4] (st) cu σ Q) := by
  rw [x132_83]
  rfl
theorem v132_86 {z : P0} {st : List Value} {cu : Nat × Nat} {Q : Res → Mem → Prop} {σ : Mem} {x0 x1 x3 x4 : Option Value} {u : Int32} : X z 132 86 [x0, x1, some (.int u), x3, x4] (st) cu σ Q = (X z 132 87 [x0, x1, some (.int u), x3, x4] (.int u :: st) cu σ Q) := by
  rw [x132_86]
  rfl
theorem v132_87 {z : P0} {cu : Nat × Nat} {Q : Res → Mem → Prop} {σ : Mem} {x0 x1 x2 x3 x4 : Option Value} {v : Int32} : X z 132 87 [x0, x1, x2, x3, x4] ([.int v]) cu σ Q = (Q (.inl (some (.int v))) σ) := by
  rw [x132_87]
  exact propext ⟨fun h => h.2, fun h => ⟨trivial, h⟩⟩
theorem v133_0 {z : P0} {st : List Value} {cu : Nat × Nat} {Q : Res → Mem → Prop} {σ : Mem} {x0 x2 x3 x4 x5 : Option Value} {u : Int32} : X z 133 0 [x0, some (.int u), x2, x3, x4, x5] (st) cu σ Q = (X z 133 1 [x0, some (.int u), x2, x3, x4, x5] (.int u :: st) cu σ Q) := by
  rw [x133_0]
  rfl
theorem v133_1 {z : P0} {st : List Value} {cu : Nat × Nat} {Q : Res → Mem → Prop} {σ : Mem} {x0 x1 x2 x3 x4 x5 : Option Value} : X z 133 1 [x0, x1, x2, x3, x4, x5] (st) cu σ Q = (X z 133 2 [x0, x1, x2, x3, x4, x5] (.int (nI 0) :: st) cu σ Q) := by
  rw [x133_1]
  rfl
theorem v133_2 {z : P0} {st : List Value} {cu : Nat × Nat} {Q : Res → Mem → Prop} {σ : Mem} {x0 x1 x2 x3 x4 x5 : Option Value} : X z 133 2 [x0, x1, x2, x3, x4, x5] (st) cu σ Q = (X z 133 4 [x0, x1, x2, x3, x4, x5] (.int (nI 19) :: st) cu σ Q) := by
  rw [x133_2]
  rfl
theorem u133_4 {z : P0} {ls : Lcs} {st : List Value} {K : Nat → Nat × Nat} {I : Nat → Nat → Int32} {R : Nat → Nat → Option Nat} {L : Nat → Nat → Int64} {sz : Nat} {ex : Bool} {Q : Res → Mem → Prop} {a0 : Int32} {a1 : Int32} {a2 : Int32} : X z 133 4 ls (.int a2 :: .int a1 :: .int a0 :: st) (0, 0) (K, I, R, L, sz, ex) Q = (wsum st ≤ 8 ∧ X z 106 0 [some (.int a0), some (.int a1), some (.int a2)] [] (0, 0) (K, I, R, L, sz, ex) (aftr (X z) mT 133 4 ls st (0, 0) Q)) := v133_4 (c := 0) (n := 0)
theorem v133_7 {z : P0} {st : List Value} {cu : Nat × Nat} {Q : Res → Mem → Prop} {σ : Mem} {x0 x1 x2 x3 x4 x5 : Option Value} {u : Int32} : X z 133 7 [x0, x1, x2, x3, x4, x5] (.int u :: st) cu σ Q = (if u = nI 0 then X z 133 43 [x0, x1, x2, x3, x4, x5] (st) cu σ Q else X z 133 10 [x0, x1, x2, x3, x4, x5] (st) cu σ Q) := by
  rw [x133_7]
  rw [nI_0]
  obtain ⟨K, I, R, L, sz, ex⟩ := σ
  exact br_ite
theorem v133_10 {z : P0} {st : List Value} {cu : Nat × Nat} {Q : Res → Mem → Prop} {σ : Mem} {x0 x1 x3 x4 x5 : Option Value} {u : Int32} : X z 133 10 [x0, x1, some (.int u), x3, x4, x5] (st) cu σ Q = (X z 133 11 [x0, x1, some (.int u), x3, x4, x5] (.int u :: st) cu σ Q) := by
  rw [x133_10]
  rfl
theorem v133_11 {z : P0} {st : List Value} {cu : Nat × Nat} {Q : Res → Mem → Prop} {σ : Mem} {x0 x1 x2 x3 x4 x5 : Option Value} : X z 133 11 [x0, x1, x2, x3, x4, x5] (st) cu σ Q = (X z 133 12 [x0, x1, x2, x3, x4, x5] (.int (nI 0) :: st) cu σ Q) := by
  rw [x133_11]
  rfl
theorem v133_12 {z : P0} {st : List Value} {cu : Nat × Nat} {Q : Res → Mem → Prop} {σ : Mem} {x0 x1 x2 x3 x4 x5 : Option Value} : X z 133 12 [x0, x1, x2, x3, x4, x5] (st) cu σ Q = (X z 133 13 [x0, x1, x2, x3, x4, x5] (.int (nI 2) :: st) cu σ Q) := by
  rw [x133_12]
  rfl
theorem u133_13 {z : P0} {ls : Lcs} {st : List Value} {K : Nat → Nat × Nat} {I : Nat → Nat → Int32} {R : Nat → Nat → Option Nat} {L : Nat → Nat → Int64} {sz : Nat} {ex : Bool} {Q : Res → Mem → Prop} {a0 : Int32} {a1 : Int32} {a2 : Int32} : X z 133 13 ls (.int a2 :: .int a1 :: .int a0 :: st) (0, 0) (K, I, R, L, sz, ex) Q = (wsum st ≤ 8 ∧ X z 106 0 [some (.int a0), some (.int a1), some (.int a2)] [] (0, 0) (K, I, R, L, sz, ex) (aftr (X z) mT 133 13 ls st (0, 0) Q)) := v133_13 (c := 0) (n := 0)
theorem v133_16 {z : P0} {st : List Value} {cu : Nat × Nat} {Q : Res → Mem → Prop} {σ : Mem} {x0 x1 x2 x3 x4 x5 : Option Value} {u : Int32} : X z 133 16 [x0, x1, x2, x3, x4, x5] (.int u :: st) cu σ Q = (if u = nI 0 then X z 133 43 [x0, x1, x2, x3, x4, x5] (st) cu σ Q else X z 133 19 [x0, x1, x2, x3, x4, x5] (st) cu σ Q) := by
  rw [x133_16]
  rw [nI_0]
  obtain ⟨K, I, R, L, sz, ex⟩ := σ
  exact br_ite
theorem v133_19 {z : P0} {st : List Value} {cu : Nat × Nat} {Q : Res → Mem → Prop} {σ : Mem} {x1 x2 x3 x4 x5 : Option Value} {u : Nat} : X z 133 19 [some (.ref u), x1, x2, x3, x4, x5] (st) cu σ Q = (X z 133 20 [some (.ref u), x1, x2, x3, x4, x5] (.ref u :: st) cu σ Q) := by
  rw [x133_19]
  rfl
theorem v133_20 {z : P0} {st : List Value} {cu : Nat × Nat} {Q : Res → Mem → Prop} {σ : Mem} {x0 x1 x2 x3 x4 x5 : Option Value} : X z 133 20 [x0, x1, x2, x3, x4, x5] (st) cu σ Q = (X z 133 21 [x0, x1, x2, x3, x4, x5] (.int (nI 0) :: st) cu σ Q) := by
  rw [x133_20]
  rfl
theorem u133_21 {z : P0} {ls : Lcs} {st : List Value} {K : Nat → Nat × Nat} {I : Nat → Nat → Int32} {R : Nat → Nat → Option Nat} {L : Nat → Nat → Int64} {sz : Nat} {ex : Bool} {Q : Res → Mem → Prop} {x : Nat} {a0 : Int32} : X z 133 21 ls (.int a0 :: .ref x :: st) (0, 0) (K, I, R, L, sz, ex) Q = ((K x).1 = 111 ∧ wsum st ≤ 8 ∧ X z 150 0 [some (.ref x), some (.int a0), none] [] (0, 0) (K, I, R, L, sz, ex) (aftr (X z) mT 133 21 ls st (0, 0) Q)) := v133_21 (c := 0) (n := 0)
theorem v133_24 {z : P0} {st : List Value} {cu : Nat × Nat} {Q : Res → Mem → Prop} {σ : Mem} {x1 x2 x3 x4 x5 : Option Value} {u : Nat} : X z 133 24 [some (.ref u), x1, x2, x3, x4, x5] (st) cu σ Q = (X z 133 25 [some (.ref u), x1, x2, x3, x4, x5] (.ref u :: st) cu σ Q) := by
  rw [x133_24]
  rfl
theorem v133_25 {z : P0} {st : List Value} {cu : Nat × Nat} {Q : Res → Mem → Prop} {K : Nat → Nat × Nat} {I : Nat → Nat → Int32} {R : Nat → Nat → Option Nat} {L : Nat → Nat → Int64} {sz : Nat} {ex : Bool} {x0 x1 x2 x3 x4 x5 : Option Value} {u : Nat} : X z 133 25 [x0, x1, x2, x3, x4, x5] (.ref u :: st) cu (K, I, R, L, sz, ex) Q = ((K u).1 = 111 ∧ X z 133 28 [x0, x1, x2, x3, x4, x5] (.int (I u 3) :: st) cu (K, I, R, L, sz, ex) Q) := by
  rw [x133_25]
  rfl
theorem v133_28 {z : P0} {st : List Value} {cu : Nat × Nat} {Q : Res → Mem → Prop} {σ : Mem} {x0 x1 x2 x3 x4 x5 : Option Value} {u v : Int32} : X z 133 28 [x0, x1, x2, x3, x4, x5] (.int v :: .int u :: st) cu σ Q = (if u = v then X z 133 31 [x0, x1, x2, x3, x4, x5] (st) cu σ Q else X z 133 43 [x0, x1, x2, x3, x4, x5] (st) cu σ Q) := by
  rw [x133_28]
  obtain ⟨K, I, R, L, sz, ex⟩ := σ
  exact br_ne
theorem v133_31 {z : P0} {st : List Value} {cu : Nat × Nat} {Q : Res → Mem → Prop} {σ : Mem} {x1 x2 x3 x4 x5 : Option Value} {u : Nat} : X z 133 31 [some (.ref u), x1, x2, x3, x4, x5] (st) cu σ Q = (X z 133 32 [some (.ref u), x1, x2, x3, x4, x5] (.ref u :: st) cu σ Q) := by
  rw [x133_31]
  rfl
theorem v133_32 {z : P0} {st : List Value} {cu : Nat × Nat} {Q : Res → Mem → Prop} {σ : Mem} {x0 x1 x2 x3 x4 x5 : Option Value} : X z 133 32 [x0, x1, x2, x3, x4, x5] (st) cu σ Q = (X z 133 33 [x0, x1, x2, x3, x4, x5] (.int (nI 0) :: st) cu σ Q) := by
  rw [x133_32]
  rfl
theorem u133_33 {z : P0} {ls : Lcs} {st : List Value} {K : Nat → Nat × Nat} {I : Nat → Nat → Int32} {R : Nat → Nat → Option Nat} {L : Nat → Nat → Int64} {sz : Nat} {ex : Bool} {Q : Res → Mem → Prop} {x : Nat} {a0 : Int32} : X z 133 33 ls (.int a0 :: .ref x :: st) (0, 0) (K, I, R, L, sz, ex) Q = ((K x).1 = 111 ∧ wsum st ≤ 8 ∧ X z 151 0 [some (.ref x), some (.int a0)] [] (0, 0) (K, I, R, L, sz, ex) (aftr (X z) mT 133 33 ls st (0, 0) Q)) := v133_33 (c := 0) (n := 0)
theorem v133_36 {z : P0} {st : List Value} {cu : Nat × Nat} {Q : Res → Mem → Prop} {σ : Mem} {x0 x1 x2 x3 x4 x5 : Option Value} {u : Int32} : X z 133 36 [x0, x1, x2, x3, x4, x5] (.int u :: st) cu σ Q = (if u = nI 0 then X z 133 43 [x0, x1, x2, x3, x4, x5] (st) cu σ Q else X z 133 39 [x0, x1, x2, x3, x4, x5] (st) cu σ Q) := by
  rw [x133_36]
  rw [nI_0]
  obtain ⟨K, I, R, L, sz, ex⟩ := σ
  exact br_ite
theorem v133_39 {z : P0} {st : List Value} {cu : Nat × Nat} {Q : Res → Mem → Prop} {σ : Mem} {x0 x1 x2 x3 x4 x5 : Option Value} : X z 133 39 [x0, x1, x2, x3, x4, x5] (st) cu σ Q = (X z 133 40 [x0, x1, x2, x3, x4, x5] (.int (nI 1) :: st) cu σ Q) := by
  rw [x133_39]
  rfl
theorem v133_40 {z : P0} {st : List Value} {cu : Nat × Nat} {Q : Res → Mem → Prop} {σ : Mem} {x0 x1 x2 x3 x4 x5 : Option Value} : X z 133 40 [x0, x1, x2, x3, x4, x5] (st) cu σ Q = (X z 133 44 [x0, x1, x2, x3, x4, x5] (st) cu σ Q) := by
  rw [x133_40]
  rfl
theorem v133_43 {z : P0} {st : List Value} {cu : Nat × Nat} {Q : Res → Mem → Prop} {σ : Mem} {x0 x1 x2 x3 x4 x5 : Option Value} : X z 133 43 [x0, x1, x2, x3, x4, x5] (st) cu σ Q = (X z 133 44 [x0, x1, x2, x3, x4, x5] (.int (nI 0) :: st) cu σ Q) := by
  rw [x133_43]
  rfl
theorem v133_44 {z : P0} {st : List Value} {cu : Nat × Nat} {Q : Res → Mem → Prop} {σ : Mem} {x0 x1 x2 x3 x4 x5 : Option Value} {u : Int32} : X z 133 44 [x0, x1, x2, x3, x4, x5] (.int u :: st) cu σ Q = (cat2 x2 = false ∧ X z 133 45 [x0, x1, x2, some (.int u), x4, x5] (st) cu σ Q) := by
  rw [x133_44]
  obtain ⟨K, I, R, L, sz, ex⟩ := σ
  exact i_istore_n.trans sl_3
theorem v133_45 {z : P0} {st : List Value} {cu : Nat × Nat} {Q : Res → Mem → Prop} {σ : Mem} {x1 x2 x3 x4 x5 : Option Value} {u : Nat} : X z 133 45 [some (.ref u), x1, x2, x3, x4, x5] (st) cu σ Q = (X z 133 46 [some (.ref u), x1, x2, x3, x4, x5] (.ref u :: st) cu σ Q) := by
  rw [x133_45]
  rfl
theorem v133_46 {z : P0} {st : List Value} {cu : Nat × Nat} {Q : Res → Mem → Prop} {σ : Mem} {x0 x1 x2 x4 x5 : Option Value} {u : Int32} : X z 133 46 [x0, x1, x2, some (.int u), x4, x5] (st) cu σ Q = (X z 133 47 [x0, x1, x2, some (.int u), x4, x5] (.int u :: st) cu σ Q) := by
  rw [x133_46]
  rfl
theorem v133_47 {z : P0} {st : List Value} {cu : Nat × Nat} {Q : Res → Mem → Prop} {σ : Mem} {x0 x1 x2 x3 x4 x5 : Option Value} {u : Int32} : X z 133 47 [x0, x1, x2, x3, x4, x5] (.int u :: st) cu σ Q = (if u = nI 0 then X z 133 50 [x0, x1, x2, x3, x4, x5] (st) cu σ Q else X z 133 54 [x0, x1, x2, x3, x4, x5] (st) cu σ Q) := by
  rw [x133_47]
  rw [nI_0]
  obtain ⟨K, I, R, L, sz, ex⟩ := σ
  exact br_ne
theorem v133_50 {z : P0} {st : List Value} {cu : Nat × Nat} {Q : Res → Mem → Prop} {σ : Mem} {x0 x1 x2 x3 x4 x5 : Option Value} : X z 133 50 [x0, x1, x2, x3, x4, x5] (st) cu σ Q = (X z 133 51 [x0, x1, x2, x3, x4, x5] (.int (nI 1) :: st) cu σ Q) := by
  rw [x133_50]
  rfl
theorem v133_51 {z : P0} {st : List Value} {cu : Nat × Nat} {Q : Res → Mem → Prop} {σ : Mem} {x0 x1 x2 x3 x4 x5 : Option Value} : X z 133 51 [x0, x1, x2, x3, x4, x5] (st) cu σ Q = (X z 133 71 [x0, x1, x2, x3, x4, x5] (st) cu σ Q) := by
  rw [x133_51]
  rfl
theorem v133_54 {z : P0} {st : List Value} {cu : Nat × Nat} {Q : Res → Mem → Prop} {σ : Mem} {x1 x2 x3 x4 x5 : Option Value} {u : Nat} : X z 133 54 [some (.ref u), x1, x2, x3, x4, x5] (st) cu σ Q = (X z 133 55 [some (.ref u), x1, x2, x3, x4, x5] (.ref u :: st) cu σ Q) := by
  rw [x133_54]
  rfl
theorem v133_55 {z : P0} {st : List Value} {cu : Nat × Nat} {Q : Res → Mem → Prop} {K : Nat → Nat × Nat} {I : Nat → Nat → Int32} {R : Nat → Nat → Option Nat} {L : Nat → Nat → Int64} {sz : Nat} {ex : Bool} {x0 x1 x2 x3 x4 x5 : Option Value} {u : Nat} : X z 133 55 [x0, x1, x2, x3, x4, x5] (.ref u :: st) cu (K, I, R, L, sz, ex) Q = ((K u).1 = 111 ∧ X z 133 58 [x0, x1, x2, x3, x4, x5] (va_rf (R u 0) :: st) cu (K, I, R, L, sz, ex) Q) := by
  rw [x133_55]
  rfl
theorem v133_58 {z : P0} {st : List Value} {cu : Nat × Nat} {Q : Res → Mem → Prop} {σ : Mem} {x0 x1 x2 x3 x4 x5 : Option Value} : X z 133 58 [x0, x1, x2, x3, x4, x5] (st) cu σ Q = (X z 133 60 [x0, x1, x2, x3, x4, x5] (.int (nI 6) :: st) cu σ Q) := by
  rw [x133_58]
  rfl
theorem v133_60 {z : P0} {st : List Value} {cu : Nat × Nat} {Q : Res → Mem → Prop} {K : Nat → Nat × Nat} {I : Nat → Nat → Int32} {R : Nat → Nat → Option Nat} {L : Nat → Nat → Int64} {sz : Nat} {ex : Bool} {x0 x1 x2 x3 x4 x5 : Option Value} {u : Nat} {v : Int32} : X z 133 60 [x0, x1, x2, x3, x4, x5] (.int v :: .ref u :: st) cu (K, I, R, L, sz, ex) Q = (((K u).1 = 20 ∨ (K u).1 = 50) ∧ vp_in v (K u).2 ∧ X z 133 61 [x0, x1, x2, x3, x4, x5] (.int (I u v.toNatClampNeg) :: st) cu (K, I, R, L, sz, ex) Q) := by
  rw [x133_60]
  rfl
theorem v133_61 {z : P0} {st : List Value} {cu : Nat × Nat} {Q : Res → Mem → Prop} {σ : Mem} {x0 x1 x2 x3 x4 x5 : Option Value} : X z 133 61 [x0, x1, x2, x3, x4, x5] (st) cu σ Q = (X z 133 63 [x0, x1, x2, x3, x4, x5] (.int (nI 20) :: st) cu σ Q) := by
  rw [x133_61]
  rfl
theorem v133_63 {z : P0} {st : List Value} {cu : Nat × Nat} {Q : Res → Mem → Prop} {σ : Mem} {x0 x1 x2 x3 x4 x5 : Option Value} {u v : Int32} : X z 133 63 [x0, x1, x2, x3, x4, x5] (.int v :: .int u :: st) cu σ Q = (if u = v then X z 133 66 [x0, x1, x2, x3, x4, x5] (st) cu σ Q else X z 133 70 [x0, x1, x2, x3, x4, x5] (st) cu σ Q) := by
  rw [x133_63]
  obtain ⟨K, I, R, L, sz, ex⟩ := σ
  exact br_ne
theorem v133_66 {z : P0} {st : List Value} {cu : Nat × Nat} {Q : Res → Mem → Prop} {σ : Mem} {x0 x1 x2 x3 x4 x5 : Option Value} : X z 133 66 [x0, x1, x2, x3, x4, x5] (st) cu σ Q = (X z 133 67 [x0, x1, x2, x3, x4, x5] (.int (nI 2) :: st) cu σ Q) := by
  rw [x133_66]
  rfl
theorem v133_67 {z : P0} {st : List Value} {cu : Nat × Nat} {Q : Res → Mem → Prop} {σ : Mem} {x0 x1 x2 x3 x4 x5 : Option Value} : X z 133 67 [x0, x1, x2, x3, x4, x5] (st) cu σ Q = (X z 133 71 [x0, x1, x2, x3, x4, x5] (st) cu σ Q) := by
  rw [x133_67]
  rfl
theorem v133_70 {z : P0} {st : List Value} {cu : Nat × Nat} {Q : Res → Mem → Prop} {σ : Mem} {x0 x1 x2 x3 x4 x5 : Option Value} : X z 133 70 [x0, x1, x2, x3, x4, x5] (st) cu σ Q = (X z 133 71 [x0, x1, x2, x3, x4, x5] (.int (nI 0) :: st) cu σ Q) := by
  rw [x133_70]
  rfl
theorem v133_71 {z : P0} {st : List Value} {cu : Nat × Nat} {Q : Res → Mem → Prop} {K : Nat → Nat × Nat} {I : Nat → Nat → Int32} {R : Nat → Nat → Option Nat} {L : Nat → Nat → Int64} {sz : Nat} {ex : Bool} {x0 x1 x2 x3 x4 x5 : Option Value} {u : Nat} {v : Int32} : X z 133 71 [x0, x1, x2, x3, x4, x5] (.int v :: .ref u :: st) cu (K, I, R, L, sz, ex) Q = ((K u).1 = 111 ∧ X z 133 74 [x0, x1, x2, x3, x4, x5] (st) cu (K, up2 I u 5 v, R, L, sz, ex) Q) := by
  rw [x133_71]
  exact i_putI
theorem v133_74 {z : P0} {st : List Value} {cu : Nat × Nat} {Q : Res → Mem → Prop} {σ : Mem} {x1 x2 x3 x4 x5 : Option Value} {u : Nat} : X z 133 74 [some (.ref u), x1, x2, x3, x4, x5] (st) cu σ Q = (X z 133 75 [some (.ref u), x1, x2, x3, x4, x5] (.ref u :: st) cu σ Q) := by
  rw [x133_74]
  rfl
theorem v133_75 {z : P0} {st : List Value} {cu : Nat × Nat} {Q : Res → Mem → Prop} {K : Nat → Nat × Nat} {I : Nat → Nat → Int32} {R : Nat → Nat → Option Nat} {L : Nat → Nat → Int64} {sz : Nat} {ex : Bool} {x0 x1 x2 x3 x4 x5 : Option Value} {u : Nat} : X z 133 75 [x0, x1, x2, x3, x4, x5] (.ref u :: st) cu (K, I, R, L, sz, ex) Q = ((K u).1 = 111 ∧ X z 133 78 [x0, x1, x2, x3, x4, x5] (.int (I u 5) :: st) cu (K, I, R, L, sz, ex) Q) := by
  rw [x133_75]
  rfl
theorem v133_78 {z : P0} {st : List Value} {cu : Nat × Nat} {Q : Res → Mem → Prop} {σ : Mem} {x0 x1 x2 x3 x4 x5 : Option Value} {u : Int32} : X z 133 78 [x0, x1, x2, x3, x4, x5] (.int u :: st) cu σ Q = (if nI 0 < u then X z 133 81 [x0, x1, x2, x3, x4, x5] (st) cu σ Q else X z 133 83 [x0, x1, x2, x3, x4, x5] (st) cu σ Q) := by
  rw [x133_78]
  rw [nI_0]
  obtain ⟨K, I, R, L, sz, ex⟩ := σ
  exact br_ge
theorem v133_81 {z : P0} {st : List Value} {cu : Nat × Nat} {Q : Res → Mem → Prop} {σ : Mem} {x0 x1 x2 x3 x4 x5 : Option Value} : X z 133 81 [x0, x1, x2, x3, x4, x5] (st) cu σ Q = (X z 133 82 [x0, x1, x2, x3, x4, x5] (.int (nI 0) :: st) cu σ Q) := by
  rw [x133_81]
  rfl
theorem v133_82 {z : P0} {cu : Nat × Nat} {Q : Res → Mem → Prop} {σ : Mem} {x0 x1 x2 x3 x4 x5 : Option Value} {v : Int32} : X z 133 82 [x0, x1, x2, x3, x4, x5] ([.int v]) cu σ Q = (Q (.inl (some (.int v))) σ) := by
  rw [x133_82]
  exact propext ⟨fun h => h.2, fun h => ⟨trivial, h⟩⟩
theorem v133_83 {z : P0} {st : List Value} {cu : Nat × Nat} {Q : Res → Mem → Prop} {σ : Mem} {x1 x2 x3 x4 x5 : Option Value} {u : Nat} : X z 133 83 [some (.ref u), x1, x2, x3, x4, x5] (st) cu σ Q = (X z 133 84 [some (.ref u), x1, x2, x3, x4, x5] (.ref u :: st) cu σ Q) := by
  rw [x133_83]
  rfl
theorem u133_84 {z : P0} {ls : Lcs} {st : List Value} {K : Nat → Nat × Nat} {I : Nat → Nat → Int32} {R : Nat → Nat → Option Nat} {L : Nat → Nat → Int64} {sz : Nat} {ex : Bool} {Q : Res → Mem → Prop} {x : Nat} : X z 133 84 ls (.ref x :: st) (0, 0) (K, I, R, L, sz, ex) Q = ((K x).1 = 111 ∧ wsum st ≤ 8 ∧ X z 107 0 [some (.ref x), none] [] (0, 0) (K, I, R, L, sz, ex) (aftr (X z) mT 133 84 ls st (0, 0) Q)) := v133_84 (c := 0) (n := 0)
theorem v133_87 {z : P0} {st : List Value} {cu : Nat × Nat} {Q : Res → Mem → Prop} {σ : Mem} {x1 x2 x3 x4 x5 : Option Value} {u : Nat} : X z 133 87 [some (.ref u), x1, x2, x3, x4, x5] (st) cu σ Q = (X z 133 88 [some (.ref u), x1, x2, x3, x4, x5] (.ref u :: st) cu σ Q) := by
  rw [x133_87]
  rfl
theorem v133_88 {z : P0} {st : List Value} {cu : Nat × Nat} {Q : Res → Mem → Prop} {K : Nat → Nat × Nat} {I : Nat → Nat → Int32} {R : Nat → Nat → Option Nat} {L : Nat → Nat → Int64} {sz : Nat} {ex : Bool} {x0 x1 x2 x3 x4 x5 : Option Value} {u : Nat} : X z 133 88 [x0, x1, x2, x3, x4, x5] (.ref u :: st) cu (K, I, R, L, sz, ex) Q = ((K u).1 = 111 ∧ X z 133 91 [x0, x1, x2, x3, x4, x5] (va_rf (R u 0) :: st) cu (K, I, R, L, sz, ex) Q) := by
  rw [x133_88]
  rfl
theorem v133_91 {z : P0} {st : List Value} {cu : Nat × Nat} {Q : Res → Mem → Prop} {σ : Mem} {x0 x1 x2 x3 x4 x5 : Option Value} : X z 133 91 [x0, x1, x2, x3, x4, x5] (st) cu σ Q = (X z 133 93 [x0, x1, x2, x3, x4, x5] (.int (nI 6) :: st) cu σ Q) := by
  rw [x133_91]
  rfl
theorem v133_93 {z : P0} {st : List Value} {cu : Nat × Nat} {Q : Res → Mem → Prop} {K : Nat → Nat × Nat} {I : Nat → Nat → Int32} {R : Nat → Nat → Option Nat} {L : Nat → Nat → Int64} {sz : Nat} {ex : Bool} {x0 x1 x2 x3 x4 x5 : Option Value} {u : Nat} {v : Int32} : X z 133 93 [x0, x1, x2, x3, x4, x5] (.int v :: .ref u :: st) cu (K, I, R, L, sz, ex) Q = (((K u).1 = 20 ∨ (K u).1 = 50) ∧ vp_in v (K u).2 ∧ X z 133 94 [x0, x1, x2, x3, x4, x5] (.int (I u v.toNatClampNeg) :: st) cu (K, I, R, L, sz, ex) Q) := by
  rw [x133_93]
  rfl
theorem v133_94 {z : P0} {st : List Value} {cu : Nat × Nat} {Q : Res → Mem → Prop} {σ : Mem} {x0 x1 x2 x3 x4 x5 : Option Value} {u : Int32} : X z 133 94 [x0, x1, x2, x3, x4, x5] (.int u :: st) cu σ Q = (cat2 x3 = false ∧ X z 133 96 [x0, x1, x2, x3, some (.int u), x5] (st) cu σ Q) := by
  rw [x133_94]
  obtain ⟨K, I, R, L, sz, ex⟩ := σ
  exact i_istore.trans sl_4
theorem v133_96 {z : P0} {st : List Value} {cu : Nat × Nat} {Q : Res → Mem → Prop} {σ : Mem} {x1 x2 x3 x4 x5 : Option Value} {u : Nat} : X z 133 96 [some (.ref u), x1, x2, x3, x4, x5] (st) cu σ Q = (X z 133 97 [some (.ref u), x1, x2, x3, x4, x5] (.ref u :: st) cu σ Q) := by
  rw [x133_96]
  rfl
theorem v133_97 {z : P0} {st : List Value} {cu : Nat × Nat} {Q : Res → Mem → Prop} {K : Nat → Nat × Nat} {I : Nat → Nat → Int32} {R : Nat → Nat → Option Nat} {L : Nat → Nat → Int64} {sz : Nat} {ex : Bool} {x0 x1 x2 x3 x4 x5 : Option Value} {u : Nat} : X z 133 97 [x0, x1, x2, x3, x4, x5] (.ref u :: st) cu (K, I, R, L, sz, ex) Q = ((K u).1 = 111 ∧ X z 133 100 [x0, x1, x2, x3, x4, x5] (va_rf (R u 0) :: st) cu (K, I, R, L, sz, ex) Q) := by
  rw [x133_97]
  rfl
theorem v133_100 {z : P0} {st : List Value} {cu : Nat × Nat} {Q : Res → Mem → Prop} {σ : Mem} {x0 x1 x2 x3 x4 x5 : Option Value} : X z 133 100 [x0, x1, x2, x3, x4, x5] (st) cu σ Q = (X z 133 102 [x0, x1, x2, x3, x4, x5] (.int (nI 6) :: st) cu σ Q) := by
  rw [x133_100]
  rfl
theorem v133_102 {z : P0} {st : List Value} {cu : Nat × Nat} {Q : Res → Mem → Prop} {σ : Mem} {x0 x1 x2 x3 x4 x5 : Option Value} {u : Int32} {v : Nat} : X z 133 102 [x0, x1, x2, x3, x4, x5] (.int u :: .ref v :: st) cu σ Q = (X z 133 103 [x0, x1, x2, x3, x4, x5] (.int u :: .ref v :: .int u :: .ref v :: st) cu σ Q) := by
  rw [x133_102]
  rfl
theorem v133_103 {z : P0} {st : List Value} {cu : Nat × Nat} {Q : Res → Mem → Prop} {K : Nat → Nat × Nat} {I : Nat → Nat → Int32} {R : Nat → Nat → Option Nat} {L : Nat → Nat → Int64} {sz : Nat} {ex : Bool} {x0 x1 x2 x3 x4 x5 : Option Value} {u : Nat} {v : Int32} : X z 133 103 [x0, x1, x2, x3, x4, x5] (.int v :: .ref u :: st) cu (K, I, R, L, sz, ex) Q = (((K u).1 = 20 ∨ (K u).1 = 50) ∧ vp_in v (K u).2 ∧ X z 133 104 [x0, x1, x2, x3, x4, x5] (.int (I u v.toNatClampNeg) :: st) cu (K, I, R, L, sz, ex) Q) := by
  rw [x133_103]
  rfl
theorem v133_104 {z : P0} {st : List Value} {cu : Nat × Nat} {Q : Res → Mem → Prop} {σ : Mem} {x0 x1 x2 x3 x4 x5 : Option Value} : X z 133 104 [x0, x1, x2, x3, x4, x5] (st) cu σ Q = (X z 133 105 [x0, x1, x2, x3, x4, x5] (.int (nI 1) :: st) cu σ Q) := by
  rw [x133_104]
  rfl
theorem v133_105 {z : P0} {st : List Value} {cu : Nat × Nat} {Q : Res → Mem → Prop} {σ : Mem} {x0 x1 x2 x3 x4 x5 : Option Value} {u v : Int32} : X z 133 105 [x0, x1, x2, x3, x4, x5] (.int v :: .int u :: st) cu σ Q = (X z 133 106 [x0, x1, x2, x3, x4, x5] (.int (u + v) :: st) cu σ Q) := by
  rw [x133_105]
  rfl
theorem v133_106 {z : P0} {st : List Value} {cu : Nat × Nat} {Q : Res → Mem → Prop} {K : Nat → Nat × Nat} {I : Nat → Nat → Int32} {R : Nat → Nat → Option Nat} {L : Nat → Nat → Int64} {sz : Nat} {ex : Bool} {x0 x1 x2 x3 x4 x5 : Option Value} {u : Nat} {j v : Int32} : X z 133 106 [x0, x1, x2, x3, x4, x5] (.int v :: .int j :: .ref u :: st) cu (K, I, R, L, sz, ex) Q = ((K u).1 = 20 ∧ vp_in j (K u).2 ∧ X z 133 107 [x0, x1, x2, x3, x4, x5] (st) cu (K, up2 I u j.toNatClampNeg v, R, L, sz, ex) Q) := by
  rw [x133_106]
  rfl
theorem v133_107 {z : P0} {st : List Value} {cu : Nat × Nat} {Q : Res → Mem → Prop} {σ : Mem} {x1 x2 x3 x4 x5 : Option Value} {u : Nat} : X z 133 107 [some (.ref u), x1, x2, x3, x4, x5] (st) cu σ Q = (X z 133 108 [some (.ref u), x1, x2, x3, x4, x5] (.ref u :: st) cu σ Q) := by
  rw [x133_107]
  rfl
theorem v133_108 {z : P0} {st : List Value} {cu : Nat × Nat} {Q : Res → Mem → Prop} {K : Nat → Nat × Nat} {I : Nat → Nat → Int32} {R : Nat → Nat → Option Nat} {L : Nat → Nat → Int64} {sz : Nat} {ex : Bool} {x0 x1 x2 x3 x4 x5 : Option Value} {u : Nat} : X z 133 108 [x0, x1, x2, x3, x4, x5] (.ref u :: st) cu (K, I, R, L, sz, ex) Q = ((K u).1 = 111 ∧ X z 133 111 [x0, x1, x2, x3, x4, x5] (va_rf (R u 0) :: st) cu (K, I, R, L, sz, ex) Q) := by
  rw [x133_108]
  rfl
theorem v133_111 {z : P0} {st : List Value} {cu : Nat × Nat} {Q : Res → Mem → Prop} {σ : Mem} {x0 x1 x2 x3 x4 x5 : Option Value} : X z 133 111 [x0, x1, x2, x3, x4, x5] (st) cu σ Q = (X z 133 113 [x0, x1, x2, x3, x4, x5] (.int (nI 13) :: st) cu σ Q) := by
  rw [x133_111]
  rfl
theorem v133_113 {z : P0} {st : List Value} {cu : Nat × Nat} {Q : Res → Mem → Prop} {σ : Mem} {x0 x1 x2 x3 x5 : Option Value} {u : Int32} : X z 133 113 [x0, x1, x2, x3, some (.int u), x5] (st) cu σ Q = (X z 133 115 [x0, x1, x2, x3, some (.int u), x5] (.int u :: st) cu σ Q) := by
  rw [x133_113]
  rfl
theorem v133_115 {z : P0} {st : List Value} {cu : Nat × Nat} {Q : Res → Mem → Prop} {σ : Mem} {x0 x1 x2 x3 x4 x5 : Option Value} {u v : Int32} : X z 133 115 [x0, x1, x2, x3, x4, x5] (.int v :: .int u :: st) cu σ Q = (X z 133 116 [x0, x1, x2, x3, x4, x5] (.int (u + v) :: st) cu σ Q) := by
  rw [x133_115]
  rfl
theorem v133_116 {z : P0} {st : List Value} {cu : Nat × Nat} {Q : Res → Mem → Prop} {σ : Mem} {x0 x2 x3 x4 x5 : Option Value} {u : Int32} : X z 133 116 [x0, some (.int u), x2, x3, x4, x5] (st) cu σ Q = (X z 133 117 [x0, some (.int u), x2, x3, x4, x5] (.int u :: st) cu σ Q) := by
  rw [x133_116]
  rfl
theorem v133_117 {z : P0} {st : List Value} {cu : Nat × Nat} {Q : Res → Mem → Prop} {K : Nat → Nat × Nat} {I : Nat → Nat → Int32} {R : Nat → Nat → Option Nat} {L : Nat → Nat → Int64} {sz : Nat} {ex : Bool} {x0 x1 x2 x3 x4 x5 : Option Value} {u : Nat} {j v : Int32} : X z 133 117 [x0, x1, x2, x3, x4, x5] (.int v :: .int j :: .ref u :: st) cu (K, I, R, L, sz, ex) Q = ((K u).1 = 20 ∧ vp_in j (K u).2 ∧ X z 133 118 [x0, x1, x2, x3, x4, x5] (st) cu (K, up2 I u j.toNatClampNeg v, R, L, sz, ex) Q) := by
  rw [x133_117]
  rfl
theorem v133_118 {z : P0} {st : List Value} {cu : Nat × Nat} {Q : Res → Mem → Prop} {σ : Mem} {x1 x2 x3 x4 x5 : Option Value} {u : Nat} : X z 133 118 [some (.ref u), x1, x2, x3, x4, x5] (st) cu σ Q = (X z 133 119 [some (.ref u), x1, x2, x3, x4, x5] (.ref u :: st) cu σ Q) := by
  rw [x133_118]
  rfl
theorem v133_119 {z : P0} {st : List Value} {cu : Nat × Nat} {Q : Res → Mem → Prop} {K : Nat → Nat × Nat} {I : Nat → Nat → Int32} {R : Nat → Nat → Option Nat} {L : Nat → Nat → Int64} {sz : Nat} {ex : Bool} {x0 x1 x2 x3 x4 x5 : Option Value} {u : Nat} : X z 133 119 [x0, x1, x2, x3, x4, x5] (.ref u :: st) cu (K, I, R, L, sz, ex) Q = ((K u).1 = 111 ∧ X z 133 122 [x0, x1, x2, x3, x4, x5] (va_rf (R u 0) :: st) cu (K, I, R, L, sz, ex) Q) := by
  rw [x133_119]
  rfl
theorem v133_122 {z : P0} {st : List Value} {cu : Nat × Nat} {Q : Res → Mem → Prop} {σ : Mem} {x0 x1 x2 x3 x4 x5 : Option Value} : X z 133 122 [x0, x1, x2, x3, x4, x5] (st) cu σ Q = (X z 133 124 [x0, x1, x2, x3, x4, x5] (.int (nI 33) :: st) cu σ Q) := by
  rw [x133_122]
  rfl
theorem v133_124 {z : P0} {st : List Value} {cu : Nat × Nat} {Q : Res → Mem → Prop} {σ : Mem} {x0 x1 x2 x3 x5 : Option Value} {u : Int32} : X z 133 124 [x0, x1, x2, x3, some (.int u), x5] (st) cu σ Q = (X z 133 126 [x0, x1, x2, x3, some (.int u), x5] (.int u :: st) cu σ Q) := by
  rw [x133_124]
  rfl
theorem v133_126 {z : P0} {st : List Value} {cu : Nat × Nat} {Q : Res → Mem → Prop} {σ : Mem} {x0 x1 x2 x3 x4 x5 : Option Value} {u v : Int32} : X z 133 126 [x0, x1, x2, x3, x4, x5] (.int v :: .int u :: st) cu σ Q = (X z 133 127 [x0, x1, x2, x3, x4, x5] (.int (u + v) :: st) cu σ Q) := by
  rw [x133_126]
  rfl
theorem v133_127 {z : P0} {st : List Value} {cu : Nat × Nat} {Q : Res → Mem → Prop} {σ : Mem} {x0 x1 x3 x4 x5 : Option Value} {u : Int32} : X z 133 127 [x0, x1, some (.int u), x3, x4, x5] (st) cu σ Q = (X z 133 128 [x0, x1, some (.int u), x3, x4, x5] (.int u :: st) cu σ Q) := by
  rw [x133_127]
  rfl
theorem v133_128 {z : P0} {st : List Value} {cu : Nat × Nat} {Q : Res → Mem → Prop} {K : Nat → Nat × Nat} {I : Nat → Nat → Int32} {R : Nat → Nat → Option Nat} {L : Nat → Nat → Int64} {sz : Nat} {ex : Bool} {x0 x1 x2 x3 x4 x5 : Option Value} {u : Nat} {j v : Int32} : X z 133 128 [x0, x1, x2, x3, x4, x5] (.int v :: .int j :: .ref u :: st) cu (K, I, R, L, sz, ex) Q = ((K u).1 = 20 ∧ vp_in j (K u).2 ∧ X z 133 129 [x0, x1, x2, x3, x4, x5] (st) cu (K, up2 I u j.toNatClampNeg v, R, L, sz, ex) Q) := by
  rw [x133_128]
  rfl
theorem v133_129 {z : P0} {st : List Value} {cu : Nat × Nat} {Q : Res → Mem → Prop} {σ : Mem} {x1 x2 x3 x4 x5 : Option Value} {u : Nat} : X z 133 129 [some (.ref u), x1, x2, x3, x4, x5] (st) cu σ Q = (X z 133 130 [some (.ref u), x1, x2, x3, x4, x5] (.ref u :: st) cu σ Q) := by
  rw [x133_129]
  rfl
theorem v133_130 {z : P0} {st : List Value} {cu : Nat × Nat} {Q : Res → Mem → Prop} {K : Nat → Nat × Nat} {I : Nat → Nat → Int32} {R : Nat → Nat → Option Nat} {L : Nat → Nat → Int64} {sz : Nat} {ex : Bool} {x0 x1 x2 x3 x4 x5 : Option Value} {u : Nat} : X z 133 130 [x0, x1, x2, x3, x4, x5] (.ref u :: st) cu (K, I, R, L, sz, ex) Q = ((K u).1 = 111 ∧ X z 133 133 [x0, x1, x2, x3, x4, x5] (va_rf (R u 0) :: st) cu (K, I, R, L, sz, ex) Q) := by
  rw [x133_130]
  rfl
theorem v133_133 {z : P0} {st : List Value} {cu : Nat × Nat} {Q : Res → Mem → Prop} {σ : Mem} {x0 x1 x2 x3 x4 x5 : Option Value} : X z 133 133 [x0, x1, x2, x3, x4, x5] (st) cu σ Q = (X z 133 135 [x0, x1, x2, x3, x4, x5] (.int (nI 53) :: st) cu σ Q) := by
  rw [x133_133]
  rfl
theorem v133_135 {z : P0} {st : List Value} {cu : Nat × Nat} {Q : Res → Mem → Prop} {σ : Mem} {x0 x1 x2 x3 x5 : Option Value} {u : Int32} : X z 133 135 [x0, x1, x2, x3, some (.int u), x5] (st) cu σ Q = (X z 133 137 [x0, x1, x2, x3, some (.int u), x5] (.int u :: st) cu σ Q) := by
  rw [x133_135]
  rfl
theorem v133_137 {z : P0} {st : List Value} {cu : Nat × Nat} {Q : Res → Mem → Prop} {σ : Mem} {x0 x1 x2 x3 x4 x5 : Option Value} {u v : Int32} : X z 133 137 [x0, x1, x2, x3, x4, x5] (.int v :: .int u :: st) cu σ Q = (X z 133 138 [x0, x1, x2, x3, x4, x5] (.int (u + v) :: st) cu σ Q) := by
  rw [x133_137]
  rfl
theorem v133_138 {z : P0} {st : List Value} {cu : Nat × Nat} {Q : Res → Mem → Prop} {σ : Mem} {x0 x1 x2 x3 x4 x5 : Option Value} : X z 133 138 [x0, x1, x2, x3, x4, x5] (st) cu σ Q = (X z 133 139 [x0, x1, x2, x3, x4, x5] (.int (nI 4294967295) :: st) cu σ Q) := by
  rw [x133_138]
  rw [neg1]
  rfl
theorem v133_139 {z : P0} {st : List Value} {cu : Nat × Nat} {Q : Res → Mem → Prop} {K : Nat → Nat × Nat} {I : Nat → Nat → Int32} {R : Nat → Nat → Option Nat} {L : Nat → Nat → Int64} {sz : Nat} {ex : Bool} {x0 x1 x2 x3 x4 x5 : Option Value} {u : Nat} {j v : Int32} : X z 133 139 [x0, x1, x2, x3, x4, x5] (.int v :: .int j :: .ref u :: st) cu (K, I, R, L, sz, ex) Q = ((K u).1 = 20 ∧ vp_in j (K u).2 ∧ X z 133 140 [x0, x1, x2, x3, x4, x5] (st) cu (K, up2 I u j.toNatClampNeg v, R, L, sz, ex) Q) := by
  rw [x133_139]
  rfl
theorem v133_140 {z : P0} {st : List Value} {cu : Nat × Nat} {Q : Res → Mem → Prop} {σ : Mem} {x1 x2 x3 x4 x5 : Option Value} {u : Nat} : X z 133 140 [some (.ref u), x1, x2, x3, x4, x5] (st) cu σ Q = (X z 133 141 [some (.ref u), x1, x2, x3, x4, x5] (.ref u :: st) cu σ Q) := by
  rw [x133_140]
  rfl
theorem v133_141 {z : P0} {st : List Value} {cu : Nat × Nat} {Q : Res → Mem → Prop} {K : Nat → Nat × Nat} {I : Nat → Nat → Int32} {R : Nat → Nat → Option Nat} {L : Nat → Nat → Int64} {sz : Nat} {ex : Bool} {x0 x1 x2 x3 x4 x5 : Option Value} {u : Nat} : X z 133 141 [x0, x1, x2, x3, x4, x5] (.ref u :: st) cu (K, I, R, L, sz, ex) Q = ((K u).1 = 111 ∧ X z 133 144 [x0, x1, x2, x3, x4, x5] (va_rf (R u 0) :: st) cu (K, I, R, L, sz, ex) Q) := by
  rw [x133_141]
  rfl
theorem v133_144 {z : P0} {st : List Value} {cu : Nat × Nat} {Q : Res → Mem → Prop} {σ : Mem} {x0 x1 x2 x3 x4 x5 : Option Value} : X z 133 144 [x0, x1, x2, x3, x4, x5] (st) cu σ Q = (X z 133 146 [x0, x1, x2, x3, x4, x5] (.int (nI 73) :: st) cu σ Q) := by
  rw [x133_144]
  rfl
theorem v133_146 {z : P0} {st : List Value} {cu : Nat × Nat} {Q : Res → Mem → Prop} {σ : Mem} {x0 x1 x2 x3 x5 : Option Value} {u : Int32} : X z 133 146 [x0, x1, x2, x3, some (.int u), x5] (st) cu σ Q = (X z 133 148 [x0, x1, x2, x3, some (.int u), x5] (.int u :: st) cu σ Q) := by
  rw [x133_146]
  rfl
theorem v133_148 {z : P0} {st : List Value} {cu : Nat × Nat} {Q : Res → Mem → Prop} {σ : Mem} {x0 x1 x2 x3 x4 x5 : Option Value} {u v : Int32} : X z 133 148 [x0, x1, x2, x3, x4, x5] (.int v :: .int u :: st) cu σ Q = (X z 133 149 [x0, x1, x2, x3, x4, x5] (.int (u + v) :: st) cu σ Q) := by
  rw [x133_148]
  rfl
theorem v133_149 {z : P0} {st : List Value} {cu : Nat × Nat} {Q : Res → Mem → Prop} {σ : Mem} {x0 x1 x2 x3 x4 x5 : Option Value} : X z 133 149 [x0, x1, x2, x3, x4, x5] (st) cu σ Q = (X z 133 150 [x0, x1, x2, x3, x4, x5] (.int (nI 0) :: st) cu σ Q) := by
  rw [x133_149]
  rfl
theorem v133_150 {z : P0} {st : List Value} {cu : Nat × Nat} {Q : Res → Mem → Prop} {K : Nat → Nat × Nat} {I : Nat → Nat → Int32} {R : Nat → Nat → Option Nat} {L : Nat → Nat → Int64} {sz : Nat} {ex : Bool} {x0 x1 x2 x3 x4 x5 : Option Value} {u : Nat} {j v : Int32} : X z 133 150 [x0, x1, x2, x3, x4, x5] (.int v :: .int j :: .ref u :: st) cu (K, I, R, L, sz, ex) Q = ((K u).1 = 20 ∧ vp_in j (K u).2 ∧ X z 133 151 [x0, x1, x2, x3, x4, x5] (st) cu (K, up2 I u j.toNatClampNeg v, R, L, sz, ex) Q) := by
  rw [x133_150]
  rfl
theorem v133_151 {z : P0} {st : List Value} {cu : Nat × Nat} {Q : Res → Mem → Prop} {σ : Mem} {x1 x2 x3 x4 x5 : Option Value} {u : Nat} : X z 133 151 [some (.ref u), x1, x2, x3, x4, x5] (st) cu σ Q = (X z 133 152 [some (.ref u), x1, x2, x3, x4, x5] (.ref u :: st) cu σ Q) := by
  rw [x133_151]
  rfl
theorem v133_152 {z : P0} {st : List Value} {cu : Nat × Nat} {Q : Res → Mem → Prop} {K : Nat → Nat × Nat} {I : Nat → Nat → Int32} {R : Nat → Nat → Option Nat} {L : Nat → Nat → Int64} {sz : Nat} {ex : Bool} {x0 x1 x2 x3 x4 x5 : Option Value} {u : Nat} : X z 133 152 [x0, x1, x2, x3, x4, x5] (.ref u :: st) cu (K, I, R, L, sz, ex) Q = ((K u).1 = 111 ∧ X z 133 155 [x0, x1, x2, x3, x4, x5] (va_rf (R u 0) :: st) cu (K, I, R, L, sz, ex) Q) := by
  rw [x133_152]
  rfl
theorem v133_155 {z : P0} {st : List Value} {cu : Nat × Nat} {Q : Res → Mem → Prop} {σ : Mem} {x0 x1 x2 x3 x4 x5 : Option Value} : X z 133 155 [x0, x1, x2, x3, x4, x5] (st) cu σ Q = (X z 133 157 [x0, x1, x2, x3, x4, x5] (.int (nI 93) :: st) cu σ Q) := by
  rw [x133_155]
  rfl
theorem v133_157 {z : P0} {st : List Value} {cu : Nat × Nat} {Q : Res → Mem → Prop} {σ : Mem} {x0 x1 x2 x3 x5 : Option Value} {u : Int32} : X z 133 157 [x0, x1, x2, x3, some (.int u), x5] (st) cu σ Q = (X z 133 159 [x0, x1, x2, x3, some (.int u), x5] (.int u :: st) cu σ Q) := by
  rw [x133_157]
  rfl
theorem v133_159 {z : P0} {st : List Value} {cu : Nat × Nat} {Q : Res → Mem → Prop} {σ : Mem} {x0 x1 x2 x3 x4 x5 : Option Value} {u v : Int32} : X z 133 159 [x0, x1, x2, x3, x4, x5] (.int v :: .int u :: st) cu σ Q = (X z 133 160 [x0, x1, x2, x3, x4, x5] (.int (u + v) :: st) cu σ Q) := by
  rw [x133_159]
  rfl
theorem v133_160 {z : P0} {st : List Value} {cu : Nat × Nat} {Q : Res → Mem → Prop} {σ : Mem} {x0 x1 x2 x3 x4 x5 : Option Value} : X z 133 160 [x0, x1, x2, x3, x4, x5] (st) cu σ Q = (X z 133 161 [x0, x1, x2, x3, x4, x5] (.int (nI 4294967295) :: st) cu σ Q) := by
  rw [x133_160]
  rw [neg1]
  rfl
theorem v133_161 {z : P0} {st : List Value} {cu : Nat × Nat} {Q : Res → Mem → Prop} {K : Nat → Nat × Nat} {I : Nat → Nat → Int32} {R : Nat → Nat → Option Nat} {L : Nat → Nat → Int64} {sz : Nat} {ex : Bool} {x0 x1 x2 x3 x4 x5 : Option Value} {u : Nat} {j v : Int32} : X z 133 161 [x0, x1, x2, x3, x4, x5] (.int v :: .int j :: .ref u :: st) cu (K, I, R, L, sz, ex) Q = ((K u).1 = 20 ∧ vp_in j (K u).2 ∧ X z 133 162 [x0, x1, x2, x3, x4, x5] (st) cu (K, up2 I u j.toNatClampNeg v, R, L, sz, ex) Q) := by
  rw [x133_161]
  rfl
theorem v133_162 {z : P0} {st : List Value} {cu : Nat × Nat} {Q : Res → Mem → Prop} {σ : Mem} {x1 x2 x3 x4 x5 : Option Value} {u : Nat} : X z 133 162 [some (.ref u), x1, x2, x3, x4, x5] (st) cu σ Q = (X z 133 163 [some (.ref u), x1, x2, x3, x4, x5] (.ref u :: st) cu σ Q) := by
  rw [x133_162]
  rfl
theorem v133_163 {z : P0} {st : List Value} {cu : Nat × Nat} {Q : Res → Mem → Prop} {K : Nat → Nat × Nat} {I : Nat → Nat → Int32} {R : Nat → Nat → Option Nat} {L : Nat → Nat → Int64} {sz : Nat} {ex : Bool} {x0 x1 x2 x3 x4 x5 : Option Value} {u : Nat} : X z 133 163 [x0, x1, x2, x3, x4, x5] (.ref u :: st) cu (K, I, R, L, sz, ex) Q = ((K u).1 = 111 ∧ X z 133 166 [x0, x1, x2, x3, x4, x5] (va_rf (R u 0) :: st) cu (K, I, R, L, sz, ex) Q) := by
  rw [x133_163]
  rfl
theorem v133_166 {z : P0} {st : List Value} {cu : Nat × Nat} {Q : Res → Mem → Prop} {σ : Mem} {x0 x1 x2 x3 x4 x5 : Option Value} : X z 133 166 [x0, x1, x2, x3, x4, x5] (st) cu σ Q = (X z 133 168 [x0, x1, x2, x3, x4, x5] (.int (nI 113) :: st) cu σ Q) := by
  rw [x133_166]
  rfl
theorem v133_168 {z : P0} {st : List Value} {cu : Nat × Nat} {Q : Res → Mem → Prop} {σ : Mem} {x0 x1 x2 x3 x5 : Option Value} {u : Int32} : X z 133 168 [x0, x1, x2, x3, some (.int u), x5] (st) cu σ Q = (X z 133 170 [x0, x1, x2, x3, some (.int u), x5] (.int u :: st) cu σ Q) := by
  rw [x133_168]
  rfl
theorem v133_170 {z : P0} {st : List Value} {cu : Nat × Nat} {Q : Res → Mem → Prop} {σ : Mem} {x0 x1 x2 x3 x4 x5 : Option Value} {u v : Int32} : X z 133 170 [x0, x1, x2, x3, x4, x5] (.int v :: .int u :: st) cu σ Q = (X z 133 171 [x0, x1, x2, x3, x4, x5] (.int (u + v) :: st) cu σ Q) := by
  rw [x133_170]
  rfl
theorem v133_171 {z : P0} {st : List Value} {cu : Nat × Nat} {Q : Res → Mem → Prop} {σ : Mem} {x0 x1 x2 x3 x4 x5 : Option Value} : X z 133 171 [x0, x1, x2, x3, x4, x5] (st) cu σ Q = (X z 133 172 [x0, x1, x2, x3, x4, x5] (.int (nI 0) :: st) cu σ Q) := by
  rw [x133_171]
  rfl
theorem v133_172 {z : P0} {st : List Value} {cu : Nat × Nat} {Q : Res → Mem → Prop} {K : Nat → Nat × Nat} {I : Nat → Nat → Int32} {R : Nat → Nat → Option Nat} {L : Nat → Nat → Int64} {sz : Nat} {ex : Bool} {x0 x1 x2 x3 x4 x5 : Option Value} {u : Nat} {j v : Int32} : X z 133 172 [x0, x1, x2, x3, x4, x5] (.int v :: .int j :: .ref u :: st) cu (K, I, R, L, sz, ex) Q = ((K u).1 = 20 ∧ vp_in j (K u).2 ∧ X z 133 173 [x0, x1, x2, x3, x4, x5] (st) cu (K, up2 I u j.toNatClampNeg v, R, L, sz, ex) Q) := by
  rw [x133_172]
  rfl
theorem v133_173 {z : P0} {st : List Value} {cu : Nat × Nat} {Q : Res → Mem → Prop} {σ : Mem} {x1 x2 x3 x4 x5 : Option Value} {u : Nat} : X z 133 173 [some (.ref u), x1, x2, x3, x4, x5] (st) cu σ Q = (X z 133 174 [some (.ref u), x1, x2, x3, x4, x5] (.ref u :: st) cu σ Q) := by
  rw [x133_173]
  rfl
theorem v133_174 {z : P0} {st : List Value} {cu : Nat × Nat} {Q : Res → Mem → Prop} {K : Nat → Nat × Nat} {I : Nat → Nat → Int32} {R : Nat → Nat → Option Nat} {L : Nat → Nat → Int64} {sz : Nat} {ex : Bool} {x0 x1 x2 x3 x4 x5 : Option Value} {u : Nat} : X z 133 174 [x0, x1, x2, x3, x4, x5] (.ref u :: st) cu (K, I, R, L, sz, ex) Q = ((K u).1 = 111 ∧ X z 133 177 [x0, x1, x2, x3, x4, x5] (va_rf (R u 0) :: st) cu (K, I, R, L, sz, ex) Q) := by
  rw [x133_174]
  rfl
theorem v133_177 {z : P0} {st : List Value} {cu : Nat × Nat} {Q : Res → Mem → Prop} {σ : Mem} {x0 x1 x2 x3 x4 x5 : Option Value} : X z 133 177 [x0, x1, x2, x3, x4, x5] (st) cu σ Q = (X z 133 180 [x0, x1, x2, x3, x4, x5] (.int (nI 133) :: st) cu σ Q) := by
  rw [x133_177]
  rfl
theorem v133_180 {z : P0} {st : List Value} {cu : Nat × Nat} {Q : Res → Mem → Prop} {σ : Mem} {x0 x1 x2 x3 x5 : Option Value} {u : Int32} : X z 133 180 [x0, x1, x2, x3, some (.int u), x5] (st) cu σ Q = (X z 133 182 [x0, x1, x2, x3, some (.int u), x5] (.int u :: st) cu σ Q) := by
  rw [x133_180]
  rfl
theorem v133_182 {z : P0} {st : List Value} {cu : Nat × Nat} {Q : Res → Mem → Prop} {σ : Mem} {x0 x1 x2 x3 x4 x5 : Option Value} {u v : Int32} : X z 133 182 [x0, x1, x2, x3, x4, x5] (.int v :: .int u :: st) cu σ Q = (X z 133 183 [x0, x1, x2, x3, x4, x5] (.int (u + v) :: st) cu σ Q) := by
  rw [x133_182]
  rfl
theorem v133_183 {z : P0} {st : List Value} {cu : Nat × Nat} {Q : Res → Mem → Prop} {σ : Mem} {x1 x2 x3 x4 x5 : Option Value} {u : Nat} : X z 133 183 [some (.ref u), x1, x2, x3, x4, x5] (st) cu σ Q = (X z 133 184 [some (.ref u), x1, x2, x3, x4, x5] (.ref u :: st) cu σ Q) := by
  rw [x133_183]
  rfl
theorem v133_184 {z : P0} {st : List Value} {cu : Nat × Nat} {Q : Res → Mem → Prop} {K : Nat → Nat × Nat} {I : Nat → Nat → Int32} {R : Nat → Nat → Option Nat} {L : Nat → Nat → Int64} {sz : Nat} {ex : Bool} {x0 x1 x2 x3 x4 x5 : Option Value} {u : Nat} : X z 133 184 [x0, x1, x2, x3, x4, x5] (.ref u :: st) cu (K, I, R, L, sz, ex) Q = ((K u).1 = 111 ∧ X z 133 187 [x0, x1, x2, x3, x4, x5] (.int (I u 3) :: st) cu (K, I, R, L, sz, ex) Q) := by
  rw [x133_184]
  rfl
theorem v133_187 {z : P0} {st : List Value} {cu : Nat × Nat} {Q : Res → Mem → Prop} {K : Nat → Nat × Nat} {I : Nat → Nat → Int32} {R : Nat → Nat → Option Nat} {L : Nat → Nat → Int64} {sz : Nat} {ex : Bool} {x0 x1 x2 x3 x4 x5 : Option Value} {u : Nat} {j v : Int32} : X z 133 187 [x0, x1, x2, x3, x4, x5] (.int v :: .int j :: .ref u :: st) cu (K, I, R, L, sz, ex) Q = ((K u).1 = 20 ∧ vp_in j (K u).2 ∧ X z 133 188 [x0, x1, x2, x3, x4, x5] (st) cu (K, up2 I u j.toNatClampNeg v, R, L, sz, ex) Q) := by
  rw [x133_187]
  rfl
theorem v133_188 {z : P0} {st : List Value} {cu : Nat × Nat} {Q : Res → Mem → Prop} {σ : Mem} {x0 x1 x2 x3 x4 x5 : Option Value} : X z 133 188 [x0, x1, x2, x3, x4, x5] (st) cu σ Q = (X z 133 189 [x0, x1, x2, x3, x4, x5] (.int (nI 0) :: st) cu σ Q) := by
  rw [x133_188]
  rfl
theorem v133_189 {z : P0} {st : List Value} {cu : Nat × Nat} {Q : Res → Mem → Prop} {σ : Mem} {x0 x1 x2 x3 x4 x5 : Option Value} {u : Int32} : X z 133 189 [x0, x1, x2, x3, x4, x5] (.int u :: st) cu σ Q = (cat2 x4 = false ∧ X z 133 191 [x0, x1, x2, x3, x4, some (.int u)] (st) cu σ Q) := by
  rw [x133_189]
  obtain ⟨K, I, R, L, sz, ex⟩ := σ
  exact i_istore.trans sl_5
theorem v133_191 {z : P0} {st : List Value} {cu : Nat × Nat} {Q : Res → Mem → Prop} {σ : Mem} {x0 x1 x2 x3 x4 : Option Value} {u : Int32} : X z 133 191 [x0, x1, x2, x3, x4, some (.int u)] (st) cu σ Q = (X z 133 193 [x0, x1, x2, x3, x4, some (.int u)] (.int u :: st) cu σ Q) := by
  rw [x133_191]
  rfl
theorem v133_193 {z : P0} {st : List Value} {cu : Nat × Nat} {Q : Res → Mem → Prop} {σ : Mem} {x1 x2 x3 x4 x5 : Option Value} {u : Nat} : X z 133 193 [some (.ref u), x1, x2, x3, x4, x5] (st) cu σ Q = (X z 133 194 [some (.ref u), x1, x2, x3, x4, x5] (.ref u :: st) cu σ Q) := by
  rw [x133_193]
  rfl
theorem v133_194 {z : P0} {st : List Value} {cu : Nat × Nat} {Q : Res → Mem → Prop} {K : Nat → Nat × Nat} {I : Nat → Nat → Int32} {R : Nat → Nat → Option Nat} {L : Nat → Nat → Int64} {sz : Nat} {ex : Bool} {x0 x1 x2 x3 x4 x5 : Option Value} {u : Nat} : X z 133 194 [x0, x1, x2, x3, x4, x5] (.ref u :: st) cu (K, I, R, L, sz, ex) Q = ((K u).1 = 111 ∧ X z 133 197 [x0, x1, x2, x3, x4, x5] (.int (I u 3) :: st) cu (K, I, R, L, sz, ex) Q) := by
  rw [x133_194]
  rfl
theorem v133_197 {z : P0} {st : List Value} {cu : Nat × Nat} {Q : Res → Mem → Prop} {σ : Mem} {x0 x1 x2 x3 x4 x5 : Option Value} {u v : Int32} : X z 133 197 [x0, x1, x2, x3, x4, x5] (.int v :: .int u :: st) cu σ Q = (if u < v then X z 133 200 [x0, x1, x2, x3, x4, x5] (st) cu σ Q else X z 133 230 [x0, x1, x2, x3, x4, x5] (st) cu σ Q) := by
  rw [x133_197]
  obtain ⟨K, I, R, L, sz, ex⟩ := σ
  exact br_ge
theorem v133_200 {z : P0} {st : List Value} {cu : Nat × Nat} {Q : Res → Mem → Prop} {σ : Mem} {x1 x2 x3 x4 x5 : Option Value} {u : Nat} : X z 133 200 [some (.ref u), x1, x2, x3, x4, x5] (st) cu σ Q = (X z 133 201 [some (.ref u), x1, x2, x3, x4, x5] (.ref u :: st) cu σ Q) := by
  rw [x133_200]
  rfl
theorem v133_201 {z : P0} {st : List Value} {cu : Nat × Nat} {Q : Res → Mem → Prop} {K : Nat → Nat × Nat} {I : Nat → Nat → Int32} {R : Nat → Nat → Option Nat} {L : Nat → Nat → Int64} {sz : Nat} {ex : Bool} {x0 x1 x2 x3 x4 x5 : Option Value} {u : Nat} : X z 133 201 [x0, x1, x2, x3, x4, x5] (.ref u :: st) cu (K, I, R, L, sz, ex) Q = ((K u).1 = 111 ∧ X z 133 204 [x0, x1, x2, x3, x4, x5] (va_rf (R u 0) :: st) cu (K, I, R, L, sz, ex) Q) := by
  rw [x133_201]
  rfl
theorem v133_204 {z : P0} {st : List Value} {cu : Nat × Nat} {Q : Res → Mem → Prop} {σ : Mem} {x0 x1 x2 x3 x4 x5 : Option Value} : X z 133 204 [x0, x1, x2, x3, x4, x5] (st) cu σ Q = (X z 133 207 [x0, x1, x2, x3, x4, x5] (.int (nI 153) :: st) cu σ Q) := by
  rw [x133_204]
  rfl
theorem v133_207 {z : P0} {st : List Value} {cu : Nat × Nat} {Q : Res → Mem → Prop} {σ : Mem} {x0 x1 x2 x3 x4 x5 : Option Value} : X z 133 207 [x0, x1, x2, x3, x4, x5] (st) cu σ Q = (X z 133 209 [x0, x1, x2, x3, x4, x5] (.int (nI 8) :: st) cu σ Q) := by
  rw [x133_207]
  rfl
theorem v133_209 {z : P0} {st : List Value} {cu : Nat × Nat} {Q : Res → Mem → Prop} {σ : Mem} {x0 x1 x2 x3 x5 : Option Value} {u : Int32} : X z 133 209 [x0, x1, x2, x3, some (.int u), x5] (st) cu σ Q = (X z 133 211 [x0, x1, x2, x3, some (.int u), x5] (.int u :: st) cu σ Q) := by
  rw [x133_209]
  rfl
theorem v133_211 {z : P0} {st : List Value} {cu : Nat × Nat} {Q : Res → Mem → Prop} {σ : Mem} {x0 x1 x2 x3 x4 x5 : Option Value} {u v : Int32} : X z 133 211 [x0, x1, x2, x3, x4, x5] (.int v :: .int u :: st) cu σ Q = (X z 133 212 [x0, x1, x2, x3, x4, x5] (.int (u * v) :: st) cu σ Q) := by
  rw [x133_211]
  rfl
theorem v133_212 {z : P0} {st : List Value} {cu : Nat × Nat} {Q : Res → Mem → Prop} {σ : Mem} {x0 x1 x2 x3 x4 x5 : Option Value} {u v : Int32} : X z 133 212 [x0, x1, x2, x3, x4, x5] (.int v :: .int u :: st) cu σ Q = (X z 133 213 [x0, x1, x2, x3, x4, x5] (.int (u + v) :: st) cu σ Q) := by
  rw [x133_212]
  rfl
theorem v133_213 {z : P0} {st : List Value} {cu : Nat × Nat} {Q : Res → Mem → Prop} {σ : Mem} {x0 x1 x2 x3 x4 : Option Value} {u : Int32} : X z 133 213 [x0, x1, x2, x3, x4, some (.int u)] (st) cu σ Q = (X z 133 215 [x0, x1, x2, x3, x4, some (.int u)] (.int u :: st) cu σ Q) := by
  rw [x133_213]
  rfl
theorem v133_215 {z : P0} {st : List Value} {cu : Nat × Nat} {Q : Res → Mem → Prop} {σ : Mem} {x0 x1 x2 x3 x4 x5 : Option Value} {u v : Int32} : X z 133 215 [x0, x1, x2, x3, x4, x5] (.int v :: .int u :: st) cu σ Q = (X z 133 216 [x0, x1, x2, x3, x4, x5] (.int (u + v) :: st) cu σ Q) := by
  rw [x133_215]
  rfl
theorem v133_216 {z : P0} {st : List Value} {cu : Nat × Nat} {Q : Res → Mem → Prop} {σ : Mem} {x1 x2 x3 x4 x5 : Option Value} {u : Nat} : X z 133 216 [some (.ref u), x1, x2, x3, x4, x5] (st) cu σ Q = (X z 133 217 [some (.ref u), x1, x2, x3, x4, x5] (.ref u :: st) cu σ Q) := by
  rw [x133_216]
  rfl
theorem v133_217 {z : P0} {st : List Value} {cu : Nat × Nat} {Q : Res → Mem → Prop} {K : Nat → Nat × Nat} {I : Nat → Nat → Int32} {R : Nat → Nat → Option Nat} {L : Nat → Nat → Int64} {sz : Nat} {ex : Bool} {x0 x1 x2 x3 x4 x5 : Option Value} {u : Nat} : X z 133 217 [x0, x1, x2, x3, x4, x5] (.ref u :: st) cu (K, I, R, L, sz, ex) Q = ((K u).1 = 111 ∧ X z 133 220 [x0, x1, x2, x3, x4, x5] (va_rf (R u 4) :: st) cu (K, I, R, L, sz, ex) Q) := by
  rw [x133_217]
  rfl
theorem v133_220 {z : P0} {st : List Value} {cu : Nat × Nat} {Q : Res → Mem → Prop} {σ : Mem} {x0 x1 x2 x3 x4 : Option Value} {u : Int32} : X z 133 220 [x0, x1, x2, x3, x4, some (.int u)] (st) cu σ Q = (X z 133 222 [x0, x1, x2, x3, x4, some (.int u)] (.int u :: st) cu σ Q) := by
  rw [x133_220]
  rfl
theorem v133_222 {z : P0} {st : List Value} {cu : Nat × Nat} {Q : Res → Mem → Prop} {K : Nat → Nat × Nat} {I : Nat → Nat → Int32} {R : Nat → Nat → Option Nat} {L : Nat → Nat → Int64} {sz : Nat} {ex : Bool} {x0 x1 x2 x3 x4 x5 : Option Value} {u : Nat} {v : Int32} : X z 133 222 [x0, x1, x2, x3, x4, x5] (.int v :: .ref u :: st) cu (K, I, R, L, sz, ex) Q = (((K u).1 = 20 ∨ (K u).1 = 50) ∧ vp_in v (K u).2 ∧ X z 133 223 [x0, x1, x2, x3, x4, x5] (.int (I u v.toNatClampNeg) :: st) cu (K, I, R, L, sz, ex) Q) := by
  rw [x133_222]
  rfl
theorem v133_223 {z : P0} {st : List Value} {cu : Nat × Nat} {Q : Res → Mem → Prop} {K : Nat → Nat × Nat} {I : Nat → Nat → Int32} {R : Nat → Nat → Option Nat} {L : Nat → Nat → Int64} {sz : Nat} {ex : Bool} {x0 x1 x2 x3 x4 x5 : Option Value} {u : Nat} {j v : Int32} : X z 133 223 [x0, x1, x2, x3, x4, x5] (.int v :: .int j :: .ref u :: st) cu (K, I, R, L, sz, ex) Q = ((K u).1 = 20 ∧ vp_in j (K u).2 ∧ X z 133 224 [x0, x1, x2, x3, x4, x5] (st) cu (K, up2 I u j.toNatClampNeg v, R, L, sz, ex) Q) := by
  rw [x133_223]
  rfl
theorem v133_224 {z : P0} {st : List Value} {cu : Nat × Nat} {Q : Res → Mem → Prop} {σ : Mem} {x0 x1 x2 x3 x4 : Option Value} {u : Int32} : X z 133 224 [x0, x1, x2, x3, x4, some (.int u)] (st) cu σ Q = (cat2 x4 = false ∧ X z 133 227 [x0, x1, x2, x3, x4, some (.int (u + nI 1))] (st) cu σ Q) := by
  rw [x133_224]
  obtain ⟨K, I, R, L, sz, ex⟩ := σ
  exact i_iinc.trans (gl_5.trans (ldI_i.trans sl_5))
theorem v133_227 {z : P0} {st : List Value} {cu : Nat × Nat} {Q : Res → Mem → Prop} {σ : Mem} {x0 x1 x2 x3 x4 x5 : Option Value} : X z 133 227 [x0, x1, x2, x3, x4, x5] (st) cu σ Q = (X z 133 191 [x0, x1, x2, x3, x4, x5] (st) cu σ Q) := by
  rw [x133_227]
  rfl
theorem v133_230 {z : P0} {st : List Value} {cu : Nat × Nat} {Q : Res → Mem → Prop} {σ : Mem} {x1 x2 x3 x4 x5 : Option Value} {u : Nat} : X z 133 230 [some (.ref u), x1, x2, x3, x4, x5] (st) cu σ Q = (X z 133 231 [some (.ref u), x1, x2, x3, x4, x5] (.ref u :: st) cu σ Q) := by
  rw [x133_230]
  rfl
theorem v133_231 {z : P0} {st : List Value} {cu : Nat × Nat} {Q : Res → Mem → Prop} {σ : Mem} {x0 x1 x2 x3 x4 x5 : Option Value} : X z 133 231 [x0, x1, x2, x3, x4, x5] (st) cu σ Q = (X z 133 232 [x0, x1, x2, x3, x4, x5] (.int (nI 0) :: st) cu σ Q) := by
  rw [x133_231]
  rfl
theorem v133_232 {z : P0} {st : List Value} {cu : Nat × Nat} {Q : Res → Mem → Prop} {K : Nat → Nat × Nat} {I : Nat → Nat → Int32} {R : Nat → Nat → Option Nat} {L : Nat → Nat → Int64} {sz : Nat} {ex : Bool} {x0 x1 x2 x3 x4 x5 : Option Value} {u : Nat} {v : Int32} : X z 133 232 [x0, x1, x2, x3, x4, x5] (.int v :: .ref u :: st) cu (K, I, R, L, sz, ex) Q = ((K u).1 = 111 ∧ X z 133 235 [x0, x1, x2, x3, x4, x5] (st) cu (K, up2 I u 3 v, R, L, sz, ex) Q) := by
  rw [x133_232]
  exact i_putI
theorem v133_235 {z : P0} {st : List Value} {cu : Nat × Nat} {Q : Res → Mem → Prop} {σ : Mem} {x0 x1 x2 x3 x5 : Option Value} {u : Int32} : X z 133 235 [x0, x1, x2, x3, some (.int u), x5] (st) cu σ Q = (X z 133 237 [x0, x1, x2, x3, some (.int u), x5] (.int u :: st) cu σ Q) := by
  rw [x133_235]
  rfl
theorem v133_237 {z : P0} {cu : Nat × Nat} {Q : Res → Mem → Prop} {σ : Mem} {x0 x1 x2 x3 x4 x5 : Option Value} {v : Int32} : X z 133 237 [x0, x1, x2, x3, x4, x5] ([.int v]) cu σ Q = (Q (.inl (some (.int v))) σ) := by
  rw [x133_237]
  exact propext ⟨fun h => h.2, fun h => ⟨trivial, h⟩⟩
theorem v134_0 {z : P0} {st : List Value} {cu : Nat × Nat} {Q : Res → Mem → Prop} {σ : Mem} {x1 x2 x3 : Option Value} {u : Nat} : X z 134 0 [some (.ref u), x1, x2, x3] (st) cu σ Q = (X z 134 1 [some (.ref u), x1, x2, x3] (.ref u :: st) cu σ Q) := by
  rw [x134_0]
  rfl
theorem v134_1 {z : P0} {st : List Value} {cu : Nat × Nat} {Q : Res → Mem → Prop} {σ : Mem} {x0 x1 x2 x3 : Option Value} : X z 134 1 [x0, x1, x2, x3] (st) cu σ Q = (X z 134 2 [x0, x1, x2, x3] (.int (nI 1) :: st) cu σ Q) := by
  rw [x134_1]
  rfl
theorem u134_2 {z : P0} {ls : Lcs} {st : List Value} {K : Nat → Nat × Nat} {I : Nat → Nat → Int32} {R : Nat → Nat → Option Nat} {L : Nat → Nat → Int64} {sz : Nat} {ex : Bool} {Q : Res → Mem → Prop} {x : Nat} {a0 : Int32} : X z 134 2 ls (.int a0 :: .ref x :: st) (0, 0) (K, I, R, L, sz, ex) Q = ((K x).1 = 111 ∧ wsum st ≤ 8 ∧ X z 150 0 [some (.ref x), some (.int a0), none] [] (0, 0) (K, I, R, L, sz, ex) (aftr (X z) mT 134 2 ls st (0, 0) Q)) := v134_2 (c := 0) (n := 0)
theorem v134_5 {z : P0} {st : List Value} {cu : Nat × Nat} {Q : Res → Mem → Prop} {σ : Mem} {x1 x2 x3 : Option Value} {u : Nat} : X z 134 5 [some (.ref u), x1, x2, x3] (st) cu σ Q = (X z 134 6 [some (.ref u), x1, x2, x3] (.ref u :: st) cu σ Q) := by
  rw [x134_5]
  rfl
theorem v134_6 {z : P0} {st : List Value} {cu : Nat × Nat} {Q : Res → Mem → Prop} {K : Nat → Nat × Nat} {I : Nat → Nat → Int32} {R : Nat → Nat → Option Nat} {L : Nat → Nat → Int64} {sz : Nat} {ex : Bool} {x0 x1 x2 x3 : Option Value} {u : Nat} : X z 134 6 [x0, x1, x2, x3] (.ref u :: st) cu (K, I, R, L, sz, ex) Q = ((K u).1 = 111 ∧ X z 134 9 [x0, x1, x2, x3] (.int (I u 3) :: st) cu (K, I, R, L, sz, ex) Q) := by
  rw [x134_6]
  rfl
theorem v134_9 {z : P0} {st : List Value} {cu : Nat × Nat} {Q : Res → Mem → Prop} {σ : Mem} {x0 x1 x2 x3 : Option Value} {u v : Int32} : X z 134 9 [x0, x1, x2, x3] (.int v :: .int u :: st) cu σ Q = (if u = v then X z 134 12 [x0, x1, x2, x3] (st) cu σ Q else X z 134 24 [x0, x1, x2, x3] (st) cu σ Q) := by
  rw [x134_9]
  obtain ⟨K, I, R, L, sz, ex⟩ := σ
  exact br_ne
theorem v134_12 {z : P0} {st : List Value} {cu : Nat × Nat} {Q : Res → Mem → Prop} {σ : Mem} {x1 x2 x3 : Option Value} {u : Nat} : X z 134 12 [some (.ref u), x1, x2, x3] (st) cu σ Q = (X z 134 13 [some (.ref u), x1, x2, x3] (.ref u :: st) cu σ Q) := by
  rw [x134_12]
  rfl
theorem v134_13 {z : P0} {st : List Value} {cu : Nat × Nat} {Q : Res → Mem → Prop} {σ : Mem} {x0 x1 x2 x3 : Option Value} : X z 134 13 [x0, x1, x2, x3] (st) cu σ Q = (X z 134 14 [x0, x1, x2, x3] (.int (nI 1) :: st) cu σ Q) := by
  rw [x134_13]
  rfl
theorem u134_14 {z : P0} {ls : Lcs} {st : List Value} {K : Nat → Nat × Nat} {I : Nat → Nat → Int32} {R : Nat → Nat → Option Nat} {L : Nat → Nat → Int64} {sz : Nat} {ex : Bool} {Q : Res → Mem → Prop} {x : Nat} {a0 : Int32} : X z 134 14 ls (.int a0 :: .ref x :: st) (0, 0) (K, I, R, L, sz, ex) Q = ((K x).1 = 111 ∧ wsum st ≤ 8 ∧ X z 151 0 [some (.ref x), some (.int a0)] [] (0, 0) (K, I, R, L, sz, ex) (aftr (X z) mT 134 14 ls st (0, 0) Q)) := v134_14 (c := 0) (n := 0)
theorem v134_17 {z : P0} {st : List Value} {cu : Nat × Nat} {Q : Res → Mem → Prop} {σ : Mem} {x0 x1 x2 x3 : Option Value} {u : Int32} : X z 134 17 [x0, x1, x2, x3] (.int u :: st) cu σ Q = (if u = nI 0 then X z 134 24 [x0, x1, x2, x3] (st) cu σ Q else X z 134 20 [x0, x1, x2, x3] (st) cu σ Q) := by
  rw [x134_17]
  rw [nI_0]
  obtain ⟨K, I, R, L, sz, ex⟩ := σ
  exact br_ite
theorem v134_20 {z : P0} {st : List Value} {cu : Nat × Nat} {Q : Res → Mem → Prop} {σ : Mem} {x0 x1 x2 x3 : Option Value} : X z 134 20 [x0, x1, x2, x3] (st) cu σ Q = (X z 134 21 [x0, x1, x2, x3] (.int (nI 1) :: st) cu σ Q) := by
  rw [x134_20]
  rfl
theorem v134_21 {z : P0} {st : List Value} {cu : Nat × Nat} {Q : Res → Mem → Prop} {σ : Mem} {x0 x1 x2 x3 : Option Value} : X z 134 21 [x0, x1, x2, x3] (st) cu σ Q = (X z 134 25 [x0, x1, x2, x3] (st) cu σ Q) := by
  rw [x134_21]
  rfl
theorem v134_24 {z : P0} {st : List Value} {cu : Nat × Nat} {Q : Res → Mem → Prop} {σ : Mem} {x0 x1 x2 x3 : Option Value} : X z 134 24 [x0, x1, x2, x3] (st) cu σ Q = (X z 134 25 [x0, x1, x2, x3] (.int (nI 0) :: st) cu σ Q) := by
  rw [x134_24]
  rfl
theorem v134_25 {z : P0} {st : List Value} {cu : Nat × Nat} {Q : Res → Mem → Prop} {σ : Mem} {x0 x1 x2 x3 : Option Value} {u : Int32} : X z 134 25 [x0, x1, x2, x3] (.int u :: st) cu σ Q = (cat2 x0 = false ∧ X z 134 26 [x0, some (.int u), x2, x3] (st) cu σ Q) := by
  rw [x134_25]
  obtain ⟨K, I, R, L, sz, ex⟩ := σ
  exact i_istore_n.trans sl_1
theorem v134_26 {z : P0} {st : List Value} {cu : Nat × Nat} {Q : Res → Mem → Prop} {σ : Mem} {x1 x2 x3 : Option Value} {u : Nat} : X z 134 26 [some (.ref u), x1, x2, x3] (st) cu σ Q = (X z 134 27 [some (.ref u), x1, x2, x3] (.ref u :: st) cu σ Q) := by
  rw [x134_26]
  rfl
theorem v134_27 {z : P0} {st : List Value} {cu : Nat × Nat} {Q : Res → Mem → Prop} {σ : Mem} {x0 x2 x3 : Option Value} {u : Int32} : X z 134 27 [x0, some (.int u), x2, x3] (st) cu σ Q = (X z 134 28 [x0, some (.int u), x2, x3] (.int u :: st) cu σ Q) := by
  rw [x134_27]
  rfl
theorem v134_28 {z : P0} {st : List Value} {cu : Nat × Nat} {Q : Res → Mem → Prop} {σ : Mem} {x0 x1 x2 x3 : Option Value} {u : Int32} : X z 134 28 [x0, x1, x2, x3] (.int u :: st) cu σ Q = (if u = nI 0 then X z 134 31 [x0, x1, x2, x3] (st) cu σ Q else X z 134 35 [x0, x1, x2, x3] (st) cu σ Q) := by
  rw [x134_28]
  rw [nI_0]
  obtain ⟨K, I, R, L, sz, ex⟩ := σ
  exact br_ne
theorem v134_31 {z : P0} {st : List Value} {cu : Nat × Nat} {Q : Res → Mem → Prop} {σ : Mem} {x0 x1 x2 x3 : Option Value} : X z 134 31 [x0, x1, x2, x3] (st) cu σ Q = (X z 134 32 [x0, x1, x2, x3] (.int (nI 1) :: st) cu σ Q) := by
  rw [x134_31]
  rfl
theorem v134_32 {z : P0} {st : List Value} {cu : Nat × Nat} {Q : Res → Mem → Prop} {σ : Mem} {x0 x1 x2 x3 : Option Value} : X z 134 32 [x0, x1, x2, x3] (st) cu σ Q = (X z 134 52 [x0, x1, x2, x3] (st) cu σ Q) := by
  rw [x134_32]
  rfl
theorem v134_35 {z : P0} {st : List Value} {cu : Nat × Nat} {Q : Res → Mem → Prop} {σ : Mem} {x1 x2 x3 : Option Value} {u : Nat} : X z 134 35 [some (.ref u), x1, x2, x3] (st) cu σ Q = (X z 134 36 [some (.ref u), x1, x2, x3] (.ref u :: st) cu σ Q) := by
  rw [x134_35]
  rfl
theorem v134_36 {z : P0} {st : List Value} {cu : Nat × Nat} {Q : Res → Mem → Prop} {K : Nat → Nat × Nat} {I : Nat → Nat → Int32} {R : Nat → Nat → Option Nat} {L : Nat → Nat → Int64} {sz : Nat} {ex : Bool} {x0 x1 x2 x3 : Option Value} {u : Nat} : X z 134 36 [x0, x1, x2, x3] (.ref u :: st) cu (K, I, R, L, sz, ex) Q = ((K u).1 = 111 ∧ X z 134 39 [x0, x1, x2, x3] (va_rf (R u 0) :: st) cu (K, I, R, L, sz, ex) Q) := by
  rw [x134_36]
  rfl
theorem v134_39 {z : P0} {st : List Value} {cu : Nat × Nat} {Q : Res → Mem → Prop} {σ : Mem} {x0 x1 x2 x3 : Option Value} : X z 134 39 [x0, x1, x2, x3] (st) cu σ Q = (X z 134 41 [x0, x1, x2, x3] (.int (nI 7) :: st) cu σ Q) := by
  rw [x134_39]
  rfl
theorem v134_41 {z : P0} {st : List Value} {cu : Nat × Nat} {Q : Res → Mem → Prop} {K : Nat → Nat × Nat} {I : Nat → Nat → Int32} {R : Nat → Nat → Option Nat} {L : Nat → Nat → Int64} {sz : Nat} {ex : Bool} {x0 x1 x2 x3 : Option Value} {u : Nat} {v : Int32} : X z 134 41 [x0, x1, x2, x3] (.int v :: .ref u :: st) cu (K, I, R, L, sz, ex) Q = (((K u).1 = 20 ∨ (K u).1 = 50) ∧ vp_in v (K u).2 ∧ X z 134 42 [x0, x1, x2, x3] (.int (I u v.toNatClampNeg) :: st) cu (K, I, R, L, sz, ex) Q) := by
  rw [x134_41]
  rfl
theorem v134_42 {z : P0} {st : List Value} {cu : Nat × Nat} {Q : Res → Mem → Prop} {σ : Mem} {x0 x1 x2 x3 : Option Value} : X z 134 42 [x0, x1, x2, x3] (st) cu σ Q = (X z 134 44 [x0, x1, x2, x3] (.int (nI 10) :: st) cu σ Q) := by
  rw [x134_42]
  rfl
theorem v134_44 {z : P0} {st : List Value} {cu : Nat × Nat} {Q : Res → Mem → Prop} {σ : Mem} {x0 x1 x2 x3 : Option Value} {u v : Int32} : X z 134 44 [x0, x1, x2, x3] (.int v :: .int u :: st) cu σ Q = (if u = v then X z 134 47 [x0, x1, x2, x3] (st) cu σ Q else X z 134 51 [x0, x1, x2, x3] (st) cu σ Q) := by
  rw [x134_44]
  obtain ⟨K, I, R, L, sz, ex⟩ := σ
  exact br_ne
theorem v134_47 {z : P0} {st : List Value} {cu : Nat × Nat} {Q : Res → Mem → Prop} {σ : Mem} {x0 x1 x2 x3 : Option Value} : X z 134 47 [x0, x1, x2, x3] (st) cu σ Q = (X z 134 48 [x0, x1, x2, x3] (.int (nI 2) :: st) cu σ Q) := by
  rw [x134_47]
  rfl
theorem v134_48 {z : P0} {st : List Value} {cu : Nat × Nat} {Q : Res → Mem → Prop} {σ : Mem} {x0 x1 x2 x3 : Option Value} : X z 134 48 [x0, x1, x2, x3] (st) cu σ Q = (X z 134 52 [x0, x1, x2, x3] (st) cu σ Q) := by
  rw [x134_48]
  rfl
theorem v134_51 {z : P0} {st : List Value} {cu : Nat × Nat} {Q : Res → Mem → Prop} {σ : Mem} {x0 x1 x2 x3 : Option Value} : X z 134 51 [x0, x1, x2, x3] (st) cu σ Q = (X z 134 52 [x0, x1, x2, x3] (.int (nI 0) :: st) cu σ Q) := by
  rw [x134_51]
  rfl
theorem v134_52 {z : P0} {st : List Value} {cu : Nat × Nat} {Q : Res → Mem → Prop} {K : Nat → Nat × Nat} {I : Nat → Nat → Int32} {R : Nat → Nat → Option Nat} {L : Nat → Nat → Int64} {sz : Nat} {ex : Bool} {x0 x1 x2 x3 : Option Value} {u : Nat} {v : Int32} : X z 134 52 [x0, x1, x2, x3] (.int v :: .ref u :: st) cu (K, I, R, L, sz, ex) Q = ((K u).1 = 111 ∧ X z 134 55 [x0, x1, x2, x3] (st) cu (K, up2 I u 5 v, R, L, sz, ex) Q) := by
  rw [x134_52]
  exact i_putI
theorem v134_55 {z : P0} {st : List Value} {cu : Nat × Nat} {Q : Res → Mem → Prop} {σ : Mem} {x1 x2 x3 : Option Value} {u : Nat} : X z 134 55 [some (.ref u), x1, x2, x3] (st) cu σ Q = (X z 134 56 [some (.ref u), x1, x2, x3] (.ref u :: st) cu σ Q) := by
  rw [x134_55]
  rfl
theorem v134_56 {z : P0} {st : List Value} {cu : Nat × Nat} {Q : Res → Mem → Prop} {K : Nat → Nat × Nat} {I : Nat → Nat → Int32} {R : Nat → Nat → Option Nat} {L : Nat → Nat → Int64} {sz : Nat} {ex : Bool} {x0 x1 x2 x3 : Option Value} {u : Nat} : X z 134 56 [x0, x1, x2, x3] (.ref u :: st) cu (K, I, R, L, sz, ex) Q = ((K u).1 = 111 ∧ X z 134 59 [x0, x1, x2, x3] (.int (I u 5) :: st) cu (K, I, R, L, sz, ex) Q) := by
  rw [x134_56]
  rfl
theorem v134_59 {z : P0} {st : List Value} {cu : Nat × Nat} {Q : Res → Mem → Prop} {σ : Mem} {x0 x1 x2 x3 : Option Value} {u : Int32} : X z 134 59 [x0, x1, x2, x3] (.int u :: st) cu σ Q = (if nI 0 < u then X z 134 62 [x0, x1, x2, x3] (st) cu σ Q else X z 134 64 [x0, x1, x2, x3] (st) cu σ Q) := by
  rw [x134_59]
  rw [nI_0]
  obtain ⟨K, I, R, L, sz, ex⟩ := σ
  exact br_ge
theorem v134_62 {z : P0} {st : List Value} {cu : Nat × Nat} {Q : Res → Mem → Prop} {σ : Mem} {x0 x1 x2 x3 : Option Value} : X z 134 62 [x0, x1, x2, x3] (st) cu σ Q = (X z 134 63 [x0, x1, x2, x3] (.int (nI 0) :: st) cu σ Q) := by
  rw [x134_62]
  rfl
theorem v134_63 {z : P0} {cu : Nat × Nat} {Q : Res → Mem → Prop} {σ : Mem} {x0 x1 x2 x3 : Option Value} {v : Int32} : X z 134 63 [x0, x1, x2, x3] ([.int v]) cu σ Q = (Q (.inl (some (.int v))) σ) := by
  rw [x134_63]
  exact propext ⟨fun h => h.2, fun h => ⟨trivial, h⟩⟩
theorem v134_64 {z : P0} {st : List Value} {cu : Nat × Nat} {Q : Res → Mem → Prop} {σ : Mem} {x1 x2 x3 : Option Value} {u : Nat} : X z 134 64 [some (.ref u), x1, x2, x3] (st) cu σ Q = (X z 134 65 [some (.ref u), x1, x2, x3] (.ref u :: st) cu σ Q) := by
  rw [x134_64]
  rfl
theorem u134_65 {z : P0} {ls : Lcs} {st : List Value} {K : Nat → Nat × Nat} {I : Nat → Nat → Int32} {R : Nat → Nat → Option Nat} {L : Nat → Nat → Int64} {sz : Nat} {ex : Bool} {Q : Res → Mem → Prop} {x : Nat} : X z 134 65 ls (.ref x :: st) (0, 0) (K, I, R, L, sz, ex) Q = ((K x).1 = 111 ∧ wsum st ≤ 8 ∧ X z 107 0 [some (.ref x), none] [] (0, 0) (K, I, R, L, sz, ex) (aftr (X z) mT 134 65 ls st (0, 0) Q)) := v134_65 (c := 0) (n := 0)
theorem v134_68 {z : P0} {st : List Value} {cu : Nat × Nat} {Q : Res → Mem → Prop} {σ : Mem} {x1 x2 x3 : Option Value} {u : Nat} : X z 134 68 [some (.ref u), x1, x2, x3] (st) cu σ Q = (X z 134 69 [some (.ref u), x1, x2, x3] (.ref u :: st) cu σ Q) := by
  rw [x134_68]
  rfl
theorem v134_69 {z : P0} {st : List Value} {cu : Nat × Nat} {Q : Res → Mem → Prop} {K : Nat → Nat × Nat} {I : Nat → Nat → Int32} {R : Nat → Nat → Option Nat} {L : Nat → Nat → Int64} {sz : Nat} {ex : Bool} {x0 x1 x2 x3 : Option Value} {u : Nat} : X z 134 69 [x0, x1, x2, x3] (.ref u :: st) cu (K, I, R, L, sz, ex) Q = ((K u).1 = 111 ∧ X z 134 72 [x0, x1, x2, x3] (va_rf (R u 0) :: st) cu (K, I, R, L, sz, ex) Q) := by
  rw [x134_69]
  rfl
theorem v134_72 {z : P0} {st : List Value} {cu : Nat × Nat} {Q : Res → Mem → Prop} {σ : Mem} {x0 x1 x2 x3 : Option Value} : X z 134 72 [x0, x1, x2, x3] (st) cu σ Q = (X z 134 74 [x0, x1, x2, x3] (.int (nI 7) :: st) cu σ Q) := by
  rw [x134_72]
  rfl
theorem v134_74 {z : P0} {st : List Value} {cu : Nat × Nat} {Q : Res → Mem → Prop} {K : Nat → Nat × Nat} {I : Nat → Nat → Int32} {R : Nat → Nat → Option Nat} {L : Nat → Nat → Int64} {sz : Nat} {ex : Bool} {x0 x1 x2 x3 : Option Value} {u : Nat} {v : Int32} : X z 134 74 [x0, x1, x2, x3] (.int v :: .ref u :: st) cu (K, I, R, L, sz, ex) Q = (((K u).1 = 20 ∨ (K u).1 = 50) ∧ vp_in v (K u).2 ∧ X z 134 75 [x0, x1, x2, x3] (.int (I u v.toNatClampNeg) :: st) cu (K, I, R, L, sz, ex) Q) := by
  rw [x134_74]
  rfl
theorem v134_75 {z : P0} {st : List Value} {cu : Nat × Nat} {Q : Res → Mem → Prop} {σ : Mem} {x0 x1 x2 x3 : Option Value} {u : Int32} : X z 134 75 [x0, x1, x2, x3] (.int u :: st) cu σ Q = (cat2 x1 = false ∧ X z 134 76 [x0, x1, some (.int u), x3] (st) cu σ Q) := by
  rw [x134_75]
  obtain ⟨K, I, R, L, sz, ex⟩ := σ
  exact i_istore_n.trans sl_2
theorem v134_76 {z : P0} {st : List Value} {cu : Nat × Nat} {Q : Res → Mem → Prop} {σ : Mem} {x1 x2 x3 : Option Value} {u : Nat} : X z 134 76 [some (.ref u), x1, x2, x3] (st) cu σ Q = (X z 134 77 [some (.ref u), x1, x2, x3] (.ref u :: st) cu σ Q) := by
  rw [x134_76]
  rfl
theorem v134_77 {z : P0} {st : List Value} {cu : Nat × Nat} {Q : Res → Mem → Prop} {K : Nat → Nat × Nat} {I : Nat → Nat → Int32} {R : Nat → Nat → Option Nat} {L : Nat → Nat → Int64} {sz : Nat} {ex : Bool} {x0 x1 x2 x3 : Option Value} {u : Nat} : X z 134 77 [x0, x1, x2, x3] (.ref u :: st) cu (K, I, R, L, sz, ex) Q = ((K u).1 = 111 ∧ X z 134 80 [x0, x1, x2, x3] (va_rf (R u 0) :: st) cu (K, I, R, L, sz, ex) Q) := by
  rw [x134_77]
  rfl
theorem v134_80 {z : P0} {st : List Value} {cu : Nat × Nat} {Q : Res → Mem → Prop} {σ : Mem} {x0 x1 x2 x3 : Option Value} : X z 134 80 [x0, x1, x2, x3] (st) cu σ Q = (X z 134 82 [x0, x1, x2, x3] (.int (nI 7) :: st) cu σ Q) := by
  rw [x134_80]
  rfl
theorem v134_82 {z : P0} {st : List Value} {cu : Nat × Nat} {Q : Res → Mem → Prop} {σ : Mem} {x0 x1 x2 x3 : Option Value} {u : Int32} {v : Nat} : X z 134 82 [x0, x1, x2, x3] (.int u :: .ref v :: st) cu σ Q = (X z 134 83 [x0, x1, x2, x3] (.int u :: .ref v :: .int u :: .ref v :: st) cu σ Q) := by
  rw [x134_82]
  rfl
theorem v134_83 {z : P0} {st : List Value} {cu : Nat × Nat} {Q : Res → Mem → Prop} {K : Nat → Nat × Nat} {I : Nat → Nat → Int32} {R : Nat → Nat → Option Nat} {L : Nat → Nat → Int64} {sz : Nat} {ex : Bool} {x0 x1 x2 x3 : Option Value} {u : Nat} {v : Int32} : X z 134 83 [x0, x1, x2, x3] (.int v :: .ref u :: st) cu (K, I, R, L, sz, ex) Q = (((K u).1 = 20 ∨ (K u).1 = 50) ∧ vp_in v (K u).2 ∧ X z 134 84 [x0, x1, x2, x3] (.int (I u v.toNatClampNeg) :: st) cu (K, I, R, L, sz, ex) Q) := by
  rw [x134_83]
  rfl
theorem v134_84 {z : P0} {st : List Value} {cu : Nat × Nat} {Q : Res → Mem → Prop} {σ : Mem} {x0 x1 x2 x3 : Option Value} : X z 134 84 [x0, x1, x2, x3] (st) cu σ Q = (X z 134 85 [x0, x1, x2, x3] (.int (nI 1) :: st) cu σ Q) := by
  rw [x134_84]
  rfl
theorem v134_85 {z : P0} {st : List Value} {cu : Nat × Nat} {Q : Res → Mem → Prop} {σ : Mem} {x0 x1 x2 x3 : Option Value} {u v : Int32} : X z 134 85 [x0, x1, x2, x3] (.int v :: .int u :: st) cu σ Q = (X z 134 86 [x0, x1, x2, x3] (.int (u + v) :: st) cu σ Q) := by
  rw [x134_85]
  rfl
theorem v134_86 {z : P0} {st : List Value} {cu : Nat × Nat} {Q : Res → Mem → Prop} {K : Nat → Nat × Nat} {I : Nat → Nat → Int32} {R : Nat → Nat → Option Nat} {L : Nat → Nat → Int64} {sz : Nat} {ex : Bool} {x0 x1 x2 x3 : Option Value} {u : Nat} {j v : Int32} : X z 134 86 [x0, x1, x2, x3] (.int v :: .int j :: .ref u :: st) cu (K, I, R, L, sz, ex) Q = ((K u).1 = 20 ∧ vp_in j (K u).2 ∧ X z 134 87 [x0, x1, x2, x3] (st) cu (K, up2 I u j.toNatClampNeg v, R, L, sz, ex) Q) := by
  rw [x134_86]
  rfl
theorem v134_87 {z : P0} {st : List Value} {cu : Nat × Nat} {Q : Res → Mem → Prop} {σ : Mem} {x1 x2 x3 : Option Value} {u : Nat} : X z 134 87 [some (.ref u), x1, x2, x3] (st) cu σ Q = (X z 134 88 [some (.ref u), x1, x2, x3] (.ref u :: st) cu σ Q) := by
  rw [x134_87]
  rfl
theorem v134_88 {z : P0} {st : List Value} {cu : Nat × Nat} {Q : Res → Mem → Prop} {K : Nat → Nat × Nat} {I : Nat → Nat → Int32} {R : Nat → Nat → Option Nat} {L : Nat → Nat → Int64} {sz : Nat} {ex : Bool} {x0 x1 x2 x3 : Option Value} {u : Nat} : X z 134 88 [x0, x1, x2, x3] (.ref u :: st) cu (K, I, R, L, sz, ex) Q = ((K u).1 = 111 ∧ X z 134 91 [x0, x1, x2, x3] (va_rf (R u 0) :: st) cu (K, I, R, L, sz, ex) Q) := by
  rw [x134_88]
  rfl
theorem v134_91 {z : P0} {st : List Value} {cu : Nat × Nat} {Q : Res → Mem → Prop} {σ : Mem} {x0 x1 x2 x3 : Option Value} : X z 134 91 [x0, x1, x2, x3] (st) cu σ Q = (X z 134 94 [x0, x1, x2, x3] (.int (nI 323) :: st) cu σ Q) := by
  rw [x134_91]
  rfl
theorem v134_94 {z : P0} {st : List Value} {cu : Nat × Nat} {Q : Res → Mem → Prop} {σ : Mem} {x0 x1 x3 : Option Value} {u : Int32} : X z 134 94 [x0, x1, some (.int u), x3] (st) cu σ Q = (X z 134 95 [x0, x1, some (.int u), x3] (.int u :: st) cu σ Q) := by
  rw [x134_94]
  rfl
theorem v134_95 {z : P0} {st : List Value} {cu : Nat × Nat} {Q : Res → Mem → Prop} {σ : Mem} {x0 x1 x2 x3 : Option Value} {u v : Int32} : X z 134 95 [x0, x1, x2, x3] (.int v :: .int u :: st) cu σ Q = (X z 134 96 [x0, x1, x2, x3] (.int (u + v) :: st) cu σ Q) := by
  rw [x134_95]
  rfl
theorem v134_96 {z : P0} {st : List Value} {cu : Nat × Nat} {Q : Res → Mem → Prop} {σ : Mem} {x1 x2 x3 : Option Value} {u : Nat} : X z 134 96 [some (.ref u), x1, x2, x3] (st) cu σ Q = (X z 134 97 [some (.ref u), x1, x2, x3] (.ref u :: st) cu σ Q) := by
  rw [x134_96]
  rfl
theorem v134_97 {z : P0} {st : List Value} {cu : Nat × Nat} {Q : Res → Mem → Prop} {K : Nat → Nat × Nat} {I : Nat → Nat → Int32} {R : Nat → Nat → Option Nat} {L : Nat → Nat → Int64} {sz : Nat} {ex : Bool} {x0 x1 x2 x3 : Option Value} {u : Nat} : X z 134 97 [x0, x1, x2, x3] (.ref u :: st) cu (K, I, R, L, sz, ex) Q = ((K u).1 = 111 ∧ X z 134 100 [x0, x1, x2, x3] (.int (I u 19) :: st) cu (K, I, R, L, sz, ex) Q) := by
  rw [x134_97]
  rfl
theorem v134_100 {z : P0} {st : List Value} {cu : Nat × Nat} {Q : Res → Mem → Prop} {σ : Mem} {x0 x1 x2 x3 : Option Value} {u : Int32} : X z 134 100 [x0, x1, x2, x3] (.int u :: st) cu σ Q = (if u = nI 0 then X z 134 107 [x0, x1, x2, x3] (st) cu σ Q else X z 134 103 [x0, x1, x2, x3] (st) cu σ Q) := by
  rw [x134_100]
  rw [nI_0]
  obtain ⟨K, I, R, L, sz, ex⟩ := σ
  exact br_ite
theorem v134_103 {z : P0} {st : List Value} {cu : Nat × Nat} {Q : Res → Mem → Prop} {σ : Mem} {x0 x1 x2 x3 : Option Value} : X z 134 103 [x0, x1, x2, x3] (st) cu σ Q = (X z 134 104 [x0, x1, x2, x3] (.int (nI 1) :: st) cu σ Q) := by
  rw [x134_103]
  rfl
theorem v134_104 {z : P0} {st : List Value} {cu : Nat × Nat} {Q : Res → Mem → Prop} {σ : Mem} {x0 x1 x2 x3 : Option Value} : X z 134 104 [x0, x1, x2, x3] (st) cu σ Q = (X z 134 108 [x0, x1, x2, x3] (st) cu σ Q) := by
  rw [x134_104]
  rfl
theorem v134_107 {z : P0} {st : List Value} {cu : Nat × Nat} {Q : Res → Mem → Prop} {σ : Mem} {x0 x1 x2 x3 : Option Value} : X z 134 107 [x0, x1, x2, x3] (st) cu σ Q = (X z 134 108 [x0, x1, x2, x3] (.int (nI 0) :: st) cu σ Q) := by
  rw [x134_107]
  rfl
theorem v134_108 {z : P0} {st : List Value} {cu : Nat × Nat} {Q : Res → Mem → Prop} {K : Nat → Nat × Nat} {I : Nat → Nat → Int32} {R : Nat → Nat → Option Nat} {L : Nat → Nat → Int64} {sz : Nat} {ex : Bool} {x0 x1 x2 x3 : Option Value} {u : Nat} {j v : Int32} : X z 134 108 [x0, x1, x2, x3] (.int v :: .int j :: .ref u :: st) cu (K, I, R, L, sz, ex) Q = ((K u).1 = 20 ∧ vp_in j (K u).2 ∧ X z 134 109 [x0, x1, x2, x3] (st) cu (K, up2 I u j.toNatClampNeg v, R, L, sz, ex) Q) := by
  rw [x134_108]
  rfl
theorem v134_109 {z : P0} {st : List Value} {cu : Nat × Nat} {Q : Res → Mem → Prop} {σ : Mem} {x1 x2 x3 : Option Value} {u : Nat} : X z 134 109 [some (.ref u), x1, x2, x3] (st) cu σ Q = (X z 134 110 [some (.ref u), x1, x2, x3] (.ref u :: st) cu σ Q) := by
  rw [x134_109]
  rfl
theorem v134_110 {z : P0} {st : List Value} {cu : Nat × Nat} {Q : Res → Mem → Prop} {K : Nat → Nat × Nat} {I : Nat → Nat → Int32} {R : Nat → Nat → Option Nat} {L : Nat → Nat → Int64} {sz : Nat} {ex : Bool} {x0 x1 x2 x3 : Option Value} {u : Nat} : X z 134 110 [x0, x1, x2, x3] (.ref u :: st) cu (K, I, R, L, sz, ex) Q = ((K u).1 = 111 ∧ X z 134 113 [x0, x1, x2, x3] (va_rf (R u 0) :: st) cu (K, I, R, L, sz, ex) Q) := by
  rw [x134_110]
  rfl
theorem v134_113 {z : P0} {st : List Value} {cu : Nat × Nat} {Q : Res → Mem → Prop} {σ : Mem} {x0 x1 x2 x3 : Option Value} : X z 134 113 [x0, x1, x2, x3] (st) cu σ Q = (X z 134 116 [x0, x1, x2, x3] (.int (nI 313) :: st) cu σ Q) := by
  rw [x134_113]
  rfl
theorem v134_116 {z : P0} {st : List Value} {cu : Nat × Nat} {Q : Res → Mem → Prop} {σ : Mem} {x0 x1 x3 : Option Value} {u : Int32} : X z 134 116 [x0, x1, some (.int u), x3] (st) cu σ Q = (X z 134 117 [x0, x1, some (.int u), x3] (.int u :: st) cu σ Q) := by
  rw [x134_116]
  rfl
theorem v134_117 {z : P0} {st : List Value} {cu : Nat × Nat} {Q : Res → Mem → Prop} {σ : Mem} {x0 x1 x2 x3 : Option Value} {u v : Int32} : X z 134 117 [x0, x1, x2, x3] (.int v :: .int u :: st) cu σ Q = (X z 134 118 [x0, x1, x2, x3] (.int (u + v) :: st) cu σ Q) := by
  rw [x134_117]
  rfl
theorem v134_118 {z : P0} {st : List Value} {cu : Nat × Nat} {Q : Res → Mem → Prop} {σ : Mem} {x1 x2 x3 : Option Value} {u : Nat} : X z 134 118 [some (.ref u), x1, x2, x3] (st) cu σ Q = (X z 134 119 [some (.ref u), x1, x2, x3] (.ref u :: st) cu σ Q) := by
  rw [x134_118]
  rfl
theorem v134_119 {z : P0} {st : List Value} {cu : Nat × Nat} {Q : Res → Mem → Prop} {K : Nat → Nat × Nat} {I : Nat → Nat → Int32} {R : Nat → Nat → Option Nat} {L : Nat → Nat → Int64} {sz : Nat} {ex : Bool} {x0 x1 x2 x3 : Option Value} {u : Nat} : X z 134 119 [x0, x1, x2, x3] (.ref u :: st) cu (K, I, R, L, sz, ex) Q = ((K u).1 = 111 ∧ X z 134 122 [x0, x1, x2, x3] (.int (I u 18) :: st) cu (K, I, R, L, sz, ex) Q) := by
  rw [x134_119]
  rfl
theorem v134_122 {z : P0} {st : List Value} {cu : Nat × Nat} {Q : Res → Mem → Prop} {K : Nat → Nat × Nat} {I : Nat → Nat → Int32} {R : Nat → Nat → Option Nat} {L : Nat → Nat → Int64} {sz : Nat} {ex : Bool} {x0 x1 x2 x3 : Option Value} {u : Nat} {j v : Int32} : X z 134 122 [x0, x1, x2, x3] (.int v :: .int j :: .ref u :: st) cu (K, I, R, L, sz, ex) Q = ((K u).1 = 20 ∧ vp_in j (K u).2 ∧ X z 134 123 [x0, x1, x2, x3] (st) cu (K, up2 I u j.toNatClampNeg v, R, L, sz, ex) Q) := by
  rw [x134_122]
  rfl
theorem v134_123 {z : P0} {st : List Value} {cu : Nat × Nat} {Q : Res → Mem → Prop} {σ : Mem} {x0 x1 x2 x3 : Option Value} : X z 134 123 [x0, x1, x2, x3] (st) cu σ Q = (X z 134 124 [x0, x1, x2, x3] (.int (nI 0) :: st) cu σ Q) := by
  rw [x134_123]
  rfl
theorem v134_124 {z : P0} {st : List Value} {cu : Nat × Nat} {Q : Res → Mem → Prop} {σ : Mem} {x0 x1 x2 x3 : Option Value} {u : Int32} : X z 134 124 [x0, x1, x2, x3] (.int u :: st) cu σ Q = (cat2 x2 = false ∧ X z 134 125 [x0, x1, x2, some (.int u)] (st) cu σ Q) := by
  rw [x134_124]
  obtain ⟨K, I, R, L, sz, ex⟩ := σ
  exact i_istore_n.trans sl_3
theorem v134_125 {z : P0} {st : List Value} {cu : Nat × Nat} {Q : Res → Mem → Prop} {σ : Mem} {x0 x1 x2 : Option Value} {u : Int32} : X z 134 125 [x0, x1, x2, some (.int u)] (st) cu σ Q = (X z 134 126 [x0, x1, x2, some (.int u)] (.int u :: st) cu σ Q) := by
  rw [x134_125]
  rfl
theorem v134_126 {z : P0} {st : List Value} {cu : Nat × Nat} {Q : Res → Mem → Prop} {σ : Mem} {x1 x2 x3 : Option Value} {u : Nat} : X z 134 126 [some (.ref u), x1, x2, x3] (st) cu σ Q = (X z 134 127 [some (.ref u), x1, x2, x3] (.ref u :: st) cu σ Q) := by
  rw [x134_126]
  rfl
theorem v134_127 {z : P0} {st : List Value} {cu : Nat × Nat} {Q : Res → Mem → Prop} {K : Nat → Nat × Nat} {I : Nat → Nat → Int32} {R : Nat → Nat → Option Nat} {L : Nat → Nat → Int64} {sz : Nat} {ex : Bool} {x0 x1 x2 x3 : Option Value} {u : Nat} : X z 134 127 [x0, x1, x2, x3] (.ref u :: st) cu (K, I, R, L, sz, ex) Q = ((K u).1 = 111 ∧ X z 134 130 [x0, x1, x2, x3] (.int (I u 18) :: st) cu (K, I, R, L, sz, ex) Q) := by
  rw [x134_127]
  rfl
theorem v134_130 {z : P0} {st : List Value} {cu : Nat × Nat} {Q : Res → Mem → Prop} {σ : Mem} {x0 x1 x2 x3 : Option Value} {u v : Int32} : X z 134 130 [x0, x1, x2, x3] (.int v :: .int u :: st) cu σ Q = (if u < v then X z 134 133 [x0, x1, x2, x3] (st) cu σ Q else X z 134 160 [x0, x1, x2, x3] (st) cu σ Q) := by
  rw [x134_130]
  obtain ⟨K, I, R, L, sz, ex⟩ := σ
  exact br_ge
theorem v134_133 {z : P0} {st : List Value} {cu : Nat × Nat} {Q : Res → Mem → Prop} {σ : Mem} {x1 x2 x3 : Option Value} {u : Nat} : X z 134 133 [some (.ref u), x1, x2, x3] (st) cu σ Q = (X z 134 134 [some (.ref u), x1, x2, x3] (.ref u :: st) cu σ Q) := by
  rw [x134_133]
  rfl
theorem v134_134 {z : P0} {st : List Value} {cu : Nat × Nat} {Q : Res → Mem → Prop} {K : Nat → Nat × Nat} {I : Nat → Nat → Int32} {R : Nat → Nat → Option Nat} {L : Nat → Nat → Int64} {sz : Nat} {ex : Bool} {x0 x1 x2 x3 : Option Value} {u : Nat} : X z 134 134 [x0, x1, x2, x3] (.ref u :: st) cu (K, I, R, L, sz, ex) Q = ((K u).1 = 111 ∧ X z 134 137 [x0, x1, x2, x3] (va_rf (R u 0) :: st) cu (K, I, R, L, sz, ex) Q) := by
  rw [x134_134]
  rfl
theorem v134_137 {z : P0} {st : List Value} {cu : Nat × Nat} {Q : Res → Mem → Prop} {σ : Mem} {x0 x1 x2 x3 : Option Value} : X z 134 137 [x0, x1, x2, x3] (st) cu σ Q = (X z 134 140 [x0, x1, x2, x3] (.int (nI 333) :: st) cu σ Q) := by
  rw [x134_137]
  rfl
theorem v134_140 {z : P0} {st : List Value} {cu : Nat × Nat} {Q : Res → Mem → Prop} {σ : Mem} {x0 x1 x2 x3 : Option Value} : X z 134 140 [x0, x1, x2, x3] (st) cu σ Q = (X z 134 142 [x0, x1, x2, x3] (.int (nI 8) :: st) cu σ Q) := by
  rw [x134_140]
  rfl
theorem v134_142 {z : P0} {st : List Value} {cu : Nat × Nat} {Q : Res → Mem → Prop} {σ : Mem} {x0 x1 x3 : Option Value} {u : Int32} : X z 134 142 [x0, x1, some (.int u), x3] (st) cu σ Q = (X z 134 143 [x0, x1, some (.int u), x3] (.int u :: st) cu σ Q) := by
  rw [x134_142]
  rfl
theorem v134_143 {z : P0} {st : List Value} {cu : Nat × Nat} {Q : Res → Mem → Prop} {σ : Mem} {x0 x1 x2 x3 : Option Value} {u v : Int32} : X z 134 143 [x0, x1, x2, x3] (.int v :: .int u :: st) cu σ Q = (X z 134 144 [x0, x1, x2, x3] (.int (u * v) :: st) cu σ Q) := by
  rw [x134_143]
  rfl
theorem v134_144 {z : P0} {st : List Value} {cu : Nat × Nat} {Q : Res → Mem → Prop} {σ : Mem} {x0 x1 x2 x3 : Option Value} {u v : Int32} : X z 134 144 [x0, x1, x2, x3] (.int v :: .int u :: st) cu σ Q = (X z 134 145 [x0, x1, x2, x3] (.int (u + v) :: st) cu σ Q) := by
  rw [x134_144]
  rfl
theorem v134_145 {z : P0} {st : List Value} {cu : Nat × Nat} {Q : Res → Mem → Prop} {σ : Mem} {x0 x1 x2 : Option Value} {u : Int32} : X z 134 145 [x0, x1, x2, some (.int u)] (st) cu σ Q = (X z 134 146 [x0, x1, x2, some (.int u)] (.int u :: st) cu σ Q) := by
  rw [x134_145]
  rfl
theorem v134_146 {z : P0} {st : List Value} {cu : Nat × Nat} {Q : Res → Mem → Prop} {σ : Mem} {x0 x1 x2 x3 : Option Value} {u v : Int32} : X z 134 146 [x0, x1, x2, x3] (.int v :: .int u :: st) cu σ Q = (X z 134 147 [x0, x1, x2, x3] (.int (u + v) :: st) cu σ Q) := by
  rw [x134_146]
  rfl
theorem v134_147 {z : P0} {st : List Value} {cu : Nat × Nat} {Q : Res → Mem → Prop} {σ : Mem} {x1 x2 x3 : Option Value} {u : Nat} : X z 134 147 [some (.ref u), x1, x2, x3] (st) cu σ Q = (X z 134 148 [some (.ref u), x1, x2, x3] (.ref u :: st) cu σ Q) := by
  rw [x134_147]
  rfl
theorem v134_148 {z : P0} {st : List Value} {cu : Nat × Nat} {Q : Res → Mem → Prop} {K : Nat → Nat × Nat} {I : Nat → Nat → Int32} {R : Nat → Nat → Option Nat} {L : Nat → Nat → Int64} {sz : Nat} {ex : Bool} {x0 x1 x2 x3 : Option Value} {u : Nat} : X z 134 148 [x0, x1, x2, x3] (.ref u :: st) cu (K, I, R, L, sz, ex) Q = ((K u).1 = 111 ∧ X z 134 151 [x0, x1, x2, x3] (va_rf (R u 4) :: st) cu (K, I, R, L, sz, ex) Q) := by
  rw [x134_148]
  rfl
theorem v134_151 {z : P0} {st : List Value} {cu : Nat × Nat} {Q : Res → Mem → Prop} {σ : Mem} {x0 x1 x2 : Option Value} {u : Int32} : X z 134 151 [x0, x1, x2, some (.int u)] (st) cu σ Q = (X z 134 152 [x0, x1, x2, some (.int u)] (.int u :: st) cu σ Q) := by
  rw [x134_151]
  rfl
theorem v134_152 {z : P0} {st : List Value} {cu : Nat × Nat} {Q : Res → Mem → Prop} {K : Nat → Nat × Nat} {I : Nat → Nat → Int32} {R : Nat → Nat → Option Nat} {L : Nat → Nat → Int64} {sz : Nat} {ex : Bool} {x0 x1 x2 x3 : Option Value} {u : Nat} {v : Int32} : X z 134 152 [x0, x1, x2, x3] (.int v :: .ref u :: st) cu (K, I, R, L, sz, ex) Q = (((K u).1 = 20 ∨ (K u).1 = 50) ∧ vp_in v (K u).2 ∧ X z 134 153 [x0, x1, x2, x3] (.int (I u v.toNatClampNeg) :: st) cu (K, I, R, L, sz, ex) Q) := by
  rw [x134_152]
  rfl
theorem v134_153 {z : P0} {st : List Value} {cu : Nat × Nat} {Q : Res → Mem → Prop} {K : Nat → Nat × Nat} {I : Nat → Nat → Int32} {R : Nat → Nat → Option Nat} {L : Nat → Nat → Int64} {sz : Nat} {ex : Bool} {x0 x1 x2 x3 : Option Value} {u : Nat} {j v : Int32} : X z 134 153 [x0, x1, x2, x3] (.int v :: .int j :: .ref u :: st) cu (K, I, R, L, sz, ex) Q = ((K u).1 = 20 ∧ vp_in j (K u).2 ∧ X z 134 154 [x0, x1, x2, x3] (st) cu (K, up2 I u j.toNatClampNeg v, R, L, sz, ex) Q) := by
  rw [x134_153]
  rfl
theorem v134_154 {z : P0} {st : List Value} {cu : Nat × Nat} {Q : Res → Mem → Prop} {σ : Mem} {x0 x1 x2 : Option Value} {u : Int32} : X z 134 154 [x0, x1, x2, some (.int u)] (st) cu σ Q = (cat2 x2 = false ∧ X z 134 157 [x0, x1, x2, some (.int (u + nI 1))] (st) cu σ Q) := by
  rw [x134_154]
  obtain ⟨K, I, R, L, sz, ex⟩ := σ
  exact i_iinc.trans (gl_3.trans (ldI_i.trans sl_3))
theorem v134_157 {z : P0} {st : List Value} {cu : Nat × Nat} {Q : Res → Mem → Prop} {σ : Mem} {x0 x1 x2 x3 : Option Value} : X z 134 157 [x0, x1, x2, x3] (st) cu σ Q = (X z 134 125 [x0, x1, x2, x3] (st) cu σ Q) := by
  rw [x134_157]
  rfl
theorem v134_160 {z : P0} {st : List Value} {cu : Nat × Nat} {Q : Res → Mem → Prop} {σ : Mem} {x1 x2 x3 : Option Value} {u : Nat} : X z 134 160 [some (.ref u), x1, x2, x3] (st) cu σ Q = (X z 134 161 [some (.ref u), x1, x2, x3] (.ref u :: st) cu σ Q) := by
  rw [x134_160]
  rfl
theorem v134_161 {z : P0} {st : List Value} {cu : Nat × Nat} {Q : Res → Mem → Prop} {σ : Mem} {x0 x1 x2 x3 : Option Value} : X z 134 161 [x0, x1, x2, x3] (st) cu σ Q = (X z 134 162 [x0, x1, x2, x3] (.int (nI 0) :: st) cu σ Q) := by
  rw [x134_161]
  rfl
theorem v134_162 {z : P0} {st : List Value} {cu : Nat × Nat} {Q : Res → Mem → Prop} {K : Nat → Nat × Nat} {I : Nat → Nat → Int32} {R : Nat → Nat → Option Nat} {L : Nat → Nat → Int64} {sz : Nat} {ex : Bool} {x0 x1 x2 x3 : Option Value} {u : Nat} {v : Int32} : X z 134 162 [x0, x1, x2, x3] (.int v :: .ref u :: st) cu (K, I, R, L, sz, ex) Q = ((K u).1 = 111 ∧ X z 134 165 [x0, x1, x2, x3] (st) cu (K, up2 I u 3 v, R, L, sz, ex) Q) := by
  rw [x134_162]
  exact i_putI
theorem v134_165 {z : P0} {st : List Value} {cu : Nat × Nat} {Q : Res → Mem → Prop} {σ : Mem} {x0 x1 x3 : Option Value} {u : Int32} : X z 134 165 [x0, x1, some (.int u), x3] (st) cu σ Q = (X z 134 166 [x0, x1, some (.int u), x3] (.int u :: st) cu σ Q) := by
  rw [x134_165]
  rfl
theorem v134_166 {z : P0} {cu : Nat × Nat} {Q : Res → Mem → Prop} {σ : Mem} {x0 x1 x2 x3 : Option Value} {v : Int32} : X z 134 166 [x0, x1, x2, x3] ([.int v]) cu σ Q = (Q (.inl (some (.int v))) σ) := by
  rw [x134_166]
  exact propext ⟨fun h => h.2, fun h => ⟨trivial, h⟩⟩
theorem v135_0 {z : P0} {st : List Value} {cu : Nat × Nat} {Q : Res → Mem → Prop} {σ : Mem} {x1 x2 x3 : Option Value} {u : Nat} : X z 135 0 [some (.ref u), x1, x2, x3] (st) cu σ Q = (X z 135 1 [some (.ref u), x1, x2, x3] (.ref u :: st) cu σ Q) := by
  rw [x135_0]
  rfl
theorem v135_1 {z : P0} {st : List Value} {cu : Nat × Nat} {Q : Res → Mem → Prop} {σ : Mem} {x0 x1 x2 x3 : Option Value} : X z 135 1 [x0, x1, x2, x3] (st) cu σ Q = (X z 135 2 [x0, x1, x2, x3] (.int (nI 2) :: st) cu σ Q) := by
  rw [x135_1]
  rfl
theorem u135_2 {z : P0} {ls : Lcs} {st : List Value} {K : Nat → Nat × Nat} {I : Nat → Nat → Int32} {R : Nat → Nat → Option Nat} {L : Nat → Nat → Int64} {sz : Nat} {ex : Bool} {Q : Res → Mem → Prop} {x : Nat} {a0 : Int32} : X z 135 2 ls (.int a0 :: .ref x :: st) (0, 0) (K, I, R, L, sz, ex) Q = ((K x).1 = 111 ∧ wsum st ≤ 8 ∧ X z 150 0 [some (.ref x), some (.int a0), none] [] (0, 0) (K, I, R, L, sz, ex) (aftr (X z) mT 135 2 ls st (0, 0) Q)) := v135_2 (c := 0) (n := 0)
theorem v135_5 {z : P0} {st : List Value} {cu : Nat × Nat} {Q : Res → Mem → Prop} {σ : Mem} {x1 x2 x3 : Option Value} {u : Nat} : X z 135 5 [some (.ref u), x1, x2, x3] (st) cu σ Q = (X z 135 6 [some (.ref u), x1, x2, x3] (.ref u :: st) cu σ Q) := by
  rw [x135_5]
  rfl
theorem v135_6 {z : P0} {st : List Value} {cu : Nat × Nat} {Q : Res → Mem → Prop} {K : Nat → Nat × Nat} {I : Nat → Nat → Int32} {R : Nat → Nat → Option Nat} {L : Nat → Nat → Int64} {sz : Nat} {ex : Bool} {x0 x1 x2 x3 : Option Value} {u : Nat} : X z 135 6 [x0, x1, x2, x3] (.ref u :: st) cu (K, I, R, L, sz, ex) Q = ((K u).1 = 111 ∧ X z 135 9 [x0, x1, x2, x3] (.int (I u 3) :: st) cu (K, I, R, L, sz, ex) Q) := by
  rw [x135_6]
  rfl
theorem v135_9 {z : P0} {st : List Value} {cu : Nat × Nat} {Q : Res → Mem → Prop} {σ : Mem} {x0 x1 x2 x3 : Option Value} {u v : Int32} : X z 135 9 [x0, x1, x2, x3] (.int v :: .int u :: st) cu σ Q = (if u = v then X z 135 12 [x0, x1, x2, x3] (st) cu σ Q else X z 135 24 [x0, x1, x2, x3] (st) cu σ Q) := by
  rw [x135_9]
  obtain ⟨K, I, R, L, sz, ex⟩ := σ
  exact br_ne
theorem v135_12 {z : P0} {st : List Value} {cu : Nat × Nat} {Q : Res → Mem → Prop} {σ : Mem} {x1 x2 x3 : Option Value} {u : Nat} : X z 135 12 [some (.ref u), x1, x2, x3] (st) cu σ Q = (X z 135 13 [some (.ref u), x1, x2, x3] (.ref u :: st) cu σ Q) := by
  rw [x135_12]
  rfl
theorem v135_13 {z : P0} {st : List Value} {cu : Nat × Nat} {Q : Res → Mem → Prop} {σ : Mem} {x0 x1 x2 x3 : Option Value} : X z 135 13 [x0, x1, x2, x3] (st) cu σ Q = (X z 135 14 [x0, x1, x2, x3] (.int (nI 2) :: st) cu σ Q) := by
  rw [x135_13]
  rfl
theorem u135_14 {z : P0} {ls : Lcs} {st : List Value} {K : Nat → Nat × Nat} {I : Nat → Nat → Int32} {R : Nat → Nat → Option Nat} {L : Nat → Nat → Int64} {sz : Nat} {ex : Bool} {Q : Res → Mem → Prop} {x : Nat} {a0 : Int32} : X z 135 14 ls (.int a0 :: .ref x :: st) (0, 0) (K, I, R, L, sz, ex) Q = ((K x).1 = 111 ∧ wsum st ≤ 8 ∧ X z 151 0 [some (.ref x), some (.int a0)] [] (0, 0) (K, I, R, L, sz, ex) (aftr (X z) mT 135 14 ls st (0, 0) Q)) := v135_14 (c := 0) (n := 0)
theorem v135_17 {z : P0} {st : List Value} {cu : Nat × Nat} {Q : Res → Mem → Prop} {σ : Mem} {x0 x1 x2 x3 : Option Value} {u : Int32} : X z 135 17 [x0, x1, x2, x3] (.int u :: st) cu σ Q = (if u = nI 0 then X z 135 24 [x0, x1, x2, x3] (st) cu σ Q else X z 135 20 [x0, x1, x2, x3] (st) cu σ Q) := by
  rw [x135_17]
  rw [nI_0]
  obtain ⟨K, I, R, L, sz, ex⟩ := σ
  exact br_ite
theorem v135_20 {z : P0} {st : List Value} {cu : Nat × Nat} {Q : Res → Mem → Prop} {σ : Mem} {x0 x1 x2 x3 : Option Value} : X z 135 20 [x0, x1, x2, x3] (st) cu σ Q = (X z 135 21 [x0, x1, x2, x3] (.int (nI 1) :: st) cu σ Q) := by
  rw [x135_20]
  rfl
theorem v135_21 {z : P0} {st : List Value} {cu : Nat × Nat} {Q : Res → Mem → Prop} {σ : Mem} {x0 x1 x2 x3 : Option Value} : X z 135 21 [x0, x1, x2, x3] (st) cu σ Q = (X z 135 25 [x0, x1, x2, x3] (st) cu σ Q) := by
  rw [x135_21]
  rfl
theorem v135_24 {z : P0} {st : List Value} {cu : Nat × Nat} {Q : Res → Mem → Prop} {σ : Mem} {x0 x1 x2 x3 : Option Value} : X z 135 24 [x0, x1, x2, x3] (st) cu σ Q = (X z 135 25 [x0, x1, x2, x3] (.int (nI 0) :: st) cu σ Q) := by
  rw [x135_24]
  rfl
theorem v135_25 {z : P0} {st : List Value} {cu : Nat × Nat} {Q : Res → Mem → Prop} {σ : Mem} {x0 x1 x2 x3 : Option Value} {u : Int32} : X z 135 25 [x0, x1, x2, x3] (.int u :: st) cu σ Q = (cat2 x0 = false ∧ X z 135 26 [x0, some (.int u), x2, x3] (st) cu σ Q) := by
  rw [x135_25]
  obtain ⟨K, I, R, L, sz, ex⟩ := σ
  exact i_istore_n.trans sl_1
theorem v135_26 {z : P0} {st : List Value} {cu : Nat × Nat} {Q : Res → Mem → Prop} {σ : Mem} {x1 x2 x3 : Option Value} {u : Nat} : X z 135 26 [some (.ref u), x1, x2, x3] (st) cu σ Q = (X z 135 27 [some (.ref u), x1, x2, x3] (.ref u :: st) cu σ Q) := by
  rw [x135_26]
  rfl
theorem v135_27 {z : P0} {st : List Value} {cu : Nat × Nat} {Q : Res → Mem → Prop} {σ : Mem} {x0 x2 x3 : Option Value} {u : Int32} : X z 135 27 [x0, some (.int u), x2, x3] (st) cu σ Q = (X z 135 28 [x0, some (.int u), x2, x3] (.int u :: st) cu σ Q) := by
  rw [x135_27]
  rfl
theorem v135_28 {z : P0} {st : List Value} {cu : Nat × Nat} {Q : Res → Mem → Prop} {σ : Mem} {x0 x1 x2 x3 : Option Value} {u : Int32} : X z 135 28 [x0, x1, x2, x3] (.int u :: st) cu σ Q = (if u = nI 0 then X z 135 35 [x0, x1, x2, x3] (st) cu σ Q else X z 135 31 [x0, x1, x2, x3] (st) cu σ Q) := by
  rw [x135_28]
  rw [nI_0]
  obtain ⟨K, I, R, L, sz, ex⟩ := σ
  exact br_ite
theorem v135_31 {z : P0} {st : List Value} {cu : Nat × Nat} {Q : Res → Mem → Prop} {σ : Mem} {x0 x1 x2 x3 : Option Value} : X z 135 31 [x0, x1, x2, x3] (st) cu σ Q = (X z 135 32 [x0, x1, x2, x3] (.int (nI 0) :: st) cu σ Q) := by
  rw [x135_31]
  rfl
theorem v135_32 {z : P0} {st : List Value} {cu : Nat × Nat} {Q : Res → Mem → Prop} {σ : Mem} {x0 x1 x2 x3 : Option Value} : X z 135 32 [x0, x1, x2, x3] (st) cu σ Q = (X z 135 36 [x0, x1, x2, x3] (st) cu σ Q) := by
  rw [x135_32]
  rfl
theorem v135_35 {z : P0} {st : List Value} {cu : Nat × Nat} {Q : Res → Mem → Prop} {σ : Mem} {x0 x1 x2 x3 : Option Value} : X z 135 35 [x0, x1, x2, x3] (st) cu σ Q = (X z 135 36 [x0, x1, x2, x3] (.int (nI 1) :: st) cu σ Q) := by
  rw [x135_35]
  rfl
theorem v135_36 {z : P0} {st : List Value} {cu : Nat × Nat} {Q : Res → Mem → Prop} {K : Nat → Nat × Nat} {I : Nat → Nat → Int32} {R : Nat → Nat → Option Nat} {L : Nat → Nat → Int64} {sz : Nat} {ex : Bool} {x0 x1 x2 x3 : Option Value} {u : Nat} {v : Int32} : X z 135 36 [x0, x1, x2, x3] (.int v :: .ref u :: st) cu (K, I, R, L, sz, ex) Q = ((K u).1 = 111 ∧ X z 135 39 [x0, x1, x2, x3] (st) cu (K, up2 I u 5 v, R, L, sz, ex) Q) := by
  rw [x135_36]
  exact i_putI
theorem v135_39 {z : P0} {st : List Value} {cu : Nat × Nat} {Q : Res → Mem → Prop} {σ : Mem} {x1 x2 x3 : Option Value} {u : Nat} : X z 135 39 [some (.ref u), x1, x2, x3] (st) cu σ Q = (X z 135 40 [some (.ref u), x1, x2, x3] (.ref u :: st) cu σ Q) := by
  rw [x135_39]
  rfl
theorem v135_40 {z : P0} {st : List Value} {cu : Nat × Nat} {Q : Res → Mem → Prop} {K : Nat → Nat × Nat} {I : Nat → Nat → Int32} {R : Nat → Nat → Option Nat} {L : Nat → Nat → Int64} {sz : Nat} {ex : Bool} {x0 x1 x2 x3 : Option Value} {u : Nat} : X z 135 40 [x0, x1, x2, x3] (.ref u :: st) cu (K, I, R, L, sz, ex) Q = ((K u).1 = 111 ∧ X z 135 43 [x0, x1, x2, x3] (.int (I u 5) :: st) cu (K, I, R, L, sz, ex) Q) := by
  rw [x135_40]
  rfl
theorem v135_43 {z : P0} {st : List Value} {cu : Nat × Nat} {Q : Res → Mem → Prop} {σ : Mem} {x0 x1 x2 x3 : Option Value} {u : Int32} : X z 135 43 [x0, x1, x2, x3] (.int u :: st) cu σ Q = (if nI 0 < u then X z 135 46 [x0, x1, x2, x3] (st) cu σ Q else X z 135 48 [x0, x1, x2, x3] (st) cu σ Q) := by
  rw [x135_43]
  rw [nI_0]
  obtain ⟨K, I, R, L, sz, ex⟩ := σ
  exact br_ge
theorem v135_46 {z : P0} {st : List Value} {cu : Nat × Nat} {Q : Res → Mem → Prop} {σ : Mem} {x0 x1 x2 x3 : Option Value} : X z 135 46 [x0, x1, x2, x3] (st) cu σ Q = (X z 135 47 [x0, x1, x2, x3] (.int (nI 0) :: st) cu σ Q) := by
  rw [x135_46]
  rfl
theorem v135_47 {z : P0} {cu : Nat × Nat} {Q : Res → Mem → Prop} {σ : Mem} {x0 x1 x2 x3 : Option Value} {v : Int32} : X z 135 47 [x0, x1, x2, x3] ([.int v]) cu σ Q = (Q (.inl (some (.int v))) σ) := by
  rw [x135_47]
  exact propext ⟨fun h => h.2, fun h => ⟨trivial, h⟩⟩
theorem v135_48 {z : P0} {st : List Value} {cu : Nat × Nat} {Q : Res → Mem → Prop} {σ : Mem} {x1 x2 x3 : Option Value} {u : Nat} : X z 135 48 [some (.ref u), x1, x2, x3] (st) cu σ Q = (X z 135 49 [some (.ref u), x1, x2, x3] (.ref u :: st) cu σ Q) := by
  rw [x135_48]
  rfl
theorem u135_49 {z : P0} {ls : Lcs} {st : List Value} {K : Nat → Nat × Nat} {I : Nat → Nat → Int32} {R : Nat → Nat → Option Nat} {L : Nat → Nat → Int64} {sz : Nat} {ex : Bool} {Q : Res → Mem → Prop} {x : Nat} : X z 135 49 ls (.ref x :: st) (0, 0) (K, I, R, L, sz, ex) Q = ((K x).1 = 111 ∧ wsum st ≤ 8 ∧ X z 107 0 [some (.ref x), none] [] (0, 0) (K, I, R, L, sz, ex) (aftr (X z) mT 135 49 ls st (0, 0) Q)) := v135_49 (c := 0) (n := 0)
theorem v135_52 {z : P0} {st : List Value} {cu : Nat × Nat} {Q : Res → Mem → Prop} {σ : Mem} {x1 x2 x3 : Option Value} {u : Nat} : X z 135 52 [some (.ref u), x1, x2, x3] (st) cu σ Q = (X z 135 53 [some (.ref u), x1, x2, x3] (.ref u :: st) cu σ Q) := by
  rw [x135_52]
  rfl
theorem v135_53 {z : P0} {st : List Value} {cu : Nat × Nat} {Q : Res → Mem → Prop} {K : Nat → Nat × Nat} {I : Nat → Nat → Int32} {R : Nat → Nat → Option Nat} {L : Nat → Nat → Int64} {sz : Nat} {ex : Bool} {x0 x1 x2 x3 : Option Value} {u : Nat} : X z 135 53 [x0, x1, x2, x3] (.ref u :: st) cu (K, I, R, L, sz, ex) Q = ((K u).1 = 111 ∧ X z 135 56 [x0, x1, x2, x3] (va_rf (R u 0) :: st) cu (K, I, R, L, sz, ex) Q) := by
  rw [x135_53]
  rfl
theorem v135_56 {z : P0} {st : List Value} {cu : Nat × Nat} {Q : Res → Mem → Prop} {σ : Mem} {x0 x1 x2 x3 : Option Value} : X z 135 56 [x0, x1, x2, x3] (st) cu σ Q = (X z 135 58 [x0, x1, x2, x3] (.int (nI 12) :: st) cu σ Q) := by
  rw [x135_56]
  rfl
theorem v135_58 {z : P0} {st : List Value} {cu : Nat × Nat} {Q : Res → Mem → Prop} {σ : Mem} {x0 x1 x2 x3 : Option Value} : X z 135 58 [x0, x1, x2, x3] (st) cu σ Q = (X z 135 59 [x0, x1, x2, x3] (.int (nI 0) :: st) cu σ Q) := by
  rw [x135_58]
  rfl
theorem v135_59 {z : P0} {st : List Value} {cu : Nat × Nat} {Q : Res → Mem → Prop} {K : Nat → Nat × Nat} {I : Nat → Nat → Int32} {R : Nat → Nat → Option Nat} {L : Nat → Nat → Int64} {sz : Nat} {ex : Bool} {x0 x1 x2 x3 : Option Value} {u : Nat} {j v : Int32} : X z 135 59 [x0, x1, x2, x3] (.int v :: .int j :: .ref u :: st) cu (K, I, R, L, sz, ex) Q = ((K u).1 = 20 ∧ vp_in j (K u).2 ∧ X z 135 60 [x0, x1, x2, x3] (st) cu (K, up2 I u j.toNatClampNeg v, R, L, sz, ex) Q) := by
  rw [x135_59]
  rfl
theorem v135_60 {z : P0} {st : List Value} {cu : Nat × Nat} {Q : Res → Mem → Prop} {σ : Mem} {x0 x1 x2 x3 : Option Value} : X z 135 60 [x0, x1, x2, x3] (st) cu σ Q = (X z 135 61 [x0, x1, x2, x3] (.int (nI 0) :: st) cu σ Q) := by
  rw [x135_60]
  rfl
theorem v135_61 {z : P0} {st : List Value} {cu : Nat × Nat} {Q : Res → Mem → Prop} {σ : Mem} {x0 x1 x2 x3 : Option Value} {u : Int32} : X z 135 61 [x0, x1, x2, x3] (.int u :: st) cu σ Q = (cat2 x1 = false ∧ X z 135 62 [x0, x1, some (.int u), x3] (st) cu σ Q) := by
  rw [x135_61]
  obtain ⟨K, I, R, L, sz, ex⟩ := σ
  exact i_istore_n.trans sl_2
theorem v135_62 {z : P0} {st : List Value} {cu : Nat × Nat} {Q : Res → Mem → Prop} {σ : Mem} {x0 x1 x3 : Option Value} {u : Int32} : X z 135 62 [x0, x1, some (.int u), x3] (st) cu σ Q = (X z 135 63 [x0, x1, some (.int u), x3] (.int u :: st) cu σ Q) := by
  rw [x135_62]
  rfl
theorem v135_63 {z : P0} {st : List Value} {cu : Nat × Nat} {Q : Res → Mem → Prop} {σ : Mem} {x1 x2 x3 : Option Value} {u : Nat} : X z 135 63 [some (.ref u), x1, x2, x3] (st) cu σ Q = (X z 135 64 [some (.ref u), x1, x2, x3] (.ref u :: st) cu σ Q) := by
  rw [x135_63]
  rfl
theorem v135_64 {z : P0} {st : List Value} {cu : Nat × Nat} {Q : Res → Mem → Prop} {K : Nat → Nat × Nat} {I : Nat → Nat → Int32} {R : Nat → Nat → Option Nat} {L : Nat → Nat → Int64} {sz : Nat} {ex : Bool} {x0 x1 x2 x3 : Option Value} {u : Nat} : X z 135 64 [x0, x1, x2, x3] (.ref u :: st) cu (K, I, R, L, sz, ex) Q = ((K u).1 = 111 ∧ X z 135 67 [x0, x1, x2, x3] (.int (I u 3) :: st) cu (K, I, R, L, sz, ex) Q) := by
  rw [x135_64]
  rfl
theorem v135_67 {z : P0} {st : List Value} {cu : Nat × Nat} {Q : Res → Mem → Prop} {σ : Mem} {x0 x1 x2 x3 : Option Value} {u v : Int32} : X z 135 67 [x0, x1, x2, x3] (.int v :: .int u :: st) cu σ Q = (if u < v then X z 135 70 [x0, x1, x2, x3] (st) cu σ Q else X z 135 157 [x0, x1, x2, x3] (st) cu σ Q) := by
  rw [x135_67]
  obtain ⟨K, I, R, L, sz, ex⟩ := σ
  exact br_ge
theorem v135_70 {z : P0} {st : List Value} {cu : Nat × Nat} {Q : Res → Mem → Prop} {σ : Mem} {x1 x2 x3 : Option Value} {u : Nat} : X z 135 70 [some (.ref u), x1, x2, x3] (st) cu σ Q = (X z 135 71 [some (.ref u), x1, x2, x3] (.ref u :: st) cu σ Q) := by
  rw [x135_70]
  rfl
theorem v135_71 {z : P0} {st : List Value} {cu : Nat × Nat} {Q : Res → Mem → Prop} {K : Nat → Nat × Nat} {I : Nat → Nat → Int32} {R : Nat → Nat → Option Nat} {L : Nat → Nat → Int64} {sz : Nat} {ex : Bool} {x0 x1 x2 x3 : Option Value} {u : Nat} : X z 135 71 [x0, x1, x2, x3] (.ref u :: st) cu (K, I, R, L, sz, ex) Q = ((K u).1 = 111 ∧ X z 135 74 [x0, x1, x2, x3] (va_rf (R u 4) :: st) cu (K, I, R, L, sz, ex) Q) := by
  rw [x135_71]
  rfl
theorem v135_74 {z : P0} {st : List Value} {cu : Nat × Nat} {Q : Res → Mem → Prop} {σ : Mem} {x0 x1 x3 : Option Value} {u : Int32} : X z 135 74 [x0, x1, some (.int u), x3] (st) cu σ Q = (X z 135 75 [x0, x1, some (.int u), x3] (.int u :: st) cu σ Q) := by
  rw [x135_74]
  rfl
theorem v135_75 {z : P0} {st : List Value} {cu : Nat × Nat} {Q : Res → Mem → Prop} {K : Nat → Nat × Nat} {I : Nat → Nat → Int32} {R : Nat → Nat → Option Nat} {L : Nat → Nat → Int64} {sz : Nat} {ex : Bool} {x0 x1 x2 x3 : Option Value} {u : Nat} {v : Int32} : X z 135 75 [x0, x1, x2, x3] (.int v :: .ref u :: st) cu (K, I, R, L, sz, ex) Q = (((K u).1 = 20 ∨ (K u).1 = 50) ∧ vp_in v (K u).2 ∧ X z 135 76 [x0, x1, x2, x3] (.int (I u v.toNatClampNeg) :: st) cu (K, I, R, L, sz, ex) Q) := by
  rw [x135_75]
  rfl
theorem v135_76 {z : P0} {st : List Value} {cu : Nat × Nat} {Q : Res → Mem → Prop} {σ : Mem} {x0 x1 x2 x3 : Option Value} : X z 135 76 [x0, x1, x2, x3] (st) cu σ Q = (X z 135 78 [x0, x1, x2, x3] (.int (nI 60) :: st) cu σ Q) := by
  rw [x135_76]
  rfl
theorem v135_78 {z : P0} {st : List Value} {cu : Nat × Nat} {Q : Res → Mem → Prop} {σ : Mem} {x0 x1 x2 x3 : Option Value} {u v : Int32} : X z 135 78 [x0, x1, x2, x3] (.int v :: .int u :: st) cu σ Q = (if u = v then X z 135 81 [x0, x1, x2, x3] (st) cu σ Q else X z 135 85 [x0, x1, x2, x3] (st) cu σ Q) := by
  rw [x135_78]
  obtain ⟨K, I, R, L, sz, ex⟩ := σ
  exact br_ne
theorem v135_81 {z : P0} {st : List Value} {cu : Nat × Nat} {Q : Res → Mem → Prop} {σ : Mem} {x0 x1 x2 x3 : Option Value} : X z 135 81 [x0, x1, x2, x3] (st) cu σ Q = (X z 135 82 [x0, x1, x2, x3] (.int (nI 1) :: st) cu σ Q) := by
  rw [x135_81]
  rfl
theorem v135_82 {z : P0} {st : List Value} {cu : Nat × Nat} {Q : Res → Mem → Prop} {σ : Mem} {x0 x1 x2 x3 : Option Value} : X z 135 82 [x0, x1, x2, x3] (st) cu σ Q = (X z 135 86 [x0, x1, x2, x3] (st) cu σ Q) := by
  rw [x135_82]
  rfl
theorem v135_85 {z : P0} {st : List Value} {cu : Nat × Nat} {Q : Res → Mem → Prop} {σ : Mem} {x0 x1 x2 x3 : Option Value} : X z 135 85 [x0, x1, x2, x3] (st) cu σ Q = (X z 135 86 [x0, x1, x2, x3] (.int (nI 0) :: st) cu σ Q) := by
  rw [x135_85]
  rfl
theorem v135_86 {z : P0} {st : List Value} {cu : Nat × Nat} {Q : Res → Mem → Prop} {σ : Mem} {x0 x1 x2 x3 : Option Value} {u : Int32} : X z 135 86 [x0, x1, x2, x3] (.int u :: st) cu σ Q = (cat2 x2 = false ∧ X z 135 87 [x0, x1, x2, some (.int u)] (st) cu σ Q) := by
  rw [x135_86]
  obtain ⟨K, I, R, L, sz, ex⟩ := σ
  exact i_istore_n.trans sl_3
theorem v135_87 {z : P0} {st : List Value} {cu : Nat × Nat} {Q : Res → Mem → Prop} {σ : Mem} {x1 x2 x3 : Option Value} {u : Nat} : X z 135 87 [some (.ref u), x1, x2, x3] (st) cu σ Q = (X z 135 88 [some (.ref u), x1, x2, x3] (.ref u :: st) cu σ Q) := by
  rw [x135_87]
  rfl
theorem v135_88 {z : P0} {st : List Value} {cu : Nat × Nat} {Q : Res → Mem → Prop} {K : Nat → Nat × Nat} {I : Nat → Nat → Int32} {R : Nat → Nat → Option Nat} {L : Nat → Nat → Int64} {sz : Nat} {ex : Bool} {x0 x1 x2 x3 : Option Value} {u : Nat} : X z 135 88 [x0, x1, x2, x3] (.ref u :: st) cu (K, I, R, L, sz, ex) Q = ((K u).1 = 111 ∧ X z 135 91 [x0, x1, x2, x3] (va_rf (R u 0) :: st) cu (K, I, R, L, sz, ex) Q) := by
  rw [x135_88]
  rfl
theorem v135_91 {z : P0} {st : List Value} {cu : Nat × Nat} {Q : Res → Mem → Prop} {σ : Mem} {x0 x1 x2 x3 : Option Value} : X z 135 91 [x0, x1, x2, x3] (st) cu σ Q = (X z 135 94 [x0, x1, x2, x3] (.int (nI 413) :: st) cu σ Q) := by
  rw [x135_91]
  rfl
theorem v135_94 {z : P0} {st : List Value} {cu : Nat × Nat} {Q : Res → Mem → Prop} {σ : Mem} {x1 x2 x3 : Option Value} {u : Nat} : X z 135 94 [some (.ref u), x1, x2, x3] (st) cu σ Q = (X z 135 95 [some (.ref u), x1, x2, x3] (.ref u :: st) cu σ Q) := by
  rw [x135_94]
  rfl
theorem v135_95 {z : P0} {st : List Value} {cu : Nat × Nat} {Q : Res → Mem → Prop} {K : Nat → Nat × Nat} {I : Nat → Nat → Int32} {R : Nat → Nat → Option Nat} {L : Nat → Nat → Int64} {sz : Nat} {ex : Bool} {x0 x1 x2 x3 : Option Value} {u : Nat} : X z 135 95 [x0, x1, x2, x3] (.ref u :: st) cu (K, I, R, L, sz, ex) Q = ((K u).1 = 111 ∧ X z 135 98 [x0, x1, x2, x3] (va_rf (R u 0) :: st) cu (K, I, R, L, sz, ex) Q) := by
  rw [x135_95]
  rfl
theorem v135_98 {z : P0} {st : List Value} {cu : Nat × Nat} {Q : Res → Mem → Prop} {σ : Mem} {x0 x1 x2 x3 : Option Value} : X z 135 98 [x0, x1, x2, x3] (st) cu σ Q = (X z 135 100 [x0, x1, x2, x3] (.int (nI 12) :: st) cu σ Q) := by
  rw [x135_98]
  rfl
theorem v135_100 {z : P0} {st : List Value} {cu : Nat × Nat} {Q : Res → Mem → Prop} {K : Nat → Nat × Nat} {I : Nat → Nat → Int32} {R : Nat → Nat → Option Nat} {L : Nat → Nat → Int64} {sz : Nat} {ex : Bool} {x0 x1 x2 x3 : Option Value} {u : Nat} {v : Int32} : X z 135 100 [x0, x1, x2, x3] (.int v :: .ref u :: st) cu (K, I, R, L, sz, ex) Q = (((K u).1 = 20 ∨ (K u).1 = 50) ∧ vp_in v (K u).2 ∧ X z 135 101 [x0, x1, x2, x3] (.int (I u v.toNatClampNeg) :: st) cu (K, I, R, L, sz, ex) Q) := by
  rw [x135_100]
  rfl
theorem v135_101 {z : P0} {st : List Value} {cu : Nat × Nat} {Q : Res → Mem → Prop} {σ : Mem} {x0 x1 x2 x3 : Option Value} {u v : Int32} : X z 135 101 [x0, x1, x2, x3] (.int v :: .int u :: st) cu σ Q = (X z 135 102 [x0, x1, x2, x3] (.int (u + v) :: st) cu σ Q) := by
  rw [x135_101]
  rfl
theorem v135_102 {z : P0} {st : List Value} {cu : Nat × Nat} {Q : Res → Mem → Prop} {σ : Mem} {x0 x1 x2 : Option Value} {u : Int32} : X z 135 102 [x0, x1, x2, some (.int u)] (st) cu σ Q = (X z 135 103 [x0, x1, x2, some (.int u)] (.int u :: st) cu σ Q) := by
  rw [x135_102]
  rfl
theorem v135_103 {z : P0} {st : List Value} {cu : Nat × Nat} {Q : Res → Mem → Prop} {σ : Mem} {x0 x1 x2 x3 : Option Value} {u : Int32} : X z 135 103 [x0, x1, x2, x3] (.int u :: st) cu σ Q = (if u = nI 0 then X z 135 121 [x0, x1, x2, x3] (st) cu σ Q else X z 135 106 [x0, x1, x2, x3] (st) cu σ Q) := by
  rw [x135_103]
  rw [nI_0]
  obtain ⟨K, I, R, L, sz, ex⟩ := σ
  exact br_ite
theorem v135_106 {z : P0} {st : List Value} {cu : Nat × Nat} {Q : Res → Mem → Prop} {σ : Mem} {x0 x1 x2 x3 : Option Value} : X z 135 106 [x0, x1, x2, x3] (st) cu σ Q = (X z 135 109 [x0, x1, x2, x3] (.int (nI 256) :: st) cu σ Q) := by
  rw [x135_106]
  rfl
theorem v135_109 {z : P0} {st : List Value} {cu : Nat × Nat} {Q : Res → Mem → Prop} {σ : Mem} {x1 x2 x3 : Option Value} {u : Nat} : X z 135 109 [some (.ref u), x1, x2, x3] (st) cu σ Q = (X z 135 110 [some (.ref u), x1, x2, x3] (.ref u :: st) cu σ Q) := by
  rw [x135_109]
  rfl
theorem v135_110 {z : P0} {st : List Value} {cu : Nat × Nat} {Q : Res → Mem → Prop} {K : Nat → Nat × Nat} {I : Nat → Nat → Int32} {R : Nat → Nat → Option Nat} {L : Nat → Nat → Int64} {sz : Nat} {ex : Bool} {x0 x1 x2 x3 : Option Value} {u : Nat} : X z 135 110 [x0, x1, x2, x3] (.ref u :: st) cu (K, I, R, L, sz, ex) Q = ((K u).1 = 111 ∧ X z 135 113 [x0, x1, x2, x3] (va_rf (R u 4) :: st) cu (K, I, R, L, sz, ex) Q) := by
  rw [x135_110]
  rfl
theorem v135_113 {z : P0} {st : List Value} {cu : Nat × Nat} {Q : Res → Mem → Prop} {σ : Mem} {x0 x1 x3 : Option Value} {u : Int32} : X z 135 113 [x0, x1, some (.int u), x3] (st) cu σ Q = (X z 135 114 [x0, x1, some (.int u), x3] (.int u :: st) cu σ Q) := by
  rw [x135_113]
  rfl
theorem v135_114 {z : P0} {st : List Value} {cu : Nat × Nat} {Q : Res → Mem → Prop} {σ : Mem} {x0 x1 x2 x3 : Option Value} : X z 135 114 [x0, x1, x2, x3] (st) cu σ Q = (X z 135 115 [x0, x1, x2, x3] (.int (nI 1) :: st) cu σ Q) := by
  rw [x135_114]
  rfl
theorem v135_115 {z : P0} {st : List Value} {cu : Nat × Nat} {Q : Res → Mem → Prop} {σ : Mem} {x0 x1 x2 x3 : Option Value} {u v : Int32} : X z 135 115 [x0, x1, x2, x3] (.int v :: .int u :: st) cu σ Q = (X z 135 116 [x0, x1, x2, x3] (.int (u + v) :: st) cu σ Q) := by
  rw [x135_115]
  rfl
theorem v135_116 {z : P0} {st : List Value} {cu : Nat × Nat} {Q : Res → Mem → Prop} {K : Nat → Nat × Nat} {I : Nat → Nat → Int32} {R : Nat → Nat → Option Nat} {L : Nat → Nat → Int64} {sz : Nat} {ex : Bool} {x0 x1 x2 x3 : Option Value} {u : Nat} {v : Int32} : X z 135 116 [x0, x1, x2, x3] (.int v :: .ref u :: st) cu (K, I, R, L, sz, ex) Q = (((K u).1 = 20 ∨ (K u).1 = 50) ∧ vp_in v (K u).2 ∧ X z 135 117 [x0, x1, x2, x3] (.int (I u v.toNatClampNeg) :: st) cu (K, I, R, L, sz, ex) Q) := by
  rw [x135_116]
  rfl
theorem v135_117 {z : P0} {st : List Value} {cu : Nat × Nat} {Q : Res → Mem → Prop} {σ : Mem} {x0 x1 x2 x3 : Option Value} {u v : Int32} : X z 135 117 [x0, x1, x2, x3] (.int v :: .int u :: st) cu σ Q = (X z 135 118 [x0, x1, x2, x3] (.int (u + v) :: st) cu σ Q) := by
  rw [x135_117]
  rfl
theorem v135_118 {z : P0} {st : List Value} {cu : Nat × Nat} {Q : Res → Mem → Prop} {σ : Mem} {x0 x1 x2 x3 : Option Value} : X z 135 118 [x0, x1, x2, x3] (st) cu σ Q = (X z 135 127 [x0, x1, x2, x3] (st) cu σ Q) := by
  rw [x135_118]
  rfl
theorem v135_121 {z : P0} {st : List Value} {cu : Nat × Nat} {Q : Res → Mem → Prop} {σ : Mem} {x1 x2 x3 : Option Value} {u : Nat} : X z 135 121 [some (.ref u), x1, x2, x3] (st) cu σ Q = (X z 135 122 [some (.ref u), x1, x2, x3] (.ref u :: st) cu σ Q) := by
  rw [x135_121]
  rfl
theorem v135_122 {z : P0} {st : List Value} {cu : Nat × Nat} {Q : Res → Mem → Prop} {K : Nat → Nat × Nat} {I : Nat → Nat → Int32} {R : Nat → Nat → Option Nat} {L : Nat → Nat → Int64} {sz : Nat} {ex : Bool} {x0 x1 x2 x3 : Option Value} {u : Nat} : X z 135 122 [x0, x1, x2, x3] (.ref u :: st) cu (K, I, R, L, sz, ex) Q = ((K u).1 = 111 ∧ X z 135 125 [x0, x1, x2, x3] (va_rf (R u 4) :: st) cu (K, I, R, L, sz, ex) Q) := by
  rw [x135_122]
  rfl
theorem v135_125 {z : P0} {st : List Value} {cu : Nat × Nat} {Q : Res → Mem → Prop} {σ : Mem} {x0 x1 x3 : Option Value} {u : Int32} : X z 135 125 [x0, x1, some (.int u), x3] (st) cu σ Q = (X z 135 126 [x0, x1, some (.int u), x3] (.int u :: st) cu σ Q) := by
  rw [x135_125]
  rfl
theorem v135_126 {z : P0} {st : List Value} {cu : Nat × Nat} {Q : Res → Mem → Prop} {K : Nat → Nat × Nat} {I : Nat → Nat → Int32} {R : Nat → Nat → Option Nat} {L : Nat → Nat → Int64} {sz : Nat} {ex : Bool} {x0 x1 x2 x3 : Option Value} {u : Nat} {v : Int32} : X z 135 126 [x0, x1, x2, x3] (.int v :: .ref u :: st) cu (K, I, R, L, sz, ex) Q = (((K u).1 = 20 ∨ (K u).1 = 50) ∧ vp_in v (K u).2 ∧ X z 135 127 [x0, x1, x2, x3] (.int (I u v.toNatClampNeg) :: st) cu (K, I, R, L, sz, ex) Q) := by
  rw [x135_126]
  rfl
theorem v135_127 {z : P0} {st : List Value} {cu : Nat × Nat} {Q : Res → Mem → Prop} {K : Nat → Nat × Nat} {I : Nat → Nat → Int32} {R : Nat → Nat → Option Nat} {L : Nat → Nat → Int64} {sz : Nat} {ex : Bool} {x0 x1 x2 x3 : Option Value} {u : Nat} {j v : Int32} : X z 135 127 [x0, x1, x2, x3] (.int v :: .int j :: .ref u :: st) cu (K, I, R, L, sz, ex) Q = ((K u).1 = 20 ∧ vp_in j (K u).2 ∧ X z 135 128 [x0, x1, x2, x3] (st) cu (K, up2 I u j.toNatClampNeg v, R, L, sz, ex) Q) := by
  rw [x135_127]
  rfl
theorem v135_128 {z : P0} {st : List Value} {cu : Nat × Nat} {Q : Res → Mem → Prop} {σ : Mem} {x1 x2 x3 : Option Value} {u : Nat} : X z 135 128 [some (.ref u), x1, x2, x3] (st) cu σ Q = (X z 135 129 [some (.ref u), x1, x2, x3] (.ref u :: st) cu σ Q) := by
  rw [x135_128]
  rfl
theorem v135_129 {z : P0} {st : List Value} {cu : Nat × Nat} {Q : Res → Mem → Prop} {K : Nat → Nat × Nat} {I : Nat → Nat → Int32} {R : Nat → Nat → Option Nat} {L : Nat → Nat → Int64} {sz : Nat} {ex : Bool} {x0 x1 x2 x3 : Option Value} {u : Nat} : X z 135 129 [x0, x1, x2, x3] (.ref u :: st) cu (K, I, R, L, sz, ex) Q = ((K u).1 = 111 ∧ X z 135 132 [x0, x1, x2, x3] (va_rf (R u 0) :: st) cu (K, I, R, L, sz, ex) Q) := by
  rw [x135_129]
  rfl
theorem v135_132 {z : P0} {st : List Value} {cu : Nat × Nat} {Q : Res → Mem → Prop} {σ : Mem} {x0 x1 x2 x3 : Option Value} : X z 135 132 [x0, x1, x2, x3] (st) cu σ Q = (X z 135 134 [x0, x1, x2, x3] (.int (nI 12) :: st) cu σ Q) := by
  rw [x135_132]
  rfl
theorem v135_134 {z : P0} {st : List Value} {cu : Nat × Nat} {Q : Res → Mem → Prop} {σ : Mem} {x0 x1 x2 x3 : Option Value} {u : Int32} {v : Nat} : X z 135 134 [x0, x1, x2, x3] (.int u :: .ref v :: st) cu σ Q = (X z 135 135 [x0, x1, x2, x3] (.int u :: .ref v :: .int u :: .ref v :: st) cu σ Q) := by
  rw [x135_134]
  rfl
theorem v135_135 {z : P0} {st : List Value} {cu : Nat × Nat} {Q : Res → Mem → Prop} {K : Nat → Nat × Nat} {I : Nat → Nat → Int32} {R : Nat → Nat → Option Nat} {L : Nat → Nat → Int64} {sz : Nat} {ex : Bool} {x0 x1 x2 x3 : Option Value} {u : Nat} {v : Int32} : X z 135 135 [x0, x1, x2, x3] (.int v :: .ref u :: st) cu (K, I, R, L, sz, ex) Q = (((K u).1 = 20 ∨ (K u).1 = 50) ∧ vp_in v (K u).2 ∧ X z 135 136 [x0, x1, x2, x3] (.int (I u v.toNatClampNeg) :: st) cu (K, I, R, L, sz, ex) Q) := by
  rw [x135_135]
  rfl
theorem v135_136 {z : P0} {st : List Value} {cu : Nat × Nat} {Q : Res → Mem → Prop} {σ : Mem} {x0 x1 x2 x3 : Option Value} : X z 135 136 [x0, x1, x2, x3] (st) cu σ Q = (X z 135 137 [x0, x1, x2, x3] (.int (nI 1) :: st) cu σ Q) := by
  rw [x135_136]
  rfl
theorem v135_137 {z : P0} {st : List Value} {cu : Nat × Nat} {Q : Res → Mem → Prop} {σ : Mem} {x0 x1 x2 x3 : Option Value} {u v : Int32} : X z 135 137 [x0, x1, x2, x3] (.int v :: .int u :: st) cu σ Q = (X z 135 138 [x0, x1, x2, x3] (.int (u + v) :: st) cu σ Q) := by
  rw [x135_137]
  rfl
theorem v135_138 {z : P0} {st : List Value} {cu : Nat × Nat} {Q : Res → Mem → Prop} {K : Nat → Nat × Nat} {I : Nat → Nat → Int32} {R : Nat → Nat → Option Nat} {L : Nat → Nat → Int64} {sz : Nat} {ex : Bool} {x0 x1 x2 x3 : Option Value} {u : Nat} {j v : Int32} : X z 135 138 [x0, x1, x2, x3] (.int v :: .int j :: .ref u :: st) cu (K, I, R, L, sz, ex) Q = ((K u).1 = 20 ∧ vp_in j (K u).2 ∧ X z 135 139 [x0, x1, x2, x3] (st) cu (K, up2 I u j.toNatClampNeg v, R, L, sz, ex) Q) := by
  rw [x135_138]
  rfl
theorem v135_139 {z : P0} {st : List Value} {cu : Nat × Nat} {Q : Res → Mem → Prop} {σ : Mem} {x0 x1 x3 : Option Value} {u : Int32} : X z 135 139 [x0, x1, some (.int u), x3] (st) cu σ Q = (X z 135 140 [x0, x1, some (.int u), x3] (.int u :: st) cu σ Q) := by
  rw [x135_139]
  rfl
theorem v135_140 {z : P0} {st : List Value} {cu : Nat × Nat} {Q : Res → Mem → Prop} {σ : Mem} {x0 x1 x2 : Option Value} {u : Int32} : X z 135 140 [x0, x1, x2, some (.int u)] (st) cu σ Q = (X z 135 141 [x0, x1, x2, some (.int u)] (.int u :: st) cu σ Q) := by
  rw [x135_140]
  rfl
theorem v135_141 {z : P0} {st : List Value} {cu : Nat × Nat} {Q : Res → Mem → Prop} {σ : Mem} {x0 x1 x2 x3 : Option Value} {u : Int32} : X z 135 141 [x0, x1, x2, x3] (.int u :: st) cu σ Q = (if u = nI 0 then X z 135 148 [x0, x1, x2, x3] (st) cu σ Q else X z 135 144 [x0, x1, x2, x3] (st) cu σ Q) := by
  rw [x135_141]
  rw [nI_0]
  obtain ⟨K, I, R, L, sz, ex⟩ := σ
  exact br_ite
theorem v135_144 {z : P0} {st : List Value} {cu : Nat × Nat} {Q : Res → Mem → Prop} {σ : Mem} {x0 x1 x2 x3 : Option Value} : X z 135 144 [x0, x1, x2, x3] (st) cu σ Q = (X z 135 145 [x0, x1, x2, x3] (.int (nI 2) :: st) cu σ Q) := by
  rw [x135_144]
  rfl
theorem v135_145 {z : P0} {st : List Value} {cu : Nat × Nat} {Q : Res → Mem → Prop} {σ : Mem} {x0 x1 x2 x3 : Option Value} : X z 135 145 [x0, x1, x2, x3] (st) cu σ Q = (X z 135 149 [x0, x1, x2, x3] (st) cu σ Q) := by
  rw [x135_145]
  rfl
theorem v135_148 {z : P0} {st : List Value} {cu : Nat × Nat} {Q : Res → Mem → Prop} {σ : Mem} {x0 x1 x2 x3 : Option Value} : X z 135 148 [x0, x1, x2, x3] (st) cu σ Q = (X z 135 149 [x0, x1, x2, x3] (.int (nI 0) :: st) cu σ Q) := by
  rw [x135_148]
  rfl
theorem v135_149 {z : P0} {st : List Value} {cu : Nat × Nat} {Q : Res → Mem → Prop} {σ : Mem} {x0 x1 x2 x3 : Option Value} {u v : Int32} : X z 135 149 [x0, x1, x2, x3] (.int v :: .int u :: st) cu σ Q = (X z 135 150 [x0, x1, x2, x3] (.int (u + v) :: st) cu σ Q) := by
  rw [x135_149]
  rfl
theorem v135_150 {z : P0} {st : List Value} {cu : Nat × Nat} {Q : Res → Mem → Prop} {σ : Mem} {x0 x1 x2 x3 : Option Value} {u : Int32} : X z 135 150 [x0, x1, x2, x3] (.int u :: st) cu σ Q = (cat2 x1 = false ∧ X z 135 151 [x0, x1, some (.int u), x3] (st) cu σ Q) := by
  rw [x135_150]
  obtain ⟨K, I, R, L, sz, ex⟩ := σ
  exact i_istore_n.trans sl_2
theorem v135_151 {z : P0} {st : List Value} {cu : Nat × Nat} {Q : Res → Mem → Prop} {σ : Mem} {x0 x1 x3 : Option Value} {u : Int32} : X z 135 151 [x0, x1, some (.int u), x3] (st) cu σ Q = (cat2 x1 = false ∧ X z 135 154 [x0, x1, some (.int (u + nI 1)), x3] (st) cu σ Q) := by
  rw [x135_151]
  obtain ⟨K, I, R, L, sz, ex⟩ := σ
  exact i_iinc.trans (gl_2.trans (ldI_i.trans sl_2))
theorem v135_154 {z : P0} {st : List Value} {cu : Nat × Nat} {Q : Res → Mem → Prop} {σ : Mem} {x0 x1 x2 x3 : Option Value} : X z 135 154 [x0, x1, x2, x3] (st) cu σ Q = (X z 135 62 [x0, x1, x2, x3] (st) cu σ Q) := by
  rw [x135_154]
  rfl
theorem v135_157 {z : P0} {st : List Value} {cu : Nat × Nat} {Q : Res → Mem → Prop} {σ : Mem} {x1 x2 x3 : Option Value} {u : Nat} : X z 135 157 [some (.ref u), x1, x2, x3] (st) cu σ Q = (X z 135 158 [some (.ref u), x1, x2, x3] (.ref u :: st) cu σ Q) := by
  rw [x135_157]
  rfl
theorem v135_158 {z : P0} {st : List Value} {cu : Nat × Nat} {Q : Res → Mem → Prop} {σ : Mem} {x0 x1 x2 x3 : Option Value} : X z 135 158 [x0, x1, x2, x3] (st) cu σ Q = (X z 135 159 [x0, x1, x2, x3] (.int (nI 0) :: st) cu σ Q) := by
  rw [x135_158]
  rfl
theorem v135_159 {z : P0} {st : List Value} {cu : Nat × Nat} {Q : Res → Mem → Prop} {K : Nat → Nat × Nat} {I : Nat → Nat → Int32} {R : Nat → Nat → Option Nat} {L : Nat → Nat → Int64} {sz : Nat} {ex : Bool} {x0 x1 x2 x3 : Option Value} {u : Nat} {v : Int32} : X z 135 159 [x0, x1, x2, x3] (.int v :: .ref u :: st) cu (K, I, R, L, sz, ex) Q = ((K u).1 = 111 ∧ X z 135 162 [x0, x1, x2, x3] (st) cu (K, up2 I u 3 v, R, L, sz, ex) Q) := by
  rw [x135_159]
  exact i_putI
theorem v135_162 {z : P0} {st : List Value} {cu : Nat × Nat} {Q : Res → Mem → Prop} {σ : Mem} {x1 x2 x3 : Option Value} {u : Nat} : X z 135 162 [some (.ref u), x1, x2, x3] (st) cu σ Q = (X z 135 163 [some (.ref u), x1, x2, x3] (.ref u :: st) cu σ Q) := by
  rw [x135_162]
  rfl
theorem u135_163 {z : P0} {ls : Lcs} {st : List Value} {K : Nat → Nat × Nat} {I : Nat → Nat → Int32} {R : Nat → Nat → Option Nat} {L : Nat → Nat → Int64} {sz : Nat} {ex : Bool} {Q : Res → Mem → Prop} {x : Nat} : X z 135 163 ls (.ref x :: st) (0, 0) (K, I, R, L, sz, ex) Q = ((K x).1 = 111 ∧ wsum st ≤ 8 ∧ X z 111 0 [some (.ref x), none, none] [] (0, 0) (K, I, R, L, sz, ex) (aftr (X z) mT 135 163 ls st (0, 0) Q)) := v135_163 (c := 0) (n := 0)
theorem v135_166 {z : P0} {cu : Nat × Nat} {Q : Res → Mem → Prop} {σ : Mem} {x0 x1 x2 x3 : Option Value} {v : Int32} : X z 135 166 [x0, x1, x2, x3] ([.int v]) cu σ Q = (Q (.inl (some (.int v))) σ) := by
  rw [x135_166]
  exact propext ⟨fun h => h.2, fun h => ⟨trivial, h⟩⟩
theorem v136_0 {z : P0} {st : List Value} {cu : Nat × Nat} {Q : Res → Mem → Prop} {σ : Mem} {x1 x2 x3 : Option Value} {u : Nat} : X z 136 0 [some (.ref u), x1, x2, x3] (st) cu σ Q = (X z 136 1 [some (.ref u), x1, x2, x3] (.ref u :: st) cu σ Q) := by
  rw [x136_0]
  rfl
theorem v136_1 {z : P0} {st : List Value} {cu : Nat × Nat} {Q : Res → Mem → Prop} {σ : Mem} {x1 x2 x3 : Option Value} {u : Nat} : X z 136 1 [some (.ref u), x1, x2, x3] (st) cu σ Q = (X z 136 2 [some (.ref u), x1, x2, x3] (.ref u :: st) cu σ Q) := by
  rw [x136_1]
  rfl
theorem v136_2 {z : P0} {st : List Value} {cu : Nat × Nat} {Q : Res → Mem → Prop} {σ : Mem} {x0 x2 x3 : Option Value} {u : Int32} : X z 136 2 [x0, some (.int u), x2, x3] (st) cu σ Q = (X z 136 3 [x0, some (.int u), x2, x3] (.int u :: st) cu σ Q) := by
  rw [x136_2]
  rfl
theorem u136_3 {z : P0} {ls : Lcs} {st : List Value} {K : Nat → Nat × Nat} {I : Nat → Nat → Int32} {R : Nat → Nat → Option Nat} {L : Nat → Nat → Int64} {sz : Nat} {ex : Bool} {Q : Res → Mem → Prop} {x : Nat} {a0 : Int32} : X z 136 3 ls (.int a0 :: .ref x :: st) (0, 0) (K, I, R, L, sz, ex) Q = ((K x).1 = 111 ∧ wsum st ≤ 8 ∧ X z 108 0 [some (.ref x), some (.int a0)] [] (0, 0) (K, I, R, L, sz, ex) (aftr (X z) mT 136 3 ls st (0, 0) Q)) := v136_3 (c := 0) (n := 0)
theorem v136_6 {z : P0} {st : List Value} {cu : Nat × Nat} {Q : Res → Mem → Prop} {σ : Mem} {x0 x1 x2 x3 : Option Value} {u : Int32} : X z 136 6 [x0, x1, x2, x3] (.int u :: st) cu σ Q = (if u = nI 0 then X z 136 9 [x0, x1, x2, x3] (st) cu σ Q else X z 136 13 [x0, x1, x2, x3] (st) cu σ Q) := by
  rw [x136_6]
  rw [nI_0]
  obtain ⟨K, I, R, L, sz, ex⟩ := σ
  exact br_ne
theorem v136_9 {z : P0} {st : List Value} {cu : Nat × Nat} {Q : Res → Mem → Prop} {σ : Mem} {x0 x1 x2 x3 : Option Value} : X z 136 9 [x0, x1, x2, x3] (st) cu σ Q = (X z 136 10 [x0, x1, x2, x3] (.int (nI 1) :: st) cu σ Q) := by
  rw [x136_9]
  rfl
theorem v136_10 {z : P0} {st : List Value} {cu : Nat × Nat} {Q : Res → Mem → Prop} {σ : Mem} {x0 x1 x2 x3 : Option Value} : X z 136 10 [x0, x1, x2, x3] (st) cu σ Q = (X z 136 28 [x0, x1, x2, x3] (st) cu σ Q) := by
  rw [x136_10]
  rfl
theorem v136_13 {z : P0} {st : List Value} {cu : Nat × Nat} {Q : Res → Mem → Prop} {σ : Mem} {x0 x1 x3 : Option Value} {u : Int32} : X z 136 13 [x0, x1, some (.int u), x3] (st) cu σ Q = (X z 136 14 [x0, x1, some (.int u), x3] (.int u :: st) cu σ Q) := by
  rw [x136_13]
  rfl
theorem v136_14 {z : P0} {st : List Value} {cu : Nat × Nat} {Q : Res → Mem → Prop} {σ : Mem} {x0 x1 x2 x3 : Option Value} : X z 136 14 [x0, x1, x2, x3] (st) cu σ Q = (X z 136 15 [x0, x1, x2, x3] (.int (nI 0) :: st) cu σ Q) := by
  rw [x136_14]
  rfl
theorem v136_15 {z : P0} {st : List Value} {cu : Nat × Nat} {Q : Res → Mem → Prop} {σ : Mem} {x0 x1 x2 x3 : Option Value} : X z 136 15 [x0, x1, x2, x3] (st) cu σ Q = (X z 136 17 [x0, x1, x2, x3] (.int (nI 19) :: st) cu σ Q) := by
  rw [x136_15]
  rfl
theorem u136_17 {z : P0} {ls : Lcs} {st : List Value} {K : Nat → Nat × Nat} {I : Nat → Nat → Int32} {R : Nat → Nat → Option Nat} {L : Nat → Nat → Int64} {sz : Nat} {ex : Bool} {Q : Res → Mem → Prop} {a0 : Int32} {a1 : Int32} {a2 : Int32} : X z 136 17 ls (.int a2 :: .int a1 :: .int a0 :: st) (0, 0) (K, I, R, L, sz, ex) Q = (wsum st ≤ 8 ∧ X z 106 0 [some (.int a0), some (.int a1), some (.int a2)] [] (0, 0) (K, I, R, L, sz, ex) (aftr (X z) mT 136 17 ls st (0, 0) Q)) := v136_17 (c := 0) (n := 0)
theorem v136_20 {z : P0} {st : List Value} {cu : Nat × Nat} {Q : Res → Mem → Prop} {σ : Mem} {x0 x1 x2 x3 : Option Value} {u : Int32} : X z 136 20 [x0, x1, x2, x3] (.int u :: st) cu σ Q = (if u = nI 0 then X z 136 27 [x0, x1, x2, x3] (st) cu σ Q else X z 136 23 [x0, x1, x2, x3] (st) cu σ Q) := by
  rw [x136_20]
  rw [nI_0]
  obtain ⟨K, I, R, L, sz, ex⟩ := σ
  exact br_ite
theorem v136_23 {z : P0} {st : List Value} {cu : Nat × Nat} {Q : Res → Mem → Prop} {σ : Mem} {x0 x1 x2 x3 : Option Value} : X z 136 23 [x0, x1, x2, x3] (st) cu σ Q = (X z 136 24 [x0, x1, x2, x3] (.int (nI 0) :: st) cu σ Q) := by
  rw [x136_23]
  rfl
theorem v136_24 {z : P0} {st : List Value} {cu : Nat × Nat} {Q : Res → Mem → Prop} {σ : Mem} {x0 x1 x2 x3 : Option Value} : X z 136 24 [x0, x1, x2, x3] (st) cu σ Q = (X z 136 28 [x0, x1, x2, x3] (st) cu σ Q) := by
  rw [x136_24]
  rfl
theorem v136_27 {z : P0} {st : List Value} {cu : Nat × Nat} {Q : Res → Mem → Prop} {σ : Mem} {x0 x1 x2 x3 : Option Value} : X z 136 27 [x0, x1, x2, x3] (st) cu σ Q = (X z 136 28 [x0, x1, x2, x3] (.int (nI 2) :: st) cu σ Q) := by
  rw [x136_27]
  rfl
theorem v136_28 {z : P0} {st : List Value} {cu : Nat × Nat} {Q : Res → Mem → Prop} {K : Nat → Nat × Nat} {I : Nat → Nat → Int32} {R : Nat → Nat → Option Nat} {L : Nat → Nat → Int64} {sz : Nat} {ex : Bool} {x0 x1 x2 x3 : Option Value} {u : Nat} {v : Int32} : X z 136 28 [x0, x1, x2, x3] (.int v :: .ref u :: st) cu (K, I, R, L, sz, ex) Q = ((K u).1 = 111 ∧ X z 136 31 [x0, x1, x2, x3] (st) cu (K, up2 I u 5 v, R, L, sz, ex) Q) := by
  rw [x136_28]
  exact i_putI
theorem v136_31 {z : P0} {st : List Value} {cu : Nat × Nat} {Q : Res → Mem → Prop} {σ : Mem} {x1 x2 x3 : Option Value} {u : Nat} : X z 136 31 [some (.ref u), x1, x2, x3] (st) cu σ Q = (X z 136 32 [some (.ref u), x1, x2, x3] (.ref u :: st) cu σ Q) := by
  rw [x136_31]
  rfl
theorem v136_32 {z : P0} {st : List Value} {cu : Nat × Nat} {Q : Res → Mem → Prop} {K : Nat → Nat × Nat} {I : Nat → Nat → Int32} {R : Nat → Nat → Option Nat} {L : Nat → Nat → Int64} {sz : Nat} {ex : Bool} {x0 x1 x2 x3 : Option Value} {u : Nat} : X z 136 32 [x0, x1, x2, x3] (.ref u :: st) cu (K, I, R, L, sz, ex) Q = ((K u).1 = 111 ∧ X z 136 35 [x0, x1, x2, x3] (.int (I u 5) :: st) cu (K, I, R, L, sz, ex) Q) := by
  rw [x136_32]
  rfl
theorem v136_35 {z : P0} {st : List Value} {cu : Nat × Nat} {Q : Res → Mem → Prop} {σ : Mem} {x0 x1 x2 x3 : Option Value} {u : Int32} : X z 136 35 [x0, x1, x2, x3] (.int u :: st) cu σ Q = (if nI 0 < u then X z 136 38 [x0, x1, x2, x3] (st) cu σ Q else X z 136 40 [x0, x1, x2, x3] (st) cu σ Q) := by
  rw [x136_35]
  rw [nI_0]
  obtain ⟨K, I, R, L, sz, ex⟩ := σ
  exact br_ge
theorem v136_38 {z : P0} {st : List Value} {cu : Nat × Nat} {Q : Res → Mem → Prop} {σ : Mem} {x0 x1 x2 x3 : Option Value} : X z 136 38 [x0, x1, x2, x3] (st) cu σ Q = (X z 136 39 [x0, x1, x2, x3] (.int (nI 0) :: st) cu σ Q) := by
  rw [x136_38]
  rfl
theorem v136_39 {z : P0} {cu : Nat × Nat} {Q : Res → Mem → Prop} {σ : Mem} {x0 x1 x2 x3 : Option Value} {v : Int32} : X z 136 39 [x0, x1, x2, x3] ([.int v]) cu σ Q = (Q (.inl (some (.int v))) σ) := by
  rw [x136_39]
  exact propext ⟨fun h => h.2, fun h => ⟨trivial, h⟩⟩
theorem v136_40 {z : P0} {st : List Value} {cu : Nat × Nat} {Q : Res → Mem → Prop} {σ : Mem} {x1 x2 x3 : Option Value} {u : Nat} : X z 136 40 [some (.ref u), x1, x2, x3] (st) cu σ Q = (X z 136 41 [some (.ref u), x1, x2, x3] (.ref u :: st) cu σ Q) := by
  rw [x136_40]
  rfl
theorem u136_41 {z : P0} {ls : Lcs} {st : List Value} {K : Nat → Nat × Nat} {I : Nat → Nat → Int32} {R : Nat → Nat → Option Nat} {L : Nat → Nat → Int64} {sz : Nat} {ex : Bool} {Q : Res → Mem → Prop} {x : Nat} : X z 136 41 ls (.ref x :: st) (0, 0) (K, I, R, L, sz, ex) Q = ((K x).1 = 111 ∧ wsum st ≤ 8 ∧ X z 107 0 [some (.ref x), none] [] (0, 0) (K, I, R, L, sz, ex) (aftr (X z) mT 136 41 ls st (0, 0) Q)) := v136_41 (c := 0) (n := 0)
theorem v136_44 {z : P0} {st : List Value} {cu : Nat × Nat} {Q : Res → Mem → Prop} {σ : Mem} {x1 x2 x3 : Option Value} {u : Nat} : X z 136 44 [some (.ref u), x1, x2, x3] (st) cu σ Q = (X z 136 45 [some (.ref u), x1, x2, x3] (.ref u :: st) cu σ Q) := by
  rw [x136_44]
  rfl
theorem v136_45 {z : P0} {st : List Value} {cu : Nat × Nat} {Q : Res → Mem → Prop} {K : Nat → Nat × Nat} {I : Nat → Nat → Int32} {R : Nat → Nat → Option Nat} {L : Nat → Nat → Int64} {sz : Nat} {ex : Bool} {x0 x1 x2 x3 : Option Value} {u : Nat} : X z 136 45 [x0, x1, x2, x3] (.ref u :: st) cu (K, I, R, L, sz, ex) Q = ((K u).1 = 111 ∧ X z 136 48 [x0, x1, x2, x3] (va_rf (R u 0) :: st) cu (K, I, R, L, sz, ex) Q) := by
  rw [x136_45]
  rfl
theorem v136_48 {z : P0} {st : List Value} {cu : Nat × Nat} {Q : Res → Mem → Prop} {σ : Mem} {x0 x1 x2 x3 : Option Value} : X z 136 48 [x0, x1, x2, x3] (st) cu σ Q = (X z 136 50 [x0, x1, x2, x3] (.int (nI 13) :: st) cu σ Q) := by
  rw [x136_48]
  rfl
theorem v136_50 {z : P0} {st : List Value} {cu : Nat × Nat} {Q : Res → Mem → Prop} {σ : Mem} {x0 x2 x3 : Option Value} {u : Int32} : X z 136 50 [x0, some (.int u), x2, x3] (st) cu σ Q = (X z 136 51 [x0, some (.int u), x2, x3] (.int u :: st) cu σ Q) := by
  rw [x136_50]
  rfl
theorem v136_51 {z : P0} {st : List Value} {cu : Nat × Nat} {Q : Res → Mem → Prop} {σ : Mem} {x0 x1 x2 x3 : Option Value} {u v : Int32} : X z 136 51 [x0, x1, x2, x3] (.int v :: .int u :: st) cu σ Q = (X z 136 52 [x0, x1, x2, x3] (.int (u + v) :: st) cu σ Q) := by
  rw [x136_51]
  rfl
theorem v136_52 {z : P0} {st : List Value} {cu : Nat × Nat} {Q : Res → Mem → Prop} {K : Nat → Nat × Nat} {I : Nat → Nat → Int32} {R : Nat → Nat → Option Nat} {L : Nat → Nat → Int64} {sz : Nat} {ex : Bool} {x0 x1 x2 x3 : Option Value} {u : Nat} {v : Int32} : X z 136 52 [x0, x1, x2, x3] (.int v :: .ref u :: st) cu (K, I, R, L, sz, ex) Q = (((K u).1 = 20 ∨ (K u).1 = 50) ∧ vp_in v (K u).2 ∧ X z 136 53 [x0, x1, x2, x3] (.int (I u v.toNatClampNeg) :: st) cu (K, I, R, L, sz, ex) Q) := by
  rw [x136_52]
  rfl
theorem v136_53 {z : P0} {st : List Value} {cu : Nat × Nat} {Q : Res → Mem → Prop} {σ : Mem} {x0 x1 x2 x3 : Option Value} {u : Int32} : X z 136 53 [x0, x1, x2, x3] (.int u :: st) cu σ Q = (cat2 x2 = false ∧ X z 136 54 [x0, x1, x2, some (.int u)] (st) cu σ Q) := by
  rw [x136_53]
  obtain ⟨K, I, R, L, sz, ex⟩ := σ
  exact i_istore_n.trans sl_3
theorem v136_54 {z : P0} {st : List Value} {cu : Nat × Nat} {Q : Res → Mem → Prop} {σ : Mem} {x1 x2 x3 : Option Value} {u : Nat} : X z 136 54 [some (.ref u), x1, x2, x3] (st) cu σ Q = (X z 136 55 [some (.ref u), x1, x2, x3] (.ref u :: st) cu σ Q) := by
  rw [x136_54]
  rfl
theorem v136_55 {z : P0} {st : List Value} {cu : Nat × Nat} {Q : Res → Mem → Prop} {K : Nat → Nat × Nat} {I : Nat → Nat → Int32} {R : Nat → Nat → Option Nat} {L : Nat → Nat → Int64} {sz : Nat} {ex : Bool} {x0 x1 x2 x3 : Option Value} {u : Nat} : X z 136 55 [x0, x1, x2, x3] (.ref u :: st) cu (K, I, R, L, sz, ex) Q = ((K u).1 = 111 ∧ X z 136 58 [x0, x1, x2, x3] (va_rf (R u 0) :: st) cu (K, I, R, L, sz, ex) Q) := by
  rw [x136_55]
  rfl
theorem v136_58 {z : P0} {st : List Value} {cu : Nat × Nat} {Q : Res → Mem → Prop} {σ : Mem} {x0 x1 x2 x3 : Option Value} : X z 136 58 [x0, x1, x2, x3] (st) cu σ Q = (X z 136 60 [x0, x1, x2, x3] (.int (nI 13) :: st) cu σ Q) := by
  rw [x136_58]
  rfl
theorem v136_60 {z : P0} {st : List Value} {cu : Nat × Nat} {Q : Res → Mem → Prop} {σ : Mem} {x0 x2 x3 : Option Value} {u : Int32} : X z 136 60 [x0, some (.int u), x2, x3] (st) cu σ Q = (X z 136 61 [x0, some (.int u), x2, x3] (.int u :: st) cu σ Q) := by
  rw [x136_60]
  rfl
theorem v136_61 {z : P0} {st : List Value} {cu : Nat × Nat} {Q : Res → Mem → Prop} {σ : Mem} {x0 x1 x2 x3 : Option Value} {u v : Int32} : X z 136 61 [x0, x1, x2, x3] (.int v :: .int u :: st) cu σ Q = (X z 136 62 [x0, x1, x2, x3] (.int (u + v) :: st) cu σ Q) := by
  rw [x136_61]
  rfl
theorem v136_62 {z : P0} {st : List Value} {cu : Nat × Nat} {Q : Res → Mem → Prop} {σ : Mem} {x0 x1 x3 : Option Value} {u : Int32} : X z 136 62 [x0, x1, some (.int u), x3] (st) cu σ Q = (X z 136 63 [x0, x1, some (.int u), x3] (.int u :: st) cu σ Q) := by
  rw [x136_62]
  rfl
theorem v136_63 {z : P0} {st : List Value} {cu : Nat × Nat} {Q : Res → Mem → Prop} {K : Nat → Nat × Nat} {I : Nat → Nat → Int32} {R : Nat → Nat → Option Nat} {L : Nat → Nat → Int64} {sz : Nat} {ex : Bool} {x0 x1 x2 x3 : Option Value} {u : Nat} {j v : Int32} : X z 136 63 [x0, x1, x2, x3] (.int v :: .int j :: .ref u :: st) cu (K, I, R, L, sz, ex) Q = ((K u).1 = 20 ∧ vp_in j (K u).2 ∧ X z 136 64 [x0, x1, x2, x3] (st) cu (K, up2 I u j.toNatClampNeg v, R, L, sz, ex) Q) := by
  rw [x136_63]
  rfl
theorem v136_64 {z : P0} {st : List Value} {cu : Nat × Nat} {Q : Res → Mem → Prop} {σ : Mem} {x0 x1 x2 : Option Value} {u : Int32} : X z 136 64 [x0, x1, x2, some (.int u)] (st) cu σ Q = (X z 136 65 [x0, x1, x2, some (.int u)] (.int u :: st) cu σ Q) := by
  rw [x136_64]
  rfl
theorem v136_65 {z : P0} {cu : Nat × Nat} {Q : Res → Mem → Prop} {σ : Mem} {x0 x1 x2 x3 : Option Value} {v : Int32} : X z 136 65 [x0, x1, x2, x3] ([.int v]) cu σ Q = (Q (.inl (some (.int v))) σ) := by
  rw [x136_65]
  exact propext ⟨fun h => h.2, fun h => ⟨trivial, h⟩⟩
theorem v137_0 {z : P0} {st : List Value} {cu : Nat × Nat} {Q : Res → Mem → Prop} {σ : Mem} {x1 x2 x3 : Option Value} {u : Nat} : X z 137 0 [some (.ref u), x1, x2, x3] (st) cu σ Q = (X z 137 1 [some (.ref u), x1, x2, x3] (.ref u :: st) cu σ Q) := by
  rw [x137_0]
  rfl
theorem v137_1 {z : P0} {st : List Value} {cu : Nat × Nat} {Q : Res → Mem → Prop} {σ : Mem} {x1 x2 x3 : Option Value} {u : Nat} : X z 137 1 [some (.ref u), x1, x2, x3] (st) cu σ Q = (X z 137 2 [some (.ref u), x1, x2, x3] (.ref u :: st) cu σ Q) := by
  rw [x137_1]
  rfl
theorem v137_2 {z : P0} {st : List Value} {cu : Nat × Nat} {Q : Res → Mem → Prop} {σ : Mem} {x0 x2 x3 : Option Value} {u : Int32} : X z 137 2 [x0, some (.int u), x2, x3] (st) cu σ Q = (X z 137 3 [x0, some (.int u), x2, x3] (.int u :: st) cu σ Q) := by
  rw [x137_2]
  rfl
theorem u137_3 {z : P0} {ls : Lcs} {st : List Value} {K : Nat → Nat × Nat} {I : Nat → Nat → Int32} {R : Nat → Nat → Option Nat} {L : Nat → Nat → Int64} {sz : Nat} {ex : Bool} {Q : Res → Mem → Prop} {x : Nat} {a0 : Int32} : X z 137 3 ls (.int a0 :: .ref x :: st) (0, 0) (K, I, R, L, sz, ex) Q = ((K x).1 = 111 ∧ wsum st ≤ 8 ∧ X z 108 0 [some (.ref x), some (.int a0)] [] (0, 0) (K, I, R, L, sz, ex) (aftr (X z) mT 137 3 ls st (0, 0) Q)) := v137_3 (c := 0) (n := 0)
theorem v137_6 {z : P0} {st : List Value} {cu : Nat × Nat} {Q : Res → Mem → Prop} {σ : Mem} {x0 x1 x2 x3 : Option Value} {u : Int32} : X z 137 6 [x0, x1, x2, x3] (.int u :: st) cu σ Q = (if u = nI 0 then X z 137 26 [x0, x1, x2, x3] (st) cu σ Q else X z 137 9 [x0, x1, x2, x3] (st) cu σ Q) := by
  rw [x137_6]
  rw [nI_0]
  obtain ⟨K, I, R, L, sz, ex⟩ := σ
  exact br_ite
theorem v137_9 {z : P0} {st : List Value} {cu : Nat × Nat} {Q : Res → Mem → Prop} {σ : Mem} {x0 x1 x3 : Option Value} {u : Int32} : X z 137 9 [x0, x1, some (.int u), x3] (st) cu σ Q = (X z 137 10 [x0, x1, some (.int u), x3] (.int u :: st) cu σ Q) := by
  rw [x137_9]
  rfl
theorem v137_10 {z : P0} {st : List Value} {cu : Nat × Nat} {Q : Res → Mem → Prop} {σ : Mem} {x0 x1 x2 x3 : Option Value} : X z 137 10 [x0, x1, x2, x3] (st) cu σ Q = (X z 137 11 [x0, x1, x2, x3] (.int (nI 4294967295) :: st) cu σ Q) := by
  rw [x137_10]
  rw [neg1]
  rfl
theorem v137_11 {z : P0} {st : List Value} {cu : Nat × Nat} {Q : Res → Mem → Prop} {σ : Mem} {x0 x1 x2 x3 : Option Value} {u v : Int32} : X z 137 11 [x0, x1, x2, x3] (.int v :: .int u :: st) cu σ Q = (if u = v then X z 137 22 [x0, x1, x2, x3] (st) cu σ Q else X z 137 14 [x0, x1, x2, x3] (st) cu σ Q) := by
  rw [x137_11]
  obtain ⟨K, I, R, L, sz, ex⟩ := σ
  exact br_ite
theorem v137_14 {z : P0} {st : List Value} {cu : Nat × Nat} {Q : Res → Mem → Prop} {σ : Mem} {x1 x2 x3 : Option Value} {u : Nat} : X z 137 14 [some (.ref u), x1, x2, x3] (st) cu σ Q = (X z 137 15 [some (.ref u), x1, x2, x3] (.ref u :: st) cu σ Q) := by
  rw [x137_14]
  rfl
theorem v137_15 {z : P0} {st : List Value} {cu : Nat × Nat} {Q : Res → Mem → Prop} {σ : Mem} {x0 x1 x3 : Option Value} {u : Int32} : X z 137 15 [x0, x1, some (.int u), x3] (st) cu σ Q = (X z 137 16 [x0, x1, some (.int u), x3] (.int u :: st) cu σ Q) := by
  rw [x137_15]
  rfl
theorem u137_16 {z : P0} {ls : Lcs} {st : List Value} {K : Nat → Nat × Nat} {I : Nat → Nat → Int32} {R : Nat → Nat → Option Nat} {L : Nat → Nat → Int64} {sz : Nat} {ex : Bool} {Q : Res → Mem → Prop} {x : Nat} {a0 : Int32} : X z 137 16 ls (.int a0 :: .ref x :: st) (0, 0) (K, I, R, L, sz, ex) Q = ((K x).1 = 111 ∧ wsum st ≤ 8 ∧ X z 109 0 [some (.ref x), some (.int a0)] [] (0, 0) (K, I, R, L, sz, ex) (aftr (X z) mT 137 16 ls st (0, 0) Q)) := v137_16 (c := 0) (n := 0)
theorem v137_19 {z : P0} {st : List Value} {cu : Nat × Nat} {Q : Res → Mem → Prop} {σ : Mem} {x0 x1 x2 x3 : Option Value} {u : Int32} : X z 137 19 [x0, x1, x2, x3] (.int u :: st) cu σ Q = (if u = nI 0 then X z 137 26 [x0, x1, x2, x3] (st) cu σ Q else X z 137 22 [x0, x1, x2, x3] (st) cu σ Q) := by
  rw [x137_19]
  rw [nI_0]
  obtain ⟨K, I, R, L, sz, ex⟩ := σ
  exact br_ite
theorem v137_22 {z : P0} {st : List Value} {cu : Nat × Nat} {Q : Res → Mem → Prop} {σ : Mem} {x0 x1 x2 x3 : Option Value} : X z 137 22 [x0, x1, x2, x3] (st) cu σ Q = (X z 137 23 [x0, x1, x2, x3] (.int (nI 0) :: st) cu σ Q) := by
  rw [x137_22]
  rfl
theorem v137_23 {z : P0} {st : List Value} {cu : Nat × Nat} {Q : Res → Mem → Prop} {σ : Mem} {x0 x1 x2 x3 : Option Value} : X z 137 23 [x0, x1, x2, x3] (st) cu σ Q = (X z 137 27 [x0, x1, x2, x3] (st) cu σ Q) := by
  rw [x137_23]
  rfl
theorem v137_26 {z : P0} {st : List Value} {cu : Nat × Nat} {Q : Res → Mem → Prop} {σ : Mem} {x0 x1 x2 x3 : Option Value} : X z 137 26 [x0, x1, x2, x3] (st) cu σ Q = (X z 137 27 [x0, x1, x2, x3] (.int (nI 1) :: st) cu σ Q) := by
  rw [x137_26]
  rfl
theorem v137_27 {z : P0} {st : List Value} {cu : Nat × Nat} {Q : Res → Mem → Prop} {K : Nat → Nat × Nat} {I : Nat → Nat → Int32} {R : Nat → Nat → Option Nat} {L : Nat → Nat → Int64} {sz : Nat} {ex : Bool} {x0 x1 x2 x3 : Option Value} {u : Nat} {v : Int32} : X z 137 27 [x0, x1, x2, x3] (.int v :: .ref u :: st) cu (K, I, R, L, sz, ex) Q = ((K u).1 = 111 ∧ X z 137 30 [x0, x1, x2, x3] (st) cu (K, up2 I u 5 v, R, L, sz, ex) Q) := by
  rw [x137_27]
  exact i_putI
theorem v137_30 {z : P0} {st : List Value} {cu : Nat × Nat} {Q : Res → Mem → Prop} {σ : Mem} {x1 x2 x3 : Option Value} {u : Nat} : X z 137 30 [some (.ref u), x1, x2, x3] (st) cu σ Q = (X z 137 31 [some (.ref u), x1, x2, x3] (.ref u :: st) cu σ Q) := by
  rw [x137_30]
  rfl
theorem v137_31 {z : P0} {st : List Value} {cu : Nat × Nat} {Q : Res → Mem → Prop} {K : Nat → Nat × Nat} {I : Nat → Nat → Int32} {R : Nat → Nat → Option Nat} {L : Nat → Nat → Int64} {sz : Nat} {ex : Bool} {x0 x1 x2 x3 : Option Value} {u : Nat} : X z 137 31 [x0, x1, x2, x3] (.ref u :: st) cu (K, I, R, L, sz, ex) Q = ((K u).1 = 111 ∧ X z 137 34 [x0, x1, x2, x3] (.int (I u 5) :: st) cu (K, I, R, L, sz, ex) Q) := by
  rw [x137_31]
  rfl
theorem v137_34 {z : P0} {st : List Value} {cu : Nat × Nat} {Q : Res → Mem → Prop} {σ : Mem} {x0 x1 x2 x3 : Option Value} {u : Int32} : X z 137 34 [x0, x1, x2, x3] (.int u :: st) cu σ Q = (if nI 0 < u then X z 137 37 [x0, x1, x2, x3] (st) cu σ Q else X z 137 39 [x0, x1, x2, x3] (st) cu σ Q) := by
  rw [x137_34]
  rw [nI_0]
  obtain ⟨K, I, R, L, sz, ex⟩ := σ
  exact br_ge
theorem v137_37 {z : P0} {st : List Value} {cu : Nat × Nat} {Q : Res → Mem → Prop} {σ : Mem} {x0 x1 x2 x3 : Option Value} : X z 137 37 [x0, x1, x2, x3] (st) cu σ Q = (X z 137 38 [x0, x1, x2, x3] (.int (nI 0) :: st) cu σ Q) := by
  rw [x137_37]
  rfl
theorem v137_38 {z : P0} {cu : Nat × Nat} {Q : Res → Mem → Prop} {σ : Mem} {x0 x1 x2 x3 : Option Value} {v : Int32} : X z 137 38 [x0, x1, x2, x3] ([.int v]) cu σ Q = (Q (.inl (some (.int v))) σ) := by
  rw [x137_38]
  exact propext ⟨fun h => h.2, fun h => ⟨trivial, h⟩⟩
theorem v137_39 {z : P0} {st : List Value} {cu : Nat × Nat} {Q : Res → Mem → Prop} {σ : Mem} {x1 x2 x3 : Option Value} {u : Nat} : X z 137 39 [some (.ref u), x1, x2, x3] (st) cu σ Q = (X z 137 40 [some (.ref u), x1, x2, x3] (.ref u :: st) cu σ Q) := by
  rw [x137_39]
  rfl
theorem u137_40 {z : P0} {ls : Lcs} {st : List Value} {K : Nat → Nat × Nat} {I : Nat → Nat → Int32} {R : Nat → Nat → Option Nat} {L : Nat → Nat → Int64} {sz : Nat} {ex : Bool} {Q : Res → Mem → Prop} {x : Nat} : X z 137 40 ls (.ref x :: st) (0, 0) (K, I, R, L, sz, ex) Q = ((K x).1 = 111 ∧ wsum st ≤ 8 ∧ X z 107 0 [some (.ref x), none] [] (0, 0) (K, I, R, L, sz, ex) (aftr (X z) mT 137 40 ls st (0, 0) Q)) := v137_40 (c := 0) (n := 0)
theorem v137_43 {z : P0} {st : List Value} {cu : Nat × Nat} {Q : Res → Mem → Prop} {σ : Mem} {x1 x2 x3 : Option Value} {u : Nat} : X z 137 43 [some (.ref u), x1, x2, x3] (st) cu σ Q = (X z 137 44 [some (.ref u), x1, x2, x3] (.ref u :: st) cu σ Q) := by
  rw [x137_43]
  rfl
theorem v137_44 {z : P0} {st : List Value} {cu : Nat × Nat} {Q : Res → Mem → Prop} {K : Nat → Nat × Nat} {I : Nat → Nat → Int32} {R : Nat → Nat → Option Nat} {L : Nat → Nat → Int64} {sz : Nat} {ex : Bool} {x0 x1 x2 x3 : Option Value} {u : Nat} : X z 137 44 [x0, x1, x2, x3] (.ref u :: st) cu (K, I, R, L, sz, ex) Q = ((K u).1 = 111 ∧ X z 137 47 [x0, x1, x2, x3] (va_rf (R u 0) :: st) cu (K, I, R, L, sz, ex) Q) := by
  rw [x137_44]
  rfl
theorem v137_47 {z : P0} {st : List Value} {cu : Nat × Nat} {Q : Res → Mem → Prop} {σ : Mem} {x0 x1 x2 x3 : Option Value} : X z 137 47 [x0, x1, x2, x3] (st) cu σ Q = (X z 137 49 [x0, x1, x2, x3] (.int (nI 53) :: st) cu σ Q) := by
  rw [x137_47]
  rfl
theorem v137_49 {z : P0} {st : List Value} {cu : Nat × Nat} {Q : Res → Mem → Prop} {σ : Mem} {x0 x2 x3 : Option Value} {u : Int32} : X z 137 49 [x0, some (.int u), x2, x3] (st) cu σ Q = (X z 137 50 [x0, some (.int u), x2, x3] (.int u :: st) cu σ Q) := by
  rw [x137_49]
  rfl
theorem v137_50 {z : P0} {st : List Value} {cu : Nat × Nat} {Q : Res → Mem → Prop} {σ : Mem} {x0 x1 x2 x3 : Option Value} {u v : Int32} : X z 137 50 [x0, x1, x2, x3] (.int v :: .int u :: st) cu σ Q = (X z 137 51 [x0, x1, x2, x3] (.int (u + v) :: st) cu σ Q) := by
  rw [x137_50]
  rfl
theorem v137_51 {z : P0} {st : List Value} {cu : Nat × Nat} {Q : Res → Mem → Prop} {K : Nat → Nat × Nat} {I : Nat → Nat → Int32} {R : Nat → Nat → Option Nat} {L : Nat → Nat → Int64} {sz : Nat} {ex : Bool} {x0 x1 x2 x3 : Option Value} {u : Nat} {v : Int32} : X z 137 51 [x0, x1, x2, x3] (.int v :: .ref u :: st) cu (K, I, R, L, sz, ex) Q = (((K u).1 = 20 ∨ (K u).1 = 50) ∧ vp_in v (K u).2 ∧ X z 137 52 [x0, x1, x2, x3] (.int (I u v.toNatClampNeg) :: st) cu (K, I, R, L, sz, ex) Q) := by
  rw [x137_51]
  rfl
theorem v137_52 {z : P0} {st : List Value} {cu : Nat × Nat} {Q : Res → Mem → Prop} {σ : Mem} {x0 x1 x2 x3 : Option Value} {u : Int32} : X z 137 52 [x0, x1, x2, x3] (.int u :: st) cu σ Q = (cat2 x2 = false ∧ X z 137 53 [x0, x1, x2, some (.int u)] (st) cu σ Q) := by
  rw [x137_52]
  obtain ⟨K, I, R, L, sz, ex⟩ := σ
  exact i_istore_n.trans sl_3
theorem v137_53 {z : P0} {st : List Value} {cu : Nat × Nat} {Q : Res → Mem → Prop} {σ : Mem} {x1 x2 x3 : Option Value} {u : Nat} : X z 137 53 [some (.ref u), x1, x2, x3] (st) cu σ Q = (X z 137 54 [some (.ref u), x1, x2, x3] (.ref u :: st) cu σ Q) := by
  rw [x137_53]
  rfl
theorem v137_54 {z : P0} {st : List Value} {cu : Nat × Nat} {Q : Res → Mem → Prop} {K : Nat → Nat × Nat} {I : Nat → Nat → Int32} {R : Nat → Nat → Option Nat} {L : Nat → Nat → Int64} {sz : Nat} {ex : Bool} {x0 x1 x2 x3 : Option Value} {u : Nat} : X z 137 54 [x0, x1, x2, x3] (.ref u :: st) cu (K, I, R, L, sz, ex) Q = ((K u).1 = 111 ∧ X z 137 57 [x0, x1, x2, x3] (va_rf (R u 0) :: st) cu (K, I, R, L, sz, ex) Q) := by
  rw [x137_54]
  rfl
theorem v137_57 {z : P0} {st : List Value} {cu : Nat × Nat} {Q : Res → Mem → Prop} {σ : Mem} {x0 x1 x2 x3 : Option Value} : X z 137 57 [x0, x1, x2, x3] (st) cu σ Q = (X z 137 59 [x0, x1, x2, x3] (.int (nI 53) :: st) cu σ Q) := by
  rw [x137_57]
  rfl
theorem v137_59 {z : P0} {st : List Value} {cu : Nat × Nat} {Q : Res → Mem → Prop} {σ : Mem} {x0 x2 x3 : Option Value} {u : Int32} : X z 137 59 [x0, some (.int u), x2, x3] (st) cu σ Q = (X z 137 60 [x0, some (.int u), x2, x3] (.int u :: st) cu σ Q) := by
  rw [x137_59]
  rfl
theorem v137_60 {z : P0} {st : List Value} {cu : Nat × Nat} {Q : Res → Mem → Prop} {σ : Mem} {x0 x1 x2 x3 : Option Value} {u v : Int32} : X z 137 60 [x0, x1, x2, x3] (.int v :: .int u :: st) cu σ Q = (X z 137 61 [x0, x1, x2, x3] (.int (u + v) :: st) cu σ Q) := by
  rw [x137_60]
  rfl
theorem v137_61 {z : P0} {st : List Value} {cu : Nat × Nat} {Q : Res → Mem → Prop} {σ : Mem} {x0 x1 x3 : Option Value} {u : Int32} : X z 137 61 [x0, x1, some (.int u), x3] (st) cu σ Q = (X z 137 62 [x0, x1, some (.int u), x3] (.int u :: st) cu σ Q) := by
  rw [x137_61]
  rfl
theorem v137_62 {z : P0} {st : List Value} {cu : Nat × Nat} {Q : Res → Mem → Prop} {K : Nat → Nat × Nat} {I : Nat → Nat → Int32} {R : Nat → Nat → Option Nat} {L : Nat → Nat → Int64} {sz : Nat} {ex : Bool} {x0 x1 x2 x3 : Option Value} {u : Nat} {j v : Int32} : X z 137 62 [x0, x1, x2, x3] (.int v :: .int j :: .ref u :: st) cu (K, I, R, L, sz, ex) Q = ((K u).1 = 20 ∧ vp_in j (K u).2 ∧ X z 137 63 [x0, x1, x2, x3] (st) cu (K, up2 I u j.toNatClampNeg v, R, L, sz, ex) Q) := by
  rw [x137_62]
  rfl
theorem v137_63 {z : P0} {st : List Value} {cu : Nat × Nat} {Q : Res → Mem → Prop} {σ : Mem} {x0 x1 x2 : Option Value} {u : Int32} : X z 137 63 [x0, x1, x2, some (.int u)] (st) cu σ Q = (X z 137 64 [x0, x1, x2, some (.int u)] (.int u :: st) cu σ Q) := by
  rw [x137_63]
  rfl
theorem v137_64 {z : P0} {cu : Nat × Nat} {Q : Res → Mem → Prop} {σ : Mem} {x0 x1 x2 x3 : Option Value} {v : Int32} : X z 137 64 [x0, x1, x2, x3] ([.int v]) cu σ Q = (Q (.inl (some (.int v))) σ) := by
  rw [x137_64]
  exact propext ⟨fun h => h.2, fun h => ⟨trivial, h⟩⟩
theorem v138_0 {z : P0} {st : List Value} {cu : Nat × Nat} {Q : Res → Mem → Prop} {σ : Mem} {x0 x1 x2 : Option Value} : X z 138 0 [x0, x1, x2] (st) cu σ Q = (X z 138 1 [x0, x1, x2] (.int (nI 0) :: st) cu σ Q) := by
  rw [x138_0]
  rfl
theorem v138_1 {z : P0} {st : List Value} {cu : Nat × Nat} {Q : Res → Mem → Prop} {σ : Mem} {x0 x1 x2 : Option Value} {u : Int32} : X z 138 1 [x0, x1, x2] (.int u :: st) cu σ Q = (cat2 x0 = false ∧ X z 138 2 [x0, some (.int u), x2] (st) cu σ Q) := by
  rw [x138_1]
  obtain ⟨K, I, R, L, sz, ex⟩ := σ
  exact i_istore_n.trans sl_1
theorem v138_2 {z : P0} {st : List Value} {cu : Nat × Nat} {Q : Res → Mem → Prop} {σ : Mem} {x0 x1 x2 : Option Value} : X z 138 2 [x0, x1, x2] (st) cu σ Q = (X z 138 3 [x0, x1, x2] (.int (nI 0) :: st) cu σ Q) := by
  rw [x138_2]
  rfl
theorem v138_3 {z : P0} {st : List Value} {cu : Nat × Nat} {Q : Res → Mem → Prop} {σ : Mem} {x0 x1 x2 : Option Value} {u : Int32} : X z 138 3 [x0, x1, x2] (.int u :: st) cu σ Q = (cat2 x1 = false ∧ X z 138 4 [x0, x1, some (.int u)] (st) cu σ Q) := by
  rw [x138_3]
  obtain ⟨K, I, R, L, sz, ex⟩ := σ
  exact i_istore_n.trans sl_2
theorem v138_4 {z : P0} {st : List Value} {cu : Nat × Nat} {Q : Res → Mem → Prop} {σ : Mem} {x0 x1 : Option Value} {u : Int32} : X z 138 4 [x0, x1, some (.int u)] (st) cu σ Q = (X z 138 5 [x0, x1, some (.int u)] (.int u :: st) cu σ Q) := by
  rw [x138_4]
  rfl
theorem v138_5 {z : P0} {st : List Value} {cu : Nat × Nat} {Q : Res → Mem → Prop} {σ : Mem} {x1 x2 : Option Value} {u : Nat} : X z 138 5 [some (.ref u), x1, x2] (st) cu σ Q = (X z 138 6 [some (.ref u), x1, x2] (.ref u :: st) cu σ Q) := by
  rw [x138_5]
  rfl
theorem v138_6 {z : P0} {st : List Value} {cu : Nat × Nat} {Q : Res → Mem → Prop} {K : Nat → Nat × Nat} {I : Nat → Nat → Int32} {R : Nat → Nat → Option Nat} {L : Nat → Nat → Int64} {sz : Nat} {ex : Bool} {x0 x1 x2 : Option Value} {u : Nat} : X z 138 6 [x0, x1, x2] (.ref u :: st) cu (K, I, R, L, sz, ex) Q = ((K u).1 = 111 ∧ X z 138 9 [x0, x1, x2] (va_rf (R u 0) :: st) cu (K, I, R, L, sz, ex) Q) := by
  rw [x138_6]
  rfl
theorem v138_9 {z : P0} {st : List Value} {cu : Nat × Nat} {Q : Res → Mem → Prop} {σ : Mem} {x0 x1 x2 : Option Value} : X z 138 9 [x0, x1, x2] (st) cu σ Q = (X z 138 11 [x0, x1, x2] (.int (nI 6) :: st) cu σ Q) := by
  rw [x138_9]
  rfl
theorem v138_11 {z : P0} {st : List Value} {cu : Nat × Nat} {Q : Res → Mem → Prop} {K : Nat → Nat × Nat} {I : Nat → Nat → Int32} {R : Nat → Nat → Option Nat} {L : Nat → Nat → Int64} {sz : Nat} {ex : Bool} {x0 x1 x2 : Option Value} {u : Nat} {v : Int32} : X z 138 11 [x0, x1, x2] (.int v :: .ref u :: st) cu (K, I, R, L, sz, ex) Q = (((K u).1 = 20 ∨ (K u).1 = 50) ∧ vp_in v (K u).2 ∧ X z 138 12 [x0, x1, x2] (.int (I u v.toNatClampNeg) :: st) cu (K, I, R, L, sz, ex) Q) := by
  rw [x138_11]
  rfl
theorem v138_12 {z : P0} {st : List Value} {cu : Nat × Nat} {Q : Res → Mem → Prop} {σ : Mem} {x0 x1 x2 : Option Value} {u v : Int32} : X z 138 12 [x0, x1, x2] (.int v :: .int u :: st) cu σ Q = (if u < v then X z 138 15 [x0, x1, x2] (st) cu σ Q else X z 138 33 [x0, x1, x2] (st) cu σ Q) := by
  rw [x138_12]
  obtain ⟨K, I, R, L, sz, ex⟩ := σ
  exact br_ge
theorem v138_15 {z : P0} {st : List Value} {cu : Nat × Nat} {Q : Res → Mem → Prop} {σ : Mem} {x0 x2 : Option Value} {u : Int32} : X z 138 15 [x0, some (.int u), x2] (st) cu σ Q = (X z 138 16 [x0, some (.int u), x2] (.int u :: st) cu σ Q) := by
  rw [x138_15]
  rfl
theorem v138_16 {z : P0} {st : List Value} {cu : Nat × Nat} {Q : Res → Mem → Prop} {σ : Mem} {x1 x2 : Option Value} {u : Nat} : X z 138 16 [some (.ref u), x1, x2] (st) cu σ Q = (X z 138 17 [some (.ref u), x1, x2] (.ref u :: st) cu σ Q) := by
  rw [x138_16]
  rfl
theorem v138_17 {z : P0} {st : List Value} {cu : Nat × Nat} {Q : Res → Mem → Prop} {K : Nat → Nat × Nat} {I : Nat → Nat → Int32} {R : Nat → Nat → Option Nat} {L : Nat → Nat → Int64} {sz : Nat} {ex : Bool} {x0 x1 x2 : Option Value} {u : Nat} : X z 138 17 [x0, x1, x2] (.ref u :: st) cu (K, I, R, L, sz, ex) Q = ((K u).1 = 111 ∧ X z 138 20 [x0, x1, x2] (va_rf (R u 0) :: st) cu (K, I, R, L, sz, ex) Q) := by
  rw [x138_17]
  rfl
theorem v138_20 {z : P0} {st : List Value} {cu : Nat × Nat} {Q : Res → Mem → Prop} {σ : Mem} {x0 x1 x2 : Option Value} : X z 138 20 [x0, x1, x2] (st) cu σ Q = (X z 138 22 [x0, x1, x2] (.int (nI 73) :: st) cu σ Q) := by
  rw [x138_20]
  rfl
theorem v138_22 {z : P0} {st : List Value} {cu : Nat × Nat} {Q : Res → Mem → Prop} {σ : Mem} {x0 x1 : Option Value} {u : Int32} : X z 138 22 [x0, x1, some (.int u)] (st) cu σ Q = (X z 138 23 [x0, x1, some (.int u)] (.int u :: st) cu σ Q) := by
  rw [x138_22]
  rfl
theorem v138_23 {z : P0} {st : List Value} {cu : Nat × Nat} {Q : Res → Mem → Prop} {σ : Mem} {x0 x1 x2 : Option Value} {u v : Int32} : X z 138 23 [x0, x1, x2] (.int v :: .int u :: st) cu σ Q = (X z 138 24 [x0, x1, x2] (.int (u + v) :: st) cu σ Q) := by
  rw [x138_23]
  rfl
theorem v138_24 {z : P0} {st : List Value} {cu : Nat × Nat} {Q : Res → Mem → Prop} {K : Nat → Nat × Nat} {I : Nat → Nat → Int32} {R : Nat → Nat → Option Nat} {L : Nat → Nat → Int64} {sz : Nat} {ex : Bool} {x0 x1 x2 : Option Value} {u : Nat} {v : Int32} : X z 138 24 [x0, x1, x2] (.int v :: .ref u :: st) cu (K, I, R, L, sz, ex) Q = (((K u).1 = 20 ∨ (K u).1 = 50) ∧ vp_in v (K u).2 ∧ X z 138 25 [x0, x1, x2] (.int (I u v.toNatClampNeg) :: st) cu (K, I, R, L, sz, ex) Q) := by
  rw [x138_24]
  rfl
theorem v138_25 {z : P0} {st : List Value} {cu : Nat × Nat} {Q : Res → Mem → Prop} {σ : Mem} {x0 x1 x2 : Option Value} {u v : Int32} : X z 138 25 [x0, x1, x2] (.int v :: .int u :: st) cu σ Q = (X z 138 26 [x0, x1, x2] (.int (u + v) :: st) cu σ Q) := by
  rw [x138_25]
  rfl
theorem v138_26 {z : P0} {st : List Value} {cu : Nat × Nat} {Q : Res → Mem → Prop} {σ : Mem} {x0 x1 x2 : Option Value} {u : Int32} : X z 138 26 [x0, x1, x2] (.int u :: st) cu σ Q = (cat2 x0 = false ∧ X z 138 27 [x0, some (.int u), x2] (st) cu σ Q) := by
  rw [x138_26]
  obtain ⟨K, I, R, L, sz, ex⟩ := σ
  exact i_istore_n.trans sl_1
theorem v138_27 {z : P0} {st : List Value} {cu : Nat × Nat} {Q : Res → Mem → Prop} {σ : Mem} {x0 x1 : Option Value} {u : Int32} : X z 138 27 [x0, x1, some (.int u)] (st) cu σ Q = (cat2 x1 = false ∧ X z 138 30 [x0, x1, some (.int (u + nI 1))] (st) cu σ Q) := by
  rw [x138_27]
  obtain ⟨K, I, R, L, sz, ex⟩ := σ
  exact i_iinc.trans (gl_2.trans (ldI_i.trans sl_2))
theorem v138_30 {z : P0} {st : List Value} {cu : Nat × Nat} {Q : Res → Mem → Prop} {σ : Mem} {x0 x1 x2 : Option Value} : X z 138 30 [x0, x1, x2] (st) cu σ Q = (X z 138 4 [x0, x1, x2] (st) cu σ Q) := by
  rw [x138_30]
  rfl
theorem v138_33 {z : P0} {st : List Value} {cu : Nat × Nat} {Q : Res → Mem → Prop} {σ : Mem} {x0 x2 : Option Value} {u : Int32} : X z 138 33 [x0, some (.int u), x2] (st) cu σ Q = (X z 138 34 [x0, some (.int u), x2] (.int u :: st) cu σ Q) := by
  rw [x138_33]
  rfl
theorem v138_34 {z : P0} {cu : Nat × Nat} {Q : Res → Mem → Prop} {σ : Mem} {x0 x1 x2 : Option Value} {v : Int32} : X z 138 34 [x0, x1, x2] ([.int v]) cu σ Q = (Q (.inl (some (.int v))) σ) := by
  rw [x138_34]
  exact propext ⟨fun h => h.2, fun h => ⟨trivial, h⟩⟩
theorem v139_0 {z : P0} {st : List Value} {cu : Nat × Nat} {Q : Res → Mem → Prop} {σ : Mem} {x1 x2 : Option Value} {u : Nat} : X z 139 0 [some (.ref u), x1, x2] (st) cu σ Q = (X z 139 1 [some (.ref u), x1, x2] (.ref u :: st) cu σ Q) := by
  rw [x139_0]
  rfl
theorem v139_1 {z : P0} {st : List Value} {cu : Nat × Nat} {Q : Res → Mem → Prop} {σ : Mem} {x1 x2 : Option Value} {u : Nat} : X z 139 1 [some (.ref u), x1, x2] (st) cu σ Q = (X z 139 2 [some (.ref u), x1, x2] (.ref u :: st) cu σ Q) := by
  rw [x139_1]
  rfl
theorem v139_2 {z : P0} {st : List Value} {cu : Nat × Nat} {Q : Res → Mem → Prop} {σ : Mem} {x0 x2 : Option Value} {u : Int32} : X z 139 2 [x0, some (.int u), x2] (st) cu σ Q = (X z 139 3 [x0, some (.int u), x2] (.int u :: st) cu σ Q) := by
  rw [x139_2]
  rfl
theorem u139_3 {z : P0} {ls : Lcs} {st : List Value} {K : Nat → Nat × Nat} {I : Nat → Nat → Int32} {R : Nat → Nat → Option Nat} {L : Nat → Nat → Int64} {sz : Nat} {ex : Bool} {Q : Res → Mem → Prop} {x : Nat} {a0 : Int32} : X z 139 3 ls (.int a0 :: .ref x :: st) (0, 0) (K, I, R, L, sz, ex) Q = ((K x).1 = 111 ∧ wsum st ≤ 8 ∧ X z 108 0 [some (.ref x), some (.int a0)] [] (0, 0) (K, I, R, L, sz, ex) (aftr (X z) mT 139 3 ls st (0, 0) Q)) := v139_3 (c := 0) (n := 0)
theorem v139_6 {z : P0} {st : List Value} {cu : Nat × Nat} {Q : Res → Mem → Prop} {σ : Mem} {x0 x1 x2 : Option Value} {u : Int32} : X z 139 6 [x0, x1, x2] (.int u :: st) cu σ Q = (if u = nI 0 then X z 139 13 [x0, x1, x2] (st) cu σ Q else X z 139 9 [x0, x1, x2] (st) cu σ Q) := by
  rw [x139_6]
  rw [nI_0]
  obtain ⟨K, I, R, L, sz, ex⟩ := σ
  exact br_ite
theorem v139_9 {z : P0} {st : List Value} {cu : Nat × Nat} {Q : Res → Mem → Prop} {σ : Mem} {x0 x1 x2 : Option Value} : X z 139 9 [x0, x1, x2] (st) cu σ Q = (X z 139 10 [x0, x1, x2] (.int (nI 0) :: st) cu σ Q) := by
  rw [x139_9]
  rfl
theorem v139_10 {z : P0} {st : List Value} {cu : Nat × Nat} {Q : Res → Mem → Prop} {σ : Mem} {x0 x1 x2 : Option Value} : X z 139 10 [x0, x1, x2] (st) cu σ Q = (X z 139 14 [x0, x1, x2] (st) cu σ Q) := by
  rw [x139_10]
  rfl
theorem v139_13 {z : P0} {st : List Value} {cu : Nat × Nat} {Q : Res → Mem → Prop} {σ : Mem} {x0 x1 x2 : Option Value} : X z 139 13 [x0, x1, x2] (st) cu σ Q = (X z 139 14 [x0, x1, x2] (.int (nI 1) :: st) cu σ Q) := by
  rw [x139_13]
  rfl
theorem v139_14 {z : P0} {st : List Value} {cu : Nat × Nat} {Q : Res → Mem → Prop} {K : Nat → Nat × Nat} {I : Nat → Nat → Int32} {R : Nat → Nat → Option Nat} {L : Nat → Nat → Int64} {sz : Nat} {ex : Bool} {x0 x1 x2 : Option Value} {u : Nat} {v : Int32} : X z 139 14 [x0, x1, x2] (.int v :: .ref u :: st) cu (K, I, R, L, sz, ex) Q = ((K u).1 = 111 ∧ X z 139 17 [x0, x1, x2] (st) cu (K, up2 I u 5 v, R, L, sz, ex) Q) := by
  rw [x139_14]
  exact i_putI
theorem v139_17 {z : P0} {st : List Value} {cu : Nat × Nat} {Q : Res → Mem → Prop} {σ : Mem} {x1 x2 : Option Value} {u : Nat} : X z 139 17 [some (.ref u), x1, x2] (st) cu σ Q = (X z 139 18 [some (.ref u), x1, x2] (.ref u :: st) cu σ Q) := by
  rw [x139_17]
  rfl
theorem v139_18 {z : P0} {st : List Value} {cu : Nat × Nat} {Q : Res → Mem → Prop} {K : Nat → Nat × Nat} {I : Nat → Nat → Int32} {R : Nat → Nat → Option Nat} {L : Nat → Nat → Int64} {sz : Nat} {ex : Bool} {x0 x1 x2 : Option Value} {u : Nat} : X z 139 18 [x0, x1, x2] (.ref u :: st) cu (K, I, R, L, sz, ex) Q = ((K u).1 = 111 ∧ X z 139 21 [x0, x1, x2] (.int (I u 5) :: st) cu (K, I, R, L, sz, ex) Q) := by
  rw [x139_18]
  rfl
theorem v139_21 {z : P0} {st : List Value} {cu : Nat × Nat} {Q : Res → Mem → Prop} {σ : Mem} {x0 x1 x2 : Option Value} {u : Int32} : X z 139 21 [x0, x1, x2] (.int u :: st) cu σ Q = (if nI 0 < u then X z 139 24 [x0, x1, x2] (st) cu σ Q else X z 139 26 [x0, x1, x2] (st) cu σ Q) := by
  rw [x139_21]
  rw [nI_0]
  obtain ⟨K, I, R, L, sz, ex⟩ := σ
  exact br_ge
theorem v139_24 {z : P0} {st : List Value} {cu : Nat × Nat} {Q : Res → Mem → Prop} {σ : Mem} {x0 x1 x2 : Option Value} : X z 139 24 [x0, x1, x2] (st) cu σ Q = (X z 139 25 [x0, x1, x2] (.int (nI 0) :: st) cu σ Q) := by
  rw [x139_24]
  rfl
theorem v139_25 {z : P0} {cu : Nat × Nat} {Q : Res → Mem → Prop} {σ : Mem} {x0 x1 x2 : Option Value} {v : Int32} : X z 139 25 [x0, x1, x2] ([.int v]) cu σ Q = (Q (.inl (some (.int v))) σ) := by
  rw [x139_25]
  exact propext ⟨fun h => h.2, fun h => ⟨trivial, h⟩⟩
theorem v139_26 {z : P0} {st : List Value} {cu : Nat × Nat} {Q : Res → Mem → Prop} {σ : Mem} {x1 x2 : Option Value} {u : Nat} : X z 139 26 [some (.ref u), x1, x2] (st) cu σ Q = (X z 139 27 [some (.ref u), x1, x2] (.ref u :: st) cu σ Q) := by
  rw [x139_26]
  rfl
theorem u139_27 {z : P0} {ls : Lcs} {st : List Value} {K : Nat → Nat × Nat} {I : Nat → Nat → Int32} {R : Nat → Nat → Option Nat} {L : Nat → Nat → Int64} {sz : Nat} {ex : Bool} {Q : Res → Mem → Prop} {x : Nat} : X z 139 27 ls (.ref x :: st) (0, 0) (K, I, R, L, sz, ex) Q = ((K x).1 = 111 ∧ wsum st ≤ 8 ∧ X z 107 0 [some (.ref x), none] [] (0, 0) (K, I, R, L, sz, ex) (aftr (X z) mT 139 27 ls st (0, 0) Q)) := v139_27 (c := 0) (n := 0)
theorem v139_30 {z : P0} {st : List Value} {cu : Nat × Nat} {Q : Res → Mem → Prop} {σ : Mem} {x1 x2 : Option Value} {u : Nat} : X z 139 30 [some (.ref u), x1, x2] (st) cu σ Q = (X z 139 31 [some (.ref u), x1, x2] (.ref u :: st) cu σ Q) := by
  rw [x139_30]
  rfl
theorem v139_31 {z : P0} {st : List Value} {cu : Nat × Nat} {Q : Res → Mem → Prop} {K : Nat → Nat × Nat} {I : Nat → Nat → Int32} {R : Nat → Nat → Option Nat} {L : Nat → Nat → Int64} {sz : Nat} {ex : Bool} {x0 x1 x2 : Option Value} {u : Nat} : X z 139 31 [x0, x1, x2] (.ref u :: st) cu (K, I, R, L, sz, ex) Q = ((K u).1 = 111 ∧ X z 139 34 [x0, x1, x2] (va_rf (R u 0) :: st) cu (K, I, R, L, sz, ex) Q) := by
  rw [x139_31]
  rfl
theorem v139_34 {z : P0} {st : List Value} {cu : Nat × Nat} {Q : Res → Mem → Prop} {σ : Mem} {x0 x1 x2 : Option Value} : X z 139 34 [x0, x1, x2] (st) cu σ Q = (X z 139 36 [x0, x1, x2] (.int (nI 73) :: st) cu σ Q) := by
  rw [x139_34]
  rfl
theorem v139_36 {z : P0} {st : List Value} {cu : Nat × Nat} {Q : Res → Mem → Prop} {σ : Mem} {x0 x2 : Option Value} {u : Int32} : X z 139 36 [x0, some (.int u), x2] (st) cu σ Q = (X z 139 37 [x0, some (.int u), x2] (.int u :: st) cu σ Q) := by
  rw [x139_36]
  rfl
theorem v139_37 {z : P0} {st : List Value} {cu : Nat × Nat} {Q : Res → Mem → Prop} {σ : Mem} {x0 x1 x2 : Option Value} {u v : Int32} : X z 139 37 [x0, x1, x2] (.int v :: .int u :: st) cu σ Q = (X z 139 38 [x0, x1, x2] (.int (u + v) :: st) cu σ Q) := by
  rw [x139_37]
  rfl
theorem v139_38 {z : P0} {st : List Value} {cu : Nat × Nat} {Q : Res → Mem → Prop} {σ : Mem} {x0 x1 : Option Value} {u : Int32} : X z 139 38 [x0, x1, some (.int u)] (st) cu σ Q = (X z 139 39 [x0, x1, some (.int u)] (.int u :: st) cu σ Q) := by
  rw [x139_38]
  rfl
theorem v139_39 {z : P0} {st : List Value} {cu : Nat × Nat} {Q : Res → Mem → Prop} {σ : Mem} {x0 x1 x2 : Option Value} {u : Int32} : X z 139 39 [x0, x1, x2] (.int u :: st) cu σ Q = (if u = nI 0 then X z 139 46 [x0, x1, x2] (st) cu σ Q else X z 139 42 [x0, x1, x2] (st) cu σ Q) := by
  rw [x139_39]
  rw [nI_0]
  obtain ⟨K, I, R, L, sz, ex⟩ := σ
  exact br_ite
theorem v139_42 {z : P0} {st : List Value} {cu : Nat × Nat} {Q : Res → Mem → Prop} {σ : Mem} {x0 x1 x2 : Option Value} : X z 139 42 [x0, x1, x2] (st) cu σ Q = (X z 139 43 [x0, x1, x2] (.int (nI 1) :: st) cu σ Q) := by
  rw [x139_42]
  rfl
theorem v139_43 {z : P0} {st : List Value} {cu : Nat × Nat} {Q : Res → Mem → Prop} {σ : Mem} {x0 x1 x2 : Option Value} : X z 139 43 [x0, x1, x2] (st) cu σ Q = (X z 139 47 [x0, x1, x2] (st) cu σ Q) := by
  rw [x139_43]
  rfl
theorem v139_46 {z : P0} {st : List Value} {cu : Nat × Nat} {Q : Res → Mem → Prop} {σ : Mem} {x0 x1 x2 : Option Value} : X z 139 46 [x0, x1, x2] (st) cu σ Q = (X z 139 47 [x0, x1, x2] (.int (nI 0) :: st) cu σ Q) := by
  rw [x139_46]
  rfl
theorem v139_47 {z : P0} {st : List Value} {cu : Nat × Nat} {Q : Res → Mem → Prop} {K : Nat → Nat × Nat} {I : Nat → Nat → Int32} {R : Nat → Nat → Option Nat} {L : Nat → Nat → Int64} {sz : Nat} {ex : Bool} {x0 x1 x2 : Option Value} {u : Nat} {j v : Int32} : X z 139 47 [x0, x1, x2] (.int v :: .int j :: .ref u :: st) cu (K, I, R, L, sz, ex) Q = ((K u).1 = 20 ∧ vp_in j (K u).2 ∧ X z 139 48 [x0, x1, x2] (st) cu (K, up2 I u j.toNatClampNeg v, R, L, sz, ex) Q) := by
  rw [x139_47]
  rfl
theorem v139_48 {z : P0} {st : List Value} {cu : Nat × Nat} {Q : Res → Mem → Prop} {σ : Mem} {x1 x2 : Option Value} {u : Nat} : X z 139 48 [some (.ref u), x1, x2] (st) cu σ Q = (X z 139 49 [some (.ref u), x1, x2] (.ref u :: st) cu σ Q) := by
  rw [x139_48]
  rfl
theorem u139_49 {z : P0} {ls : Lcs} {st : List Value} {K : Nat → Nat × Nat} {I : Nat → Nat → Int32} {R : Nat → Nat → Option Nat} {L : Nat → Nat → Int64} {sz : Nat} {ex : Bool} {Q : Res → Mem → Prop} {x : Nat} : X z 139 49 ls (.ref x :: st) (0, 0) (K, I, R, L, sz, ex) Q = ((K x).1 = 111 ∧ wsum st ≤ 8 ∧ X z 138 0 [some (.ref x), none, none] [] (0, 0) (K, I, R, L, sz, ex) (aftr (X z) mT 139 49 ls st (0, 0) Q)) := v139_49 (c := 0) (n := 0)
theorem v139_52 {z : P0} {cu : Nat × Nat} {Q : Res → Mem → Prop} {σ : Mem} {x0 x1 x2 : Option Value} {v : Int32} : X z 139 52 [x0, x1, x2] ([.int v]) cu σ Q = (Q (.inl (some (.int v))) σ) := by
  rw [x139_52]
  exact propext ⟨fun h => h.2, fun h => ⟨trivial, h⟩⟩
theorem v140_0 {z : P0} {st : List Value} {cu : Nat × Nat} {Q : Res → Mem → Prop} {σ : Mem} {u : Int32} : X z 140 0 [some (.int u)] (st) cu σ Q = (X z 140 1 [some (.int u)] (.int u :: st) cu σ Q) := by
  rw [x140_0]
  rfl
theorem v140_1 {z : P0} {st : List Value} {cu : Nat × Nat} {Q : Res → Mem → Prop} {σ : Mem} {x0 : Option Value} : X z 140 1 [x0] (st) cu σ Q = (X z 140 2 [x0] (.int (nI 0) :: st) cu σ Q) := by
  rw [x140_1]
  rfl
theorem v140_2 {z : P0} {st : List Value} {cu : Nat × Nat} {Q : Res → Mem → Prop} {σ : Mem} {x0 : Option Value} : X z 140 2 [x0] (st) cu σ Q = (X z 140 3 [x0] (.int (nI 5) :: st) cu σ Q) := by
  rw [x140_2]
  rfl
theorem u140_3 {z : P0} {ls : Lcs} {st : List Value} {K : Nat → Nat × Nat} {I : Nat → Nat → Int32} {R : Nat → Nat → Option Nat} {L : Nat → Nat → Int64} {sz : Nat} {ex : Bool} {Q : Res → Mem → Prop} {a0 : Int32} {a1 : Int32} {a2 : Int32} : X z 140 3 ls (.int a2 :: .int a1 :: .int a0 :: st) (0, 0) (K, I, R, L, sz, ex) Q = (wsum st ≤ 8 ∧ X z 106 0 [some (.int a0), some (.int a1), some (.int a2)] [] (0, 0) (K, I, R, L, sz, ex) (aftr (X z) mT 140 3 ls st (0, 0) Q)) := v140_3 (c := 0) (n := 0)
theorem v140_6 {z : P0} {cu : Nat × Nat} {Q : Res → Mem → Prop} {σ : Mem} {x0 : Option Value} {v : Int32} : X z 140 6 [x0] ([.int v]) cu σ Q = ((v = nI 0 ∨ v = nI 1) ∧ Q (.inl (some (.int v))) σ) := by
  rw [x140_6]
  rw [nI_0, one1]
  rfl
theorem v141_0 {z : P0} {st : List Value} {cu : Nat × Nat} {Q : Res → Mem → Prop} {σ : Mem} {x1 : Option Value} {u : Int32} : X z 141 0 [some (.int u), x1] (st) cu σ Q = (X z 141 1 [some (.int u), x1] (.int u :: st) cu σ Q) := by
  rw [x141_0]
  rfl
theorem w141_1_0 {z : P0} {st : List Value} {cu : Nat × Nat} {Q : Res → Mem → Prop} {σ : Mem} {x0 x1 : Option Value} : X z 141 1 [x0, x1] (.int (nI 0) :: st) cu σ Q = (X z 141 36 [x0, x1] (st) cu σ Q) := by
  rw [x141_1]
  exact tsw_in (j := 0) (by decide) (by decide) (by decide) rfl
theorem w141_1_1 {z : P0} {st : List Value} {cu : Nat × Nat} {Q : Res → Mem → Prop} {σ : Mem} {x0 x1 : Option Value} : X z 141 1 [x0, x1] (.int (nI 1) :: st) cu σ Q = (X z 141 68 [x0, x1] (st) cu σ Q) := by
  rw [x141_1]
  exact tsw_in (j := 1) (by decide) (by decide) (by decide) rfl
theorem w141_1_2 {z : P0} {st : List Value} {cu : Nat × Nat} {Q : Res → Mem → Prop} {σ : Mem} {x0 x1 : Option Value} : X z 141 1 [x0, x1] (.int (nI 2) :: st) cu σ Q = (X z 141 44 [x0, x1] (st) cu σ Q) := by
  rw [x141_1]
  exact tsw_in (j := 2) (by decide) (by decide) (by decide) rfl
theorem w141_1_3 {z : P0} {st : List Value} {cu : Nat × Nat} {Q : Res → Mem → Prop} {σ : Mem} {x0 x1 : Option Value} : X z 141 1 [x0, x1] (.int (nI 3) :: st) cu σ Q = (X z 141 52 [x0, x1] (st) cu σ Q) := by
  rw [x141_1]
  exact tsw_in (j := 3) (by decide) (by decide) (by decide) rfl
theorem w141_1_4 {z : P0} {st : List Value} {cu : Nat × Nat} {Q : Res → Mem → Prop} {σ : Mem} {x0 x1 : Option Value} : X z 141 1 [x0, x1] (.int (nI 4) :: st) cu σ Q = (X z 141 60 [x0, x1] (st) cu σ Q) := by
  rw [x141_1]
  exact tsw_in (j := 4) (by decide) (by decide) (by decide) rfl
theorem w141_1_d {z : P0} {st : List Value} {cu : Nat × Nat} {Q : Res → Mem → Prop} {σ : Mem} {x0 x1 : Option Value} {j : Nat} (h : 4 < j ∧ j < 2147483648) : X z 141 1 [x0, x1] (.int (nI j) :: st) cu σ Q = (X z 141 68 [x0, x1] (st) cu σ Q) := by
  rw [x141_1]
  exact tsw_out (Or.inr (by rw [nI_toInt h.2]; omega))
theorem v141_36 {z : P0} {st : List Value} {cu : Nat × Nat} {Q : Res → Mem → Prop} {σ : Mem} {x0 : Option Value} {u : Int32} : X z 141 36 [x0, some (.int u)] (st) cu σ Q = (X z 141 37 [x0, some (.int u)] (.int u :: st) cu σ Q) := by
  rw [x141_36]
  rfl
theorem v141_37 {z : P0} {st : List Value} {cu : Nat × Nat} {Q : Res → Mem → Prop} {σ : Mem} {x0 x1 : Option Value} : X z 141 37 [x0, x1] (st) cu σ Q = (X z 141 38 [x0, x1] (.int (nI 5) :: st) cu σ Q) := by
  rw [x141_37]
  rfl
theorem v141_38 {z : P0} {st : List Value} {cu : Nat × Nat} {Q : Res → Mem → Prop} {σ : Mem} {x0 x1 : Option Value} : X z 141 38 [x0, x1] (st) cu σ Q = (X z 141 40 [x0, x1] (.int (nI 40) :: st) cu σ Q) := by
  rw [x141_38]
  rfl
theorem u141_40 {z : P0} {ls : Lcs} {st : List Value} {K : Nat → Nat × Nat} {I : Nat → Nat → Int32} {R : Nat → Nat → Option Nat} {L : Nat → Nat → Int64} {sz : Nat} {ex : Bool} {Q : Res → Mem → Prop} {a0 : Int32} {a1 : Int32} {a2 : Int32} : X z 141 40 ls (.int a2 :: .int a1 :: .int a0 :: st) (0, 0) (K, I, R, L, sz, ex) Q = (wsum st ≤ 8 ∧ X z 106 0 [some (.int a0), some (.int a1), some (.int a2)] [] (0, 0) (K, I, R, L, sz, ex) (aftr (X z) mT 141 40 ls st (0, 0) Q)) := v141_40 (c := 0) (n := 0)
theorem v141_43 {z : P0} {cu : Nat × Nat} {Q : Res → Mem → Prop} {σ : Mem} {x0 x1 : Option Value} {v : Int32} : X z 141 43 [x0, x1] ([.int v]) cu σ Q = ((v = nI 0 ∨ v = nI 1) ∧ Q (.inl (some (.int v))) σ) := by
  rw [x141_43]
  rw [nI_0, one1]
  rfl
theorem v141_44 {z : P0} {st : List Value} {cu : Nat × Nat} {Q : Res → Mem → Prop} {σ : Mem} {x0 : Option Value} {u : Int32} : X z 141 44 [x0, some (.int u)] (st) cu σ Q = (X z 141 45 [x0, some (.int u)] (.int u :: st) cu σ Q) := by
  rw [x141_44]
  rfl
theorem v141_45 {z : P0} {st : List Value} {cu : Nat × Nat} {Q : Res → Mem → Prop} {σ : Mem} {x0 x1 : Option Value} : X z 141 45 [x0, x1] (st) cu σ Q = (X z 141 46 [x0, x1] (.int (nI 1) :: st) cu σ Q) := by
  rw [x141_45]
  rfl
theorem v141_46 {z : P0} {st : List Value} {cu : Nat × Nat} {Q : Res → Mem → Prop} {σ : Mem} {x0 x1 : Option Value} : X z 141 46 [x0, x1] (st) cu σ Q = (X z 141 48 [x0, x1] (.int (nI 6) :: st) cu σ Q) := by
  rw [x141_46]
  rfl
theorem u141_48 {z : P0} {ls : Lcs} {st : List Value} {K : Nat → Nat × Nat} {I : Nat → Nat → Int32} {R : Nat → Nat → Option Nat} {L : Nat → Nat → Int64} {sz : Nat} {ex : Bool} {Q : Res → Mem → Prop} {a0 : Int32} {a1 : Int32} {a2 : Int32} : X z 141 48 ls (.int a2 :: .int a1 :: .int a0 :: st) (0, 0) (K, I, R, L, sz, ex) Q = (wsum st ≤ 8 ∧ X z 106 0 [some (.int a0), some (.int a1), some (.int a2)] [] (0, 0) (K, I, R, L, sz, ex) (aftr (X z) mT 141 48 ls st (0, 0) Q)) := v141_48 (c := 0) (n := 0)
theorem v141_51 {z : P0} {cu : Nat × Nat} {Q : Res → Mem → Prop} {σ : Mem} {x0 x1 : Option Value} {v : Int32} : X z 141 51 [x0, x1] ([.int v]) cu σ Q = ((v = nI 0 ∨ v = nI 1) ∧ Q (.inl (some (.int v))) σ) := by
  rw [x141_51]
  rw [nI_0, one1]
  rfl
theorem v141_52 {z : P0} {st : List Value} {cu : Nat × Nat} {Q : Res → Mem → Prop} {σ : Mem} {x0 : Option Value} {u : Int32} : X z 141 52 [x0, some (.int u)] (st) cu σ Q = (X z 141 53 [x0, some (.int u)] (.int u :: st) cu σ Q) := by
  rw [x141_52]
  rfl
theorem v141_53 {z : P0} {st : List Value} {cu : Nat × Nat} {Q : Res → Mem → Prop} {σ : Mem} {x0 x1 : Option Value} : X z 141 53 [x0, x1] (st) cu σ Q = (X z 141 54 [x0, x1] (.int (nI 0) :: st) cu σ Q) := by
  rw [x141_53]
  rfl
theorem v141_54 {z : P0} {st : List Value} {cu : Nat × Nat} {Q : Res → Mem → Prop} {σ : Mem} {x0 x1 : Option Value} : X z 141 54 [x0, x1] (st) cu σ Q = (X z 141 56 [x0, x1] (.int (nI 30) :: st) cu σ Q) := by
  rw [x141_54]
  rfl
theorem u141_56 {z : P0} {ls : Lcs} {st : List Value} {K : Nat → Nat × Nat} {I : Nat → Nat → Int32} {R : Nat → Nat → Option Nat} {L : Nat → Nat → Int64} {sz : Nat} {ex : Bool} {Q : Res → Mem → Prop} {a0 : Int32} {a1 : Int32} {a2 : Int32} : X z 141 56 ls (.int a2 :: .int a1 :: .int a0 :: st) (0, 0) (K, I, R, L, sz, ex) Q = (wsum st ≤ 8 ∧ X z 106 0 [some (.int a0), some (.int a1), some (.int a2)] [] (0, 0) (K, I, R, L, sz, ex) (aftr (X z) mT 141 56 ls st (0, 0) Q)) := v141_56 (c := 0) (n := 0)
theorem v141_59 {z : P0} {cu : Nat × Nat} {Q : Res → Mem → Prop} {σ : Mem} {x0 x1 : Option Value} {v : Int32} : X z 141 59 [x0, x1] ([.int v]) cu σ Q = ((v = nI 0 ∨ v = nI 1) ∧ Q (.inl (some (.int v))) σ) := by
  rw [x141_59]
  rw [nI_0, one1]
  rfl
theorem v141_60 {z : P0} {st : List Value} {cu : Nat × Nat} {Q : Res → Mem → Prop} {σ : Mem} {x0 : Option Value} {u : Int32} : X z 141 60 [x0, some (.int u)] (st) cu σ Q = (X z 141 61 [x0, some (.int u)] (.int u :: st) cu σ Q) := by
  rw [x141_60]
  rfl
theorem v141_61 {z : P0} {st : List Value} {cu : Nat × Nat} {Q : Res → Mem → Prop} {σ : Mem} {x0 x1 : Option Value} : X z 141 61 [x0, x1] (st) cu σ Q = (X z 141 62 [x0, x1] (.int (nI 1) :: st) cu σ Q) := by
  rw [x141_61]
  rfl
theorem v141_62 {z : P0} {st : List Value} {cu : Nat × Nat} {Q : Res → Mem → Prop} {σ : Mem} {x0 x1 : Option Value} : X z 141 62 [x0, x1] (st) cu σ Q = (X z 141 64 [x0, x1] (.int (nI 9) :: st) cu σ Q) := by
  rw [x141_62]
  rfl
theorem u141_64 {z : P0} {ls : Lcs} {st : List Value} {K : Nat → Nat × Nat} {I : Nat → Nat → Int32} {R : Nat → Nat → Option Nat} {L : Nat → Nat → Int64} {sz : Nat} {ex : Bool} {Q : Res → Mem → Prop} {a0 : Int32} {a1 : Int32} {a2 : Int32} : X z 141 64 ls (.int a2 :: .int a1 :: .int a0 :: st) (0, 0) (K, I, R, L, sz, ex) Q = (wsum st ≤ 8 ∧ X z 106 0 [some (.int a0), some (.int a1), some (.int a2)] [] (0, 0) (K, I, R, L, sz, ex) (aftr (X z) mT 141 64 ls st (0, 0) Q)) := v141_64 (c := 0) (n := 0)
theorem v141_67 {z : P0} {cu : Nat × Nat} {Q : Res → Mem → Prop} {σ : Mem} {x0 x1 : Option Value} {v : Int32} : X z 141 67 [x0, x1] ([.int v]) cu σ Q = ((v = nI 0 ∨ v = nI 1) ∧ Q (.inl (some (.int v))) σ) := by
  rw [x141_67]
  rw [nI_0, one1]
  rfl
theorem v141_68 {z : P0} {st : List Value} {cu : Nat × Nat} {Q : Res → Mem → Prop} {σ : Mem} {x0 : Option Value} {u : Int32} : X z 141 68 [x0, some (.int u)] (st) cu σ Q = (X z 141 69 [x0, some (.int u)] (.int u :: st) cu σ Q) := by
  rw [x141_68]
  rfl
theorem v141_69 {z : P0} {st : List Value} {cu : Nat × Nat} {Q : Res → Mem → Prop} {σ : Mem} {x0 x1 : Option Value} : X z 141 69 [x0, x1] (st) cu σ Q = (X z 141 70 [x0, x1] (.int (nI 1) :: st) cu σ Q) := by
  rw [x141_69]
  rfl
theorem v141_70 {z : P0} {st : List Value} {cu : Nat × Nat} {Q : Res → Mem → Prop} {σ : Mem} {x0 x1 : Option Value} : X z 141 70 [x0, x1] (st) cu σ Q = (X z 141 72 [x0, x1] (.int (nI 20) :: st) cu σ Q) := by
  rw [x141_70]
  rfl
theorem u141_72 {z : P0} {ls : Lcs} {st : List Value} {K : Nat → Nat × Nat} {I : Nat → Nat → Int32} {R : Nat → Nat → Option Nat} {L : Nat → Nat → Int64} {sz : Nat} {ex : Bool} {Q : Res → Mem → Prop} {a0 : Int32} {a1 : Int32} {a2 : Int32} : X z 141 72 ls (.int a2 :: .int a1 :: .int a0 :: st) (0, 0) (K, I, R, L, sz, ex) Q = (wsum st ≤ 8 ∧ X z 106 0 [some (.int a0), some (.int a1), some (.int a2)] [] (0, 0) (K, I, R, L, sz, ex) (aftr (X z) mT 141 72 ls st (0, 0) Q)) := v141_72 (c := 0) (n := 0)
theorem v141_75 {z : P0} {cu : Nat × Nat} {Q : Res → Mem → Prop} {σ : Mem} {x0 x1 : Option Value} {v : Int32} : X z 141 75 [x0, x1] ([.int v]) cu σ Q = ((v = nI 0 ∨ v = nI 1) ∧ Q (.inl (some (.int v))) σ) := by
  rw [x141_75]
  rw [nI_0, one1]
  rfl
theorem v142_0 {z : P0} {st : List Value} {cu : Nat × Nat} {Q : Res → Mem → Prop} {σ : Mem} {x1 x2 x3 : Option Value} {u : Nat} : X z 142 0 [some (.ref u), x1, x2, x3] (st) cu σ Q = (X z 142 1 [some (.ref u), x1, x2, x3] (.ref u :: st) cu σ Q) := by
  rw [x142_0]
  rfl
theorem v142_1 {z : P0} {st : List Value} {cu : Nat × Nat} {Q : Res → Mem → Prop} {σ : Mem} {x0 x2 x3 : Option Value} {u : Int32} : X z 142 1 [x0, some (.int u), x2, x3] (st) cu σ Q = (X z 142 2 [x0, some (.int u), x2, x3] (.int u :: st) cu σ Q) := by
  rw [x142_1]
  rfl
theorem u142_2 {z : P0} {ls : Lcs} {st : List Value} {K : Nat → Nat × Nat} {I : Nat → Nat → Int32} {R : Nat → Nat → Option Nat} {L : Nat → Nat → Int64} {sz : Nat} {ex : Bool} {Q : Res → Mem → Prop} {a0 : Int32} : X z 142 2 ls (.int a0 :: st) (0, 0) (K, I, R, L, sz, ex) Q = (wsum st ≤ 8 ∧ X z 140 0 [some (.int a0)] [] (0, 0) (K, I, R, L, sz, ex) (aftr (X z) mT 142 2 ls st (0, 0) Q)) := v142_2 (c := 0) (n := 0)
theorem v142_5 {z : P0} {st : List Value} {cu : Nat × Nat} {Q : Res → Mem → Prop} {σ : Mem} {x0 x1 x2 x3 : Option Value} {u : Int32} : X z 142 5 [x0, x1, x2, x3] (.int u :: st) cu σ Q = (if u = nI 0 then X z 142 8 [x0, x1, x2, x3] (st) cu σ Q else X z 142 12 [x0, x1, x2, x3] (st) cu σ Q) := by
  rw [x142_5]
  rw [nI_0]
  obtain ⟨K, I, R, L, sz, ex⟩ := σ
  exact br_ne
theorem v142_8 {z : P0} {st : List Value} {cu : Nat × Nat} {Q : Res → Mem → Prop} {σ : Mem} {x0 x1 x2 x3 : Option Value} : X z 142 8 [x0, x1, x2, x3] (st) cu σ Q = (X z 142 9 [x0, x1, x2, x3] (.int (nI 1) :: st) cu σ Q) := by
  rw [x142_8]
  rfl
theorem v142_9 {z : P0} {st : List Value} {cu : Nat × Nat} {Q : Res → Mem → Prop} {σ : Mem} {x0 x1 x2 x3 : Option Value} : X z 142 9 [x0, x1, x2, x3] (st) cu σ Q = (X z 142 25 [x0, x1, x2, x3] (st) cu σ Q) := by
  rw [x142_9]
  rfl
theorem v142_12 {z : P0} {st : List Value} {cu : Nat × Nat} {Q : Res → Mem → Prop} {σ : Mem} {x0 x2 x3 : Option Value} {u : Int32} : X z 142 12 [x0, some (.int u), x2, x3] (st) cu σ Q = (X z 142 13 [x0, some (.int u), x2, x3] (.int u :: st) cu σ Q) := by
  rw [x142_12]
  rfl
theorem v142_13 {z : P0} {st : List Value} {cu : Nat × Nat} {Q : Res → Mem → Prop} {σ : Mem} {x0 x1 x3 : Option Value} {u : Int32} : X z 142 13 [x0, x1, some (.int u), x3] (st) cu σ Q = (X z 142 14 [x0, x1, some (.int u), x3] (.int u :: st) cu σ Q) := by
  rw [x142_13]
  rfl
theorem u142_14 {z : P0} {ls : Lcs} {st : List Value} {K : Nat → Nat × Nat} {I : Nat → Nat → Int32} {R : Nat → Nat → Option Nat} {L : Nat → Nat → Int64} {sz : Nat} {ex : Bool} {Q : Res → Mem → Prop} {a0 : Int32} {a1 : Int32} : X z 142 14 ls (.int a1 :: .int a0 :: st) (0, 0) (K, I, R, L, sz, ex) Q = (wsum st ≤ 8 ∧ X z 141 0 [some (.int a0), some (.int a1)] [] (0, 0) (K, I, R, L, sz, ex) (aftr (X z) mT 142 14 ls st (0, 0) Q)) := v142_14 (c := 0) (n := 0)
theorem v142_17 {z : P0} {st : List Value} {cu : Nat × Nat} {Q : Res → Mem → Prop} {σ : Mem} {x0 x1 x2 x3 : Option Value} {u : Int32} : X z 142 17 [x0, x1, x2, x3] (.int u :: st) cu σ Q = (if u = nI 0 then X z 142 24 [x0, x1, x2, x3] (st) cu σ Q else X z 142 20 [x0, x1, x2, x3] (st) cu σ Q) := by
  rw [x142_17]
  rw [nI_0]
  obtain ⟨K, I, R, L, sz, ex⟩ := σ
  exact br_ite
theorem v142_20 {z : P0} {st : List Value} {cu : Nat × Nat} {Q : Res → Mem → Prop} {σ : Mem} {x0 x1 x2 x3 : Option Value} : X z 142 20 [x0, x1, x2, x3] (st) cu σ Q = (X z 142 21 [x0, x1, x2, x3] (.int (nI 0) :: st) cu σ Q) := by
  rw [x142_20]
  rfl
theorem v142_21 {z : P0} {st : List Value} {cu : Nat × Nat} {Q : Res → Mem → Prop} {σ : Mem} {x0 x1 x2 x3 : Option Value} : X z 142 21 [x0, x1, x2, x3] (st) cu σ Q = (X z 142 25 [x0, x1, x2, x3] (st) cu σ Q) := by
  rw [x142_21]
  rfl
theorem v142_24 {z : P0} {st : List Value} {cu : Nat × Nat} {Q : Res → Mem → Prop} {σ : Mem} {x0 x1 x2 x3 : Option Value} : X z 142 24 [x0, x1, x2, x3] (st) cu σ Q = (X z 142 25 [x0, x1, x2, x3] (.int (nI 2) :: st) cu σ Q) := by
  rw [x142_24]
  rfl
theorem v142_25 {z : P0} {st : List Value} {cu : Nat × Nat} {Q : Res → Mem → Prop} {K : Nat → Nat × Nat} {I : Nat → Nat → Int32} {R : Nat → Nat → Option Nat} {L : Nat → Nat → Int64} {sz : Nat} {ex : Bool} {x0 x1 x2 x3 : Option Value} {u : Nat} {v : Int32} : X z 142 25 [x0, x1, x2, x3] (.int v :: .ref u :: st) cu (K, I, R, L, sz, ex) Q = ((K u).1 = 111 ∧ X z 142 28 [x0, x1, x2, x3] (st) cu (K, up2 I u 5 v, R, L, sz, ex) Q) := by
  rw [x142_25]
  exact i_putI
theorem v142_28 {z : P0} {st : List Value} {cu : Nat × Nat} {Q : Res → Mem → Prop} {σ : Mem} {x1 x2 x3 : Option Value} {u : Nat} : X z 142 28 [some (.ref u), x1, x2, x3] (st) cu σ Q = (X z 142 29 [some (.ref u), x1, x2, x3] (.ref u :: st) cu σ Q) := by
  rw [x142_28]
  rfl
theorem v142_29 {z : P0} {st : List Value} {cu : Nat × Nat} {Q : Res → Mem → Prop} {K : Nat → Nat × Nat} {I : Nat → Nat → Int32} {R : Nat → Nat → Option Nat} {L : Nat → Nat → Int64} {sz : Nat} {ex : Bool} {x0 x1 x2 x3 : Option Value} {u : Nat} : X z 142 29 [x0, x1, x2, x3] (.ref u :: st) cu (K, I, R, L, sz, ex) Q = ((K u).1 = 111 ∧ X z 142 32 [x0, x1, x2, x3] (.int (I u 5) :: st) cu (K, I, R, L, sz, ex) Q) := by
  rw [x142_29]
  rfl
theorem v142_32 {z : P0} {st : List Value} {cu : Nat × Nat} {Q : Res → Mem → Prop} {σ : Mem} {x0 x1 x2 x3 : Option Value} {u : Int32} : X z 142 32 [x0, x1, x2, x3] (.int u :: st) cu σ Q = (if nI 0 < u then X z 142 35 [x0, x1, x2, x3] (st) cu σ Q else X z 142 37 [x0, x1, x2, x3] (st) cu σ Q) := by
  rw [x142_32]
  rw [nI_0]
  obtain ⟨K, I, R, L, sz, ex⟩ := σ
  exact br_ge
theorem v142_35 {z : P0} {st : List Value} {cu : Nat × Nat} {Q : Res → Mem → Prop} {σ : Mem} {x0 x1 x2 x3 : Option Value} : X z 142 35 [x0, x1, x2, x3] (st) cu σ Q = (X z 142 36 [x0, x1, x2, x3] (.int (nI 0) :: st) cu σ Q) := by
  rw [x142_35]
  rfl
theorem v142_36 {z : P0} {cu : Nat × Nat} {Q : Res → Mem → Prop} {σ : Mem} {x0 x1 x2 x3 : Option Value} {v : Int32} : X z 142 36 [x0, x1, x2, x3] ([.int v]) cu σ Q = (Q (.inl (some (.int v))) σ) := by
  rw [x142_36]
  exact propext ⟨fun h => h.2, fun h => ⟨trivial, h⟩⟩
theorem v142_37 {z : P0} {st : List Value} {cu : Nat × Nat} {Q : Res → Mem → Prop} {σ : Mem} {x1 x2 x3 : Option Value} {u : Nat} : X z 142 37 [some (.ref u), x1, x2, x3] (st) cu σ Q = (X z 142 38 [some (.ref u), x1, x2, x3] (.ref u :: st) cu σ Q) := by
  rw [x142_37]
  rfl
theorem u142_38 {z : P0} {ls : Lcs} {st : List Value} {K : Nat → Nat × Nat} {I : Nat → Nat → Int32} {R : Nat → Nat → Option Nat} {L : Nat → Nat → Int64} {sz : Nat} {ex : Bool} {Q : Res → Mem → Prop} {x : Nat} : X z 142 38 ls (.ref x :: st) (0, 0) (K, I, R, L, sz, ex) Q = ((K x).1 = 111 ∧ wsum st ≤ 8 ∧ X z 107 0 [some (.ref x), none] [] (0, 0) (K, I, R, L, sz, ex) (aftr (X z) mT 142 38 ls st (0, 0) Q)) := v142_38 (c := 0) (n := 0)
theorem v142_41 {z : P0} {st : List Value} {cu : Nat × Nat} {Q : Res → Mem → Prop} {σ : Mem} {x1 x2 x3 : Option Value} {u : Nat} : X z 142 41 [some (.ref u), x1, x2, x3] (st) cu σ Q = (X z 142 42 [some (.ref u), x1, x2, x3] (.ref u :: st) cu σ Q) := by
  rw [x142_41]
  rfl
theorem v142_42 {z : P0} {st : List Value} {cu : Nat × Nat} {Q : Res → Mem → Prop} {K : Nat → Nat × Nat} {I : Nat → Nat → Int32} {R : Nat → Nat → Option Nat} {L : Nat → Nat → Int64} {sz : Nat} {ex : Bool} {x0 x1 x2 x3 : Option Value} {u : Nat} : X z 142 42 [x0, x1, x2, x3] (.ref u :: st) cu (K, I, R, L, sz, ex) Q = ((K u).1 = 111 ∧ X z 142 45 [x0, x1, x2, x3] (va_rf (R u 0) :: st) cu (K, I, R, L, sz, ex) Q) := by
  rw [x142_42]
  rfl
theorem v142_45 {z : P0} {st : List Value} {cu : Nat × Nat} {Q : Res → Mem → Prop} {σ : Mem} {x0 x1 x2 x3 : Option Value} : X z 142 45 [x0, x1, x2, x3] (st) cu σ Q = (X z 142 46 [x0, x1, x2, x3] (.int (nI 0) :: st) cu σ Q) := by
  rw [x142_45]
  rfl
theorem v142_46 {z : P0} {st : List Value} {cu : Nat × Nat} {Q : Res → Mem → Prop} {σ : Mem} {x0 x2 x3 : Option Value} {u : Int32} : X z 142 46 [x0, some (.int u), x2, x3] (st) cu σ Q = (X z 142 47 [x0, some (.int u), x2, x3] (.int u :: st) cu σ Q) := by
  rw [x142_46]
  rfl
theorem v142_47 {z : P0} {st : List Value} {cu : Nat × Nat} {Q : Res → Mem → Prop} {σ : Mem} {x0 x1 x2 x3 : Option Value} {u v : Int32} : X z 142 47 [x0, x1, x2, x3] (.int v :: .int u :: st) cu σ Q = (X z 142 48 [x0, x1, x2, x3] (.int (u + v) :: st) cu σ Q) := by
  rw [x142_47]
  rfl
theorem v142_48 {z : P0} {st : List Value} {cu : Nat × Nat} {Q : Res → Mem → Prop} {K : Nat → Nat × Nat} {I : Nat → Nat → Int32} {R : Nat → Nat → Option Nat} {L : Nat → Nat → Int64} {sz : Nat} {ex : Bool} {x0 x1 x2 x3 : Option Value} {u : Nat} {v : Int32} : X z 142 48 [x0, x1, x2, x3] (.int v :: .ref u :: st) cu (K, I, R, L, sz, ex) Q = (((K u).1 = 20 ∨ (K u).1 = 50) ∧ vp_in v (K u).2 ∧ X z 142 49 [x0, x1, x2, x3] (.int (I u v.toNatClampNeg) :: st) cu (K, I, R, L, sz, ex) Q) := by
  rw [x142_48]
  rfl
theorem v142_49 {z : P0} {st : List Value} {cu : Nat × Nat} {Q : Res → Mem → Prop} {σ : Mem} {x0 x1 x2 x3 : Option Value} {u : Int32} : X z 142 49 [x0, x1, x2, x3] (.int u :: st) cu σ Q = (cat2 x2 = false ∧ X z 142 50 [x0, x1, x2, some (.int u)] (st) cu σ Q) := by
  rw [x142_49]
  obtain ⟨K, I, R, L, sz, ex⟩ := σ
  exact i_istore_n.trans sl_3
theorem v142_50 {z : P0} {st : List Value} {cu : Nat × Nat} {Q : Res → Mem → Prop} {σ : Mem} {x1 x2 x3 : Option Value} {u : Nat} : X z 142 50 [some (.ref u), x1, x2, x3] (st) cu σ Q = (X z 142 51 [some (.ref u), x1, x2, x3] (.ref u :: st) cu σ Q) := by
  rw [x142_50]
  rfl
theorem v142_51 {z : P0} {st : List Value} {cu : Nat × Nat} {Q : Res → Mem → Prop} {K : Nat → Nat × Nat} {I : Nat → Nat → Int32} {R : Nat → Nat → Option Nat} {L : Nat → Nat → Int64} {sz : Nat} {ex : Bool} {x0 x1 x2 x3 : Option Value} {u : Nat} : X z 142 51 [x0, x1, x2, x3] (.ref u :: st) cu (K, I, R, L, sz, ex) Q = ((K u).1 = 111 ∧ X z 142 54 [x0, x1, x2, x3] (va_rf (R u 0) :: st) cu (K, I, R, L, sz, ex) Q) := by
  rw [x142_51]
  rfl
theorem v142_54 {z : P0} {st : List Value} {cu : Nat × Nat} {Q : Res → Mem → Prop} {σ : Mem} {x0 x1 x2 x3 : Option Value} : X z 142 54 [x0, x1, x2, x3] (st) cu σ Q = (X z 142 55 [x0, x1, x2, x3] (.int (nI 0) :: st) cu σ Q) := by
  rw [x142_54]
  rfl
theorem v142_55 {z : P0} {st : List Value} {cu : Nat × Nat} {Q : Res → Mem → Prop} {σ : Mem} {x0 x2 x3 : Option Value} {u : Int32} : X z 142 55 [x0, some (.int u), x2, x3] (st) cu σ Q = (X z 142 56 [x0, some (.int u), x2, x3] (.int u :: st) cu σ Q) := by
  rw [x142_55]
  rfl
theorem v142_56 {z : P0} {st : List Value} {cu : Nat × Nat} {Q : Res → Mem → Prop} {σ : Mem} {x0 x1 x2 x3 : Option Value} {u v : Int32} : X z 142 56 [x0, x1, x2, x3] (.int v :: .int u :: st) cu σ Q = (X z 142 57 [x0, x1, x2, x3] (.int (u + v) :: st) cu σ Q) := by
  rw [x142_56]
  rfl
theorem v142_57 {z : P0} {st : List Value} {cu : Nat × Nat} {Q : Res → Mem → Prop} {σ : Mem} {x0 x1 x3 : Option Value} {u : Int32} : X z 142 57 [x0, x1, some (.int u), x3] (st) cu σ Q = (X z 142 58 [x0, x1, some (.int u), x3] (.int u :: st) cu σ Q) := by
  rw [x142_57]
  rfl
theorem v142_58 {z : P0} {st : List Value} {cu : Nat × Nat} {Q : Res → Mem → Prop} {K : Nat → Nat × Nat} {I : Nat → Nat → Int32} {R : Nat → Nat → Option Nat} {L : Nat → Nat → Int64} {sz : Nat} {ex : Bool} {x0 x1 x2 x3 : Option Value} {u : Nat} {j v : Int32} : X z 142 58 [x0, x1, x2, x3] (.int v :: .int j :: .ref u :: st) cu (K, I, R, L, sz, ex) Q = ((K u).1 = 20 ∧ vp_in j (K u).2 ∧ X z 142 59 [x0, x1, x2, x3] (st) cu (K, up2 I u j.toNatClampNeg v, R, L, sz, ex) Q) := by
  rw [x142_58]
  rfl
theorem v142_59 {z : P0} {st : List Value} {cu : Nat × Nat} {Q : Res → Mem → Prop} {σ : Mem} {x0 x1 x2 : Option Value} {u : Int32} : X z 142 59 [x0, x1, x2, some (.int u)] (st) cu σ Q = (X z 142 60 [x0, x1, x2, some (.int u)] (.int u :: st) cu σ Q) := by
  rw [x142_59]
  rfl
theorem v142_60 {z : P0} {cu : Nat × Nat} {Q : Res → Mem → Prop} {σ : Mem} {x0 x1 x2 x3 : Option Value} {v : Int32} : X z 142 60 [x0, x1, x2, x3] ([.int v]) cu σ Q = (Q (.inl (some (.int v))) σ) := by
  rw [x142_60]
  exact propext ⟨fun h => h.2, fun h => ⟨trivial, h⟩⟩
theorem v143_0 {z : P0} {st : List Value} {cu : Nat × Nat} {Q : Res → Mem → Prop} {σ : Mem} {x1 x2 : Option Value} {u : Nat} : X z 143 0 [some (.ref u), x1, x2] (st) cu σ Q = (X z 143 1 [some (.ref u), x1, x2] (.ref u :: st) cu σ Q) := by
  rw [x143_0]
  rfl
theorem u143_1 {z : P0} {ls : Lcs} {st : List Value} {K : Nat → Nat × Nat} {I : Nat → Nat → Int32} {R : Nat → Nat → Option Nat} {L : Nat → Nat → Int64} {sz : Nat} {ex : Bool} {Q : Res → Mem → Prop} {x : Nat} : X z 143 1 ls (.ref x :: st) (0, 0) (K, I, R, L, sz, ex) Q = ((K x).1 = 111 ∧ wsum st ≤ 8 ∧ X z 130 0 [some (.ref x), none] [] (0, 0) (K, I, R, L, sz, ex) (aftr (X z) mT 143 1 ls st (0, 0) Q)) := v143_1 (c := 0) (n := 0)
theorem v143_4 {z : P0} {st : List Value} {cu : Nat × Nat} {Q : Res → Mem → Prop} {σ : Mem} {x1 x2 : Option Value} {u : Nat} : X z 143 4 [some (.ref u), x1, x2] (st) cu σ Q = (X z 143 5 [some (.ref u), x1, x2] (.ref u :: st) cu σ Q) := by
  rw [x143_4]
  rfl
theorem v143_5 {z : P0} {st : List Value} {cu : Nat × Nat} {Q : Res → Mem → Prop} {σ : Mem} {x1 x2 : Option Value} {u : Nat} : X z 143 5 [some (.ref u), x1, x2] (st) cu σ Q = (X z 143 6 [some (.ref u), x1, x2] (.ref u :: st) cu σ Q) := by
  rw [x143_5]
  rfl
theorem v143_6 {z : P0} {st : List Value} {cu : Nat × Nat} {Q : Res → Mem → Prop} {K : Nat → Nat × Nat} {I : Nat → Nat → Int32} {R : Nat → Nat → Option Nat} {L : Nat → Nat → Int64} {sz : Nat} {ex : Bool} {x0 x1 x2 : Option Value} {u : Nat} : X z 143 6 [x0, x1, x2] (.ref u :: st) cu (K, I, R, L, sz, ex) Q = ((K u).1 = 111 ∧ X z 143 9 [x0, x1, x2] (va_rf (R u 0) :: st) cu (K, I, R, L, sz, ex) Q) := by
  rw [x143_6]
  rfl
theorem v143_9 {z : P0} {st : List Value} {cu : Nat × Nat} {Q : Res → Mem → Prop} {σ : Mem} {x0 x1 x2 : Option Value} : X z 143 9 [x0, x1, x2] (st) cu σ Q = (X z 143 11 [x0, x1, x2] (.int (nI 12) :: st) cu σ Q) := by
  rw [x143_9]
  rfl
theorem v143_11 {z : P0} {st : List Value} {cu : Nat × Nat} {Q : Res → Mem → Prop} {K : Nat → Nat × Nat} {I : Nat → Nat → Int32} {R : Nat → Nat → Option Nat} {L : Nat → Nat → Int64} {sz : Nat} {ex : Bool} {x0 x1 x2 : Option Value} {u : Nat} {v : Int32} : X z 143 11 [x0, x1, x2] (.int v :: .ref u :: st) cu (K, I, R, L, sz, ex) Q = (((K u).1 = 20 ∨ (K u).1 = 50) ∧ vp_in v (K u).2 ∧ X z 143 12 [x0, x1, x2] (.int (I u v.toNatClampNeg) :: st) cu (K, I, R, L, sz, ex) Q) := by
  rw [x143_11]
  rfl
theorem v143_12 {z : P0} {st : List Value} {cu : Nat × Nat} {Q : Res → Mem → Prop} {σ : Mem} {x0 x1 x2 : Option Value} {u : Int32} : X z 143 12 [x0, x1, x2] (.int u :: st) cu σ Q = (if u = nI 0 then X z 143 23 [x0, x1, x2] (st) cu σ Q else X z 143 15 [x0, x1, x2] (st) cu σ Q) := by
  rw [x143_12]
  rw [nI_0]
  obtain ⟨K, I, R, L, sz, ex⟩ := σ
  exact br_ite
theorem v143_15 {z : P0} {st : List Value} {cu : Nat × Nat} {Q : Res → Mem → Prop} {σ : Mem} {x1 x2 : Option Value} {u : Nat} : X z 143 15 [some (.ref u), x1, x2] (st) cu σ Q = (X z 143 16 [some (.ref u), x1, x2] (.ref u :: st) cu σ Q) := by
  rw [x143_15]
  rfl
theorem v143_16 {z : P0} {st : List Value} {cu : Nat × Nat} {Q : Res → Mem → Prop} {σ : Mem} {x0 x1 x2 : Option Value} : X z 143 16 [x0, x1, x2] (st) cu σ Q = (X z 143 17 [x0, x1, x2] (.int (nI 0) :: st) cu σ Q) := by
  rw [x143_16]
  rfl
theorem u143_17 {z : P0} {ls : Lcs} {st : List Value} {K : Nat → Nat × Nat} {I : Nat → Nat → Int32} {R : Nat → Nat → Option Nat} {L : Nat → Nat → Int64} {sz : Nat} {ex : Bool} {Q : Res → Mem → Prop} {x : Nat} {a0 : Int32} : X z 143 17 ls (.int a0 :: .ref x :: st) (0, 0) (K, I, R, L, sz, ex) Q = ((K x).1 = 111 ∧ wsum st ≤ 8 ∧ X z 132 0 [some (.ref x), some (.int a0), none, none, none] [] (0, 0) (K, I, R, L, sz, ex) (aftr (X z) mT 143 17 ls st (0, 0) Q)) := v143_17 (c := 0) (n := 0)
theorem v143_20 {z : P0} {st : List Value} {cu : Nat × Nat} {Q : Res → Mem → Prop} {σ : Mem} {x0 x1 x2 : Option Value} {u : Int32} : X z 143 20 [x0, x1, x2] (.int u :: st) cu σ Q = (if u = nI 0 then X z 143 23 [x0, x1, x2] (st) cu σ Q else X z 143 27 [x0, x1, x2] (st) cu σ Q) := by
  rw [x143_20]
  rw [nI_0]
  obtain ⟨K, I, R, L, sz, ex⟩ := σ
  exact br_ne
theorem v143_23 {z : P0} {st : List Value} {cu : Nat × Nat} {Q : Res → Mem → Prop} {σ : Mem} {x0 x1 x2 : Option Value} : X z 143 23 [x0, x1, x2] (st) cu σ Q = (X z 143 24 [x0, x1, x2] (.int (nI 1) :: st) cu σ Q) := by
  rw [x143_23]
  rfl
theorem v143_24 {z : P0} {st : List Value} {cu : Nat × Nat} {Q : Res → Mem → Prop} {σ : Mem} {x0 x1 x2 : Option Value} : X z 143 24 [x0, x1, x2] (st) cu σ Q = (X z 143 28 [x0, x1, x2] (st) cu σ Q) := by
  rw [x143_24]
  rfl
theorem v143_27 {z : P0} {st : List Value} {cu : Nat × Nat} {Q : Res → Mem → Prop} {σ : Mem} {x0 x1 x2 : Option Value} : X z 143 27 [x0, x1, x2] (st) cu σ Q = (X z 143 28 [x0, x1, x2] (.int (nI 0) :: st) cu σ Q) := by
  rw [x143_27]
  rfl
theorem v143_28 {z : P0} {st : List Value} {cu : Nat × Nat} {Q : Res → Mem → Prop} {K : Nat → Nat × Nat} {I : Nat → Nat → Int32} {R : Nat → Nat → Option Nat} {L : Nat → Nat → Int64} {sz : Nat} {ex : Bool} {x0 x1 x2 : Option Value} {u : Nat} {v : Int32} : X z 143 28 [x0, x1, x2] (.int v :: .ref u :: st) cu (K, I, R, L, sz, ex) Q = ((K u).1 = 111 ∧ X z 143 31 [x0, x1, x2] (st) cu (K, up2 I u 5 v, R, L, sz, ex) Q) := by
  rw [x143_28]
  exact i_putI
theorem v143_31 {z : P0} {st : List Value} {cu : Nat × Nat} {Q : Res → Mem → Prop} {σ : Mem} {x1 x2 : Option Value} {u : Nat} : X z 143 31 [some (.ref u), x1, x2] (st) cu σ Q = (X z 143 32 [some (.ref u), x1, x2] (.ref u :: st) cu σ Q) := by
  rw [x143_31]
  rfl
theorem v143_32 {z : P0} {st : List Value} {cu : Nat × Nat} {Q : Res → Mem → Prop} {K : Nat → Nat × Nat} {I : Nat → Nat → Int32} {R : Nat → Nat → Option Nat} {L : Nat → Nat → Int64} {sz : Nat} {ex : Bool} {x0 x1 x2 : Option Value} {u : Nat} : X z 143 32 [x0, x1, x2] (.ref u :: st) cu (K, I, R, L, sz, ex) Q = ((K u).1 = 111 ∧ X z 143 35 [x0, x1, x2] (.int (I u 5) :: st) cu (K, I, R, L, sz, ex) Q) := by
  rw [x143_32]
  rfl
theorem v143_35 {z : P0} {st : List Value} {cu : Nat × Nat} {Q : Res → Mem → Prop} {σ : Mem} {x0 x1 x2 : Option Value} {u : Int32} : X z 143 35 [x0, x1, x2] (.int u :: st) cu σ Q = (if nI 0 < u then X z 143 38 [x0, x1, x2] (st) cu σ Q else X z 143 40 [x0, x1, x2] (st) cu σ Q) := by
  rw [x143_35]
  rw [nI_0]
  obtain ⟨K, I, R, L, sz, ex⟩ := σ
  exact br_ge
theorem v143_38 {z : P0} {st : List Value} {cu : Nat × Nat} {Q : Res → Mem → Prop} {σ : Mem} {x0 x1 x2 : Option Value} : X z 143 38 [x0, x1, x2] (st) cu σ Q = (X z 143 39 [x0, x1, x2] (.int (nI 0) :: st) cu σ Q) := by
  rw [x143_38]
  rfl
theorem v143_39 {z : P0} {cu : Nat × Nat} {Q : Res → Mem → Prop} {σ : Mem} {x0 x1 x2 : Option Value} {v : Int32} : X z 143 39 [x0, x1, x2] ([.int v]) cu σ Q = (Q (.inl (some (.int v))) σ) := by
  rw [x143_39]
  exact propext ⟨fun h => h.2, fun h => ⟨trivial, h⟩⟩
theorem v143_40 {z : P0} {st : List Value} {cu : Nat × Nat} {Q : Res → Mem → Prop} {σ : Mem} {x1 x2 : Option Value} {u : Nat} : X z 143 40 [some (.ref u), x1, x2] (st) cu σ Q = (X z 143 41 [some (.ref u), x1, x2] (.ref u :: st) cu σ Q) := by
  rw [x143_40]
  rfl
theorem u143_41 {z : P0} {ls : Lcs} {st : List Value} {K : Nat → Nat × Nat} {I : Nat → Nat → Int32} {R : Nat → Nat → Option Nat} {L : Nat → Nat → Int64} {sz : Nat} {ex : Bool} {Q : Res → Mem → Prop} {x : Nat} : X z 143 41 ls (.ref x :: st) (0, 0) (K, I, R, L, sz, ex) Q = ((K x).1 = 111 ∧ wsum st ≤ 8 ∧ X z 107 0 [some (.ref x), none] [] (0, 0) (K, I, R, L, sz, ex) (aftr (X z) mT 143 41 ls st (0, 0) Q)) := v143_41 (c := 0) (n := 0)
theorem v143_44 {z : P0} {st : List Value} {cu : Nat × Nat} {Q : Res → Mem → Prop} {σ : Mem} {x1 x2 : Option Value} {u : Nat} : X z 143 44 [some (.ref u), x1, x2] (st) cu σ Q = (X z 143 45 [some (.ref u), x1, x2] (.ref u :: st) cu σ Q) := by
  rw [x143_44]
  rfl
theorem v143_45 {z : P0} {st : List Value} {cu : Nat × Nat} {Q : Res → Mem → Prop} {σ : Mem} {x0 x1 x2 : Option Value} : X z 143 45 [x0, x1, x2] (st) cu σ Q = (X z 143 46 [x0, x1, x2] (.int (nI 0) :: st) cu σ Q) := by
  rw [x143_45]
  rfl
theorem u143_46 {z : P0} {ls : Lcs} {st : List Value} {K : Nat → Nat × Nat} {I : Nat → Nat → Int32} {R : Nat → Nat → Option Nat} {L : Nat → Nat → Int64} {sz : Nat} {ex : Bool} {Q : Res → Mem → Prop} {x : Nat} {a0 : Int32} : X z 143 46 ls (.int a0 :: .ref x :: st) (0, 0) (K, I, R, L, sz, ex) Q = ((K x).1 = 111 ∧ wsum st ≤ 8 ∧ X z 132 0 [some (.ref x), some (.int a0), none, none, none] [] (0, 0) (K, I, R, L, sz, ex) (aftr (X z) mT 143 46 ls st (0, 0) Q)) := v143_46 (c := 0) (n := 0)
theorem v143_49 {z : P0} {st : List Value} {cu : Nat × Nat} {Q : Res → Mem → Prop} {σ : Mem} {x0 x1 x2 : Option Value} {u : Int32} : X z 143 49 [x0, x1, x2] (.int u :: st) cu σ Q = (cat2 x0 = false ∧ X z 143 50 [x0, some (.int u), x2] (st) cu σ Q) := by
  rw [x143_49]
  obtain ⟨K, I, R, L, sz, ex⟩ := σ
  exact i_istore_n.trans sl_1
theorem v143_50 {z : P0} {st : List Value} {cu : Nat × Nat} {Q : Res → Mem → Prop} {σ : Mem} {x1 x2 : Option Value} {u : Nat} : X z 143 50 [some (.ref u), x1, x2] (st) cu σ Q = (X z 143 51 [some (.ref u), x1, x2] (.ref u :: st) cu σ Q) := by
  rw [x143_50]
  rfl
theorem v143_51 {z : P0} {st : List Value} {cu : Nat × Nat} {Q : Res → Mem → Prop} {K : Nat → Nat × Nat} {I : Nat → Nat → Int32} {R : Nat → Nat → Option Nat} {L : Nat → Nat → Int64} {sz : Nat} {ex : Bool} {x0 x1 x2 : Option Value} {u : Nat} : X z 143 51 [x0, x1, x2] (.ref u :: st) cu (K, I, R, L, sz, ex) Q = ((K u).1 = 111 ∧ X z 143 54 [x0, x1, x2] (va_rf (R u 0) :: st) cu (K, I, R, L, sz, ex) Q) := by
  rw [x143_51]
  rfl
theorem v143_54 {z : P0} {st : List Value} {cu : Nat × Nat} {Q : Res → Mem → Prop} {σ : Mem} {x0 x1 x2 : Option Value} : X z 143 54 [x0, x1, x2] (st) cu σ Q = (X z 143 56 [x0, x1, x2] (.int (nI 9) :: st) cu σ Q) := by
  rw [x143_54]
  rfl
theorem v143_56 {z : P0} {st : List Value} {cu : Nat × Nat} {Q : Res → Mem → Prop} {σ : Mem} {x0 x1 x2 : Option Value} {u : Int32} {v : Nat} : X z 143 56 [x0, x1, x2] (.int u :: .ref v :: st) cu σ Q = (X z 143 57 [x0, x1, x2] (.int u :: .ref v :: .int u :: .ref v :: st) cu σ Q) := by
  rw [x143_56]
  rfl
theorem v143_57 {z : P0} {st : List Value} {cu : Nat × Nat} {Q : Res → Mem → Prop} {K : Nat → Nat × Nat} {I : Nat → Nat → Int32} {R : Nat → Nat → Option Nat} {L : Nat → Nat → Int64} {sz : Nat} {ex : Bool} {x0 x1 x2 : Option Value} {u : Nat} {v : Int32} : X z 143 57 [x0, x1, x2] (.int v :: .ref u :: st) cu (K, I, R, L, sz, ex) Q = (((K u).1 = 20 ∨ (K u).1 = 50) ∧ vp_in v (K u).2 ∧ X z 143 58 [x0, x1, x2] (.int (I u v.toNatClampNeg) :: st) cu (K, I, R, L, sz, ex) Q) := by
  rw [x143_57]
  rfl
theorem v143_58 {z : P0} {st : List Value} {cu : Nat × Nat} {Q : Res → Mem → Prop} {σ : Mem} {x0 x2 : Option Value} {u : Int32} : X z 143 58 [x0, some (.int u), x2] (st) cu σ Q = (X z 143 59 [x0, some (.int u), x2] (.int u :: st) cu σ Q) := by
  rw [x143_58]
  rfl
theorem v143_59 {z : P0} {st : List Value} {cu : Nat × Nat} {Q : Res → Mem → Prop} {σ : Mem} {x0 x1 x2 : Option Value} {u v : Int32} : X z 143 59 [x0, x1, x2] (.int v :: .int u :: st) cu σ Q = (X z 143 60 [x0, x1, x2] (.int (u + v) :: st) cu σ Q) := by
  rw [x143_59]
  rfl
theorem v143_60 {z : P0} {st : List Value} {cu : Nat × Nat} {Q : Res → Mem → Prop} {K : Nat → Nat × Nat} {I : Nat → Nat → Int32} {R : Nat → Nat → Option Nat} {L : Nat → Nat → Int64} {sz : Nat} {ex : Bool} {x0 x1 x2 : Option Value} {u : Nat} {j v : Int32} : X z 143 60 [x0, x1, x2] (.int v :: .int j :: .ref u :: st) cu (K, I, R, L, sz, ex) Q = ((K u).1 = 20 ∧ vp_in j (K u).2 ∧ X z 143 61 [x0, x1, x2] (st) cu (K, up2 I u j.toNatClampNeg v, R, L, sz, ex) Q) := by
  rw [x143_60]
  rfl
theorem v143_61 {z : P0} {st : List Value} {cu : Nat × Nat} {Q : Res → Mem → Prop} {σ : Mem} {x1 x2 : Option Value} {u : Nat} : X z 143 61 [some (.ref u), x1, x2] (st) cu σ Q = (X z 143 62 [some (.ref u), x1, x2] (.ref u :: st) cu σ Q) := by
  rw [x143_61]
  rfl
theorem v143_62 {z : P0} {st : List Value} {cu : Nat × Nat} {Q : Res → Mem → Prop} {K : Nat → Nat × Nat} {I : Nat → Nat → Int32} {R : Nat → Nat → Option Nat} {L : Nat → Nat → Int64} {sz : Nat} {ex : Bool} {x0 x1 x2 : Option Value} {u : Nat} : X z 143 62 [x0, x1, x2] (.ref u :: st) cu (K, I, R, L, sz, ex) Q = ((K u).1 = 111 ∧ X z 143 65 [x0, x1, x2] (va_rf (R u 0) :: st) cu (K, I, R, L, sz, ex) Q) := by
  rw [x143_62]
  rfl
theorem v143_65 {z : P0} {st : List Value} {cu : Nat × Nat} {Q : Res → Mem → Prop} {σ : Mem} {x0 x1 x2 : Option Value} : X z 143 65 [x0, x1, x2] (st) cu σ Q = (X z 143 67 [x0, x1, x2] (.int (nI 10) :: st) cu σ Q) := by
  rw [x143_65]
  rfl
theorem v143_67 {z : P0} {st : List Value} {cu : Nat × Nat} {Q : Res → Mem → Prop} {σ : Mem} {x0 x1 x2 : Option Value} {u : Int32} {v : Nat} : X z 143 67 [x0, x1, x2] (.int u :: .ref v :: st) cu σ Q = (X z 143 68 [x0, x1, x2] (.int u :: .ref v :: .int u :: .ref v :: st) cu σ Q) := by
  rw [x143_67]
  rfl
theorem v143_68 {z : P0} {st : List Value} {cu : Nat × Nat} {Q : Res → Mem → Prop} {K : Nat → Nat × Nat} {I : Nat → Nat → Int32} {R : Nat → Nat → Option Nat} {L : Nat → Nat → Int64} {sz : Nat} {ex : Bool} {x0 x1 x2 : Option Value} {u : Nat} {v : Int32} : X z 143 68 [x0, x1, x2] (.int v :: .ref u :: st) cu (K, I, R, L, sz, ex) Q = (((K u).1 = 20 ∨ (K u).1 = 50) ∧ vp_in v (K u).2 ∧ X z 143 69 [x0, x1, x2] (.int (I u v.toNatClampNeg) :: st) cu (K, I, R, L, sz, ex) Q) := by
  rw [x143_68]
  rfl
theorem v143_69 {z : P0} {st : List Value} {cu : Nat × Nat} {Q : Res → Mem → Prop} {σ : Mem} {x1 x2 : Option Value} {u : Nat} : X z 143 69 [some (.ref u), x1, x2] (st) cu σ Q = (X z 143 70 [some (.ref u), x1, x2] (.ref u :: st) cu σ Q) := by
  rw [x143_69]
  rfl
theorem v143_70 {z : P0} {st : List Value} {cu : Nat × Nat} {Q : Res → Mem → Prop} {σ : Mem} {x0 x1 x2 : Option Value} : X z 143 70 [x0, x1, x2] (st) cu σ Q = (X z 143 71 [x0, x1, x2] (.int (nI 2) :: st) cu σ Q) := by
  rw [x143_70]
  rfl
theorem u143_71 {z : P0} {ls : Lcs} {st : List Value} {K : Nat → Nat × Nat} {I : Nat → Nat → Int32} {R : Nat → Nat → Option Nat} {L : Nat → Nat → Int64} {sz : Nat} {ex : Bool} {Q : Res → Mem → Prop} {x : Nat} {a0 : Int32} : X z 143 71 ls (.int a0 :: .ref x :: st) (0, 0) (K, I, R, L, sz, ex) Q = ((K x).1 = 111 ∧ wsum st ≤ 8 ∧ X z 132 0 [some (.ref x), some (.int a0), none, none, none] [] (0, 0) (K, I, R, L, sz, ex) (aftr (X z) mT 143 71 ls st (0, 0) Q)) := v143_71 (c := 0) (n := 0)
theorem v143_74 {z : P0} {st : List Value} {cu : Nat × Nat} {Q : Res → Mem → Prop} {σ : Mem} {x0 x1 x2 : Option Value} {u v : Int32} : X z 143 74 [x0, x1, x2] (.int v :: .int u :: st) cu σ Q = (X z 143 75 [x0, x1, x2] (.int (u + v) :: st) cu σ Q) := by
  rw [x143_74]
  rfl
theorem v143_75 {z : P0} {st : List Value} {cu : Nat × Nat} {Q : Res → Mem → Prop} {K : Nat → Nat × Nat} {I : Nat → Nat → Int32} {R : Nat → Nat → Option Nat} {L : Nat → Nat → Int64} {sz : Nat} {ex : Bool} {x0 x1 x2 : Option Value} {u : Nat} {j v : Int32} : X z 143 75 [x0, x1, x2] (.int v :: .int j :: .ref u :: st) cu (K, I, R, L, sz, ex) Q = ((K u).1 = 20 ∧ vp_in j (K u).2 ∧ X z 143 76 [x0, x1, x2] (st) cu (K, up2 I u j.toNatClampNeg v, R, L, sz, ex) Q) := by
  rw [x143_75]
  rfl
theorem v143_76 {z : P0} {st : List Value} {cu : Nat × Nat} {Q : Res → Mem → Prop} {σ : Mem} {x1 x2 : Option Value} {u : Nat} : X z 143 76 [some (.ref u), x1, x2] (st) cu σ Q = (X z 143 77 [some (.ref u), x1, x2] (.ref u :: st) cu σ Q) := by
  rw [x143_76]
  rfl
theorem v143_77 {z : P0} {st : List Value} {cu : Nat × Nat} {Q : Res → Mem → Prop} {K : Nat → Nat × Nat} {I : Nat → Nat → Int32} {R : Nat → Nat → Option Nat} {L : Nat → Nat → Int64} {sz : Nat} {ex : Bool} {x0 x1 x2 : Option Value} {u : Nat} : X z 143 77 [x0, x1, x2] (.ref u :: st) cu (K, I, R, L, sz, ex) Q = ((K u).1 = 111 ∧ X z 143 80 [x0, x1, x2] (va_rf (R u 0) :: st) cu (K, I, R, L, sz, ex) Q) := by
  rw [x143_77]
  rfl
theorem v143_80 {z : P0} {st : List Value} {cu : Nat × Nat} {Q : Res → Mem → Prop} {σ : Mem} {x0 x1 x2 : Option Value} : X z 143 80 [x0, x1, x2] (st) cu σ Q = (X z 143 82 [x0, x1, x2] (.int (nI 11) :: st) cu σ Q) := by
  rw [x143_80]
  rfl
theorem v143_82 {z : P0} {st : List Value} {cu : Nat × Nat} {Q : Res → Mem → Prop} {σ : Mem} {x0 x1 x2 : Option Value} {u : Int32} {v : Nat} : X z 143 82 [x0, x1, x2] (.int u :: .ref v :: st) cu σ Q = (X z 143 83 [x0, x1, x2] (.int u :: .ref v :: .int u :: .ref v :: st) cu σ Q) := by
  rw [x143_82]
  rfl
theorem v143_83 {z : P0} {st : List Value} {cu : Nat × Nat} {Q : Res → Mem → Prop} {K : Nat → Nat × Nat} {I : Nat → Nat → Int32} {R : Nat → Nat → Option Nat} {L : Nat → Nat → Int64} {sz : Nat} {ex : Bool} {x0 x1 x2 : Option Value} {u : Nat} {v : Int32} : X z 143 83 [x0, x1, x2] (.int v :: .ref u :: st) cu (K, I, R, L, sz, ex) Q = (((K u).1 = 20 ∨ (K u).1 = 50) ∧ vp_in v (K u).2 ∧ X z 143 84 [x0, x1, x2] (.int (I u v.toNatClampNeg) :: st) cu (K, I, R, L, sz, ex) Q) := by
  rw [x143_83]
  rfl
theorem v143_84 {z : P0} {st : List Value} {cu : Nat × Nat} {Q : Res → Mem → Prop} {σ : Mem} {x1 x2 : Option Value} {u : Nat} : X z 143 84 [some (.ref u), x1, x2] (st) cu σ Q = (X z 143 85 [some (.ref u), x1, x2] (.ref u :: st) cu σ Q) := by
  rw [x143_84]
  rfl
theorem v143_85 {z : P0} {st : List Value} {cu : Nat × Nat} {Q : Res → Mem → Prop} {σ : Mem} {x0 x1 x2 : Option Value} : X z 143 85 [x0, x1, x2] (st) cu σ Q = (X z 143 86 [x0, x1, x2] (.int (nI 3) :: st) cu σ Q) := by
  rw [x143_85]
  rfl
theorem u143_86 {z : P0} {ls : Lcs} {st : List Value} {K : Nat → Nat × Nat} {I : Nat → Nat → Int32} {R : Nat → Nat → Option Nat} {L : Nat → Nat → Int64} {sz : Nat} {ex : Bool} {Q : Res → Mem → Prop} {x : Nat} {a0 : Int32} : X z 143 86 ls (.int a0 :: .ref x :: st) (0, 0) (K, I, R, L, sz, ex) Q = ((K x).1 = 111 ∧ wsum st ≤ 8 ∧ X z 132 0 [some (.ref x), some (.int a0), none, none, none] [] (0, 0) (K, I, R, L, sz, ex) (aftr (X z) mT 143 86 ls st (0, 0) Q)) := v143_86 (c := 0) (n := 0)
theorem v143_89 {z : P0} {st : List Value} {cu : Nat × Nat} {Q : Res → Mem → Prop} {σ : Mem} {x0 x1 x2 : Option Value} {u v : Int32} : X z 143 89 [x0, x1, x2] (.int v :: .int u :: st) cu σ Q = (X z 143 90 [x0, x1, x2] (.int (u + v) :: st) cu σ Q) := by
  rw [x143_89]
  rfl
theorem v143_90 {z : P0} {st : List Value} {cu : Nat × Nat} {Q : Res → Mem → Prop} {K : Nat → Nat × Nat} {I : Nat → Nat → Int32} {R : Nat → Nat → Option Nat} {L : Nat → Nat → Int64} {sz : Nat} {ex : Bool} {x0 x1 x2 : Option Value} {u : Nat} {j v : Int32} : X z 143 90 [x0, x1, x2] (.int v :: .int j :: .ref u :: st) cu (K, I, R, L, sz, ex) Q = ((K u).1 = 20 ∧ vp_in j (K u).2 ∧ X z 143 91 [x0, x1, x2] (st) cu (K, up2 I u j.toNatClampNeg v, R, L, sz, ex) Q) := by
  rw [x143_90]
  rfl
theorem v143_91 {z : P0} {st : List Value} {cu : Nat × Nat} {Q : Res → Mem → Prop} {σ : Mem} {x0 x1 x2 : Option Value} : X z 143 91 [x0, x1, x2] (st) cu σ Q = (X z 143 92 [x0, x1, x2] (.int (nI 0) :: st) cu σ Q) := by
  rw [x143_91]
  rfl
theorem v143_92 {z : P0} {st : List Value} {cu : Nat × Nat} {Q : Res → Mem → Prop} {σ : Mem} {x0 x1 x2 : Option Value} {u : Int32} : X z 143 92 [x0, x1, x2] (.int u :: st) cu σ Q = (cat2 x1 = false ∧ X z 143 93 [x0, x1, some (.int u)] (st) cu σ Q) := by
  rw [x143_92]
  obtain ⟨K, I, R, L, sz, ex⟩ := σ
  exact i_istore_n.trans sl_2
theorem v143_93 {z : P0} {st : List Value} {cu : Nat × Nat} {Q : Res → Mem → Prop} {σ : Mem} {x0 x1 : Option Value} {u : Int32} : X z 143 93 [x0, x1, some (.int u)] (st) cu σ Q = (X z 143 94 [x0, x1, some (.int u)] (.int u :: st) cu σ Q) := by
  rw [x143_93]
  rfl
theorem v143_94 {z : P0} {st : List Value} {cu : Nat × Nat} {Q : Res → Mem → Prop} {σ : Mem} {x1 x2 : Option Value} {u : Nat} : X z 143 94 [some (.ref u), x1, x2] (st) cu σ Q = (X z 143 95 [some (.ref u), x1, x2] (.ref u :: st) cu σ Q) := by
  rw [x143_94]
  rfl
theorem v143_95 {z : P0} {st : List Value} {cu : Nat × Nat} {Q : Res → Mem → Prop} {K : Nat → Nat × Nat} {I : Nat → Nat → Int32} {R : Nat → Nat → Option Nat} {L : Nat → Nat → Int64} {sz : Nat} {ex : Bool} {x0 x1 x2 : Option Value} {u : Nat} : X z 143 95 [x0, x1, x2] (.ref u :: st) cu (K, I, R, L, sz, ex) Q = ((K u).1 = 111 ∧ X z 143 98 [x0, x1, x2] (va_rf (R u 0) :: st) cu (K, I, R, L, sz, ex) Q) := by
  rw [x143_95]
  rfl
theorem v143_98 {z : P0} {st : List Value} {cu : Nat × Nat} {Q : Res → Mem → Prop} {σ : Mem} {x0 x1 x2 : Option Value} : X z 143 98 [x0, x1, x2] (st) cu σ Q = (X z 143 100 [x0, x1, x2] (.int (nI 6) :: st) cu σ Q) := by
  rw [x143_98]
  rfl
theorem v143_100 {z : P0} {st : List Value} {cu : Nat × Nat} {Q : Res → Mem → Prop} {K : Nat → Nat × Nat} {I : Nat → Nat → Int32} {R : Nat → Nat → Option Nat} {L : Nat → Nat → Int64} {sz : Nat} {ex : Bool} {x0 x1 x2 : Option Value} {u : Nat} {v : Int32} : X z 143 100 [x0, x1, x2] (.int v :: .ref u :: st) cu (K, I, R, L, sz, ex) Q = (((K u).1 = 20 ∨ (K u).1 = 50) ∧ vp_in v (K u).2 ∧ X z 143 101 [x0, x1, x2] (.int (I u v.toNatClampNeg) :: st) cu (K, I, R, L, sz, ex) Q) := by
  rw [x143_100]
  rfl
theorem v143_101 {z : P0} {st : List Value} {cu : Nat × Nat} {Q : Res → Mem → Prop} {σ : Mem} {x0 x1 x2 : Option Value} {u v : Int32} : X z 143 101 [x0, x1, x2] (.int v :: .int u :: st) cu σ Q = (if u < v then X z 143 104 [x0, x1, x2] (st) cu σ Q else X z 143 162 [x0, x1, x2] (st) cu σ Q) := by
  rw [x143_101]
  obtain ⟨K, I, R, L, sz, ex⟩ := σ
  exact br_ge
theorem v143_104 {z : P0} {st : List Value} {cu : Nat × Nat} {Q : Res → Mem → Prop} {σ : Mem} {x1 x2 : Option Value} {u : Nat} : X z 143 104 [some (.ref u), x1, x2] (st) cu σ Q = (X z 143 105 [some (.ref u), x1, x2] (.ref u :: st) cu σ Q) := by
  rw [x143_104]
  rfl
theorem v143_105 {z : P0} {st : List Value} {cu : Nat × Nat} {Q : Res → Mem → Prop} {K : Nat → Nat × Nat} {I : Nat → Nat → Int32} {R : Nat → Nat → Option Nat} {L : Nat → Nat → Int64} {sz : Nat} {ex : Bool} {x0 x1 x2 : Option Value} {u : Nat} : X z 143 105 [x0, x1, x2] (.ref u :: st) cu (K, I, R, L, sz, ex) Q = ((K u).1 = 111 ∧ X z 143 108 [x0, x1, x2] (va_rf (R u 11) :: st) cu (K, I, R, L, sz, ex) Q) := by
  rw [x143_105]
  rfl
theorem v143_108 {z : P0} {st : List Value} {cu : Nat × Nat} {Q : Res → Mem → Prop} {σ : Mem} {x0 x1 : Option Value} {u : Int32} : X z 143 108 [x0, x1, some (.int u)] (st) cu σ Q = (X z 143 109 [x0, x1, some (.int u)] (.int u :: st) cu σ Q) := by
  rw [x143_108]
  rfl
theorem v143_109 {z : P0} {st : List Value} {cu : Nat × Nat} {Q : Res → Mem → Prop} {K : Nat → Nat × Nat} {I : Nat → Nat → Int32} {R : Nat → Nat → Option Nat} {L : Nat → Nat → Int64} {sz : Nat} {ex : Bool} {x0 x1 x2 : Option Value} {u : Nat} {v : Int32} : X z 143 109 [x0, x1, x2] (.int v :: .ref u :: st) cu (K, I, R, L, sz, ex) Q = (((K u).1 = 20 ∨ (K u).1 = 50) ∧ vp_in v (K u).2 ∧ X z 143 110 [x0, x1, x2] (.int (I u v.toNatClampNeg) :: st) cu (K, I, R, L, sz, ex) Q) := by
  rw [x143_109]
  rfl
theorem v143_110 {z : P0} {st : List Value} {cu : Nat × Nat} {Q : Res → Mem → Prop} {σ : Mem} {x0 x1 x2 : Option Value} : X z 143 110 [x0, x1, x2] (st) cu σ Q = (X z 143 111 [x0, x1, x2] (.int (nI 4294967295) :: st) cu σ Q) := by
  rw [x143_110]
  rw [neg1]
  rfl
theorem v143_111 {z : P0} {st : List Value} {cu : Nat × Nat} {Q : Res → Mem → Prop} {σ : Mem} {x0 x1 x2 : Option Value} {u v : Int32} : X z 143 111 [x0, x1, x2] (.int v :: .int u :: st) cu σ Q = (if u = v then X z 143 156 [x0, x1, x2] (st) cu σ Q else X z 143 114 [x0, x1, x2] (st) cu σ Q) := by
  rw [x143_111]
  obtain ⟨K, I, R, L, sz, ex⟩ := σ
  exact br_ite
theorem v143_114 {z : P0} {st : List Value} {cu : Nat × Nat} {Q : Res → Mem → Prop} {σ : Mem} {x1 x2 : Option Value} {u : Nat} : X z 143 114 [some (.ref u), x1, x2] (st) cu σ Q = (X z 143 115 [some (.ref u), x1, x2] (.ref u :: st) cu σ Q) := by
  rw [x143_114]
  rfl
theorem v143_115 {z : P0} {st : List Value} {cu : Nat × Nat} {Q : Res → Mem → Prop} {σ : Mem} {x1 x2 : Option Value} {u : Nat} : X z 143 115 [some (.ref u), x1, x2] (st) cu σ Q = (X z 143 116 [some (.ref u), x1, x2] (.ref u :: st) cu σ Q) := by
  rw [x143_115]
  rfl
theorem v143_116 {z : P0} {st : List Value} {cu : Nat × Nat} {Q : Res → Mem → Prop} {K : Nat → Nat × Nat} {I : Nat → Nat → Int32} {R : Nat → Nat → Option Nat} {L : Nat → Nat → Int64} {sz : Nat} {ex : Bool} {x0 x1 x2 : Option Value} {u : Nat} : X z 143 116 [x0, x1, x2] (.ref u :: st) cu (K, I, R, L, sz, ex) Q = ((K u).1 = 111 ∧ X z 143 119 [x0, x1, x2] (va_rf (R u 11) :: st) cu (K, I, R, L, sz, ex) Q) := by
  rw [x143_116]
  rfl
theorem v143_119 {z : P0} {st : List Value} {cu : Nat × Nat} {Q : Res → Mem → Prop} {σ : Mem} {x0 x1 : Option Value} {u : Int32} : X z 143 119 [x0, x1, some (.int u)] (st) cu σ Q = (X z 143 120 [x0, x1, some (.int u)] (.int u :: st) cu σ Q) := by
  rw [x143_119]
  rfl
theorem v143_120 {z : P0} {st : List Value} {cu : Nat × Nat} {Q : Res → Mem → Prop} {K : Nat → Nat × Nat} {I : Nat → Nat → Int32} {R : Nat → Nat → Option Nat} {L : Nat → Nat → Int64} {sz : Nat} {ex : Bool} {x0 x1 x2 : Option Value} {u : Nat} {v : Int32} : X z 143 120 [x0, x1, x2] (.int v :: .ref u :: st) cu (K, I, R, L, sz, ex) Q = (((K u).1 = 20 ∨ (K u).1 = 50) ∧ vp_in v (K u).2 ∧ X z 143 121 [x0, x1, x2] (.int (I u v.toNatClampNeg) :: st) cu (K, I, R, L, sz, ex) Q) := by
  rw [x143_120]
  rfl
theorem u143_121 {z : P0} {ls : Lcs} {st : List Value} {K : Nat → Nat × Nat} {I : Nat → Nat → Int32} {R : Nat → Nat → Option Nat} {L : Nat → Nat → Int64} {sz : Nat} {ex : Bool} {Q : Res → Mem → Prop} {x : Nat} {a0 : Int32} : X z 143 121 ls (.int a0 :: .ref x :: st) (0, 0) (K, I, R, L, sz, ex) Q = ((K x).1 = 111 ∧ wsum st ≤ 8 ∧ X z 131 0 [some (.ref x), some (.int a0)] [] (0, 0) (K, I, R, L, sz, ex) (aftr (X z) mT 143 121 ls st (0, 0) Q)) := v143_121 (c := 0) (n := 0)
theorem v143_124 {z : P0} {st : List Value} {cu : Nat × Nat} {Q : Res → Mem → Prop} {σ : Mem} {x0 x1 x2 : Option Value} {u : Int32} : X z 143 124 [x0, x1, x2] (.int u :: st) cu σ Q = (if u = nI 0 then X z 143 156 [x0, x1, x2] (st) cu σ Q else X z 143 127 [x0, x1, x2] (st) cu σ Q) := by
  rw [x143_124]
  rw [nI_0]
  obtain ⟨K, I, R, L, sz, ex⟩ := σ
  exact br_ite
theorem v143_127 {z : P0} {st : List Value} {cu : Nat × Nat} {Q : Res → Mem → Prop} {σ : Mem} {x1 x2 : Option Value} {u : Nat} : X z 143 127 [some (.ref u), x1, x2] (st) cu σ Q = (X z 143 128 [some (.ref u), x1, x2] (.ref u :: st) cu σ Q) := by
  rw [x143_127]
  rfl
theorem v143_128 {z : P0} {st : List Value} {cu : Nat × Nat} {Q : Res → Mem → Prop} {K : Nat → Nat × Nat} {I : Nat → Nat → Int32} {R : Nat → Nat → Option Nat} {L : Nat → Nat → Int64} {sz : Nat} {ex : Bool} {x0 x1 x2 : Option Value} {u : Nat} : X z 143 128 [x0, x1, x2] (.ref u :: st) cu (K, I, R, L, sz, ex) Q = ((K u).1 = 111 ∧ X z 143 131 [x0, x1, x2] (va_rf (R u 0) :: st) cu (K, I, R, L, sz, ex) Q) := by
  rw [x143_128]
  rfl
theorem v143_131 {z : P0} {st : List Value} {cu : Nat × Nat} {Q : Res → Mem → Prop} {σ : Mem} {x0 x1 x2 : Option Value} : X z 143 131 [x0, x1, x2] (st) cu σ Q = (X z 143 133 [x0, x1, x2] (.int (nI 93) :: st) cu σ Q) := by
  rw [x143_131]
  rfl
theorem v143_133 {z : P0} {st : List Value} {cu : Nat × Nat} {Q : Res → Mem → Prop} {σ : Mem} {x0 x1 : Option Value} {u : Int32} : X z 143 133 [x0, x1, some (.int u)] (st) cu σ Q = (X z 143 134 [x0, x1, some (.int u)] (.int u :: st) cu σ Q) := by
  rw [x143_133]
  rfl
theorem v143_134 {z : P0} {st : List Value} {cu : Nat × Nat} {Q : Res → Mem → Prop} {σ : Mem} {x0 x1 x2 : Option Value} {u v : Int32} : X z 143 134 [x0, x1, x2] (.int v :: .int u :: st) cu σ Q = (X z 143 135 [x0, x1, x2] (.int (u + v) :: st) cu σ Q) := by
  rw [x143_134]
  rfl
theorem v143_135 {z : P0} {st : List Value} {cu : Nat × Nat} {Q : Res → Mem → Prop} {σ : Mem} {x1 x2 : Option Value} {u : Nat} : X z 143 135 [some (.ref u), x1, x2] (st) cu σ Q = (X z 143 136 [some (.ref u), x1, x2] (.ref u :: st) cu σ Q) := by
  rw [x143_135]
  rfl
theorem v143_136 {z : P0} {st : List Value} {cu : Nat × Nat} {Q : Res → Mem → Prop} {K : Nat → Nat × Nat} {I : Nat → Nat → Int32} {R : Nat → Nat → Option Nat} {L : Nat → Nat → Int64} {sz : Nat} {ex : Bool} {x0 x1 x2 : Option Value} {u : Nat} : X z 143 136 [x0, x1, x2] (.ref u :: st) cu (K, I, R, L, sz, ex) Q = ((K u).1 = 111 ∧ X z 143 139 [x0, x1, x2] (va_rf (R u 0) :: st) cu (K, I, R, L, sz, ex) Q) := by
  rw [x143_136]
  rfl
theorem v143_139 {z : P0} {st : List Value} {cu : Nat × Nat} {Q : Res → Mem → Prop} {σ : Mem} {x0 x1 x2 : Option Value} : X z 143 139 [x0, x1, x2] (st) cu σ Q = (X z 143 141 [x0, x1, x2] (.int (nI 8) :: st) cu σ Q) := by
  rw [x143_139]
  rfl
theorem v143_141 {z : P0} {st : List Value} {cu : Nat × Nat} {Q : Res → Mem → Prop} {K : Nat → Nat × Nat} {I : Nat → Nat → Int32} {R : Nat → Nat → Option Nat} {L : Nat → Nat → Int64} {sz : Nat} {ex : Bool} {x0 x1 x2 : Option Value} {u : Nat} {v : Int32} : X z 143 141 [x0, x1, x2] (.int v :: .ref u :: st) cu (K, I, R, L, sz, ex) Q = (((K u).1 = 20 ∨ (K u).1 = 50) ∧ vp_in v (K u).2 ∧ X z 143 142 [x0, x1, x2] (.int (I u v.toNatClampNeg) :: st) cu (K, I, R, L, sz, ex) Q) := by
  rw [x143_141]
  rfl
theorem v143_142 {z : P0} {st : List Value} {cu : Nat × Nat} {Q : Res → Mem → Prop} {K : Nat → Nat × Nat} {I : Nat → Nat → Int32} {R : Nat → Nat → Option Nat} {L : Nat → Nat → Int64} {sz : Nat} {ex : Bool} {x0 x1 x2 : Option Value} {u : Nat} {j v : Int32} : X z 143 142 [x0, x1, x2] (.int v :: .int j :: .ref u :: st) cu (K, I, R, L, sz, ex) Q = ((K u).1 = 20 ∧ vp_in j (K u).2 ∧ X z 143 143 [x0, x1, x2] (st) cu (K, up2 I u j.toNatClampNeg v, R, L, sz, ex) Q) := by
  rw [x143_142]
  rfl
theorem v143_143 {z : P0} {st : List Value} {cu : Nat × Nat} {Q : Res → Mem → Prop} {σ : Mem} {x1 x2 : Option Value} {u : Nat} : X z 143 143 [some (.ref u), x1, x2] (st) cu σ Q = (X z 143 144 [some (.ref u), x1, x2] (.ref u :: st) cu σ Q) := by
  rw [x143_143]
  rfl
theorem v143_144 {z : P0} {st : List Value} {cu : Nat × Nat} {Q : Res → Mem → Prop} {K : Nat → Nat × Nat} {I : Nat → Nat → Int32} {R : Nat → Nat → Option Nat} {L : Nat → Nat → Int64} {sz : Nat} {ex : Bool} {x0 x1 x2 : Option Value} {u : Nat} : X z 143 144 [x0, x1, x2] (.ref u :: st) cu (K, I, R, L, sz, ex) Q = ((K u).1 = 111 ∧ X z 143 147 [x0, x1, x2] (va_rf (R u 0) :: st) cu (K, I, R, L, sz, ex) Q) := by
  rw [x143_144]
  rfl
theorem v143_147 {z : P0} {st : List Value} {cu : Nat × Nat} {Q : Res → Mem → Prop} {σ : Mem} {x0 x1 x2 : Option Value} : X z 143 147 [x0, x1, x2] (st) cu σ Q = (X z 143 149 [x0, x1, x2] (.int (nI 113) :: st) cu σ Q) := by
  rw [x143_147]
  rfl
theorem v143_149 {z : P0} {st : List Value} {cu : Nat × Nat} {Q : Res → Mem → Prop} {σ : Mem} {x0 x1 : Option Value} {u : Int32} : X z 143 149 [x0, x1, some (.int u)] (st) cu σ Q = (X z 143 150 [x0, x1, some (.int u)] (.int u :: st) cu σ Q) := by
  rw [x143_149]
  rfl
theorem v143_150 {z : P0} {st : List Value} {cu : Nat × Nat} {Q : Res → Mem → Prop} {σ : Mem} {x0 x1 x2 : Option Value} {u v : Int32} : X z 143 150 [x0, x1, x2] (.int v :: .int u :: st) cu σ Q = (X z 143 151 [x0, x1, x2] (.int (u + v) :: st) cu σ Q) := by
  rw [x143_150]
  rfl
theorem v143_151 {z : P0} {st : List Value} {cu : Nat × Nat} {Q : Res → Mem → Prop} {σ : Mem} {x0 x1 x2 : Option Value} {u : Int32} {v : Nat} : X z 143 151 [x0, x1, x2] (.int u :: .ref v :: st) cu σ Q = (X z 143 152 [x0, x1, x2] (.int u :: .ref v :: .int u :: .ref v :: st) cu σ Q) := by
  rw [x143_151]
  rfl
theorem v143_152 {z : P0} {st : List Value} {cu : Nat × Nat} {Q : Res → Mem → Prop} {K : Nat → Nat × Nat} {I : Nat → Nat → Int32} {R : Nat → Nat → Option Nat} {L : Nat → Nat → Int64} {sz : Nat} {ex : Bool} {x0 x1 x2 : Option Value} {u : Nat} {v : Int32} : X z 143 152 [x0, x1, x2] (.int v :: .ref u :: st) cu (K, I, R, L, sz, ex) Q = (((K u).1 = 20 ∨ (K u).1 = 50) ∧ vp_in v (K u).2 ∧ X z 143 153 [x0, x1, x2] (.int (I u v.toNatClampNeg) :: st) cu (K, I, R, L, sz, ex) Q) := by
  rw [x143_152]
  rfl
theorem v143_153 {z : P0} {st : List Value} {cu : Nat × Nat} {Q : Res → Mem → Prop} {σ : Mem} {x0 x1 x2 : Option Value} : X z 143 153 [x0, x1, x2] (st) cu σ Q = (X z 143 154 [x0, x1, x2] (.int (nI 1) :: st) cu σ Q) := by
  rw [x143_153]
  rfl
theorem v143_154 {z : P0} {st : List Value} {cu : Nat × Nat} {Q : Res → Mem → Prop} {σ : Mem} {x0 x1 x2 : Option Value} {u v : Int32} : X z 143 154 [x0, x1, x2] (.int v :: .int u :: st) cu σ Q = (X z 143 155 [x0, x1, x2] (.int (u + v) :: st) cu σ Q) := by
  rw [x143_154]
  rfl
theorem v143_155 {z : P0} {st : List Value} {cu : Nat × Nat} {Q : Res → Mem → Prop} {K : Nat → Nat × Nat} {I : Nat → Nat → Int32} {R : Nat → Nat → Option Nat} {L : Nat → Nat → Int64} {sz : Nat} {ex : Bool} {x0 x1 x2 : Option Value} {u : Nat} {j v : Int32} : X z 143 155 [x0, x1, x2] (.int v :: .int j :: .ref u :: st) cu (K, I, R, L, sz, ex) Q = ((K u).1 = 20 ∧ vp_in j (K u).2 ∧ X z 143 156 [x0, x1, x2] (st) cu (K, up2 I u j.toNatClampNeg v, R, L, sz, ex) Q) := by
  rw [x143_155]
  rfl
theorem v143_156 {z : P0} {st : List Value} {cu : Nat × Nat} {Q : Res → Mem → Prop} {σ : Mem} {x0 x1 : Option Value} {u : Int32} : X z 143 156 [x0, x1, some (.int u)] (st) cu σ Q = (cat2 x1 = false ∧ X z 143 159 [x0, x1, some (.int (u + nI 1))] (st) cu σ Q) := by
  rw [x143_156]
  obtain ⟨K, I, R, L, sz, ex⟩ := σ
  exact i_iinc.trans (gl_2.trans (ldI_i.trans sl_2))
theorem v143_159 {z : P0} {st : List Value} {cu : Nat × Nat} {Q : Res → Mem → Prop} {σ : Mem} {x0 x1 x2 : Option Value} : X z 143 159 [x0, x1, x2] (st) cu σ Q = (X z 143 93 [x0, x1, x2] (st) cu σ Q) := by
  rw [x143_159]
  rfl
theorem v143_162 {z : P0} {st : List Value} {cu : Nat × Nat} {Q : Res → Mem → Prop} {σ : Mem} {x0 x2 : Option Value} {u : Int32} : X z 143 162 [x0, some (.int u), x2] (st) cu σ Q = (X z 143 163 [x0, some (.int u), x2] (.int u :: st) cu σ Q) := by
  rw [x143_162]
  rfl
theorem v143_163 {z : P0} {cu : Nat × Nat} {Q : Res → Mem → Prop} {σ : Mem} {x0 x1 x2 : Option Value} {v : Int32} : X z 143 163 [x0, x1, x2] ([.int v]) cu σ Q = (Q (.inl (some (.int v))) σ) := by
  rw [x143_163]
  exact propext ⟨fun h => h.2, fun h => ⟨trivial, h⟩⟩
theorem v144_0 {z : P0} {st : List Value} {cu : Nat × Nat} {Q : Res → Mem → Prop} {σ : Mem} {x1 : Option Value} {u : Nat} : X z 144 0 [some (.ref u), x1] (st) cu σ Q = (X z 144 1 [some (.ref u), x1] (.ref u :: st) cu σ Q) := by
  rw [x144_0]
  rfl
theorem v144_1 {z : P0} {st : List Value} {cu : Nat × Nat} {Q : Res → Mem → Prop} {σ : Mem} {x0 : Option Value} {u : Int32} : X z 144 1 [x0, some (.int u)] (st) cu σ Q = (X z 144 2 [x0, some (.int u)] (.int u :: st) cu σ Q) := by
  rw [x144_1]
  rfl
theorem v144_2 {z : P0} {st : List Value} {cu : Nat × Nat} {Q : Res → Mem → Prop} {σ : Mem} {x0 x1 : Option Value} : X z 144 2 [x0, x1] (st) cu σ Q = (X z 144 3 [x0, x1] (.int (nI 1) :: st) cu σ Q) := by
  rw [x144_2]
  rfl
theorem v144_3 {z : P0} {st : List Value} {cu : Nat × Nat} {Q : Res → Mem → Prop} {σ : Mem} {x0 x1 : Option Value} : X z 144 3 [x0, x1] (st) cu σ Q = (X z 144 5 [x0, x1] (.int (nI 100) :: st) cu σ Q) := by
  rw [x144_3]
  rfl
theorem u144_5 {z : P0} {ls : Lcs} {st : List Value} {K : Nat → Nat × Nat} {I : Nat → Nat → Int32} {R : Nat → Nat → Option Nat} {L : Nat → Nat → Int64} {sz : Nat} {ex : Bool} {Q : Res → Mem → Prop} {a0 : Int32} {a1 : Int32} {a2 : Int32} : X z 144 5 ls (.int a2 :: .int a1 :: .int a0 :: st) (0, 0) (K, I, R, L, sz, ex) Q = (wsum st ≤ 8 ∧ X z 106 0 [some (.int a0), some (.int a1), some (.int a2)] [] (0, 0) (K, I, R, L, sz, ex) (aftr (X z) mT 144 5 ls st (0, 0) Q)) := v144_5 (c := 0) (n := 0)
theorem v144_8 {z : P0} {st : List Value} {cu : Nat × Nat} {Q : Res → Mem → Prop} {σ : Mem} {x0 x1 : Option Value} {u : Int32} : X z 144 8 [x0, x1] (.int u :: st) cu σ Q = (if u = nI 0 then X z 144 11 [x0, x1] (st) cu σ Q else X z 144 15 [x0, x1] (st) cu σ Q) := by
  rw [x144_8]
  rw [nI_0]
  obtain ⟨K, I, R, L, sz, ex⟩ := σ
  exact br_ne
theorem v144_11 {z : P0} {st : List Value} {cu : Nat × Nat} {Q : Res → Mem → Prop} {σ : Mem} {x0 x1 : Option Value} : X z 144 11 [x0, x1] (st) cu σ Q = (X z 144 12 [x0, x1] (.int (nI 1) :: st) cu σ Q) := by
  rw [x144_11]
  rfl
theorem v144_12 {z : P0} {st : List Value} {cu : Nat × Nat} {Q : Res → Mem → Prop} {σ : Mem} {x0 x1 : Option Value} : X z 144 12 [x0, x1] (st) cu σ Q = (X z 144 35 [x0, x1] (st) cu σ Q) := by
  rw [x144_12]
  rfl
theorem v144_15 {z : P0} {st : List Value} {cu : Nat × Nat} {Q : Res → Mem → Prop} {σ : Mem} {x1 : Option Value} {u : Nat} : X z 144 15 [some (.ref u), x1] (st) cu σ Q = (X z 144 16 [some (.ref u), x1] (.ref u :: st) cu σ Q) := by
  rw [x144_15]
  rfl
theorem v144_16 {z : P0} {st : List Value} {cu : Nat × Nat} {Q : Res → Mem → Prop} {K : Nat → Nat × Nat} {I : Nat → Nat → Int32} {R : Nat → Nat → Option Nat} {L : Nat → Nat → Int64} {sz : Nat} {ex : Bool} {x0 x1 : Option Value} {u : Nat} : X z 144 16 [x0, x1] (.ref u :: st) cu (K, I, R, L, sz, ex) Q = ((K u).1 = 111 ∧ X z 144 19 [x0, x1] (va_rf (R u 0) :: st) cu (K, I, R, L, sz, ex) Q) := by
  rw [x144_16]
  rfl
theorem v144_19 {z : P0} {st : List Value} {cu : Nat × Nat} {Q : Res → Mem → Prop} {σ : Mem} {x0 x1 : Option Value} : X z 144 19 [x0, x1] (st) cu σ Q = (X z 144 21 [x0, x1] (.int (nI 8) :: st) cu σ Q) := by
  rw [x144_19]
  rfl
theorem v144_21 {z : P0} {st : List Value} {cu : Nat × Nat} {Q : Res → Mem → Prop} {K : Nat → Nat × Nat} {I : Nat → Nat → Int32} {R : Nat → Nat → Option Nat} {L : Nat → Nat → Int64} {sz : Nat} {ex : Bool} {x0 x1 : Option Value} {u : Nat} {v : Int32} : X z 144 21 [x0, x1] (.int v :: .ref u :: st) cu (K, I, R, L, sz, ex) Q = (((K u).1 = 20 ∨ (K u).1 = 50) ∧ vp_in v (K u).2 ∧ X z 144 22 [x0, x1] (.int (I u v.toNatClampNeg) :: st) cu (K, I, R, L, sz, ex) Q) := by
  rw [x144_21]
  rfl
theorem v144_22 {z : P0} {st : List Value} {cu : Nat × Nat} {Q : Res → Mem → Prop} {σ : Mem} {x0 : Option Value} {u : Int32} : X z 144 22 [x0, some (.int u)] (st) cu σ Q = (X z 144 23 [x0, some (.int u)] (.int u :: st) cu σ Q) := by
  rw [x144_22]
  rfl
theorem v144_23 {z : P0} {st : List Value} {cu : Nat × Nat} {Q : Res → Mem → Prop} {σ : Mem} {x0 x1 : Option Value} {u v : Int32} : X z 144 23 [x0, x1] (.int v :: .int u :: st) cu σ Q = (X z 144 24 [x0, x1] (.int (u + v) :: st) cu σ Q) := by
  rw [x144_23]
  rfl
theorem v144_24 {z : P0} {st : List Value} {cu : Nat × Nat} {Q : Res → Mem → Prop} {σ : Mem} {x0 x1 : Option Value} : X z 144 24 [x0, x1] (st) cu σ Q = (X z 144 27 [x0, x1] (.int (nI 10000) :: st) cu σ Q) := by
  rw [x144_24]
  rfl
theorem v144_27 {z : P0} {st : List Value} {cu : Nat × Nat} {Q : Res → Mem → Prop} {σ : Mem} {x0 x1 : Option Value} {u v : Int32} : X z 144 27 [x0, x1] (.int v :: .int u :: st) cu σ Q = (if v < u then X z 144 30 [x0, x1] (st) cu σ Q else X z 144 34 [x0, x1] (st) cu σ Q) := by
  rw [x144_27]
  obtain ⟨K, I, R, L, sz, ex⟩ := σ
  exact br_ge
theorem v144_30 {z : P0} {st : List Value} {cu : Nat × Nat} {Q : Res → Mem → Prop} {σ : Mem} {x0 x1 : Option Value} : X z 144 30 [x0, x1] (st) cu σ Q = (X z 144 31 [x0, x1] (.int (nI 2) :: st) cu σ Q) := by
  rw [x144_30]
  rfl
theorem v144_31 {z : P0} {st : List Value} {cu : Nat × Nat} {Q : Res → Mem → Prop} {σ : Mem} {x0 x1 : Option Value} : X z 144 31 [x0, x1] (st) cu σ Q = (X z 144 35 [x0, x1] (st) cu σ Q) := by
  rw [x144_31]
  rfl
theorem v144_34 {z : P0} {st : List Value} {cu : Nat × Nat} {Q : Res → Mem → Prop} {σ : Mem} {x0 x1 : Option Value} : X z 144 34 [x0, x1] (st) cu σ Q = (X z 144 35 [x0, x1] (.int (nI 0) :: st) cu σ Q) := by
  rw [x144_34]
  rfl
theorem v144_35 {z : P0} {st : List Value} {cu : Nat × Nat} {Q : Res → Mem → Prop} {K : Nat → Nat × Nat} {I : Nat → Nat → Int32} {R : Nat → Nat → Option Nat} {L : Nat → Nat → Int64} {sz : Nat} {ex : Bool} {x0 x1 : Option Value} {u : Nat} {v : Int32} : X z 144 35 [x0, x1] (.int v :: .ref u :: st) cu (K, I, R, L, sz, ex) Q = ((K u).1 = 111 ∧ X z 144 38 [x0, x1] (st) cu (K, up2 I u 5 v, R, L, sz, ex) Q) := by
  rw [x144_35]
  exact i_putI
theorem v144_38 {z : P0} {st : List Value} {cu : Nat × Nat} {Q : Res → Mem → Prop} {σ : Mem} {x1 : Option Value} {u : Nat} : X z 144 38 [some (.ref u), x1] (st) cu σ Q = (X z 144 39 [some (.ref u), x1] (.ref u :: st) cu σ Q) := by
  rw [x144_38]
  rfl
theorem v144_39 {z : P0} {st : List Value} {cu : Nat × Nat} {Q : Res → Mem → Prop} {K : Nat → Nat × Nat} {I : Nat → Nat → Int32} {R : Nat → Nat → Option Nat} {L : Nat → Nat → Int64} {sz : Nat} {ex : Bool} {x0 x1 : Option Value} {u : Nat} : X z 144 39 [x0, x1] (.ref u :: st) cu (K, I, R, L, sz, ex) Q = ((K u).1 = 111 ∧ X z 144 42 [x0, x1] (.int (I u 5) :: st) cu (K, I, R, L, sz, ex) Q) := by
  rw [x144_39]
  rfl
theorem v144_42 {z : P0} {st : List Value} {cu : Nat × Nat} {Q : Res → Mem → Prop} {σ : Mem} {x0 x1 : Option Value} {u : Int32} : X z 144 42 [x0, x1] (.int u :: st) cu σ Q = (if nI 0 < u then X z 144 45 [x0, x1] (st) cu σ Q else X z 144 47 [x0, x1] (st) cu σ Q) := by
  rw [x144_42]
  rw [nI_0]
  obtain ⟨K, I, R, L, sz, ex⟩ := σ
  exact br_ge
theorem v144_45 {z : P0} {st : List Value} {cu : Nat × Nat} {Q : Res → Mem → Prop} {σ : Mem} {x0 x1 : Option Value} : X z 144 45 [x0, x1] (st) cu σ Q = (X z 144 46 [x0, x1] (.int (nI 0) :: st) cu σ Q) := by
  rw [x144_45]
  rfl
theorem v144_46 {z : P0} {cu : Nat × Nat} {Q : Res → Mem → Prop} {σ : Mem} {x0 x1 : Option Value} {v : Int32} : X z 144 46 [x0, x1] ([.int v]) cu σ Q = (Q (.inl (some (.int v))) σ) := by
  rw [x144_46]
  exact propext ⟨fun h => h.2, fun h => ⟨trivial, h⟩⟩
theorem v144_47 {z : P0} {st : List Value} {cu : Nat × Nat} {Q : Res → Mem → Prop} {σ : Mem} {x1 : Option Value} {u : Nat} : X z 144 47 [some (.ref u), x1] (st) cu σ Q = (X z 144 48 [some (.ref u), x1] (.ref u :: st) cu σ Q) := by
  rw [x144_47]
  rfl
theorem u144_48 {z : P0} {ls : Lcs} {st : List Value} {K : Nat → Nat × Nat} {I : Nat → Nat → Int32} {R : Nat → Nat → Option Nat} {L : Nat → Nat → Int64} {sz : Nat} {ex : Bool} {Q : Res → Mem → Prop} {x : Nat} : X z 144 48 ls (.ref x :: st) (0, 0) (K, I, R, L, sz, ex) Q = ((K x).1 = 111 ∧ wsum st ≤ 8 ∧ X z 107 0 [some (.ref x), none] [] (0, 0) (K, I, R, L, sz, ex) (aftr (X z) mT 144 48 ls st (0, 0) Q)) := v144_48 (c := 0) (n := 0)
theorem v144_51 {z : P0} {st : List Value} {cu : Nat × Nat} {Q : Res → Mem → Prop} {σ : Mem} {x1 : Option Value} {u : Nat} : X z 144 51 [some (.ref u), x1] (st) cu σ Q = (X z 144 52 [some (.ref u), x1] (.ref u :: st) cu σ Q) := by
  rw [x144_51]
  rfl
theorem v144_52 {z : P0} {st : List Value} {cu : Nat × Nat} {Q : Res → Mem → Prop} {K : Nat → Nat × Nat} {I : Nat → Nat → Int32} {R : Nat → Nat → Option Nat} {L : Nat → Nat → Int64} {sz : Nat} {ex : Bool} {x0 x1 : Option Value} {u : Nat} : X z 144 52 [x0, x1] (.ref u :: st) cu (K, I, R, L, sz, ex) Q = ((K u).1 = 111 ∧ X z 144 55 [x0, x1] (va_rf (R u 0) :: st) cu (K, I, R, L, sz, ex) Q) := by
  rw [x144_52]
  rfl
theorem v144_55 {z : P0} {st : List Value} {cu : Nat × Nat} {Q : Res → Mem → Prop} {σ : Mem} {x0 x1 : Option Value} : X z 144 55 [x0, x1] (st) cu σ Q = (X z 144 57 [x0, x1] (.int (nI 8) :: st) cu σ Q) := by
  rw [x144_55]
  rfl
theorem v144_57 {z : P0} {st : List Value} {cu : Nat × Nat} {Q : Res → Mem → Prop} {σ : Mem} {x0 x1 : Option Value} {u : Int32} {v : Nat} : X z 144 57 [x0, x1] (.int u :: .ref v :: st) cu σ Q = (X z 144 58 [x0, x1] (.int u :: .ref v :: .int u :: .ref v :: st) cu σ Q) := by
  rw [x144_57]
  rfl
theorem v144_58 {z : P0} {st : List Value} {cu : Nat × Nat} {Q : Res → Mem → Prop} {K : Nat → Nat × Nat} {I : Nat → Nat → Int32} {R : Nat → Nat → Option Nat} {L : Nat → Nat → Int64} {sz : Nat} {ex : Bool} {x0 x1 : Option Value} {u : Nat} {v : Int32} : X z 144 58 [x0, x1] (.int v :: .ref u :: st) cu (K, I, R, L, sz, ex) Q = (((K u).1 = 20 ∨ (K u).1 = 50) ∧ vp_in v (K u).2 ∧ X z 144 59 [x0, x1] (.int (I u v.toNatClampNeg) :: st) cu (K, I, R, L, sz, ex) Q) := by
  rw [x144_58]
  rfl
theorem v144_59 {z : P0} {st : List Value} {cu : Nat × Nat} {Q : Res → Mem → Prop} {σ : Mem} {x0 : Option Value} {u : Int32} : X z 144 59 [x0, some (.int u)] (st) cu σ Q = (X z 144 60 [x0, some (.int u)] (.int u :: st) cu σ Q) := by
  rw [x144_59]
  rfl
theorem v144_60 {z : P0} {st : List Value} {cu : Nat × Nat} {Q : Res → Mem → Prop} {σ : Mem} {x0 x1 : Option Value} {u v : Int32} : X z 144 60 [x0, x1] (.int v :: .int u :: st) cu σ Q = (X z 144 61 [x0, x1] (.int (u + v) :: st) cu σ Q) := by
  rw [x144_60]
  rfl
theorem v144_61 {z : P0} {st : List Value} {cu : Nat × Nat} {Q : Res → Mem → Prop} {K : Nat → Nat × Nat} {I : Nat → Nat → Int32} {R : Nat → Nat → Option Nat} {L : Nat → Nat → Int64} {sz : Nat} {ex : Bool} {x0 x1 : Option Value} {u : Nat} {j v : Int32} : X z 144 61 [x0, x1] (.int v :: .int j :: .ref u :: st) cu (K, I, R, L, sz, ex) Q = ((K u).1 = 20 ∧ vp_in j (K u).2 ∧ X z 144 62 [x0, x1] (st) cu (K, up2 I u j.toNatClampNeg v, R, L, sz, ex) Q) := by
  rw [x144_61]
  rfl
theorem v144_62 {z : P0} {st : List Value} {cu : Nat × Nat} {Q : Res → Mem → Prop} {σ : Mem} {x1 : Option Value} {u : Nat} : X z 144 62 [some (.ref u), x1] (st) cu σ Q = (X z 144 63 [some (.ref u), x1] (.ref u :: st) cu σ Q) := by
  rw [x144_62]
  rfl
theorem v144_63 {z : P0} {st : List Value} {cu : Nat × Nat} {Q : Res → Mem → Prop} {K : Nat → Nat × Nat} {I : Nat → Nat → Int32} {R : Nat → Nat → Option Nat} {L : Nat → Nat → Int64} {sz : Nat} {ex : Bool} {x0 x1 : Option Value} {u : Nat} : X z 144 63 [x0, x1] (.ref u :: st) cu (K, I, R, L, sz, ex) Q = ((K u).1 = 111 ∧ X z 144 66 [x0, x1] (va_rf (R u 0) :: st) cu (K, I, R, L, sz, ex) Q) := by
  rw [x144_63]
  rfl
theorem v144_66 {z : P0} {st : List Value} {cu : Nat × Nat} {Q : Res → Mem → Prop} {σ : Mem} {x0 x1 : Option Value} : X z 144 66 [x0, x1] (st) cu σ Q = (X z 144 68 [x0, x1] (.int (nI 8) :: st) cu σ Q) := by
  rw [x144_66]
  rfl
theorem v144_68 {z : P0} {st : List Value} {cu : Nat × Nat} {Q : Res → Mem → Prop} {K : Nat → Nat × Nat} {I : Nat → Nat → Int32} {R : Nat → Nat → Option Nat} {L : Nat → Nat → Int64} {sz : Nat} {ex : Bool} {x0 x1 : Option Value} {u : Nat} {v : Int32} : X z 144 68 [x0, x1] (.int v :: .ref u :: st) cu (K, I, R, L, sz, ex) Q = (((K u).1 = 20 ∨ (K u).1 = 50) ∧ vp_in v (K u).2 ∧ X z 144 69 [x0, x1] (.int (I u v.toNatClampNeg) :: st) cu (K, I, R, L, sz, ex) Q) := by
  rw [x144_68]
  rfl
theorem v144_69 {z : P0} {cu : Nat × Nat} {Q : Res → Mem → Prop} {σ : Mem} {x0 x1 : Option Value} {v : Int32} : X z 144 69 [x0, x1] ([.int v]) cu σ Q = (Q (.inl (some (.int v))) σ) := by
  rw [x144_69]
  exact propext ⟨fun h => h.2, fun h => ⟨trivial, h⟩⟩
theorem v145_0 {z : P0} {st : List Value} {cu : Nat × Nat} {Q : Res → Mem → Prop} {σ : Mem} {x1 : Option Value} {u : Nat} : X z 145 0 [some (.ref u), x1] (st) cu σ Q = (X z 145 1 [some (.ref u), x1] (.ref u :: st) cu σ Q) := by
  rw [x145_0]
  rfl
theorem v145_1 {z : P0} {st : List Value} {cu : Nat × Nat} {Q : Res → Mem → Prop} {σ : Mem} {x0 : Option Value} {u : Int32} : X z 145 1 [x0, some (.int u)] (st) cu σ Q = (X z 145 2 [x0, some (.int u)] (.int u :: st) cu σ Q) := by
  rw [x145_1]
  rfl
theorem v145_2 {z : P0} {st : List Value} {cu : Nat × Nat} {Q : Res → Mem → Prop} {σ : Mem} {x0 x1 : Option Value} : X z 145 2 [x0, x1] (st) cu σ Q = (X z 145 4 [x0, x1] (.int (nI 33) :: st) cu σ Q) := by
  rw [x145_2]
  rfl
theorem v145_4 {z : P0} {st : List Value} {cu : Nat × Nat} {Q : Res → Mem → Prop} {σ : Mem} {x0 x1 : Option Value} : X z 145 4 [x0, x1] (st) cu σ Q = (X z 145 6 [x0, x1] (.int (nI 126) :: st) cu σ Q) := by
  rw [x145_4]
  rfl
theorem u145_6 {z : P0} {ls : Lcs} {st : List Value} {K : Nat → Nat × Nat} {I : Nat → Nat → Int32} {R : Nat → Nat → Option Nat} {L : Nat → Nat → Int64} {sz : Nat} {ex : Bool} {Q : Res → Mem → Prop} {a0 : Int32} {a1 : Int32} {a2 : Int32} : X z 145 6 ls (.int a2 :: .int a1 :: .int a0 :: st) (0, 0) (K, I, R, L, sz, ex) Q = (wsum st ≤ 8 ∧ X z 106 0 [some (.int a0), some (.int a1), some (.int a2)] [] (0, 0) (K, I, R, L, sz, ex) (aftr (X z) mT 145 6 ls st (0, 0) Q)) := v145_6 (c := 0) (n := 0)
theorem v145_9 {z : P0} {st : List Value} {cu : Nat × Nat} {Q : Res → Mem → Prop} {σ : Mem} {x0 x1 : Option Value} {u : Int32} : X z 145 9 [x0, x1] (.int u :: st) cu σ Q = (if u = nI 0 then X z 145 12 [x0, x1] (st) cu σ Q else X z 145 16 [x0, x1] (st) cu σ Q) := by
  rw [x145_9]
  rw [nI_0]
  obtain ⟨K, I, R, L, sz, ex⟩ := σ
  exact br_ne
theorem v145_12 {z : P0} {st : List Value} {cu : Nat × Nat} {Q : Res → Mem → Prop} {σ : Mem} {x0 x1 : Option Value} : X z 145 12 [x0, x1] (st) cu σ Q = (X z 145 13 [x0, x1] (.int (nI 1) :: st) cu σ Q) := by
  rw [x145_12]
  rfl
theorem v145_13 {z : P0} {st : List Value} {cu : Nat × Nat} {Q : Res → Mem → Prop} {σ : Mem} {x0 x1 : Option Value} : X z 145 13 [x0, x1] (st) cu σ Q = (X z 145 30 [x0, x1] (st) cu σ Q) := by
  rw [x145_13]
  rfl
theorem v145_16 {z : P0} {st : List Value} {cu : Nat × Nat} {Q : Res → Mem → Prop} {σ : Mem} {x1 : Option Value} {u : Nat} : X z 145 16 [some (.ref u), x1] (st) cu σ Q = (X z 145 17 [some (.ref u), x1] (.ref u :: st) cu σ Q) := by
  rw [x145_16]
  rfl
theorem v145_17 {z : P0} {st : List Value} {cu : Nat × Nat} {Q : Res → Mem → Prop} {K : Nat → Nat × Nat} {I : Nat → Nat → Int32} {R : Nat → Nat → Option Nat} {L : Nat → Nat → Int64} {sz : Nat} {ex : Bool} {x0 x1 : Option Value} {u : Nat} : X z 145 17 [x0, x1] (.ref u :: st) cu (K, I, R, L, sz, ex) Q = ((K u).1 = 111 ∧ X z 145 20 [x0, x1] (.int (I u 3) :: st) cu (K, I, R, L, sz, ex) Q) := by
  rw [x145_17]
  rfl
theorem v145_20 {z : P0} {st : List Value} {cu : Nat × Nat} {Q : Res → Mem → Prop} {σ : Mem} {x0 x1 : Option Value} : X z 145 20 [x0, x1] (st) cu σ Q = (X z 145 22 [x0, x1] (.int (nI 60) :: st) cu σ Q) := by
  rw [x145_20]
  rfl
theorem v145_22 {z : P0} {st : List Value} {cu : Nat × Nat} {Q : Res → Mem → Prop} {σ : Mem} {x0 x1 : Option Value} {u v : Int32} : X z 145 22 [x0, x1] (.int v :: .int u :: st) cu σ Q = (if u = v then X z 145 25 [x0, x1] (st) cu σ Q else X z 145 29 [x0, x1] (st) cu σ Q) := by
  rw [x145_22]
  obtain ⟨K, I, R, L, sz, ex⟩ := σ
  exact br_ne
theorem v145_25 {z : P0} {st : List Value} {cu : Nat × Nat} {Q : Res → Mem → Prop} {σ : Mem} {x0 x1 : Option Value} : X z 145 25 [x0, x1] (st) cu σ Q = (X z 145 26 [x0, x1] (.int (nI 2) :: st) cu σ Q) := by
  rw [x145_25]
  rfl
theorem v145_26 {z : P0} {st : List Value} {cu : Nat × Nat} {Q : Res → Mem → Prop} {σ : Mem} {x0 x1 : Option Value} : X z 145 26 [x0, x1] (st) cu σ Q = (X z 145 30 [x0, x1] (st) cu σ Q) := by
  rw [x145_26]
  rfl
theorem v145_29 {z : P0} {st : List Value} {cu : Nat × Nat} {Q : Res → Mem → Prop} {σ : Mem} {x0 x1 : Option Value} : X z 145 29 [x0, x1] (st) cu σ Q = (X z 145 30 [x0, x1] (.int (nI 0) :: st) cu σ Q) := by
  rw [x145_29]
  rfl
theorem v145_30 {z : P0} {st : List Value} {cu : Nat × Nat} {Q : Res → Mem → Prop} {K : Nat → Nat × Nat} {I : Nat → Nat → Int32} {R : Nat → Nat → Option Nat} {L : Nat → Nat → Int64} {sz : Nat} {ex : Bool} {x0 x1 : Option Value} {u : Nat} {v : Int32} : X z 145 30 [x0, x1] (.int v :: .ref u :: st) cu (K, I, R, L, sz, ex) Q = ((K u).1 = 111 ∧ X z 145 33 [x0, x1] (st) cu (K, up2 I u 5 v, R, L, sz, ex) Q) := by
  rw [x145_30]
  exact i_putI
theorem v145_33 {z : P0} {st : List Value} {cu : Nat × Nat} {Q : Res → Mem → Prop} {σ : Mem} {x1 : Option Value} {u : Nat} : X z 145 33 [some (.ref u), x1] (st) cu σ Q = (X z 145 34 [some (.ref u), x1] (.ref u :: st) cu σ Q) := by
  rw [x145_33]
  rfl
theorem v145_34 {z : P0} {st : List Value} {cu : Nat × Nat} {Q : Res → Mem → Prop} {K : Nat → Nat × Nat} {I : Nat → Nat → Int32} {R : Nat → Nat → Option Nat} {L : Nat → Nat → Int64} {sz : Nat} {ex : Bool} {x0 x1 : Option Value} {u : Nat} : X z 145 34 [x0, x1] (.ref u :: st) cu (K, I, R, L, sz, ex) Q = ((K u).1 = 111 ∧ X z 145 37 [x0, x1] (.int (I u 5) :: st) cu (K, I, R, L, sz, ex) Q) := by
  rw [x145_34]
  rfl
theorem v145_37 {z : P0} {st : List Value} {cu : Nat × Nat} {Q : Res → Mem → Prop} {σ : Mem} {x0 x1 : Option Value} {u : Int32} : X z 145 37 [x0, x1] (.int u :: st) cu σ Q = (if nI 0 < u then X z 145 40 [x0, x1] (st) cu σ Q else X z 145 42 [x0, x1] (st) cu σ Q) := by
  rw [x145_37]
  rw [nI_0]
  obtain ⟨K, I, R, L, sz, ex⟩ := σ
  exact br_ge
theorem v145_40 {z : P0} {st : List Value} {cu : Nat × Nat} {Q : Res → Mem → Prop} {σ : Mem} {x0 x1 : Option Value} : X z 145 40 [x0, x1] (st) cu σ Q = (X z 145 41 [x0, x1] (.int (nI 0) :: st) cu σ Q) := by
  rw [x145_40]
  rfl
theorem v145_41 {z : P0} {cu : Nat × Nat} {Q : Res → Mem → Prop} {σ : Mem} {x0 x1 : Option Value} {v : Int32} : X z 145 41 [x0, x1] ([.int v]) cu σ Q = (Q (.inl (some (.int v))) σ) := by
  rw [x145_41]
  exact propext ⟨fun h => h.2, fun h => ⟨trivial, h⟩⟩
theorem v145_42 {z : P0} {st : List Value} {cu : Nat × Nat} {Q : Res → Mem → Prop} {σ : Mem} {x1 : Option Value} {u : Nat} : X z 145 42 [some (.ref u), x1] (st) cu σ Q = (X z 145 43 [some (.ref u), x1] (.ref u :: st) cu σ Q) := by
  rw [x145_42]
  rfl
theorem v145_43 {z : P0} {st : List Value} {cu : Nat × Nat} {Q : Res → Mem → Prop} {K : Nat → Nat × Nat} {I : Nat → Nat → Int32} {R : Nat → Nat → Option Nat} {L : Nat → Nat → Int64} {sz : Nat} {ex : Bool} {x0 x1 : Option Value} {u : Nat} : X z 145 43 [x0, x1] (.ref u :: st) cu (K, I, R, L, sz, ex) Q = ((K u).1 = 111 ∧ X z 145 46 [x0, x1] (va_rf (R u 4) :: st) cu (K, I, R, L, sz, ex) Q) := by
  rw [x145_43]
  rfl
theorem v145_46 {z : P0} {st : List Value} {cu : Nat × Nat} {Q : Res → Mem → Prop} {σ : Mem} {x1 : Option Value} {u : Nat} : X z 145 46 [some (.ref u), x1] (st) cu σ Q = (X z 145 47 [some (.ref u), x1] (.ref u :: st) cu σ Q) := by
  rw [x145_46]
  rfl
theorem v145_47 {z : P0} {st : List Value} {cu : Nat × Nat} {Q : Res → Mem → Prop} {K : Nat → Nat × Nat} {I : Nat → Nat → Int32} {R : Nat → Nat → Option Nat} {L : Nat → Nat → Int64} {sz : Nat} {ex : Bool} {x0 x1 : Option Value} {u : Nat} : X z 145 47 [x0, x1] (.ref u :: st) cu (K, I, R, L, sz, ex) Q = ((K u).1 = 111 ∧ X z 145 50 [x0, x1] (.int (I u 3) :: st) cu (K, I, R, L, sz, ex) Q) := by
  rw [x145_47]
  rfl
theorem v145_50 {z : P0} {st : List Value} {cu : Nat × Nat} {Q : Res → Mem → Prop} {σ : Mem} {x0 : Option Value} {u : Int32} : X z 145 50 [x0, some (.int u)] (st) cu σ Q = (X z 145 51 [x0, some (.int u)] (.int u :: st) cu σ Q) := by
  rw [x145_50]
  rfl
theorem v145_51 {z : P0} {st : List Value} {cu : Nat × Nat} {Q : Res → Mem → Prop} {K : Nat → Nat × Nat} {I : Nat → Nat → Int32} {R : Nat → Nat → Option Nat} {L : Nat → Nat → Int64} {sz : Nat} {ex : Bool} {x0 x1 : Option Value} {u : Nat} {j v : Int32} : X z 145 51 [x0, x1] (.int v :: .int j :: .ref u :: st) cu (K, I, R, L, sz, ex) Q = ((K u).1 = 20 ∧ vp_in j (K u).2 ∧ X z 145 52 [x0, x1] (st) cu (K, up2 I u j.toNatClampNeg v, R, L, sz, ex) Q) := by
  rw [x145_51]
  rfl
theorem v145_52 {z : P0} {st : List Value} {cu : Nat × Nat} {Q : Res → Mem → Prop} {σ : Mem} {x1 : Option Value} {u : Nat} : X z 145 52 [some (.ref u), x1] (st) cu σ Q = (X z 145 53 [some (.ref u), x1] (.ref u :: st) cu σ Q) := by
  rw [x145_52]
  rfl
theorem v145_53 {z : P0} {st : List Value} {cu : Nat × Nat} {Q : Res → Mem → Prop} {σ : Mem} {x0 x1 : Option Value} {u : Nat} : X z 145 53 [x0, x1] (.ref u :: st) cu σ Q = (X z 145 54 [x0, x1] (.ref u :: .ref u :: st) cu σ Q) := by
  rw [x145_53]
  exact propext ⟨fun h => h.2, fun h => ⟨rfl, h⟩⟩
theorem v145_53i {z : P0} {st : List Value} {cu : Nat × Nat} {Q : Res → Mem → Prop} {σ : Mem} {x0 x1 : Option Value} {u : Int32} : X z 145 53 [x0, x1] (.int u :: st) cu σ Q = (X z 145 54 [x0, x1] (.int u :: .int u :: st) cu σ Q) := by
  rw [x145_53]
  exact propext ⟨fun h => h.2, fun h => ⟨rfl, h⟩⟩
theorem v145_54 {z : P0} {st : List Value} {cu : Nat × Nat} {Q : Res → Mem → Prop} {K : Nat → Nat × Nat} {I : Nat → Nat → Int32} {R : Nat → Nat → Option Nat} {L : Nat → Nat → Int64} {sz : Nat} {ex : Bool} {x0 x1 : Option Value} {u : Nat} : X z 145 54 [x0, x1] (.ref u :: st) cu (K, I, R, L, sz, ex) Q = ((K u).1 = 111 ∧ X z 145 57 [x0, x1] (.int (I u 3) :: st) cu (K, I, R, L, sz, ex) Q) := by
  rw [x145_54]
  rfl
theorem v145_57 {z : P0} {st : List Value} {cu : Nat × Nat} {Q : Res → Mem → Prop} {σ : Mem} {x0 x1 : Option Value} : X z 145 57 [x0, x1] (st) cu σ Q = (X z 145 58 [x0, x1] (.int (nI 1) :: st) cu σ Q) := by
  rw [x145_57]
  rfl
theorem v145_58 {z : P0} {st : List Value} {cu : Nat × Nat} {Q : Res → Mem → Prop} {σ : Mem} {x0 x1 : Option Value} {u v : Int32} : X z 145 58 [x0, x1] (.int v :: .int u :: st) cu σ Q = (X z 145 59 [x0, x1] (.int (u + v) :: st) cu σ Q) := by
  rw [x145_58]
  rfl
theorem v145_59 {z : P0} {st : List Value} {cu : Nat × Nat} {Q : Res → Mem → Prop} {K : Nat → Nat × Nat} {I : Nat → Nat → Int32} {R : Nat → Nat → Option Nat} {L : Nat → Nat → Int64} {sz : Nat} {ex : Bool} {x0 x1 : Option Value} {u : Nat} {v : Int32} : X z 145 59 [x0, x1] (.int v :: .ref u :: st) cu (K, I, R, L, sz, ex) Q = ((K u).1 = 111 ∧ X z 145 62 [x0, x1] (st) cu (K, up2 I u 3 v, R, L, sz, ex) Q) := by
  rw [x145_59]
  exact i_putI
theorem v145_62 {z : P0} {st : List Value} {cu : Nat × Nat} {Q : Res → Mem → Prop} {σ : Mem} {x1 : Option Value} {u : Nat} : X z 145 62 [some (.ref u), x1] (st) cu σ Q = (X z 145 63 [some (.ref u), x1] (.ref u :: st) cu σ Q) := by
  rw [x145_62]
  rfl
theorem v145_63 {z : P0} {st : List Value} {cu : Nat × Nat} {Q : Res → Mem → Prop} {K : Nat → Nat × Nat} {I : Nat → Nat → Int32} {R : Nat → Nat → Option Nat} {L : Nat → Nat → Int64} {sz : Nat} {ex : Bool} {x0 x1 : Option Value} {u : Nat} : X z 145 63 [x0, x1] (.ref u :: st) cu (K, I, R, L, sz, ex) Q = ((K u).1 = 111 ∧ X z 145 66 [x0, x1] (.int (I u 3) :: st) cu (K, I, R, L, sz, ex) Q) := by
  rw [x145_63]
  rfl
theorem v145_66 {z : P0} {cu : Nat × Nat} {Q : Res → Mem → Prop} {σ : Mem} {x0 x1 : Option Value} {v : Int32} : X z 145 66 [x0, x1] ([.int v]) cu σ Q = (Q (.inl (some (.int v))) σ) := by
  rw [x145_66]
  exact propext ⟨fun h => h.2, fun h => ⟨trivial, h⟩⟩
theorem v146_0 {z : P0} {st : List Value} {cu : Nat × Nat} {Q : Res → Mem → Prop} {σ : Mem} {x1 : Option Value} {u : Nat} : X z 146 0 [some (.ref u), x1] (st) cu σ Q = (X z 146 1 [some (.ref u), x1] (.ref u :: st) cu σ Q) := by
  rw [x146_0]
  rfl
theorem v146_1 {z : P0} {st : List Value} {cu : Nat × Nat} {Q : Res → Mem → Prop} {σ : Mem} {x0 x1 : Option Value} : X z 146 1 [x0, x1] (st) cu σ Q = (X z 146 2 [x0, x1] (.int (nI 0) :: st) cu σ Q) := by
  rw [x146_1]
  rfl
theorem v146_2 {z : P0} {st : List Value} {cu : Nat × Nat} {Q : Res → Mem → Prop} {K : Nat → Nat × Nat} {I : Nat → Nat → Int32} {R : Nat → Nat → Option Nat} {L : Nat → Nat → Int64} {sz : Nat} {ex : Bool} {x0 x1 : Option Value} {u : Nat} {v : Int32} : X z 146 2 [x0, x1] (.int v :: .ref u :: st) cu (K, I, R, L, sz, ex) Q = ((K u).1 = 111 ∧ X z 146 5 [x0, x1] (st) cu (K, up2 I u 5 v, R, L, sz, ex) Q) := by
  rw [x146_2]
  exact i_putI
theorem v146_5 {z : P0} {st : List Value} {cu : Nat × Nat} {Q : Res → Mem → Prop} {σ : Mem} {x1 : Option Value} {u : Nat} : X z 146 5 [some (.ref u), x1] (st) cu σ Q = (X z 146 6 [some (.ref u), x1] (.ref u :: st) cu σ Q) := by
  rw [x146_5]
  rfl
theorem v146_6 {z : P0} {st : List Value} {cu : Nat × Nat} {Q : Res → Mem → Prop} {K : Nat → Nat × Nat} {I : Nat → Nat → Int32} {R : Nat → Nat → Option Nat} {L : Nat → Nat → Int64} {sz : Nat} {ex : Bool} {x0 x1 : Option Value} {u : Nat} : X z 146 6 [x0, x1] (.ref u :: st) cu (K, I, R, L, sz, ex) Q = ((K u).1 = 111 ∧ X z 146 9 [x0, x1] (.int (I u 3) :: st) cu (K, I, R, L, sz, ex) Q) := by
  rw [x146_6]
  rfl
theorem v146_9 {z : P0} {st : List Value} {cu : Nat × Nat} {Q : Res → Mem → Prop} {σ : Mem} {x0 x1 : Option Value} {u : Int32} : X z 146 9 [x0, x1] (.int u :: st) cu σ Q = (cat2 x0 = false ∧ X z 146 10 [x0, some (.int u)] (st) cu σ Q) := by
  rw [x146_9]
  obtain ⟨K, I, R, L, sz, ex⟩ := σ
  exact i_istore_n.trans sl_1
theorem v146_10 {z : P0} {st : List Value} {cu : Nat × Nat} {Q : Res → Mem → Prop} {σ : Mem} {x1 : Option Value} {u : Nat} : X z 146 10 [some (.ref u), x1] (st) cu σ Q = (X z 146 11 [some (.ref u), x1] (.ref u :: st) cu σ Q) := by
  rw [x146_10]
  rfl
theorem v146_11 {z : P0} {st : List Value} {cu : Nat × Nat} {Q : Res → Mem → Prop} {σ : Mem} {x0 x1 : Option Value} : X z 146 11 [x0, x1] (st) cu σ Q = (X z 146 12 [x0, x1] (.int (nI 0) :: st) cu σ Q) := by
  rw [x146_11]
  rfl
theorem v146_12 {z : P0} {st : List Value} {cu : Nat × Nat} {Q : Res → Mem → Prop} {K : Nat → Nat × Nat} {I : Nat → Nat → Int32} {R : Nat → Nat → Option Nat} {L : Nat → Nat → Int64} {sz : Nat} {ex : Bool} {x0 x1 : Option Value} {u : Nat} {v : Int32} : X z 146 12 [x0, x1] (.int v :: .ref u :: st) cu (K, I, R, L, sz, ex) Q = ((K u).1 = 111 ∧ X z 146 15 [x0, x1] (st) cu (K, up2 I u 3 v, R, L, sz, ex) Q) := by
  rw [x146_12]
  exact i_putI
theorem v146_15 {z : P0} {st : List Value} {cu : Nat × Nat} {Q : Res → Mem → Prop} {σ : Mem} {x0 : Option Value} {u : Int32} : X z 146 15 [x0, some (.int u)] (st) cu σ Q = (X z 146 16 [x0, some (.int u)] (.int u :: st) cu σ Q) := by
  rw [x146_15]
  rfl
theorem v146_16 {z : P0} {cu : Nat × Nat} {Q : Res → Mem → Prop} {σ : Mem} {x0 x1 : Option Value} {v : Int32} : X z 146 16 [x0, x1] ([.int v]) cu σ Q = (Q (.inl (some (.int v))) σ) := by
  rw [x146_16]
  exact propext ⟨fun h => h.2, fun h => ⟨trivial, h⟩⟩
theorem v147_0 {z : P0} {st : List Value} {cu : Nat × Nat} {Q : Res → Mem → Prop} {σ : Mem} {x0 x1 x3 : Option Value} {u : Int32} : X z 147 0 [x0, x1, some (.int u), x3] (st) cu σ Q = (X z 147 1 [x0, x1, some (.int u), x3] (.int u :: st) cu σ Q) := by
  rw [x147_0]
  rfl
theorem v147_1 {z : P0} {st : List Value} {cu : Nat × Nat} {Q : Res → Mem → Prop} {σ : Mem} {x0 x1 x2 x3 : Option Value} : X z 147 1 [x0, x1, x2, x3] (st) cu σ Q = (X z 147 2 [x0, x1, x2, x3] (.int (nI 1) :: st) cu σ Q) := by
  rw [x147_1]
  rfl
theorem v147_2 {z : P0} {st : List Value} {cu : Nat × Nat} {Q : Res → Mem → Prop} {σ : Mem} {x0 x1 x2 x3 : Option Value} {u v : Int32} : X z 147 2 [x0, x1, x2, x3] (.int v :: .int u :: st) cu σ Q = (if u = v then X z 147 5 [x0, x1, x2, x3] (st) cu σ Q else X z 147 38 [x0, x1, x2, x3] (st) cu σ Q) := by
  rw [x147_2]
  obtain ⟨K, I, R, L, sz, ex⟩ := σ
  exact br_ne
theorem v147_5 {z : P0} {st : List Value} {cu : Nat × Nat} {Q : Res → Mem → Prop} {σ : Mem} {x0 x2 x3 : Option Value} {u : Int32} : X z 147 5 [x0, some (.int u), x2, x3] (st) cu σ Q = (X z 147 6 [x0, some (.int u), x2, x3] (.int u :: st) cu σ Q) := by
  rw [x147_5]
  rfl
theorem v147_6 {z : P0} {st : List Value} {cu : Nat × Nat} {Q : Res → Mem → Prop} {σ : Mem} {x0 x1 x2 x3 : Option Value} : X z 147 6 [x0, x1, x2, x3] (st) cu σ Q = (X z 147 8 [x0, x1, x2, x3] (.int (nI 42) :: st) cu σ Q) := by
  rw [x147_6]
  rfl
theorem v147_8 {z : P0} {st : List Value} {cu : Nat × Nat} {Q : Res → Mem → Prop} {σ : Mem} {x0 x1 x2 x3 : Option Value} {u v : Int32} : X z 147 8 [x0, x1, x2, x3] (.int v :: .int u :: st) cu σ Q = (if u = v then X z 147 11 [x0, x1, x2, x3] (st) cu σ Q else X z 147 38 [x0, x1, x2, x3] (st) cu σ Q) := by
  rw [x147_8]
  obtain ⟨K, I, R, L, sz, ex⟩ := σ
  exact br_ne
theorem v147_11 {z : P0} {st : List Value} {cu : Nat × Nat} {Q : Res → Mem → Prop} {σ : Mem} {x1 x2 x3 : Option Value} {u : Nat} : X z 147 11 [some (.ref u), x1, x2, x3] (st) cu σ Q = (X z 147 12 [some (.ref u), x1, x2, x3] (.ref u :: st) cu σ Q) := by
  rw [x147_11]
  rfl
theorem v147_12 {z : P0} {st : List Value} {cu : Nat × Nat} {Q : Res → Mem → Prop} {K : Nat → Nat × Nat} {I : Nat → Nat → Int32} {R : Nat → Nat → Option Nat} {L : Nat → Nat → Int64} {sz : Nat} {ex : Bool} {x0 x1 x2 x3 : Option Value} {u : Nat} : X z 147 12 [x0, x1, x2, x3] (.ref u :: st) cu (K, I, R, L, sz, ex) Q = ((K u).1 = 111 ∧ X z 147 15 [x0, x1, x2, x3] (.int (I u 18) :: st) cu (K, I, R, L, sz, ex) Q) := by
  rw [x147_12]
  rfl
theorem v147_15 {z : P0} {st : List Value} {cu : Nat × Nat} {Q : Res → Mem → Prop} {σ : Mem} {x0 x1 x2 x3 : Option Value} {u : Int32} : X z 147 15 [x0, x1, x2, x3] (.int u :: st) cu σ Q = (if nI 0 < u then X z 147 18 [x0, x1, x2, x3] (st) cu σ Q else X z 147 29 [x0, x1, x2, x3] (st) cu σ Q) := by
  rw [x147_15]
  rw [nI_0]
  obtain ⟨K, I, R, L, sz, ex⟩ := σ
  exact br_ge
theorem v147_18 {z : P0} {st : List Value} {cu : Nat × Nat} {Q : Res → Mem → Prop} {σ : Mem} {x1 x2 x3 : Option Value} {u : Nat} : X z 147 18 [some (.ref u), x1, x2, x3] (st) cu σ Q = (X z 147 19 [some (.ref u), x1, x2, x3] (.ref u :: st) cu σ Q) := by
  rw [x147_18]
  rfl
theorem v147_19 {z : P0} {st : List Value} {cu : Nat × Nat} {Q : Res → Mem → Prop} {K : Nat → Nat × Nat} {I : Nat → Nat → Int32} {R : Nat → Nat → Option Nat} {L : Nat → Nat → Int64} {sz : Nat} {ex : Bool} {x0 x1 x2 x3 : Option Value} {u : Nat} : X z 147 19 [x0, x1, x2, x3] (.ref u :: st) cu (K, I, R, L, sz, ex) Q = ((K u).1 = 111 ∧ X z 147 22 [x0, x1, x2, x3] (.int (I u 19) :: st) cu (K, I, R, L, sz, ex) Q) := by
  rw [x147_19]
  rfl
theorem v147_22 {z : P0} {st : List Value} {cu : Nat × Nat} {Q : Res → Mem → Prop} {σ : Mem} {x0 x1 x2 x3 : Option Value} {u : Int32} : X z 147 22 [x0, x1, x2, x3] (.int u :: st) cu σ Q = (if u = nI 0 then X z 147 25 [x0, x1, x2, x3] (st) cu σ Q else X z 147 29 [x0, x1, x2, x3] (st) cu σ Q) := by
  rw [x147_22]
  rw [nI_0]
  obtain ⟨K, I, R, L, sz, ex⟩ := σ
  exact br_ne
theorem v147_25 {z : P0} {st : List Value} {cu : Nat × Nat} {Q : Res → Mem → Prop} {σ : Mem} {x0 x1 x2 x3 : Option Value} : X z 147 25 [x0, x1, x2, x3] (st) cu σ Q = (X z 147 26 [x0, x1, x2, x3] (.int (nI 1) :: st) cu σ Q) := by
  rw [x147_25]
  rfl
theorem v147_26 {z : P0} {st : List Value} {cu : Nat × Nat} {Q : Res → Mem → Prop} {σ : Mem} {x0 x1 x2 x3 : Option Value} : X z 147 26 [x0, x1, x2, x3] (st) cu σ Q = (X z 147 30 [x0, x1, x2, x3] (st) cu σ Q) := by
  rw [x147_26]
  rfl
theorem v147_29 {z : P0} {st : List Value} {cu : Nat × Nat} {Q : Res → Mem → Prop} {σ : Mem} {x0 x1 x2 x3 : Option Value} : X z 147 29 [x0, x1, x2, x3] (st) cu σ Q = (X z 147 30 [x0, x1, x2, x3] (.int (nI 0) :: st) cu σ Q) := by
  rw [x147_29]
  rfl
theorem v147_30 {z : P0} {st : List Value} {cu : Nat × Nat} {Q : Res → Mem → Prop} {σ : Mem} {x0 x1 x2 x3 : Option Value} {u : Int32} : X z 147 30 [x0, x1, x2, x3] (.int u :: st) cu σ Q = (cat2 x2 = false ∧ X z 147 31 [x0, x1, x2, some (.int u)] (st) cu σ Q) := by
  rw [x147_30]
  obtain ⟨K, I, R, L, sz, ex⟩ := σ
  exact i_istore_n.trans sl_3
theorem v147_31 {z : P0} {st : List Value} {cu : Nat × Nat} {Q : Res → Mem → Prop} {σ : Mem} {x1 x2 x3 : Option Value} {u : Nat} : X z 147 31 [some (.ref u), x1, x2, x3] (st) cu σ Q = (X z 147 32 [some (.ref u), x1, x2, x3] (.ref u :: st) cu σ Q) := by
  rw [x147_31]
  rfl
theorem v147_32 {z : P0} {st : List Value} {cu : Nat × Nat} {Q : Res → Mem → Prop} {σ : Mem} {x0 x1 x2 x3 : Option Value} : X z 147 32 [x0, x1, x2, x3] (st) cu σ Q = (X z 147 33 [x0, x1, x2, x3] (.int (nI 1) :: st) cu σ Q) := by
  rw [x147_32]
  rfl
theorem v147_33 {z : P0} {st : List Value} {cu : Nat × Nat} {Q : Res → Mem → Prop} {K : Nat → Nat × Nat} {I : Nat → Nat → Int32} {R : Nat → Nat → Option Nat} {L : Nat → Nat → Int64} {sz : Nat} {ex : Bool} {x0 x1 x2 x3 : Option Value} {u : Nat} {v : Int32} : X z 147 33 [x0, x1, x2, x3] (.int v :: .ref u :: st) cu (K, I, R, L, sz, ex) Q = ((v = nI 0 ∨ v = nI 1) ∧ (K u).1 = 111 ∧ X z 147 36 [x0, x1, x2, x3] (st) cu (K, up2 I u 19 v, R, L, sz, ex) Q) := by
  rw [x147_33]
  rw [nI_0, one1]
  exact i_putZ
theorem v147_36 {z : P0} {st : List Value} {cu : Nat × Nat} {Q : Res → Mem → Prop} {σ : Mem} {x0 x1 x2 : Option Value} {u : Int32} : X z 147 36 [x0, x1, x2, some (.int u)] (st) cu σ Q = (X z 147 37 [x0, x1, x2, some (.int u)] (.int u :: st) cu σ Q) := by
  rw [x147_36]
  rfl
theorem v147_37 {z : P0} {cu : Nat × Nat} {Q : Res → Mem → Prop} {σ : Mem} {x0 x1 x2 x3 : Option Value} {v : Int32} : X z 147 37 [x0, x1, x2, x3] ([.int v]) cu σ Q = ((v = nI 0 ∨ v = nI 1) ∧ Q (.inl (some (.int v))) σ) := by
  rw [x147_37]
  rw [nI_0, one1]
  rfl
theorem v147_38 {z : P0} {st : List Value} {cu : Nat × Nat} {Q : Res → Mem → Prop} {σ : Mem} {x0 x2 x3 : Option Value} {u : Int32} : X z 147 38 [x0, some (.int u), x2, x3] (st) cu σ Q = (X z 147 39 [x0, some (.int u), x2, x3] (.int u :: st) cu σ Q) := by
  rw [x147_38]
  rfl
theorem v147_39 {z : P0} {st : List Value} {cu : Nat × Nat} {Q : Res → Mem → Prop} {σ : Mem} {x0 x1 x2 x3 : Option Value} : X z 147 39 [x0, x1, x2, x3] (st) cu σ Q = (X z 147 41 [x0, x1, x2, x3] (.int (nI 97) :: st) cu σ Q) := by
  rw [x147_39]
  rfl
theorem v147_41 {z : P0} {st : List Value} {cu : Nat × Nat} {Q : Res → Mem → Prop} {σ : Mem} {x0 x1 x2 x3 : Option Value} : X z 147 41 [x0, x1, x2, x3] (st) cu σ Q = (X z 147 43 [x0, x1, x2, x3] (.int (nI 122) :: st) cu σ Q) := by
  rw [x147_41]
  rfl
theorem u147_43 {z : P0} {ls : Lcs} {st : List Value} {K : Nat → Nat × Nat} {I : Nat → Nat → Int32} {R : Nat → Nat → Option Nat} {L : Nat → Nat → Int64} {sz : Nat} {ex : Bool} {Q : Res → Mem → Prop} {a0 : Int32} {a1 : Int32} {a2 : Int32} : X z 147 43 ls (.int a2 :: .int a1 :: .int a0 :: st) (0, 0) (K, I, R, L, sz, ex) Q = (wsum st ≤ 8 ∧ X z 106 0 [some (.int a0), some (.int a1), some (.int a2)] [] (0, 0) (K, I, R, L, sz, ex) (aftr (X z) mT 147 43 ls st (0, 0) Q)) := v147_43 (c := 0) (n := 0)
theorem v147_46 {z : P0} {st : List Value} {cu : Nat × Nat} {Q : Res → Mem → Prop} {σ : Mem} {x0 x1 x2 x3 : Option Value} {u : Int32} : X z 147 46 [x0, x1, x2, x3] (.int u :: st) cu σ Q = (if u = nI 0 then X z 147 69 [x0, x1, x2, x3] (st) cu σ Q else X z 147 49 [x0, x1, x2, x3] (st) cu σ Q) := by
  rw [x147_46]
  rw [nI_0]
  obtain ⟨K, I, R, L, sz, ex⟩ := σ
  exact br_ite
theorem v147_49 {z : P0} {st : List Value} {cu : Nat × Nat} {Q : Res → Mem → Prop} {σ : Mem} {x1 x2 x3 : Option Value} {u : Nat} : X z 147 49 [some (.ref u), x1, x2, x3] (st) cu σ Q = (X z 147 50 [some (.ref u), x1, x2, x3] (.ref u :: st) cu σ Q) := by
  rw [x147_49]
  rfl
theorem v147_50 {z : P0} {st : List Value} {cu : Nat × Nat} {Q : Res → Mem → Prop} {K : Nat → Nat × Nat} {I : Nat → Nat → Int32} {R : Nat → Nat → Option Nat} {L : Nat → Nat → Int64} {sz : Nat} {ex : Bool} {x0 x1 x2 x3 : Option Value} {u : Nat} : X z 147 50 [x0, x1, x2, x3] (.ref u :: st) cu (K, I, R, L, sz, ex) Q = ((K u).1 = 111 ∧ X z 147 53 [x0, x1, x2, x3] (.int (I u 18) :: st) cu (K, I, R, L, sz, ex) Q) := by
  rw [x147_50]
  rfl
theorem v147_53 {z : P0} {st : List Value} {cu : Nat × Nat} {Q : Res → Mem → Prop} {σ : Mem} {x0 x1 x2 x3 : Option Value} : X z 147 53 [x0, x1, x2, x3] (st) cu σ Q = (X z 147 55 [x0, x1, x2, x3] (.int (nI 8) :: st) cu σ Q) := by
  rw [x147_53]
  rfl
theorem v147_55 {z : P0} {st : List Value} {cu : Nat × Nat} {Q : Res → Mem → Prop} {σ : Mem} {x0 x1 x2 x3 : Option Value} {u v : Int32} : X z 147 55 [x0, x1, x2, x3] (.int v :: .int u :: st) cu σ Q = (if u < v then X z 147 58 [x0, x1, x2, x3] (st) cu σ Q else X z 147 69 [x0, x1, x2, x3] (st) cu σ Q) := by
  rw [x147_55]
  obtain ⟨K, I, R, L, sz, ex⟩ := σ
  exact br_ge
theorem v147_58 {z : P0} {st : List Value} {cu : Nat × Nat} {Q : Res → Mem → Prop} {σ : Mem} {x1 x2 x3 : Option Value} {u : Nat} : X z 147 58 [some (.ref u), x1, x2, x3] (st) cu σ Q = (X z 147 59 [some (.ref u), x1, x2, x3] (.ref u :: st) cu σ Q) := by
  rw [x147_58]
  rfl
theorem v147_59 {z : P0} {st : List Value} {cu : Nat × Nat} {Q : Res → Mem → Prop} {K : Nat → Nat × Nat} {I : Nat → Nat → Int32} {R : Nat → Nat → Option Nat} {L : Nat → Nat → Int64} {sz : Nat} {ex : Bool} {x0 x1 x2 x3 : Option Value} {u : Nat} : X z 147 59 [x0, x1, x2, x3] (.ref u :: st) cu (K, I, R, L, sz, ex) Q = ((K u).1 = 111 ∧ X z 147 62 [x0, x1, x2, x3] (.int (I u 19) :: st) cu (K, I, R, L, sz, ex) Q) := by
  rw [x147_59]
  rfl
theorem v147_62 {z : P0} {st : List Value} {cu : Nat × Nat} {Q : Res → Mem → Prop} {σ : Mem} {x0 x1 x2 x3 : Option Value} {u : Int32} : X z 147 62 [x0, x1, x2, x3] (.int u :: st) cu σ Q = (if u = nI 0 then X z 147 65 [x0, x1, x2, x3] (st) cu σ Q else X z 147 69 [x0, x1, x2, x3] (st) cu σ Q) := by
  rw [x147_62]
  rw [nI_0]
  obtain ⟨K, I, R, L, sz, ex⟩ := σ
  exact br_ne
theorem v147_65 {z : P0} {st : List Value} {cu : Nat × Nat} {Q : Res → Mem → Prop} {σ : Mem} {x0 x1 x2 x3 : Option Value} : X z 147 65 [x0, x1, x2, x3] (st) cu σ Q = (X z 147 66 [x0, x1, x2, x3] (.int (nI 1) :: st) cu σ Q) := by
  rw [x147_65]
  rfl
theorem v147_66 {z : P0} {st : List Value} {cu : Nat × Nat} {Q : Res → Mem → Prop} {σ : Mem} {x0 x1 x2 x3 : Option Value} : X z 147 66 [x0, x1, x2, x3] (st) cu σ Q = (X z 147 70 [x0, x1, x2, x3] (st) cu σ Q) := by
  rw [x147_66]
  rfl
theorem v147_69 {z : P0} {st : List Value} {cu : Nat × Nat} {Q : Res → Mem → Prop} {σ : Mem} {x0 x1 x2 x3 : Option Value} : X z 147 69 [x0, x1, x2, x3] (st) cu σ Q = (X z 147 70 [x0, x1, x2, x3] (.int (nI 0) :: st) cu σ Q) := by
  rw [x147_69]
  rfl
theorem v147_70 {z : P0} {st : List Value} {cu : Nat × Nat} {Q : Res → Mem → Prop} {σ : Mem} {x0 x1 x2 x3 : Option Value} {u : Int32} : X z 147 70 [x0, x1, x2, x3] (.int u :: st) cu σ Q = (cat2 x2 = false ∧ X z 147 71 [x0, x1, x2, some (.int u)] (st) cu σ Q) := by
  rw [x147_70]
  obtain ⟨K, I, R, L, sz, ex⟩ := σ
  exact i_istore_n.trans sl_3
theorem v147_71 {z : P0} {st : List Value} {cu : Nat × Nat} {Q : Res → Mem → Prop} {σ : Mem} {x1 x2 x3 : Option Value} {u : Nat} : X z 147 71 [some (.ref u), x1, x2, x3] (st) cu σ Q = (X z 147 72 [some (.ref u), x1, x2, x3] (.ref u :: st) cu σ Q) := by
  rw [x147_71]
  rfl
theorem v147_72 {z : P0} {st : List Value} {cu : Nat × Nat} {Q : Res → Mem → Prop} {σ : Mem} {x0 x1 x2 x3 : Option Value} {u : Nat} : X z 147 72 [x0, x1, x2, x3] (.ref u :: st) cu σ Q = (X z 147 73 [x0, x1, x2, x3] (.ref u :: .ref u :: st) cu σ Q) := by
  rw [x147_72]
  exact propext ⟨fun h => h.2, fun h => ⟨rfl, h⟩⟩
theorem v147_72i {z : P0} {st : List Value} {cu : Nat × Nat} {Q : Res → Mem → Prop} {σ : Mem} {x0 x1 x2 x3 : Option Value} {u : Int32} : X z 147 72 [x0, x1, x2, x3] (.int u :: st) cu σ Q = (X z 147 73 [x0, x1, x2, x3] (.int u :: .int u :: st) cu σ Q) := by
  rw [x147_72]
  exact propext ⟨fun h => h.2, fun h => ⟨rfl, h⟩⟩
theorem v147_73 {z : P0} {st : List Value} {cu : Nat × Nat} {Q : Res → Mem → Prop} {K : Nat → Nat × Nat} {I : Nat → Nat → Int32} {R : Nat → Nat → Option Nat} {L : Nat → Nat → Int64} {sz : Nat} {ex : Bool} {x0 x1 x2 x3 : Option Value} {u : Nat} : X z 147 73 [x0, x1, x2, x3] (.ref u :: st) cu (K, I, R, L, sz, ex) Q = ((K u).1 = 111 ∧ X z 147 76 [x0, x1, x2, x3] (.int (I u 18) :: st) cu (K, I, R, L, sz, ex) Q) := by
  rw [x147_73]
  rfl
theorem v147_76 {z : P0} {st : List Value} {cu : Nat × Nat} {Q : Res → Mem → Prop} {σ : Mem} {x0 x1 x2 : Option Value} {u : Int32} : X z 147 76 [x0, x1, x2, some (.int u)] (st) cu σ Q = (X z 147 77 [x0, x1, x2, some (.int u)] (.int u :: st) cu σ Q) := by
  rw [x147_76]
  rfl
theorem v147_77 {z : P0} {st : List Value} {cu : Nat × Nat} {Q : Res → Mem → Prop} {σ : Mem} {x0 x1 x2 x3 : Option Value} {u : Int32} : X z 147 77 [x0, x1, x2, x3] (.int u :: st) cu σ Q = (if u = nI 0 then X z 147 84 [x0, x1, x2, x3] (st) cu σ Q else X z 147 80 [x0, x1, x2, x3] (st) cu σ Q) := by
  rw [x147_77]
  rw [nI_0]
  obtain ⟨K, I, R, L, sz, ex⟩ := σ
  exact br_ite
theorem v147_80 {z : P0} {st : List Value} {cu : Nat × Nat} {Q : Res → Mem → Prop} {σ : Mem} {x0 x1 x2 x3 : Option Value} : X z 147 80 [x0, x1, x2, x3] (st) cu σ Q = (X z 147 81 [x0, x1, x2, x3] (.int (nI 1) :: st) cu σ Q) := by
  rw [x147_80]
  rfl
theorem v147_81 {z : P0} {st : List Value} {cu : Nat × Nat} {Q : Res → Mem → Prop} {σ : Mem} {x0 x1 x2 x3 : Option Value} : X z 147 81 [x0, x1, x2, x3] (st) cu σ Q = (X z 147 85 [x0, x1, x2, x3] (st) cu σ Q) := by
  rw [x147_81]
  rfl
theorem v147_84 {z : P0} {st : List Value} {cu : Nat × Nat} {Q : Res → Mem → Prop} {σ : Mem} {x0 x1 x2 x3 : Option Value} : X z 147 84 [x0, x1, x2, x3] (st) cu σ Q = (X z 147 85 [x0, x1, x2, x3] (.int (nI 0) :: st) cu σ Q) := by
  rw [x147_84]
  rfl
theorem v147_85 {z : P0} {st : List Value} {cu : Nat × Nat} {Q : Res → Mem → Prop} {σ : Mem} {x0 x1 x2 x3 : Option Value} {u v : Int32} : X z 147 85 [x0, x1, x2, x3] (.int v :: .int u :: st) cu σ Q = (X z 147 86 [x0, x1, x2, x3] (.int (u + v) :: st) cu σ Q) := by
  rw [x147_85]
  rfl
theorem v147_86 {z : P0} {st : List Value} {cu : Nat × Nat} {Q : Res → Mem → Prop} {K : Nat → Nat × Nat} {I : Nat → Nat → Int32} {R : Nat → Nat → Option Nat} {L : Nat → Nat → Int64} {sz : Nat} {ex : Bool} {x0 x1 x2 x3 : Option Value} {u : Nat} {v : Int32} : X z 147 86 [x0, x1, x2, x3] (.int v :: .ref u :: st) cu (K, I, R, L, sz, ex) Q = ((K u).1 = 111 ∧ X z 147 89 [x0, x1, x2, x3] (st) cu (K, up2 I u 18 v, R, L, sz, ex) Q) := by
  rw [x147_86]
  exact i_putI
theorem v147_89 {z : P0} {st : List Value} {cu : Nat × Nat} {Q : Res → Mem → Prop} {σ : Mem} {x0 x1 x2 : Option Value} {u : Int32} : X z 147 89 [x0, x1, x2, some (.int u)] (st) cu σ Q = (X z 147 90 [x0, x1, x2, some (.int u)] (.int u :: st) cu σ Q) := by
  rw [x147_89]
  rfl
theorem v147_90 {z : P0} {cu : Nat × Nat} {Q : Res → Mem → Prop} {σ : Mem} {x0 x1 x2 x3 : Option Value} {v : Int32} : X z 147 90 [x0, x1, x2, x3] ([.int v]) cu σ Q = ((v = nI 0 ∨ v = nI 1) ∧ Q (.inl (some (.int v))) σ) := by
  rw [x147_90]
  rw [nI_0, one1]
  rfl
theorem v148_0 {z : P0} {st : List Value} {cu : Nat × Nat} {Q : Res → Mem → Prop} {σ : Mem} {x1 x2 : Option Value} {u : Nat} : X z 148 0 [some (.ref u), x1, x2] (st) cu σ Q = (X z 148 1 [some (.ref u), x1, x2] (.ref u :: st) cu σ Q) := by
  rw [x148_0]
  rfl
theorem v148_1 {z : P0} {st : List Value} {cu : Nat × Nat} {Q : Res → Mem → Prop} {K : Nat → Nat × Nat} {I : Nat → Nat → Int32} {R : Nat → Nat → Option Nat} {L : Nat → Nat → Int64} {sz : Nat} {ex : Bool} {x0 x1 x2 : Option Value} {u : Nat} : X z 148 1 [x0, x1, x2] (.ref u :: st) cu (K, I, R, L, sz, ex) Q = ((K u).1 = 111 ∧ X z 148 4 [x0, x1, x2] (.int (I u 21) :: st) cu (K, I, R, L, sz, ex) Q) := by
  rw [x148_1]
  rfl
theorem v148_4 {z : P0} {st : List Value} {cu : Nat × Nat} {Q : Res → Mem → Prop} {σ : Mem} {x0 x1 x2 : Option Value} : X z 148 4 [x0, x1, x2] (st) cu σ Q = (X z 148 5 [x0, x1, x2] (.int (nI 1) :: st) cu σ Q) := by
  rw [x148_4]
  rfl
theorem v148_5 {z : P0} {st : List Value} {cu : Nat × Nat} {Q : Res → Mem → Prop} {σ : Mem} {x0 x1 x2 : Option Value} {u v : Int32} : X z 148 5 [x0, x1, x2] (.int v :: .int u :: st) cu σ Q = (if u = v then X z 148 8 [x0, x1, x2] (st) cu σ Q else X z 148 40 [x0, x1, x2] (st) cu σ Q) := by
  rw [x148_5]
  obtain ⟨K, I, R, L, sz, ex⟩ := σ
  exact br_ne
theorem v148_8 {z : P0} {st : List Value} {cu : Nat × Nat} {Q : Res → Mem → Prop} {σ : Mem} {x0 x2 : Option Value} {u : Int32} : X z 148 8 [x0, some (.int u), x2] (st) cu σ Q = (X z 148 9 [x0, some (.int u), x2] (.int u :: st) cu σ Q) := by
  rw [x148_8]
  rfl
theorem v148_9 {z : P0} {st : List Value} {cu : Nat × Nat} {Q : Res → Mem → Prop} {σ : Mem} {x0 x1 x2 : Option Value} : X z 148 9 [x0, x1, x2] (st) cu σ Q = (X z 148 11 [x0, x1, x2] (.int (nI 110) :: st) cu σ Q) := by
  rw [x148_9]
  rfl
theorem v148_11 {z : P0} {st : List Value} {cu : Nat × Nat} {Q : Res → Mem → Prop} {σ : Mem} {x0 x1 x2 : Option Value} {u v : Int32} : X z 148 11 [x0, x1, x2] (.int v :: .int u :: st) cu σ Q = (if u = v then X z 148 32 [x0, x1, x2] (st) cu σ Q else X z 148 14 [x0, x1, x2] (st) cu σ Q) := by
  rw [x148_11]
  obtain ⟨K, I, R, L, sz, ex⟩ := σ
  exact br_ite
theorem v148_14 {z : P0} {st : List Value} {cu : Nat × Nat} {Q : Res → Mem → Prop} {σ : Mem} {x0 x2 : Option Value} {u : Int32} : X z 148 14 [x0, some (.int u), x2] (st) cu σ Q = (X z 148 15 [x0, some (.int u), x2] (.int u :: st) cu σ Q) := by
  rw [x148_14]
  rfl
theorem v148_15 {z : P0} {st : List Value} {cu : Nat × Nat} {Q : Res → Mem → Prop} {σ : Mem} {x0 x1 x2 : Option Value} : X z 148 15 [x0, x1, x2] (st) cu σ Q = (X z 148 17 [x0, x1, x2] (.int (nI 103) :: st) cu σ Q) := by
  rw [x148_15]
  rfl
theorem v148_17 {z : P0} {st : List Value} {cu : Nat × Nat} {Q : Res → Mem → Prop} {σ : Mem} {x0 x1 x2 : Option Value} {u v : Int32} : X z 148 17 [x0, x1, x2] (.int v :: .int u :: st) cu σ Q = (if u = v then X z 148 32 [x0, x1, x2] (st) cu σ Q else X z 148 20 [x0, x1, x2] (st) cu σ Q) := by
  rw [x148_17]
  obtain ⟨K, I, R, L, sz, ex⟩ := σ
  exact br_ite
theorem v148_20 {z : P0} {st : List Value} {cu : Nat × Nat} {Q : Res → Mem → Prop} {σ : Mem} {x0 x2 : Option Value} {u : Int32} : X z 148 20 [x0, some (.int u), x2] (st) cu σ Q = (X z 148 21 [x0, some (.int u), x2] (.int u :: st) cu σ Q) := by
  rw [x148_20]
  rfl
theorem v148_21 {z : P0} {st : List Value} {cu : Nat × Nat} {Q : Res → Mem → Prop} {σ : Mem} {x0 x1 x2 : Option Value} : X z 148 21 [x0, x1, x2] (st) cu σ Q = (X z 148 23 [x0, x1, x2] (.int (nI 119) :: st) cu σ Q) := by
  rw [x148_21]
  rfl
theorem v148_23 {z : P0} {st : List Value} {cu : Nat × Nat} {Q : Res → Mem → Prop} {σ : Mem} {x0 x1 x2 : Option Value} {u v : Int32} : X z 148 23 [x0, x1, x2] (.int v :: .int u :: st) cu σ Q = (if u = v then X z 148 32 [x0, x1, x2] (st) cu σ Q else X z 148 26 [x0, x1, x2] (st) cu σ Q) := by
  rw [x148_23]
  obtain ⟨K, I, R, L, sz, ex⟩ := σ
  exact br_ite
theorem v148_26 {z : P0} {st : List Value} {cu : Nat × Nat} {Q : Res → Mem → Prop} {σ : Mem} {x0 x2 : Option Value} {u : Int32} : X z 148 26 [x0, some (.int u), x2] (st) cu σ Q = (X z 148 27 [x0, some (.int u), x2] (.int u :: st) cu σ Q) := by
  rw [x148_26]
  rfl
theorem v148_27 {z : P0} {st : List Value} {cu : Nat × Nat} {Q : Res → Mem → Prop} {σ : Mem} {x0 x1 x2 : Option Value} : X z 148 27 [x0, x1, x2] (st) cu σ Q = (X z 148 29 [x0, x1, x2] (.int (nI 99) :: st) cu σ Q) := by
  rw [x148_27]
  rfl
theorem v148_29 {z : P0} {st : List Value} {cu : Nat × Nat} {Q : Res → Mem → Prop} {σ : Mem} {x0 x1 x2 : Option Value} {u v : Int32} : X z 148 29 [x0, x1, x2] (.int v :: .int u :: st) cu σ Q = (if u = v then X z 148 32 [x0, x1, x2] (st) cu σ Q else X z 148 36 [x0, x1, x2] (st) cu σ Q) := by
  rw [x148_29]
  obtain ⟨K, I, R, L, sz, ex⟩ := σ
  exact br_ne
theorem v148_32 {z : P0} {st : List Value} {cu : Nat × Nat} {Q : Res → Mem → Prop} {σ : Mem} {x0 x1 x2 : Option Value} : X z 148 32 [x0, x1, x2] (st) cu σ Q = (X z 148 33 [x0, x1, x2] (.int (nI 1) :: st) cu σ Q) := by
  rw [x148_32]
  rfl
theorem v148_33 {z : P0} {st : List Value} {cu : Nat × Nat} {Q : Res → Mem → Prop} {σ : Mem} {x0 x1 x2 : Option Value} : X z 148 33 [x0, x1, x2] (st) cu σ Q = (X z 148 51 [x0, x1, x2] (st) cu σ Q) := by
  rw [x148_33]
  rfl
theorem v148_36 {z : P0} {st : List Value} {cu : Nat × Nat} {Q : Res → Mem → Prop} {σ : Mem} {x0 x1 x2 : Option Value} : X z 148 36 [x0, x1, x2] (st) cu σ Q = (X z 148 37 [x0, x1, x2] (.int (nI 0) :: st) cu σ Q) := by
  rw [x148_36]
  rfl
theorem v148_37 {z : P0} {st : List Value} {cu : Nat × Nat} {Q : Res → Mem → Prop} {σ : Mem} {x0 x1 x2 : Option Value} : X z 148 37 [x0, x1, x2] (st) cu σ Q = (X z 148 51 [x0, x1, x2] (st) cu σ Q) := by
  rw [x148_37]
  rfl
theorem v148_40 {z : P0} {st : List Value} {cu : Nat × Nat} {Q : Res → Mem → Prop} {σ : Mem} {x0 x2 : Option Value} {u : Int32} : X z 148 40 [x0, some (.int u), x2] (st) cu σ Q = (X z 148 41 [x0, some (.int u), x2] (.int u :: st) cu σ Q) := by
  rw [x148_40]
  rfl
theorem v148_41 {z : P0} {st : List Value} {cu : Nat × Nat} {Q : Res → Mem → Prop} {σ : Mem} {x0 x1 x2 : Option Value} : X z 148 41 [x0, x1, x2] (st) cu σ Q = (X z 148 43 [x0, x1, x2] (.int (nI 62) :: st) cu σ Q) := by
  rw [x148_41]
  rfl
theorem v148_43 {z : P0} {st : List Value} {cu : Nat × Nat} {Q : Res → Mem → Prop} {σ : Mem} {x0 x1 x2 : Option Value} {u v : Int32} : X z 148 43 [x0, x1, x2] (.int v :: .int u :: st) cu σ Q = (if u = v then X z 148 46 [x0, x1, x2] (st) cu σ Q else X z 148 50 [x0, x1, x2] (st) cu σ Q) := by
  rw [x148_43]
  obtain ⟨K, I, R, L, sz, ex⟩ := σ
  exact br_ne
theorem v148_46 {z : P0} {st : List Value} {cu : Nat × Nat} {Q : Res → Mem → Prop} {σ : Mem} {x0 x1 x2 : Option Value} : X z 148 46 [x0, x1, x2] (st) cu σ Q = (X z 148 47 [x0, x1, x2] (.int (nI 1) :: st) cu σ Q) := by
  rw [x148_46]
  rfl
theorem v148_47 {z : P0} {st : List Value} {cu : Nat × Nat} {Q : Res → Mem → Prop} {σ : Mem} {x0 x1 x2 : Option Value} : X z 148 47 [x0, x1, x2] (st) cu σ Q = (X z 148 51 [x0, x1, x2] (st) cu σ Q) := by
  rw [x148_47]
  rfl
theorem v148_50 {z : P0} {st : List Value} {cu : Nat × Nat} {Q : Res → Mem → Prop} {σ : Mem} {x0 x1 x2 : Option Value} : X z 148 50 [x0, x1, x2] (st) cu σ Q = (X z 148 51 [x0, x1, x2] (.int (nI 0) :: st) cu σ Q) := by
  rw [x148_50]
  rfl
theorem v148_51 {z : P0} {st : List Value} {cu : Nat × Nat} {Q : Res → Mem → Prop} {σ : Mem} {x0 x1 x2 : Option Value} {u : Int32} : X z 148 51 [x0, x1, x2] (.int u :: st) cu σ Q = (cat2 x1 = false ∧ X z 148 52 [x0, x1, some (.int u)] (st) cu σ Q) := by
  rw [x148_51]
  obtain ⟨K, I, R, L, sz, ex⟩ := σ
  exact i_istore_n.trans sl_2
theorem v148_52 {z : P0} {st : List Value} {cu : Nat × Nat} {Q : Res → Mem → Prop} {σ : Mem} {x1 x2 : Option Value} {u : Nat} : X z 148 52 [some (.ref u), x1, x2] (st) cu σ Q = (X z 148 53 [some (.ref u), x1, x2] (.ref u :: st) cu σ Q) := by
  rw [x148_52]
  rfl
theorem v148_53 {z : P0} {st : List Value} {cu : Nat × Nat} {Q : Res → Mem → Prop} {σ : Mem} {x0 x1 x2 : Option Value} {u : Nat} : X z 148 53 [x0, x1, x2] (.ref u :: st) cu σ Q = (X z 148 54 [x0, x1, x2] (.ref u :: .ref u :: st) cu σ Q) := by
  rw [x148_53]
  exact propext ⟨fun h => h.2, fun h => ⟨rfl, h⟩⟩
theorem v148_53i {z : P0} {st : List Value} {cu : Nat × Nat} {Q : Res → Mem → Prop} {σ : Mem} {x0 x1 x2 : Option Value} {u : Int32} : X z 148 53 [x0, x1, x2] (.int u :: st) cu σ Q = (X z 148 54 [x0, x1, x2] (.int u :: .int u :: st) cu σ Q) := by
  rw [x148_53]
  exact propext ⟨fun h => h.2, fun h => ⟨rfl, h⟩⟩
theorem v148_54 {z : P0} {st : List Value} {cu : Nat × Nat} {Q : Res → Mem → Prop} {K : Nat → Nat × Nat} {I : Nat → Nat → Int32} {R : Nat → Nat → Option Nat} {L : Nat → Nat → Int64} {sz : Nat} {ex : Bool} {x0 x1 x2 : Option Value} {u : Nat} : X z 148 54 [x0, x1, x2] (.ref u :: st) cu (K, I, R, L, sz, ex) Q = ((K u).1 = 111 ∧ X z 148 57 [x0, x1, x2] (.int (I u 18) :: st) cu (K, I, R, L, sz, ex) Q) := by
  rw [x148_54]
  rfl
theorem v148_57 {z : P0} {st : List Value} {cu : Nat × Nat} {Q : Res → Mem → Prop} {σ : Mem} {x0 x1 : Option Value} {u : Int32} : X z 148 57 [x0, x1, some (.int u)] (st) cu σ Q = (X z 148 58 [x0, x1, some (.int u)] (.int u :: st) cu σ Q) := by
  rw [x148_57]
  rfl
theorem v148_58 {z : P0} {st : List Value} {cu : Nat × Nat} {Q : Res → Mem → Prop} {σ : Mem} {x0 x1 x2 : Option Value} {u : Int32} : X z 148 58 [x0, x1, x2] (.int u :: st) cu σ Q = (if u = nI 0 then X z 148 73 [x0, x1, x2] (st) cu σ Q else X z 148 61 [x0, x1, x2] (st) cu σ Q) := by
  rw [x148_58]
  rw [nI_0]
  obtain ⟨K, I, R, L, sz, ex⟩ := σ
  exact br_ite
theorem v148_61 {z : P0} {st : List Value} {cu : Nat × Nat} {Q : Res → Mem → Prop} {σ : Mem} {x1 x2 : Option Value} {u : Nat} : X z 148 61 [some (.ref u), x1, x2] (st) cu σ Q = (X z 148 62 [some (.ref u), x1, x2] (.ref u :: st) cu σ Q) := by
  rw [x148_61]
  rfl
theorem v148_62 {z : P0} {st : List Value} {cu : Nat × Nat} {Q : Res → Mem → Prop} {K : Nat → Nat × Nat} {I : Nat → Nat → Int32} {R : Nat → Nat → Option Nat} {L : Nat → Nat → Int64} {sz : Nat} {ex : Bool} {x0 x1 x2 : Option Value} {u : Nat} : X z 148 62 [x0, x1, x2] (.ref u :: st) cu (K, I, R, L, sz, ex) Q = ((K u).1 = 111 ∧ X z 148 65 [x0, x1, x2] (.int (I u 21) :: st) cu (K, I, R, L, sz, ex) Q) := by
  rw [x148_62]
  rfl
theorem v148_65 {z : P0} {st : List Value} {cu : Nat × Nat} {Q : Res → Mem → Prop} {σ : Mem} {x0 x1 x2 : Option Value} : X z 148 65 [x0, x1, x2] (st) cu σ Q = (X z 148 66 [x0, x1, x2] (.int (nI 2) :: st) cu σ Q) := by
  rw [x148_65]
  rfl
theorem v148_66 {z : P0} {st : List Value} {cu : Nat × Nat} {Q : Res → Mem → Prop} {σ : Mem} {x0 x1 x2 : Option Value} {u v : Int32} : X z 148 66 [x0, x1, x2] (.int v :: .int u :: st) cu σ Q = (if u = v then X z 148 69 [x0, x1, x2] (st) cu σ Q else X z 148 73 [x0, x1, x2] (st) cu σ Q) := by
  rw [x148_66]
  obtain ⟨K, I, R, L, sz, ex⟩ := σ
  exact br_ne
theorem v148_69 {z : P0} {st : List Value} {cu : Nat × Nat} {Q : Res → Mem → Prop} {σ : Mem} {x0 x1 x2 : Option Value} : X z 148 69 [x0, x1, x2] (st) cu σ Q = (X z 148 70 [x0, x1, x2] (.int (nI 1) :: st) cu σ Q) := by
  rw [x148_69]
  rfl
theorem v148_70 {z : P0} {st : List Value} {cu : Nat × Nat} {Q : Res → Mem → Prop} {σ : Mem} {x0 x1 x2 : Option Value} : X z 148 70 [x0, x1, x2] (st) cu σ Q = (X z 148 74 [x0, x1, x2] (st) cu σ Q) := by
  rw [x148_70]
  rfl
theorem v148_73 {z : P0} {st : List Value} {cu : Nat × Nat} {Q : Res → Mem → Prop} {σ : Mem} {x0 x1 x2 : Option Value} : X z 148 73 [x0, x1, x2] (st) cu σ Q = (X z 148 74 [x0, x1, x2] (.int (nI 0) :: st) cu σ Q) := by
  rw [x148_73]
  rfl
theorem v148_74 {z : P0} {st : List Value} {cu : Nat × Nat} {Q : Res → Mem → Prop} {σ : Mem} {x0 x1 x2 : Option Value} {u v : Int32} : X z 148 74 [x0, x1, x2] (.int v :: .int u :: st) cu σ Q = (X z 148 75 [x0, x1, x2] (.int (u + v) :: st) cu σ Q) := by
  rw [x148_74]
  rfl
theorem v148_75 {z : P0} {st : List Value} {cu : Nat × Nat} {Q : Res → Mem → Prop} {K : Nat → Nat × Nat} {I : Nat → Nat → Int32} {R : Nat → Nat → Option Nat} {L : Nat → Nat → Int64} {sz : Nat} {ex : Bool} {x0 x1 x2 : Option Value} {u : Nat} {v : Int32} : X z 148 75 [x0, x1, x2] (.int v :: .ref u :: st) cu (K, I, R, L, sz, ex) Q = ((K u).1 = 111 ∧ X z 148 78 [x0, x1, x2] (st) cu (K, up2 I u 18 v, R, L, sz, ex) Q) := by
  rw [x148_75]
  exact i_putI
theorem v148_78 {z : P0} {st : List Value} {cu : Nat × Nat} {Q : Res → Mem → Prop} {σ : Mem} {x1 x2 : Option Value} {u : Nat} : X z 148 78 [some (.ref u), x1, x2] (st) cu σ Q = (X z 148 79 [some (.ref u), x1, x2] (.ref u :: st) cu σ Q) := by
  rw [x148_78]
  rfl
theorem v148_79 {z : P0} {st : List Value} {cu : Nat × Nat} {Q : Res → Mem → Prop} {σ : Mem} {x1 x2 : Option Value} {u : Nat} : X z 148 79 [some (.ref u), x1, x2] (st) cu σ Q = (X z 148 80 [some (.ref u), x1, x2] (.ref u :: st) cu σ Q) := by
  rw [x148_79]
  rfl
theorem v148_80 {z : P0} {st : List Value} {cu : Nat × Nat} {Q : Res → Mem → Prop} {K : Nat → Nat × Nat} {I : Nat → Nat → Int32} {R : Nat → Nat → Option Nat} {L : Nat → Nat → Int64} {sz : Nat} {ex : Bool} {x0 x1 x2 : Option Value} {u : Nat} : X z 148 80 [x0, x1, x2] (.ref u :: st) cu (K, I, R, L, sz, ex) Q = ((K u).1 = 111 ∧ X z 148 83 [x0, x1, x2] (.int (I u 21) :: st) cu (K, I, R, L, sz, ex) Q) := by
  rw [x148_80]
  rfl
theorem v148_83 {z : P0} {st : List Value} {cu : Nat × Nat} {Q : Res → Mem → Prop} {σ : Mem} {x0 x1 x2 : Option Value} : X z 148 83 [x0, x1, x2] (st) cu σ Q = (X z 148 84 [x0, x1, x2] (.int (nI 1) :: st) cu σ Q) := by
  rw [x148_83]
  rfl
theorem v148_84 {z : P0} {st : List Value} {cu : Nat × Nat} {Q : Res → Mem → Prop} {σ : Mem} {x0 x1 x2 : Option Value} {u v : Int32} : X z 148 84 [x0, x1, x2] (.int v :: .int u :: st) cu σ Q = (if u = v then X z 148 87 [x0, x1, x2] (st) cu σ Q else X z 148 91 [x0, x1, x2] (st) cu σ Q) := by
  rw [x148_84]
  obtain ⟨K, I, R, L, sz, ex⟩ := σ
  exact br_ne
theorem v148_87 {z : P0} {st : List Value} {cu : Nat × Nat} {Q : Res → Mem → Prop} {σ : Mem} {x0 x1 x2 : Option Value} : X z 148 87 [x0, x1, x2] (st) cu σ Q = (X z 148 88 [x0, x1, x2] (.int (nI 2) :: st) cu σ Q) := by
  rw [x148_87]
  rfl
theorem v148_88 {z : P0} {st : List Value} {cu : Nat × Nat} {Q : Res → Mem → Prop} {σ : Mem} {x0 x1 x2 : Option Value} : X z 148 88 [x0, x1, x2] (st) cu σ Q = (X z 148 92 [x0, x1, x2] (st) cu σ Q) := by
  rw [x148_88]
  rfl
theorem v148_91 {z : P0} {st : List Value} {cu : Nat × Nat} {Q : Res → Mem → Prop} {σ : Mem} {x0 x1 x2 : Option Value} : X z 148 91 [x0, x1, x2] (st) cu σ Q = (X z 148 92 [x0, x1, x2] (.int (nI 0) :: st) cu σ Q) := by
  rw [x148_91]
  rfl
theorem v148_92 {z : P0} {st : List Value} {cu : Nat × Nat} {Q : Res → Mem → Prop} {K : Nat → Nat × Nat} {I : Nat → Nat → Int32} {R : Nat → Nat → Option Nat} {L : Nat → Nat → Int64} {sz : Nat} {ex : Bool} {x0 x1 x2 : Option Value} {u : Nat} {v : Int32} : X z 148 92 [x0, x1, x2] (.int v :: .ref u :: st) cu (K, I, R, L, sz, ex) Q = ((K u).1 = 111 ∧ X z 148 95 [x0, x1, x2] (st) cu (K, up2 I u 21 v, R, L, sz, ex) Q) := by
  rw [x148_92]
  exact i_putI
theorem v148_95 {z : P0} {st : List Value} {cu : Nat × Nat} {Q : Res → Mem → Prop} {σ : Mem} {x0 x1 : Option Value} {u : Int32} : X z 148 95 [x0, x1, some (.int u)] (st) cu σ Q = (X z 148 96 [x0, x1, some (.int u)] (.int u :: st) cu σ Q) := by
  rw [x148_95]
  rfl
theorem v148_96 {z : P0} {cu : Nat × Nat} {Q : Res → Mem → Prop} {σ : Mem} {x0 x1 x2 : Option Value} {v : Int32} : X z 148 96 [x0, x1, x2] ([.int v]) cu σ Q = ((v = nI 0 ∨ v = nI 1) ∧ Q (.inl (some (.int v))) σ) := by
  rw [x148_96]
  rw [nI_0, one1]
  rfl
theorem v149_0 {z : P0} {st : List Value} {cu : Nat × Nat} {Q : Res → Mem → Prop} {σ : Mem} {x1 x2 : Option Value} {u : Nat} : X z 149 0 [some (.ref u), x1, x2] (st) cu σ Q = (X z 149 1 [some (.ref u), x1, x2] (.ref u :: st) cu σ Q) := by
  rw [x149_0]
  rfl
theorem v149_1 {z : P0} {st : List Value} {cu : Nat × Nat} {Q : Res → Mem → Prop} {K : Nat → Nat × Nat} {I : Nat → Nat → Int32} {R : Nat → Nat → Option Nat} {L : Nat → Nat → Int64} {sz : Nat} {ex : Bool} {x0 x1 x2 : Option Value} {u : Nat} : X z 149 1 [x0, x1, x2] (.ref u :: st) cu (K, I, R, L, sz, ex) Q = ((K u).1 = 111 ∧ X z 149 4 [x0, x1, x2] (.int (I u 21) :: st) cu (K, I, R, L, sz, ex) Q) := by
  rw [x149_1]
  rfl
theorem v149_4 {z : P0} {st : List Value} {cu : Nat × Nat} {Q : Res → Mem → Prop} {σ : Mem} {x0 x1 x2 : Option Value} {u : Int32} : X z 149 4 [x0, x1, x2] (.int u :: st) cu σ Q = (if nI 0 < u then X z 149 7 [x0, x1, x2] (st) cu σ Q else X z 149 13 [x0, x1, x2] (st) cu σ Q) := by
  rw [x149_4]
  rw [nI_0]
  obtain ⟨K, I, R, L, sz, ex⟩ := σ
  exact br_ge
theorem v149_7 {z : P0} {st : List Value} {cu : Nat × Nat} {Q : Res → Mem → Prop} {σ : Mem} {x1 x2 : Option Value} {u : Nat} : X z 149 7 [some (.ref u), x1, x2] (st) cu σ Q = (X z 149 8 [some (.ref u), x1, x2] (.ref u :: st) cu σ Q) := by
  rw [x149_7]
  rfl
theorem v149_8 {z : P0} {st : List Value} {cu : Nat × Nat} {Q : Res → Mem → Prop} {σ : Mem} {x0 x2 : Option Value} {u : Int32} : X z 149 8 [x0, some (.int u), x2] (st) cu σ Q = (X z 149 9 [x0, some (.int u), x2] (.int u :: st) cu σ Q) := by
  rw [x149_8]
  rfl
theorem u149_9 {z : P0} {ls : Lcs} {st : List Value} {K : Nat → Nat × Nat} {I : Nat → Nat → Int32} {R : Nat → Nat → Option Nat} {L : Nat → Nat → Int64} {sz : Nat} {ex : Bool} {Q : Res → Mem → Prop} {x : Nat} {a0 : Int32} : X z 149 9 ls (.int a0 :: .ref x :: st) (0, 0) (K, I, R, L, sz, ex) Q = ((K x).1 = 111 ∧ wsum st ≤ 8 ∧ X z 148 0 [some (.ref x), some (.int a0), none] [] (0, 0) (K, I, R, L, sz, ex) (aftr (X z) mT 149 9 ls st (0, 0) Q)) := v149_9 (c := 0) (n := 0)
theorem v149_12 {z : P0} {cu : Nat × Nat} {Q : Res → Mem → Prop} {σ : Mem} {x0 x1 x2 : Option Value} {v : Int32} : X z 149 12 [x0, x1, x2] ([.int v]) cu σ Q = ((v = nI 0 ∨ v = nI 1) ∧ Q (.inl (some (.int v))) σ) := by
  rw [x149_12]
  rw [nI_0, one1]
  rfl
theorem v149_13 {z : P0} {st : List Value} {cu : Nat × Nat} {Q : Res → Mem → Prop} {σ : Mem} {x0 x2 : Option Value} {u : Int32} : X z 149 13 [x0, some (.int u), x2] (st) cu σ Q = (X z 149 14 [x0, some (.int u), x2] (.int u :: st) cu σ Q) := by
  rw [x149_13]
  rfl
theorem v149_14 {z : P0} {st : List Value} {cu : Nat × Nat} {Q : Res → Mem → Prop} {σ : Mem} {x0 x1 x2 : Option Value} : X z 149 14 [x0, x1, x2] (st) cu σ Q = (X z 149 16 [x0, x1, x2] (.int (nI 60) :: st) cu σ Q) := by
  rw [x149_14]
  rfl
theorem v149_16 {z : P0} {st : List Value} {cu : Nat × Nat} {Q : Res → Mem → Prop} {σ : Mem} {x0 x1 x2 : Option Value} {u v : Int32} : X z 149 16 [x0, x1, x2] (.int v :: .int u :: st) cu σ Q = (if u = v then X z 149 19 [x0, x1, x2] (st) cu σ Q else X z 149 26 [x0, x1, x2] (st) cu σ Q) := by
  rw [x149_16]
  obtain ⟨K, I, R, L, sz, ex⟩ := σ
  exact br_ne
theorem v149_19 {z : P0} {st : List Value} {cu : Nat × Nat} {Q : Res → Mem → Prop} {σ : Mem} {x1 x2 : Option Value} {u : Nat} : X z 149 19 [some (.ref u), x1, x2] (st) cu σ Q = (X z 149 20 [some (.ref u), x1, x2] (.ref u :: st) cu σ Q) := by
  rw [x149_19]
  rfl
theorem v149_20 {z : P0} {st : List Value} {cu : Nat × Nat} {Q : Res → Mem → Prop} {σ : Mem} {x0 x1 x2 : Option Value} : X z 149 20 [x0, x1, x2] (st) cu σ Q = (X z 149 21 [x0, x1, x2] (.int (nI 1) :: st) cu σ Q) := by
  rw [x149_20]
  rfl
theorem v149_21 {z : P0} {st : List Value} {cu : Nat × Nat} {Q : Res → Mem → Prop} {K : Nat → Nat × Nat} {I : Nat → Nat → Int32} {R : Nat → Nat → Option Nat} {L : Nat → Nat → Int64} {sz : Nat} {ex : Bool} {x0 x1 x2 : Option Value} {u : Nat} {v : Int32} : X z 149 21 [x0, x1, x2] (.int v :: .ref u :: st) cu (K, I, R, L, sz, ex) Q = ((K u).1 = 111 ∧ X z 149 24 [x0, x1, x2] (st) cu (K, up2 I u 21 v, R, L, sz, ex) Q) := by
  rw [x149_21]
  exact i_putI
theorem v149_24 {z : P0} {st : List Value} {cu : Nat × Nat} {Q : Res → Mem → Prop} {σ : Mem} {x0 x1 x2 : Option Value} : X z 149 24 [x0, x1, x2] (st) cu σ Q = (X z 149 25 [x0, x1, x2] (.int (nI 1) :: st) cu σ Q) := by
  rw [x149_24]
  rfl
theorem v149_25 {z : P0} {cu : Nat × Nat} {Q : Res → Mem → Prop} {σ : Mem} {x0 x1 x2 : Option Value} {v : Int32} : X z 149 25 [x0, x1, x2] ([.int v]) cu σ Q = ((v = nI 0 ∨ v = nI 1) ∧ Q (.inl (some (.int v))) σ) := by
  rw [x149_25]
  rw [nI_0, one1]
  rfl
theorem v149_26 {z : P0} {st : List Value} {cu : Nat × Nat} {Q : Res → Mem → Prop} {σ : Mem} {x0 x2 : Option Value} {u : Int32} : X z 149 26 [x0, some (.int u), x2] (st) cu σ Q = (X z 149 27 [x0, some (.int u), x2] (.int u :: st) cu σ Q) := by
  rw [x149_26]
  rfl
theorem v149_27 {z : P0} {st : List Value} {cu : Nat × Nat} {Q : Res → Mem → Prop} {σ : Mem} {x0 x1 x2 : Option Value} : X z 149 27 [x0, x1, x2] (st) cu σ Q = (X z 149 29 [x0, x1, x2] (.int (nI 123) :: st) cu σ Q) := by
  rw [x149_27]
  rfl
theorem v149_29 {z : P0} {st : List Value} {cu : Nat × Nat} {Q : Res → Mem → Prop} {σ : Mem} {x0 x1 x2 : Option Value} {u v : Int32} : X z 149 29 [x0, x1, x2] (.int v :: .int u :: st) cu σ Q = (if u = v then X z 149 38 [x0, x1, x2] (st) cu σ Q else X z 149 32 [x0, x1, x2] (st) cu σ Q) := by
  rw [x149_29]
  obtain ⟨K, I, R, L, sz, ex⟩ := σ
  exact br_ite
theorem v149_32 {z : P0} {st : List Value} {cu : Nat × Nat} {Q : Res → Mem → Prop} {σ : Mem} {x0 x2 : Option Value} {u : Int32} : X z 149 32 [x0, some (.int u), x2] (st) cu σ Q = (X z 149 33 [x0, some (.int u), x2] (.int u :: st) cu σ Q) := by
  rw [x149_32]
  rfl
theorem v149_33 {z : P0} {st : List Value} {cu : Nat × Nat} {Q : Res → Mem → Prop} {σ : Mem} {x0 x1 x2 : Option Value} : X z 149 33 [x0, x1, x2] (st) cu σ Q = (X z 149 35 [x0, x1, x2] (.int (nI 125) :: st) cu σ Q) := by
  rw [x149_33]
  rfl
theorem v149_35 {z : P0} {st : List Value} {cu : Nat × Nat} {Q : Res → Mem → Prop} {σ : Mem} {x0 x1 x2 : Option Value} {u v : Int32} : X z 149 35 [x0, x1, x2] (.int v :: .int u :: st) cu σ Q = (if u = v then X z 149 38 [x0, x1, x2] (st) cu σ Q else X z 149 111 [x0, x1, x2] (st) cu σ Q) := by
  rw [x149_35]
  obtain ⟨K, I, R, L, sz, ex⟩ := σ
  exact br_ne
theorem v149_38 {z : P0} {st : List Value} {cu : Nat × Nat} {Q : Res → Mem → Prop} {σ : Mem} {x0 x2 : Option Value} {u : Int32} : X z 149 38 [x0, some (.int u), x2] (st) cu σ Q = (X z 149 39 [x0, some (.int u), x2] (.int u :: st) cu σ Q) := by
  rw [x149_38]
  rfl
theorem v149_39 {z : P0} {st : List Value} {cu : Nat × Nat} {Q : Res → Mem → Prop} {σ : Mem} {x0 x1 x2 : Option Value} : X z 149 39 [x0, x1, x2] (st) cu σ Q = (X z 149 41 [x0, x1, x2] (.int (nI 123) :: st) cu σ Q) := by
  rw [x149_39]
  rfl
theorem v149_41 {z : P0} {st : List Value} {cu : Nat × Nat} {Q : Res → Mem → Prop} {σ : Mem} {x0 x1 x2 : Option Value} {u v : Int32} : X z 149 41 [x0, x1, x2] (.int v :: .int u :: st) cu σ Q = (if u = v then X z 149 44 [x0, x1, x2] (st) cu σ Q else X z 149 59 [x0, x1, x2] (st) cu σ Q) := by
  rw [x149_41]
  obtain ⟨K, I, R, L, sz, ex⟩ := σ
  exact br_ne
theorem v149_44 {z : P0} {st : List Value} {cu : Nat × Nat} {Q : Res → Mem → Prop} {σ : Mem} {x1 x2 : Option Value} {u : Nat} : X z 149 44 [some (.ref u), x1, x2] (st) cu σ Q = (X z 149 45 [some (.ref u), x1, x2] (.ref u :: st) cu σ Q) := by
  rw [x149_44]
  rfl
theorem v149_45 {z : P0} {st : List Value} {cu : Nat × Nat} {Q : Res → Mem → Prop} {K : Nat → Nat × Nat} {I : Nat → Nat → Int32} {R : Nat → Nat → Option Nat} {L : Nat → Nat → Int64} {sz : Nat} {ex : Bool} {x0 x1 x2 : Option Value} {u : Nat} : X z 149 45 [x0, x1, x2] (.ref u :: st) cu (K, I, R, L, sz, ex) Q = ((K u).1 = 111 ∧ X z 149 48 [x0, x1, x2] (.int (I u 20) :: st) cu (K, I, R, L, sz, ex) Q) := by
  rw [x149_45]
  rfl
theorem v149_48 {z : P0} {st : List Value} {cu : Nat × Nat} {Q : Res → Mem → Prop} {σ : Mem} {x0 x1 x2 : Option Value} {u : Int32} : X z 149 48 [x0, x1, x2] (.int u :: st) cu σ Q = (if u = nI 0 then X z 149 51 [x0, x1, x2] (st) cu σ Q else X z 149 55 [x0, x1, x2] (st) cu σ Q) := by
  rw [x149_48]
  rw [nI_0]
  obtain ⟨K, I, R, L, sz, ex⟩ := σ
  exact br_ne
theorem v149_51 {z : P0} {st : List Value} {cu : Nat × Nat} {Q : Res → Mem → Prop} {σ : Mem} {x0 x1 x2 : Option Value} : X z 149 51 [x0, x1, x2] (st) cu σ Q = (X z 149 52 [x0, x1, x2] (.int (nI 1) :: st) cu σ Q) := by
  rw [x149_51]
  rfl
theorem v149_52 {z : P0} {st : List Value} {cu : Nat × Nat} {Q : Res → Mem → Prop} {σ : Mem} {x0 x1 x2 : Option Value} : X z 149 52 [x0, x1, x2] (st) cu σ Q = (X z 149 78 [x0, x1, x2] (st) cu σ Q) := by
  rw [x149_52]
  rfl
theorem v149_55 {z : P0} {st : List Value} {cu : Nat × Nat} {Q : Res → Mem → Prop} {σ : Mem} {x0 x1 x2 : Option Value} : X z 149 55 [x0, x1, x2] (st) cu σ Q = (X z 149 56 [x0, x1, x2] (.int (nI 0) :: st) cu σ Q) := by
  rw [x149_55]
  rfl
theorem v149_56 {z : P0} {st : List Value} {cu : Nat × Nat} {Q : Res → Mem → Prop} {σ : Mem} {x0 x1 x2 : Option Value} : X z 149 56 [x0, x1, x2] (st) cu σ Q = (X z 149 78 [x0, x1, x2] (st) cu σ Q) := by
  rw [x149_56]
  rfl
theorem v149_59 {z : P0} {st : List Value} {cu : Nat × Nat} {Q : Res → Mem → Prop} {σ : Mem} {x1 x2 : Option Value} {u : Nat} : X z 149 59 [some (.ref u), x1, x2] (st) cu σ Q = (X z 149 60 [some (.ref u), x1, x2] (.ref u :: st) cu σ Q) := by
  rw [x149_59]
  rfl
theorem v149_60 {z : P0} {st : List Value} {cu : Nat × Nat} {Q : Res → Mem → Prop} {K : Nat → Nat × Nat} {I : Nat → Nat → Int32} {R : Nat → Nat → Option Nat} {L : Nat → Nat → Int64} {sz : Nat} {ex : Bool} {x0 x1 x2 : Option Value} {u : Nat} : X z 149 60 [x0, x1, x2] (.ref u :: st) cu (K, I, R, L, sz, ex) Q = ((K u).1 = 111 ∧ X z 149 63 [x0, x1, x2] (.int (I u 20) :: st) cu (K, I, R, L, sz, ex) Q) := by
  rw [x149_60]
  rfl
theorem v149_63 {z : P0} {st : List Value} {cu : Nat × Nat} {Q : Res → Mem → Prop} {σ : Mem} {x0 x1 x2 : Option Value} {u : Int32} : X z 149 63 [x0, x1, x2] (.int u :: st) cu σ Q = (if u = nI 0 then X z 149 77 [x0, x1, x2] (st) cu σ Q else X z 149 66 [x0, x1, x2] (st) cu σ Q) := by
  rw [x149_63]
  rw [nI_0]
  obtain ⟨K, I, R, L, sz, ex⟩ := σ
  exact br_ite
theorem v149_66 {z : P0} {st : List Value} {cu : Nat × Nat} {Q : Res → Mem → Prop} {σ : Mem} {x1 x2 : Option Value} {u : Nat} : X z 149 66 [some (.ref u), x1, x2] (st) cu σ Q = (X z 149 67 [some (.ref u), x1, x2] (.ref u :: st) cu σ Q) := by
  rw [x149_66]
  rfl
theorem v149_67 {z : P0} {st : List Value} {cu : Nat × Nat} {Q : Res → Mem → Prop} {K : Nat → Nat × Nat} {I : Nat → Nat → Int32} {R : Nat → Nat → Option Nat} {L : Nat → Nat → Int64} {sz : Nat} {ex : Bool} {x0 x1 x2 : Option Value} {u : Nat} : X z 149 67 [x0, x1, x2] (.ref u :: st) cu (K, I, R, L, sz, ex) Q = ((K u).1 = 111 ∧ X z 149 70 [x0, x1, x2] (.int (I u 18) :: st) cu (K, I, R, L, sz, ex) Q) := by
  rw [x149_67]
  rfl
theorem v149_70 {z : P0} {st : List Value} {cu : Nat × Nat} {Q : Res → Mem → Prop} {σ : Mem} {x0 x1 x2 : Option Value} {u : Int32} : X z 149 70 [x0, x1, x2] (.int u :: st) cu σ Q = (if nI 0 < u then X z 149 73 [x0, x1, x2] (st) cu σ Q else X z 149 77 [x0, x1, x2] (st) cu σ Q) := by
  rw [x149_70]
  rw [nI_0]
  obtain ⟨K, I, R, L, sz, ex⟩ := σ
  exact br_ge
theorem v149_73 {z : P0} {st : List Value} {cu : Nat × Nat} {Q : Res → Mem → Prop} {σ : Mem} {x0 x1 x2 : Option Value} : X z 149 73 [x0, x1, x2] (st) cu σ Q = (X z 149 74 [x0, x1, x2] (.int (nI 1) :: st) cu σ Q) := by
  rw [x149_73]
  rfl
theorem v149_74 {z : P0} {st : List Value} {cu : Nat × Nat} {Q : Res → Mem → Prop} {σ : Mem} {x0 x1 x2 : Option Value} : X z 149 74 [x0, x1, x2] (st) cu σ Q = (X z 149 78 [x0, x1, x2] (st) cu σ Q) := by
  rw [x149_74]
  rfl
theorem v149_77 {z : P0} {st : List Value} {cu : Nat × Nat} {Q : Res → Mem → Prop} {σ : Mem} {x0 x1 x2 : Option Value} : X z 149 77 [x0, x1, x2] (st) cu σ Q = (X z 149 78 [x0, x1, x2] (.int (nI 0) :: st) cu σ Q) := by
  rw [x149_77]
  rfl
theorem v149_78 {z : P0} {st : List Value} {cu : Nat × Nat} {Q : Res → Mem → Prop} {σ : Mem} {x0 x1 x2 : Option Value} {u : Int32} : X z 149 78 [x0, x1, x2] (.int u :: st) cu σ Q = (cat2 x1 = false ∧ X z 149 79 [x0, x1, some (.int u)] (st) cu σ Q) := by
  rw [x149_78]
  obtain ⟨K, I, R, L, sz, ex⟩ := σ
  exact i_istore_n.trans sl_2
theorem v149_79 {z : P0} {st : List Value} {cu : Nat × Nat} {Q : Res → Mem → Prop} {σ : Mem} {x1 x2 : Option Value} {u : Nat} : X z 149 79 [some (.ref u), x1, x2] (st) cu σ Q = (X z 149 80 [some (.ref u), x1, x2] (.ref u :: st) cu σ Q) := by
  rw [x149_79]
  rfl
theorem v149_80 {z : P0} {st : List Value} {cu : Nat × Nat} {Q : Res → Mem → Prop} {σ : Mem} {x0 x2 : Option Value} {u : Int32} : X z 149 80 [x0, some (.int u), x2] (st) cu σ Q = (X z 149 81 [x0, some (.int u), x2] (.int u :: st) cu σ Q) := by
  rw [x149_80]
  rfl
theorem v149_81 {z : P0} {st : List Value} {cu : Nat × Nat} {Q : Res → Mem → Prop} {σ : Mem} {x0 x1 x2 : Option Value} : X z 149 81 [x0, x1, x2] (st) cu σ Q = (X z 149 83 [x0, x1, x2] (.int (nI 123) :: st) cu σ Q) := by
  rw [x149_81]
  rfl
theorem v149_83 {z : P0} {st : List Value} {cu : Nat × Nat} {Q : Res → Mem → Prop} {σ : Mem} {x0 x1 x2 : Option Value} {u v : Int32} : X z 149 83 [x0, x1, x2] (.int v :: .int u :: st) cu σ Q = (if u = v then X z 149 86 [x0, x1, x2] (st) cu σ Q else X z 149 90 [x0, x1, x2] (st) cu σ Q) := by
  rw [x149_83]
  obtain ⟨K, I, R, L, sz, ex⟩ := σ
  exact br_ne
theorem v149_86 {z : P0} {st : List Value} {cu : Nat × Nat} {Q : Res → Mem → Prop} {σ : Mem} {x0 x1 x2 : Option Value} : X z 149 86 [x0, x1, x2] (st) cu σ Q = (X z 149 87 [x0, x1, x2] (.int (nI 1) :: st) cu σ Q) := by
  rw [x149_86]
  rfl
theorem v149_87 {z : P0} {st : List Value} {cu : Nat × Nat} {Q : Res → Mem → Prop} {σ : Mem} {x0 x1 x2 : Option Value} : X z 149 87 [x0, x1, x2] (st) cu σ Q = (X z 149 91 [x0, x1, x2] (st) cu σ Q) := by
  rw [x149_87]
  rfl
theorem v149_90 {z : P0} {st : List Value} {cu : Nat × Nat} {Q : Res → Mem → Prop} {σ : Mem} {x0 x1 x2 : Option Value} : X z 149 90 [x0, x1, x2] (st) cu σ Q = (X z 149 91 [x0, x1, x2] (.int (nI 0) :: st) cu σ Q) := by
  rw [x149_90]
  rfl
theorem v149_91 {z : P0} {st : List Value} {cu : Nat × Nat} {Q : Res → Mem → Prop} {K : Nat → Nat × Nat} {I : Nat → Nat → Int32} {R : Nat → Nat → Option Nat} {L : Nat → Nat → Int64} {sz : Nat} {ex : Bool} {x0 x1 x2 : Option Value} {u : Nat} {v : Int32} : X z 149 91 [x0, x1, x2] (.int v :: .ref u :: st) cu (K, I, R, L, sz, ex) Q = ((v = nI 0 ∨ v = nI 1) ∧ (K u).1 = 111 ∧ X z 149 94 [x0, x1, x2] (st) cu (K, up2 I u 20 v, R, L, sz, ex) Q) := by
  rw [x149_91]
  rw [nI_0, one1]
  exact i_putZ
theorem v149_94 {z : P0} {st : List Value} {cu : Nat × Nat} {Q : Res → Mem → Prop} {σ : Mem} {x1 x2 : Option Value} {u : Nat} : X z 149 94 [some (.ref u), x1, x2] (st) cu σ Q = (X z 149 95 [some (.ref u), x1, x2] (.ref u :: st) cu σ Q) := by
  rw [x149_94]
  rfl
theorem v149_95 {z : P0} {st : List Value} {cu : Nat × Nat} {Q : Res → Mem → Prop} {σ : Mem} {x0 x2 : Option Value} {u : Int32} : X z 149 95 [x0, some (.int u), x2] (st) cu σ Q = (X z 149 96 [x0, some (.int u), x2] (.int u :: st) cu σ Q) := by
  rw [x149_95]
  rfl
theorem v149_96 {z : P0} {st : List Value} {cu : Nat × Nat} {Q : Res → Mem → Prop} {σ : Mem} {x0 x1 x2 : Option Value} : X z 149 96 [x0, x1, x2] (st) cu σ Q = (X z 149 98 [x0, x1, x2] (.int (nI 123) :: st) cu σ Q) := by
  rw [x149_96]
  rfl
theorem v149_98 {z : P0} {st : List Value} {cu : Nat × Nat} {Q : Res → Mem → Prop} {σ : Mem} {x0 x1 x2 : Option Value} {u v : Int32} : X z 149 98 [x0, x1, x2] (.int v :: .int u :: st) cu σ Q = (if u = v then X z 149 101 [x0, x1, x2] (st) cu σ Q else X z 149 105 [x0, x1, x2] (st) cu σ Q) := by
  rw [x149_98]
  obtain ⟨K, I, R, L, sz, ex⟩ := σ
  exact br_ne
theorem v149_101 {z : P0} {st : List Value} {cu : Nat × Nat} {Q : Res → Mem → Prop} {σ : Mem} {x0 x1 x2 : Option Value} : X z 149 101 [x0, x1, x2] (st) cu σ Q = (X z 149 102 [x0, x1, x2] (.int (nI 0) :: st) cu σ Q) := by
  rw [x149_101]
  rfl
theorem v149_102 {z : P0} {st : List Value} {cu : Nat × Nat} {Q : Res → Mem → Prop} {σ : Mem} {x0 x1 x2 : Option Value} : X z 149 102 [x0, x1, x2] (st) cu σ Q = (X z 149 106 [x0, x1, x2] (st) cu σ Q) := by
  rw [x149_102]
  rfl
theorem v149_105 {z : P0} {st : List Value} {cu : Nat × Nat} {Q : Res → Mem → Prop} {σ : Mem} {x0 x1 x2 : Option Value} : X z 149 105 [x0, x1, x2] (st) cu σ Q = (X z 149 106 [x0, x1, x2] (.int (nI 1) :: st) cu σ Q) := by
  rw [x149_105]
  rfl
theorem v149_106 {z : P0} {st : List Value} {cu : Nat × Nat} {Q : Res → Mem → Prop} {K : Nat → Nat × Nat} {I : Nat → Nat → Int32} {R : Nat → Nat → Option Nat} {L : Nat → Nat → Int64} {sz : Nat} {ex : Bool} {x0 x1 x2 : Option Value} {u : Nat} {v : Int32} : X z 149 106 [x0, x1, x2] (.int v :: .ref u :: st) cu (K, I, R, L, sz, ex) Q = ((K u).1 = 111 ∧ X z 149 109 [x0, x1, x2] (st) cu (K, up2 I u 18 v, R, L, sz, ex) Q) := by
  rw [x149_106]
  exact i_putI
theorem v149_109 {z : P0} {st : List Value} {cu : Nat × Nat} {Q : Res → Mem → Prop} {σ : Mem} {x0 x1 : Option Value} {u : Int32} : X z 149 109 [x0, x1, some (.int u)] (st) cu σ Q = (X z 149 110 [x0, x1, some (.int u)] (.int u :: st) cu σ Q) := by
  rw [x149_109]
  rfl
theorem v149_110 {z : P0} {cu : Nat × Nat} {Q : Res → Mem → Prop} {σ : Mem} {x0 x1 x2 : Option Value} {v : Int32} : X z 149 110 [x0, x1, x2] ([.int v]) cu σ Q = ((v = nI 0 ∨ v = nI 1) ∧ Q (.inl (some (.int v))) σ) := by
  rw [x149_110]
  rw [nI_0, one1]
  rfl
theorem v149_111 {z : P0} {st : List Value} {cu : Nat × Nat} {Q : Res → Mem → Prop} {σ : Mem} {x1 x2 : Option Value} {u : Nat} : X z 149 111 [some (.ref u), x1, x2] (st) cu σ Q = (X z 149 112 [some (.ref u), x1, x2] (.ref u :: st) cu σ Q) := by
  rw [x149_111]
  rfl
theorem v149_112 {z : P0} {st : List Value} {cu : Nat × Nat} {Q : Res → Mem → Prop} {σ : Mem} {x0 x1 x2 : Option Value} {u : Nat} : X z 149 112 [x0, x1, x2] (.ref u :: st) cu σ Q = (X z 149 113 [x0, x1, x2] (.ref u :: .ref u :: st) cu σ Q) := by
  rw [x149_112]
  exact propext ⟨fun h => h.2, fun h => ⟨rfl, h⟩⟩
theorem v149_112i {z : P0} {st : List Value} {cu : Nat × Nat} {Q : Res → Mem → Prop} {σ : Mem} {x0 x1 x2 : Option Value} {u : Int32} : X z 149 112 [x0, x1, x2] (.int u :: st) cu σ Q = (X z 149 113 [x0, x1, x2] (.int u :: .int u :: st) cu σ Q) := by
  rw [x149_112]
  exact propext ⟨fun h => h.2, fun h => ⟨rfl, h⟩⟩
theorem v149_113 {z : P0} {st : List Value} {cu : Nat × Nat} {Q : Res → Mem → Prop} {K : Nat → Nat × Nat} {I : Nat → Nat → Int32} {R : Nat → Nat → Option Nat} {L : Nat → Nat → Int64} {sz : Nat} {ex : Bool} {x0 x1 x2 : Option Value} {u : Nat} : X z 149 113 [x0, x1, x2] (.ref u :: st) cu (K, I, R, L, sz, ex) Q = ((K u).1 = 111 ∧ X z 149 116 [x0, x1, x2] (.int (I u 18) :: st) cu (K, I, R, L, sz, ex) Q) := by
  rw [x149_113]
  rfl
theorem v149_116 {z : P0} {st : List Value} {cu : Nat × Nat} {Q : Res → Mem → Prop} {σ : Mem} {x0 x1 x2 : Option Value} : X z 149 116 [x0, x1, x2] (st) cu σ Q = (X z 149 117 [x0, x1, x2] (.int (nI 1) :: st) cu σ Q) := by
  rw [x149_116]
  rfl
theorem v149_117 {z : P0} {st : List Value} {cu : Nat × Nat} {Q : Res → Mem → Prop} {σ : Mem} {x0 x1 x2 : Option Value} {u v : Int32} : X z 149 117 [x0, x1, x2] (.int v :: .int u :: st) cu σ Q = (X z 149 118 [x0, x1, x2] (.int (u + v) :: st) cu σ Q) := by
  rw [x149_117]
  rfl
theorem v149_118 {z : P0} {st : List Value} {cu : Nat × Nat} {Q : Res → Mem → Prop} {K : Nat → Nat × Nat} {I : Nat → Nat → Int32} {R : Nat → Nat → Option Nat} {L : Nat → Nat → Int64} {sz : Nat} {ex : Bool} {x0 x1 x2 : Option Value} {u : Nat} {v : Int32} : X z 149 118 [x0, x1, x2] (.int v :: .ref u :: st) cu (K, I, R, L, sz, ex) Q = ((K u).1 = 111 ∧ X z 149 121 [x0, x1, x2] (st) cu (K, up2 I u 18 v, R, L, sz, ex) Q) := by
  rw [x149_118]
  exact i_putI
theorem v149_121 {z : P0} {st : List Value} {cu : Nat × Nat} {Q : Res → Mem → Prop} {σ : Mem} {x0 x2 : Option Value} {u : Int32} : X z 149 121 [x0, some (.int u), x2] (st) cu σ Q = (X z 149 122 [x0, some (.int u), x2] (.int u :: st) cu σ Q) := by
  rw [x149_121]
  rfl
theorem v149_122 {z : P0} {st : List Value} {cu : Nat × Nat} {Q : Res → Mem → Prop} {σ : Mem} {x0 x1 x2 : Option Value} : X z 149 122 [x0, x1, x2] (st) cu σ Q = (X z 149 124 [x0, x1, x2] (.int (nI 97) :: st) cu σ Q) := by
  rw [x149_122]
  rfl
theorem v149_124 {z : P0} {st : List Value} {cu : Nat × Nat} {Q : Res → Mem → Prop} {σ : Mem} {x0 x1 x2 : Option Value} : X z 149 124 [x0, x1, x2] (st) cu σ Q = (X z 149 126 [x0, x1, x2] (.int (nI 122) :: st) cu σ Q) := by
  rw [x149_124]
  rfl
theorem u149_126 {z : P0} {ls : Lcs} {st : List Value} {K : Nat → Nat × Nat} {I : Nat → Nat → Int32} {R : Nat → Nat → Option Nat} {L : Nat → Nat → Int64} {sz : Nat} {ex : Bool} {Q : Res → Mem → Prop} {a0 : Int32} {a1 : Int32} {a2 : Int32} : X z 149 126 ls (.int a2 :: .int a1 :: .int a0 :: st) (0, 0) (K, I, R, L, sz, ex) Q = (wsum st ≤ 8 ∧ X z 106 0 [some (.int a0), some (.int a1), some (.int a2)] [] (0, 0) (K, I, R, L, sz, ex) (aftr (X z) mT 149 126 ls st (0, 0) Q)) := v149_126 (c := 0) (n := 0)
theorem v149_129 {z : P0} {st : List Value} {cu : Nat × Nat} {Q : Res → Mem → Prop} {σ : Mem} {x0 x1 x2 : Option Value} {u : Int32} : X z 149 129 [x0, x1, x2] (.int u :: st) cu σ Q = (if u = nI 0 then X z 149 132 [x0, x1, x2] (st) cu σ Q else X z 149 162 [x0, x1, x2] (st) cu σ Q) := by
  rw [x149_129]
  rw [nI_0]
  obtain ⟨K, I, R, L, sz, ex⟩ := σ
  exact br_ne
theorem v149_132 {z : P0} {st : List Value} {cu : Nat × Nat} {Q : Res → Mem → Prop} {σ : Mem} {x0 x2 : Option Value} {u : Int32} : X z 149 132 [x0, some (.int u), x2] (st) cu σ Q = (X z 149 133 [x0, some (.int u), x2] (.int u :: st) cu σ Q) := by
  rw [x149_132]
  rfl
theorem v149_133 {z : P0} {st : List Value} {cu : Nat × Nat} {Q : Res → Mem → Prop} {σ : Mem} {x0 x1 x2 : Option Value} : X z 149 133 [x0, x1, x2] (st) cu σ Q = (X z 149 135 [x0, x1, x2] (.int (nI 95) :: st) cu σ Q) := by
  rw [x149_133]
  rfl
theorem v149_135 {z : P0} {st : List Value} {cu : Nat × Nat} {Q : Res → Mem → Prop} {σ : Mem} {x0 x1 x2 : Option Value} {u v : Int32} : X z 149 135 [x0, x1, x2] (.int v :: .int u :: st) cu σ Q = (if u = v then X z 149 162 [x0, x1, x2] (st) cu σ Q else X z 149 138 [x0, x1, x2] (st) cu σ Q) := by
  rw [x149_135]
  obtain ⟨K, I, R, L, sz, ex⟩ := σ
  exact br_ite
theorem v149_138 {z : P0} {st : List Value} {cu : Nat × Nat} {Q : Res → Mem → Prop} {σ : Mem} {x0 x2 : Option Value} {u : Int32} : X z 149 138 [x0, some (.int u), x2] (st) cu σ Q = (X z 149 139 [x0, some (.int u), x2] (.int u :: st) cu σ Q) := by
  rw [x149_138]
  rfl
theorem v149_139 {z : P0} {st : List Value} {cu : Nat × Nat} {Q : Res → Mem → Prop} {σ : Mem} {x0 x1 x2 : Option Value} : X z 149 139 [x0, x1, x2] (st) cu σ Q = (X z 149 141 [x0, x1, x2] (.int (nI 44) :: st) cu σ Q) := by
  rw [x149_139]
  rfl
theorem v149_141 {z : P0} {st : List Value} {cu : Nat × Nat} {Q : Res → Mem → Prop} {σ : Mem} {x0 x1 x2 : Option Value} {u v : Int32} : X z 149 141 [x0, x1, x2] (.int v :: .int u :: st) cu σ Q = (if u = v then X z 149 162 [x0, x1, x2] (st) cu σ Q else X z 149 144 [x0, x1, x2] (st) cu σ Q) := by
  rw [x149_141]
  obtain ⟨K, I, R, L, sz, ex⟩ := σ
  exact br_ite
theorem v149_144 {z : P0} {st : List Value} {cu : Nat × Nat} {Q : Res → Mem → Prop} {σ : Mem} {x0 x2 : Option Value} {u : Int32} : X z 149 144 [x0, some (.int u), x2] (st) cu σ Q = (X z 149 145 [x0, some (.int u), x2] (.int u :: st) cu σ Q) := by
  rw [x149_144]
  rfl
theorem v149_145 {z : P0} {st : List Value} {cu : Nat × Nat} {Q : Res → Mem → Prop} {σ : Mem} {x0 x1 x2 : Option Value} : X z 149 145 [x0, x1, x2] (st) cu σ Q = (X z 149 147 [x0, x1, x2] (.int (nI 46) :: st) cu σ Q) := by
  rw [x149_145]
  rfl
theorem v149_147 {z : P0} {st : List Value} {cu : Nat × Nat} {Q : Res → Mem → Prop} {σ : Mem} {x0 x1 x2 : Option Value} {u v : Int32} : X z 149 147 [x0, x1, x2] (.int v :: .int u :: st) cu σ Q = (if u = v then X z 149 162 [x0, x1, x2] (st) cu σ Q else X z 149 150 [x0, x1, x2] (st) cu σ Q) := by
  rw [x149_147]
  obtain ⟨K, I, R, L, sz, ex⟩ := σ
  exact br_ite
theorem v149_150 {z : P0} {st : List Value} {cu : Nat × Nat} {Q : Res → Mem → Prop} {σ : Mem} {x0 x2 : Option Value} {u : Int32} : X z 149 150 [x0, some (.int u), x2] (st) cu σ Q = (X z 149 151 [x0, some (.int u), x2] (.int u :: st) cu σ Q) := by
  rw [x149_150]
  rfl
theorem v149_151 {z : P0} {st : List Value} {cu : Nat × Nat} {Q : Res → Mem → Prop} {σ : Mem} {x0 x1 x2 : Option Value} : X z 149 151 [x0, x1, x2] (st) cu σ Q = (X z 149 153 [x0, x1, x2] (.int (nI 47) :: st) cu σ Q) := by
  rw [x149_151]
  rfl
theorem v149_153 {z : P0} {st : List Value} {cu : Nat × Nat} {Q : Res → Mem → Prop} {σ : Mem} {x0 x1 x2 : Option Value} {u v : Int32} : X z 149 153 [x0, x1, x2] (.int v :: .int u :: st) cu σ Q = (if u = v then X z 149 162 [x0, x1, x2] (st) cu σ Q else X z 149 156 [x0, x1, x2] (st) cu σ Q) := by
  rw [x149_153]
  obtain ⟨K, I, R, L, sz, ex⟩ := σ
  exact br_ite
theorem v149_156 {z : P0} {st : List Value} {cu : Nat × Nat} {Q : Res → Mem → Prop} {σ : Mem} {x0 x2 : Option Value} {u : Int32} : X z 149 156 [x0, some (.int u), x2] (st) cu σ Q = (X z 149 157 [x0, some (.int u), x2] (.int u :: st) cu σ Q) := by
  rw [x149_156]
  rfl
theorem v149_157 {z : P0} {st : List Value} {cu : Nat × Nat} {Q : Res → Mem → Prop} {σ : Mem} {x0 x1 x2 : Option Value} : X z 149 157 [x0, x1, x2] (st) cu σ Q = (X z 149 159 [x0, x1, x2] (.int (nI 124) :: st) cu σ Q) := by
  rw [x149_157]
  rfl
theorem v149_159 {z : P0} {st : List Value} {cu : Nat × Nat} {Q : Res → Mem → Prop} {σ : Mem} {x0 x1 x2 : Option Value} {u v : Int32} : X z 149 159 [x0, x1, x2] (.int v :: .int u :: st) cu σ Q = (if u = v then X z 149 162 [x0, x1, x2] (st) cu σ Q else X z 149 166 [x0, x1, x2] (st) cu σ Q) := by
  rw [x149_159]
  obtain ⟨K, I, R, L, sz, ex⟩ := σ
  exact br_ne
theorem v149_162 {z : P0} {st : List Value} {cu : Nat × Nat} {Q : Res → Mem → Prop} {σ : Mem} {x0 x1 x2 : Option Value} : X z 149 162 [x0, x1, x2] (st) cu σ Q = (X z 149 163 [x0, x1, x2] (.int (nI 1) :: st) cu σ Q) := by
  rw [x149_162]
  rfl
theorem v149_163 {z : P0} {st : List Value} {cu : Nat × Nat} {Q : Res → Mem → Prop} {σ : Mem} {x0 x1 x2 : Option Value} : X z 149 163 [x0, x1, x2] (st) cu σ Q = (X z 149 167 [x0, x1, x2] (st) cu σ Q) := by
  rw [x149_163]
  rfl
theorem v149_166 {z : P0} {st : List Value} {cu : Nat × Nat} {Q : Res → Mem → Prop} {σ : Mem} {x0 x1 x2 : Option Value} : X z 149 166 [x0, x1, x2] (st) cu σ Q = (X z 149 167 [x0, x1, x2] (.int (nI 0) :: st) cu σ Q) := by
  rw [x149_166]
  rfl
theorem v149_167 {z : P0} {cu : Nat × Nat} {Q : Res → Mem → Prop} {σ : Mem} {x0 x1 x2 : Option Value} {v : Int32} : X z 149 167 [x0, x1, x2] ([.int v]) cu σ Q = ((v = nI 0 ∨ v = nI 1) ∧ Q (.inl (some (.int v))) σ) := by
  rw [x149_167]
  rw [nI_0, one1]
  rfl
theorem v150_0 {z : P0} {st : List Value} {cu : Nat × Nat} {Q : Res → Mem → Prop} {σ : Mem} {x1 x2 : Option Value} {u : Nat} : X z 150 0 [some (.ref u), x1, x2] (st) cu σ Q = (X z 150 1 [some (.ref u), x1, x2] (.ref u :: st) cu σ Q) := by
  rw [x150_0]
  rfl
theorem v150_1 {z : P0} {st : List Value} {cu : Nat × Nat} {Q : Res → Mem → Prop} {σ : Mem} {x0 x1 x2 : Option Value} : X z 150 1 [x0, x1, x2] (st) cu σ Q = (X z 150 2 [x0, x1, x2] (.int (nI 0) :: st) cu σ Q) := by
  rw [x150_1]
  rfl
theorem v150_2 {z : P0} {st : List Value} {cu : Nat × Nat} {Q : Res → Mem → Prop} {K : Nat → Nat × Nat} {I : Nat → Nat → Int32} {R : Nat → Nat → Option Nat} {L : Nat → Nat → Int64} {sz : Nat} {ex : Bool} {x0 x1 x2 : Option Value} {u : Nat} {v : Int32} : X z 150 2 [x0, x1, x2] (.int v :: .ref u :: st) cu (K, I, R, L, sz, ex) Q = ((K u).1 = 111 ∧ X z 150 5 [x0, x1, x2] (st) cu (K, up2 I u 18 v, R, L, sz, ex) Q) := by
  rw [x150_2]
  exact i_putI
theorem v150_5 {z : P0} {st : List Value} {cu : Nat × Nat} {Q : Res → Mem → Prop} {σ : Mem} {x1 x2 : Option Value} {u : Nat} : X z 150 5 [some (.ref u), x1, x2] (st) cu σ Q = (X z 150 6 [some (.ref u), x1, x2] (.ref u :: st) cu σ Q) := by
  rw [x150_5]
  rfl
theorem v150_6 {z : P0} {st : List Value} {cu : Nat × Nat} {Q : Res → Mem → Prop} {σ : Mem} {x0 x1 x2 : Option Value} : X z 150 6 [x0, x1, x2] (st) cu σ Q = (X z 150 7 [x0, x1, x2] (.int (nI 0) :: st) cu σ Q) := by
  rw [x150_6]
  rfl
theorem v150_7 {z : P0} {st : List Value} {cu : Nat × Nat} {Q : Res → Mem → Prop} {K : Nat → Nat × Nat} {I : Nat → Nat → Int32} {R : Nat → Nat → Option Nat} {L : Nat → Nat → Int64} {sz : Nat} {ex : Bool} {x0 x1 x2 : Option Value} {u : Nat} {v : Int32} : X z 150 7 [x0, x1, x2] (.int v :: .ref u :: st) cu (K, I, R, L, sz, ex) Q = ((v = nI 0 ∨ v = nI 1) ∧ (K u).1 = 111 ∧ X z 150 10 [x0, x1, x2] (st) cu (K, up2 I u 19 v, R, L, sz, ex) Q) := by
  rw [x150_7]
  rw [nI_0, one1]
  exact i_putZ
theorem v150_10 {z : P0} {st : List Value} {cu : Nat × Nat} {Q : Res → Mem → Prop} {σ : Mem} {x1 x2 : Option Value} {u : Nat} : X z 150 10 [some (.ref u), x1, x2] (st) cu σ Q = (X z 150 11 [some (.ref u), x1, x2] (.ref u :: st) cu σ Q) := by
  rw [x150_10]
  rfl
theorem v150_11 {z : P0} {st : List Value} {cu : Nat × Nat} {Q : Res → Mem → Prop} {σ : Mem} {x0 x1 x2 : Option Value} : X z 150 11 [x0, x1, x2] (st) cu σ Q = (X z 150 12 [x0, x1, x2] (.int (nI 0) :: st) cu σ Q) := by
  rw [x150_11]
  rfl
theorem v150_12 {z : P0} {st : List Value} {cu : Nat × Nat} {Q : Res → Mem → Prop} {K : Nat → Nat × Nat} {I : Nat → Nat → Int32} {R : Nat → Nat → Option Nat} {L : Nat → Nat → Int64} {sz : Nat} {ex : Bool} {x0 x1 x2 : Option Value} {u : Nat} {v : Int32} : X z 150 12 [x0, x1, x2] (.int v :: .ref u :: st) cu (K, I, R, L, sz, ex) Q = ((v = nI 0 ∨ v = nI 1) ∧ (K u).1 = 111 ∧ X z 150 15 [x0, x1, x2] (st) cu (K, up2 I u 20 v, R, L, sz, ex) Q) := by
  rw [x150_12]
  rw [nI_0, one1]
  exact i_putZ
theorem v150_15 {z : P0} {st : List Value} {cu : Nat × Nat} {Q : Res → Mem → Prop} {σ : Mem} {x1 x2 : Option Value} {u : Nat} : X z 150 15 [some (.ref u), x1, x2] (st) cu σ Q = (X z 150 16 [some (.ref u), x1, x2] (.ref u :: st) cu σ Q) := by
  rw [x150_15]
  rfl
theorem v150_16 {z : P0} {st : List Value} {cu : Nat × Nat} {Q : Res → Mem → Prop} {σ : Mem} {x0 x1 x2 : Option Value} : X z 150 16 [x0, x1, x2] (st) cu σ Q = (X z 150 17 [x0, x1, x2] (.int (nI 0) :: st) cu σ Q) := by
  rw [x150_16]
  rfl
theorem v150_17 {z : P0} {st : List Value} {cu : Nat × Nat} {Q : Res → Mem → Prop} {K : Nat → Nat × Nat} {I : Nat → Nat → Int32} {R : Nat → Nat → Option Nat} {L : Nat → Nat → Int64} {sz : Nat} {ex : Bool} {x0 x1 x2 : Option Value} {u : Nat} {v : Int32} : X z 150 17 [x0, x1, x2] (.int v :: .ref u :: st) cu (K, I, R, L, sz, ex) Q = ((K u).1 = 111 ∧ X z 150 20 [x0, x1, x2] (st) cu (K, up2 I u 21 v, R, L, sz, ex) Q) := by
  rw [x150_17]
  exact i_putI
theorem v150_20 {z : P0} {st : List Value} {cu : Nat × Nat} {Q : Res → Mem → Prop} {σ : Mem} {x0 x1 x2 : Option Value} : X z 150 20 [x0, x1, x2] (st) cu σ Q = (X z 150 21 [x0, x1, x2] (.int (nI 0) :: st) cu σ Q) := by
  rw [x150_20]
  rfl
theorem v150_21 {z : P0} {st : List Value} {cu : Nat × Nat} {Q : Res → Mem → Prop} {σ : Mem} {x0 x1 x2 : Option Value} {u : Int32} : X z 150 21 [x0, x1, x2] (.int u :: st) cu σ Q = (cat2 x1 = false ∧ X z 150 22 [x0, x1, some (.int u)] (st) cu σ Q) := by
  rw [x150_21]
  obtain ⟨K, I, R, L, sz, ex⟩ := σ
  exact i_istore_n.trans sl_2
theorem v150_22 {z : P0} {st : List Value} {cu : Nat × Nat} {Q : Res → Mem → Prop} {σ : Mem} {x0 x1 : Option Value} {u : Int32} : X z 150 22 [x0, x1, some (.int u)] (st) cu σ Q = (X z 150 23 [x0, x1, some (.int u)] (.int u :: st) cu σ Q) := by
  rw [x150_22]
  rfl
theorem v150_23 {z : P0} {st : List Value} {cu : Nat × Nat} {Q : Res → Mem → Prop} {σ : Mem} {x1 x2 : Option Value} {u : Nat} : X z 150 23 [some (.ref u), x1, x2] (st) cu σ Q = (X z 150 24 [some (.ref u), x1, x2] (.ref u :: st) cu σ Q) := by
  rw [x150_23]
  rfl
theorem v150_24 {z : P0} {st : List Value} {cu : Nat × Nat} {Q : Res → Mem → Prop} {K : Nat → Nat × Nat} {I : Nat → Nat → Int32} {R : Nat → Nat → Option Nat} {L : Nat → Nat → Int64} {sz : Nat} {ex : Bool} {x0 x1 x2 : Option Value} {u : Nat} : X z 150 24 [x0, x1, x2] (.ref u :: st) cu (K, I, R, L, sz, ex) Q = ((K u).1 = 111 ∧ X z 150 27 [x0, x1, x2] (.int (I u 3) :: st) cu (K, I, R, L, sz, ex) Q) := by
  rw [x150_24]
  rfl
theorem v150_27 {z : P0} {st : List Value} {cu : Nat × Nat} {Q : Res → Mem → Prop} {σ : Mem} {x0 x1 x2 : Option Value} {u v : Int32} : X z 150 27 [x0, x1, x2] (.int v :: .int u :: st) cu σ Q = (if u < v then X z 150 30 [x0, x1, x2] (st) cu σ Q else X z 150 71 [x0, x1, x2] (st) cu σ Q) := by
  rw [x150_27]
  obtain ⟨K, I, R, L, sz, ex⟩ := σ
  exact br_ge
theorem v150_30 {z : P0} {st : List Value} {cu : Nat × Nat} {Q : Res → Mem → Prop} {σ : Mem} {x0 x2 : Option Value} {u : Int32} : X z 150 30 [x0, some (.int u), x2] (st) cu σ Q = (X z 150 31 [x0, some (.int u), x2] (.int u :: st) cu σ Q) := by
  rw [x150_30]
  rfl
theorem v150_31 {z : P0} {st : List Value} {cu : Nat × Nat} {Q : Res → Mem → Prop} {σ : Mem} {x0 x1 x2 : Option Value} : X z 150 31 [x0, x1, x2] (st) cu σ Q = (X z 150 32 [x0, x1, x2] (.int (nI 2) :: st) cu σ Q) := by
  rw [x150_31]
  rfl
theorem v150_32 {z : P0} {st : List Value} {cu : Nat × Nat} {Q : Res → Mem → Prop} {σ : Mem} {x0 x1 x2 : Option Value} {u v : Int32} : X z 150 32 [x0, x1, x2] (.int v :: .int u :: st) cu σ Q = (if u = v then X z 150 35 [x0, x1, x2] (st) cu σ Q else X z 150 51 [x0, x1, x2] (st) cu σ Q) := by
  rw [x150_32]
  obtain ⟨K, I, R, L, sz, ex⟩ := σ
  exact br_ne
theorem v150_35 {z : P0} {st : List Value} {cu : Nat × Nat} {Q : Res → Mem → Prop} {σ : Mem} {x1 x2 : Option Value} {u : Nat} : X z 150 35 [some (.ref u), x1, x2] (st) cu σ Q = (X z 150 36 [some (.ref u), x1, x2] (.ref u :: st) cu σ Q) := by
  rw [x150_35]
  rfl
theorem v150_36 {z : P0} {st : List Value} {cu : Nat × Nat} {Q : Res → Mem → Prop} {σ : Mem} {x1 x2 : Option Value} {u : Nat} : X z 150 36 [some (.ref u), x1, x2] (st) cu σ Q = (X z 150 37 [some (.ref u), x1, x2] (.ref u :: st) cu σ Q) := by
  rw [x150_36]
  rfl
theorem v150_37 {z : P0} {st : List Value} {cu : Nat × Nat} {Q : Res → Mem → Prop} {K : Nat → Nat × Nat} {I : Nat → Nat → Int32} {R : Nat → Nat → Option Nat} {L : Nat → Nat → Int64} {sz : Nat} {ex : Bool} {x0 x1 x2 : Option Value} {u : Nat} : X z 150 37 [x0, x1, x2] (.ref u :: st) cu (K, I, R, L, sz, ex) Q = ((K u).1 = 111 ∧ X z 150 40 [x0, x1, x2] (va_rf (R u 4) :: st) cu (K, I, R, L, sz, ex) Q) := by
  rw [x150_37]
  rfl
theorem v150_40 {z : P0} {st : List Value} {cu : Nat × Nat} {Q : Res → Mem → Prop} {σ : Mem} {x0 x1 : Option Value} {u : Int32} : X z 150 40 [x0, x1, some (.int u)] (st) cu σ Q = (X z 150 41 [x0, x1, some (.int u)] (.int u :: st) cu σ Q) := by
  rw [x150_40]
  rfl
theorem v150_41 {z : P0} {st : List Value} {cu : Nat × Nat} {Q : Res → Mem → Prop} {K : Nat → Nat × Nat} {I : Nat → Nat → Int32} {R : Nat → Nat → Option Nat} {L : Nat → Nat → Int64} {sz : Nat} {ex : Bool} {x0 x1 x2 : Option Value} {u : Nat} {v : Int32} : X z 150 41 [x0, x1, x2] (.int v :: .ref u :: st) cu (K, I, R, L, sz, ex) Q = (((K u).1 = 20 ∨ (K u).1 = 50) ∧ vp_in v (K u).2 ∧ X z 150 42 [x0, x1, x2] (.int (I u v.toNatClampNeg) :: st) cu (K, I, R, L, sz, ex) Q) := by
  rw [x150_41]
  rfl
theorem u150_42 {z : P0} {ls : Lcs} {st : List Value} {K : Nat → Nat × Nat} {I : Nat → Nat → Int32} {R : Nat → Nat → Option Nat} {L : Nat → Nat → Int64} {sz : Nat} {ex : Bool} {Q : Res → Mem → Prop} {x : Nat} {a0 : Int32} : X z 150 42 ls (.int a0 :: .ref x :: st) (0, 0) (K, I, R, L, sz, ex) Q = ((K x).1 = 111 ∧ wsum st ≤ 8 ∧ X z 149 0 [some (.ref x), some (.int a0), none] [] (0, 0) (K, I, R, L, sz, ex) (aftr (X z) mT 150 42 ls st (0, 0) Q)) := v150_42 (c := 0) (n := 0)
theorem v150_45 {z : P0} {st : List Value} {cu : Nat × Nat} {Q : Res → Mem → Prop} {σ : Mem} {x0 x1 x2 : Option Value} {u : Int32} : X z 150 45 [x0, x1, x2] (.int u :: st) cu σ Q = (if u = nI 0 then X z 150 71 [x0, x1, x2] (st) cu σ Q else X z 150 48 [x0, x1, x2] (st) cu σ Q) := by
  rw [x150_45]
  rw [nI_0]
  obtain ⟨K, I, R, L, sz, ex⟩ := σ
  exact br_ite
theorem v150_48 {z : P0} {st : List Value} {cu : Nat × Nat} {Q : Res → Mem → Prop} {σ : Mem} {x0 x1 x2 : Option Value} : X z 150 48 [x0, x1, x2] (st) cu σ Q = (X z 150 65 [x0, x1, x2] (st) cu σ Q) := by
  rw [x150_48]
  rfl
theorem v150_51 {z : P0} {st : List Value} {cu : Nat × Nat} {Q : Res → Mem → Prop} {σ : Mem} {x1 x2 : Option Value} {u : Nat} : X z 150 51 [some (.ref u), x1, x2] (st) cu σ Q = (X z 150 52 [some (.ref u), x1, x2] (.ref u :: st) cu σ Q) := by
  rw [x150_51]
  rfl
theorem v150_52 {z : P0} {st : List Value} {cu : Nat × Nat} {Q : Res → Mem → Prop} {σ : Mem} {x1 x2 : Option Value} {u : Nat} : X z 150 52 [some (.ref u), x1, x2] (st) cu σ Q = (X z 150 53 [some (.ref u), x1, x2] (.ref u :: st) cu σ Q) := by
  rw [x150_52]
  rfl
theorem v150_53 {z : P0} {st : List Value} {cu : Nat × Nat} {Q : Res → Mem → Prop} {K : Nat → Nat × Nat} {I : Nat → Nat → Int32} {R : Nat → Nat → Option Nat} {L : Nat → Nat → Int64} {sz : Nat} {ex : Bool} {x0 x1 x2 : Option Value} {u : Nat} : X z 150 53 [x0, x1, x2] (.ref u :: st) cu (K, I, R, L, sz, ex) Q = ((K u).1 = 111 ∧ X z 150 56 [x0, x1, x2] (va_rf (R u 4) :: st) cu (K, I, R, L, sz, ex) Q) := by
  rw [x150_53]
  rfl
theorem v150_56 {z : P0} {st : List Value} {cu : Nat × Nat} {Q : Res → Mem → Prop} {σ : Mem} {x0 x1 : Option Value} {u : Int32} : X z 150 56 [x0, x1, some (.int u)] (st) cu σ Q = (X z 150 57 [x0, x1, some (.int u)] (.int u :: st) cu σ Q) := by
  rw [x150_56]
  rfl
theorem v150_57 {z : P0} {st : List Value} {cu : Nat × Nat} {Q : Res → Mem → Prop} {K : Nat → Nat × Nat} {I : Nat → Nat → Int32} {R : Nat → Nat → Option Nat} {L : Nat → Nat → Int64} {sz : Nat} {ex : Bool} {x0 x1 x2 : Option Value} {u : Nat} {v : Int32} : X z 150 57 [x0, x1, x2] (.int v :: .ref u :: st) cu (K, I, R, L, sz, ex) Q = (((K u).1 = 20 ∨ (K u).1 = 50) ∧ vp_in v (K u).2 ∧ X z 150 58 [x0, x1, x2] (.int (I u v.toNatClampNeg) :: st) cu (K, I, R, L, sz, ex) Q) := by
  rw [x150_57]
  rfl
theorem v150_58 {z : P0} {st : List Value} {cu : Nat × Nat} {Q : Res → Mem → Prop} {σ : Mem} {x0 x2 : Option Value} {u : Int32} : X z 150 58 [x0, some (.int u), x2] (st) cu σ Q = (X z 150 59 [x0, some (.int u), x2] (.int u :: st) cu σ Q) := by
  rw [x150_58]
  rfl
theorem u150_59 {z : P0} {ls : Lcs} {st : List Value} {K : Nat → Nat × Nat} {I : Nat → Nat → Int32} {R : Nat → Nat → Option Nat} {L : Nat → Nat → Int64} {sz : Nat} {ex : Bool} {Q : Res → Mem → Prop} {x : Nat} {a0 : Int32} {a1 : Int32} : X z 150 59 ls (.int a1 :: .int a0 :: .ref x :: st) (0, 0) (K, I, R, L, sz, ex) Q = ((K x).1 = 111 ∧ wsum st ≤ 8 ∧ X z 147 0 [some (.ref x), some (.int a0), some (.int a1), none] [] (0, 0) (K, I, R, L, sz, ex) (aftr (X z) mT 150 59 ls st (0, 0) Q)) := v150_59 (c := 0) (n := 0)
theorem v150_62 {z : P0} {st : List Value} {cu : Nat × Nat} {Q : Res → Mem → Prop} {σ : Mem} {x0 x1 x2 : Option Value} {u : Int32} : X z 150 62 [x0, x1, x2] (.int u :: st) cu σ Q = (if u = nI 0 then X z 150 71 [x0, x1, x2] (st) cu σ Q else X z 150 65 [x0, x1, x2] (st) cu σ Q) := by
  rw [x150_62]
  rw [nI_0]
  obtain ⟨K, I, R, L, sz, ex⟩ := σ
  exact br_ite
theorem v150_65 {z : P0} {st : List Value} {cu : Nat × Nat} {Q : Res → Mem → Prop} {σ : Mem} {x0 x1 : Option Value} {u : Int32} : X z 150 65 [x0, x1, some (.int u)] (st) cu σ Q = (cat2 x1 = false ∧ X z 150 68 [x0, x1, some (.int (u + nI 1))] (st) cu σ Q) := by
  rw [x150_65]
  obtain ⟨K, I, R, L, sz, ex⟩ := σ
  exact i_iinc.trans (gl_2.trans (ldI_i.trans sl_2))
theorem v150_68 {z : P0} {st : List Value} {cu : Nat × Nat} {Q : Res → Mem → Prop} {σ : Mem} {x0 x1 x2 : Option Value} : X z 150 68 [x0, x1, x2] (st) cu σ Q = (X z 150 22 [x0, x1, x2] (st) cu σ Q) := by
  rw [x150_68]
  rfl
theorem v150_71 {z : P0} {st : List Value} {cu : Nat × Nat} {Q : Res → Mem → Prop} {σ : Mem} {x0 x1 : Option Value} {u : Int32} : X z 150 71 [x0, x1, some (.int u)] (st) cu σ Q = (X z 150 72 [x0, x1, some (.int u)] (.int u :: st) cu σ Q) := by
  rw [x150_71]
  rfl
theorem v150_72 {z : P0} {cu : Nat × Nat} {Q : Res → Mem → Prop} {σ : Mem} {x0 x1 x2 : Option Value} {v : Int32} : X z 150 72 [x0, x1, x2] ([.int v]) cu σ Q = (Q (.inl (some (.int v))) σ) := by
  rw [x150_72]
  exact propext ⟨fun h => h.2, fun h => ⟨trivial, h⟩⟩
theorem v151_0 {z : P0} {st : List Value} {cu : Nat × Nat} {Q : Res → Mem → Prop} {σ : Mem} {x1 : Option Value} {u : Nat} : X z 151 0 [some (.ref u), x1] (st) cu σ Q = (X z 151 1 [some (.ref u), x1] (.ref u :: st) cu σ Q) := by
  rw [x151_0]
  rfl
theorem v151_1 {z : P0} {st : List Value} {cu : Nat × Nat} {Q : Res → Mem → Prop} {K : Nat → Nat × Nat} {I : Nat → Nat → Int32} {R : Nat → Nat → Option Nat} {L : Nat → Nat → Int64} {sz : Nat} {ex : Bool} {x0 x1 : Option Value} {u : Nat} : X z 151 1 [x0, x1] (.ref u :: st) cu (K, I, R, L, sz, ex) Q = ((K u).1 = 111 ∧ X z 151 4 [x0, x1] (.int (I u 18) :: st) cu (K, I, R, L, sz, ex) Q) := by
  rw [x151_1]
  rfl
theorem v151_4 {z : P0} {st : List Value} {cu : Nat × Nat} {Q : Res → Mem → Prop} {σ : Mem} {x0 x1 : Option Value} {u : Int32} : X z 151 4 [x0, x1] (.int u :: st) cu σ Q = (if nI 0 < u then X z 151 7 [x0, x1] (st) cu σ Q else X z 151 30 [x0, x1] (st) cu σ Q) := by
  rw [x151_4]
  rw [nI_0]
  obtain ⟨K, I, R, L, sz, ex⟩ := σ
  exact br_ge
theorem v151_7 {z : P0} {st : List Value} {cu : Nat × Nat} {Q : Res → Mem → Prop} {σ : Mem} {x0 : Option Value} {u : Int32} : X z 151 7 [x0, some (.int u)] (st) cu σ Q = (X z 151 8 [x0, some (.int u)] (.int u :: st) cu σ Q) := by
  rw [x151_7]
  rfl
theorem v151_8 {z : P0} {st : List Value} {cu : Nat × Nat} {Q : Res → Mem → Prop} {σ : Mem} {x0 x1 : Option Value} : X z 151 8 [x0, x1] (st) cu σ Q = (X z 151 9 [x0, x1] (.int (nI 2) :: st) cu σ Q) := by
  rw [x151_8]
  rfl
theorem v151_9 {z : P0} {st : List Value} {cu : Nat × Nat} {Q : Res → Mem → Prop} {σ : Mem} {x0 x1 : Option Value} {u v : Int32} : X z 151 9 [x0, x1] (.int v :: .int u :: st) cu σ Q = (if u < v then X z 151 26 [x0, x1] (st) cu σ Q else X z 151 12 [x0, x1] (st) cu σ Q) := by
  rw [x151_9]
  obtain ⟨K, I, R, L, sz, ex⟩ := σ
  exact br_ite
theorem v151_12 {z : P0} {st : List Value} {cu : Nat × Nat} {Q : Res → Mem → Prop} {σ : Mem} {x1 : Option Value} {u : Nat} : X z 151 12 [some (.ref u), x1] (st) cu σ Q = (X z 151 13 [some (.ref u), x1] (.ref u :: st) cu σ Q) := by
  rw [x151_12]
  rfl
theorem v151_13 {z : P0} {st : List Value} {cu : Nat × Nat} {Q : Res → Mem → Prop} {K : Nat → Nat × Nat} {I : Nat → Nat → Int32} {R : Nat → Nat → Option Nat} {L : Nat → Nat → Int64} {sz : Nat} {ex : Bool} {x0 x1 : Option Value} {u : Nat} : X z 151 13 [x0, x1] (.ref u :: st) cu (K, I, R, L, sz, ex) Q = ((K u).1 = 111 ∧ X z 151 16 [x0, x1] (.int (I u 20) :: st) cu (K, I, R, L, sz, ex) Q) := by
  rw [x151_13]
  rfl
theorem v151_16 {z : P0} {st : List Value} {cu : Nat × Nat} {Q : Res → Mem → Prop} {σ : Mem} {x0 x1 : Option Value} {u : Int32} : X z 151 16 [x0, x1] (.int u :: st) cu σ Q = (if u = nI 0 then X z 151 19 [x0, x1] (st) cu σ Q else X z 151 30 [x0, x1] (st) cu σ Q) := by
  rw [x151_16]
  rw [nI_0]
  obtain ⟨K, I, R, L, sz, ex⟩ := σ
  exact br_ne
theorem v151_19 {z : P0} {st : List Value} {cu : Nat × Nat} {Q : Res → Mem → Prop} {σ : Mem} {x1 : Option Value} {u : Nat} : X z 151 19 [some (.ref u), x1] (st) cu σ Q = (X z 151 20 [some (.ref u), x1] (.ref u :: st) cu σ Q) := by
  rw [x151_19]
  rfl
theorem v151_20 {z : P0} {st : List Value} {cu : Nat × Nat} {Q : Res → Mem → Prop} {K : Nat → Nat × Nat} {I : Nat → Nat → Int32} {R : Nat → Nat → Option Nat} {L : Nat → Nat → Int64} {sz : Nat} {ex : Bool} {x0 x1 : Option Value} {u : Nat} : X z 151 20 [x0, x1] (.ref u :: st) cu (K, I, R, L, sz, ex) Q = ((K u).1 = 111 ∧ X z 151 23 [x0, x1] (.int (I u 21) :: st) cu (K, I, R, L, sz, ex) Q) := by
  rw [x151_20]
  rfl
theorem v151_23 {z : P0} {st : List Value} {cu : Nat × Nat} {Q : Res → Mem → Prop} {σ : Mem} {x0 x1 : Option Value} {u : Int32} : X z 151 23 [x0, x1] (.int u :: st) cu σ Q = (if u = nI 0 then X z 151 26 [x0, x1] (st) cu σ Q else X z 151 30 [x0, x1] (st) cu σ Q) := by
  rw [x151_23]
  rw [nI_0]
  obtain ⟨K, I, R, L, sz, ex⟩ := σ
  exact br_ne
theorem v151_26 {z : P0} {st : List Value} {cu : Nat × Nat} {Q : Res → Mem → Prop} {σ : Mem} {x0 x1 : Option Value} : X z 151 26 [x0, x1] (st) cu σ Q = (X z 151 27 [x0, x1] (.int (nI 1) :: st) cu σ Q) := by
  rw [x151_26]
  rfl
theorem v151_27 {z : P0} {st : List Value} {cu : Nat × Nat} {Q : Res → Mem → Prop} {σ : Mem} {x0 x1 : Option Value} : X z 151 27 [x0, x1] (st) cu σ Q = (X z 151 31 [x0, x1] (st) cu σ Q) := by
  rw [x151_27]
  rfl
theorem v151_30 {z : P0} {st : List Value} {cu : Nat × Nat} {Q : Res → Mem → Prop} {σ : Mem} {x0 x1 : Option Value} : X z 151 30 [x0, x1] (st) cu σ Q = (X z 151 31 [x0, x1] (.int (nI 0) :: st) cu σ Q) := by
  rw [x151_30]
  rfl
theorem v151_31 {z : P0} {cu : Nat × Nat} {Q : Res → Mem → Prop} {σ : Mem} {x0 x1 : Option Value} {v : Int32} : X z 151 31 [x0, x1] ([.int v]) cu σ Q = ((v = nI 0 ∨ v = nI 1) ∧ Q (.inl (some (.int v))) σ) := by
  rw [x151_31]
  rw [nI_0, one1]
  rfl
theorem v152_0 {z : P0} {st : List Value} {cu : Nat × Nat} {Q : Res → Mem → Prop} {σ : Mem} {x1 : Option Value} {u : Nat} : X z 152 0 [some (.ref u), x1] (st) cu σ Q = (X z 152 1 [some (.ref u), x1] (.ref u :: st) cu σ Q) := by
  rw [x152_0]
  rfl
theorem v152_1 {z : P0} {st : List Value} {cu : Nat × Nat} {Q : Res → Mem → Prop} {σ : Mem} {x0 : Option Value} {u : Int32} : X z 152 1 [x0, some (.int u)] (st) cu σ Q = (X z 152 2 [x0, some (.int u)] (.int u :: st) cu σ Q) := by
  rw [x152_1]
  rfl
theorem v152_2 {z : P0} {st : List Value} {cu : Nat × Nat} {Q : Res → Mem → Prop} {σ : Mem} {x0 x1 : Option Value} : X z 152 2 [x0, x1] (st) cu σ Q = (X z 152 3 [x0, x1] (.int (nI 0) :: st) cu σ Q) := by
  rw [x152_2]
  rfl
theorem v152_3 {z : P0} {st : List Value} {cu : Nat × Nat} {Q : Res → Mem → Prop} {σ : Mem} {x0 x1 : Option Value} : X z 152 3 [x0, x1] (st) cu σ Q = (X z 152 4 [x0, x1] (.int (nI 2) :: st) cu σ Q) := by
  rw [x152_3]
  rfl
theorem u152_4 {z : P0} {ls : Lcs} {st : List Value} {K : Nat → Nat × Nat} {I : Nat → Nat → Int32} {R : Nat → Nat → Option Nat} {L : Nat → Nat → Int64} {sz : Nat} {ex : Bool} {Q : Res → Mem → Prop} {a0 : Int32} {a1 : Int32} {a2 : Int32} : X z 152 4 ls (.int a2 :: .int a1 :: .int a0 :: st) (0, 0) (K, I, R, L, sz, ex) Q = (wsum st ≤ 8 ∧ X z 106 0 [some (.int a0), some (.int a1), some (.int a2)] [] (0, 0) (K, I, R, L, sz, ex) (aftr (X z) mT 152 4 ls st (0, 0) Q)) := v152_4 (c := 0) (n := 0)
theorem v152_7 {z : P0} {st : List Value} {cu : Nat × Nat} {Q : Res → Mem → Prop} {σ : Mem} {x0 x1 : Option Value} {u : Int32} : X z 152 7 [x0, x1] (.int u :: st) cu σ Q = (if u = nI 0 then X z 152 14 [x0, x1] (st) cu σ Q else X z 152 10 [x0, x1] (st) cu σ Q) := by
  rw [x152_7]
  rw [nI_0]
  obtain ⟨K, I, R, L, sz, ex⟩ := σ
  exact br_ite
theorem v152_10 {z : P0} {st : List Value} {cu : Nat × Nat} {Q : Res → Mem → Prop} {σ : Mem} {x0 x1 : Option Value} : X z 152 10 [x0, x1] (st) cu σ Q = (X z 152 11 [x0, x1] (.int (nI 0) :: st) cu σ Q) := by
  rw [x152_10]
  rfl
theorem v152_11 {z : P0} {st : List Value} {cu : Nat × Nat} {Q : Res → Mem → Prop} {σ : Mem} {x0 x1 : Option Value} : X z 152 11 [x0, x1] (st) cu σ Q = (X z 152 15 [x0, x1] (st) cu σ Q) := by
  rw [x152_11]
  rfl
theorem v152_14 {z : P0} {st : List Value} {cu : Nat × Nat} {Q : Res → Mem → Prop} {σ : Mem} {x0 x1 : Option Value} : X z 152 14 [x0, x1] (st) cu σ Q = (X z 152 15 [x0, x1] (.int (nI 1) :: st) cu σ Q) := by
  rw [x152_14]
  rfl
theorem v152_15 {z : P0} {st : List Value} {cu : Nat × Nat} {Q : Res → Mem → Prop} {K : Nat → Nat × Nat} {I : Nat → Nat → Int32} {R : Nat → Nat → Option Nat} {L : Nat → Nat → Int64} {sz : Nat} {ex : Bool} {x0 x1 : Option Value} {u : Nat} {v : Int32} : X z 152 15 [x0, x1] (.int v :: .ref u :: st) cu (K, I, R, L, sz, ex) Q = ((K u).1 = 111 ∧ X z 152 18 [x0, x1] (st) cu (K, up2 I u 5 v, R, L, sz, ex) Q) := by
  rw [x152_15]
  exact i_putI
theorem v152_18 {z : P0} {st : List Value} {cu : Nat × Nat} {Q : Res → Mem → Prop} {σ : Mem} {x1 : Option Value} {u : Nat} : X z 152 18 [some (.ref u), x1] (st) cu σ Q = (X z 152 19 [some (.ref u), x1] (.ref u :: st) cu σ Q) := by
  rw [x152_18]
  rfl
theorem v152_19 {z : P0} {st : List Value} {cu : Nat × Nat} {Q : Res → Mem → Prop} {K : Nat → Nat × Nat} {I : Nat → Nat → Int32} {R : Nat → Nat → Option Nat} {L : Nat → Nat → Int64} {sz : Nat} {ex : Bool} {x0 x1 : Option Value} {u : Nat} : X z 152 19 [x0, x1] (.ref u :: st) cu (K, I, R, L, sz, ex) Q = ((K u).1 = 111 ∧ X z 152 22 [x0, x1] (.int (I u 5) :: st) cu (K, I, R, L, sz, ex) Q) := by
  rw [x152_19]
  rfl
theorem v152_22 {z : P0} {st : List Value} {cu : Nat × Nat} {Q : Res → Mem → Prop} {σ : Mem} {x0 x1 : Option Value} {u : Int32} : X z 152 22 [x0, x1] (.int u :: st) cu σ Q = (if nI 0 < u then X z 152 25 [x0, x1] (st) cu σ Q else X z 152 29 [x0, x1] (st) cu σ Q) := by
  rw [x152_22]
  rw [nI_0]
  obtain ⟨K, I, R, L, sz, ex⟩ := σ
  exact br_ge
theorem v152_25 {z : P0} {st : List Value} {cu : Nat × Nat} {Q : Res → Mem → Prop} {σ : Mem} {x0 x1 : Option Value} : X z 152 25 [x0, x1] (st) cu σ Q = (X z 152 26 [x0, x1] (.int (nI 0) :: st) cu σ Q) := by
  rw [x152_25]
  rfl
theorem v152_26 {z : P0} {st : List Value} {cu : Nat × Nat} {Q : Res → Mem → Prop} {σ : Mem} {x0 x1 : Option Value} : X z 152 26 [x0, x1] (st) cu σ Q = (X z 152 34 [x0, x1] (st) cu σ Q) := by
  rw [x152_26]
  rfl
theorem v152_29 {z : P0} {st : List Value} {cu : Nat × Nat} {Q : Res → Mem → Prop} {σ : Mem} {x1 : Option Value} {u : Nat} : X z 152 29 [some (.ref u), x1] (st) cu σ Q = (X z 152 30 [some (.ref u), x1] (.ref u :: st) cu σ Q) := by
  rw [x152_29]
  rfl
theorem v152_30 {z : P0} {st : List Value} {cu : Nat × Nat} {Q : Res → Mem → Prop} {σ : Mem} {x0 : Option Value} {u : Int32} : X z 152 30 [x0, some (.int u)] (st) cu σ Q = (X z 152 31 [x0, some (.int u)] (.int u :: st) cu σ Q) := by
  rw [x152_30]
  rfl
theorem u152_31 {z : P0} {ls : Lcs} {st : List Value} {K : Nat → Nat × Nat} {I : Nat → Nat → Int32} {R : Nat → Nat → Option Nat} {L : Nat → Nat → Int64} {sz : Nat} {ex : Bool} {Q : Res → Mem → Prop} {x : Nat} {a0 : Int32} : X z 152 31 ls (.int a0 :: .ref x :: st) (0, 0) (K, I, R, L, sz, ex) Q = ((K x).1 = 111 ∧ wsum st ≤ 8 ∧ X z 150 0 [some (.ref x), some (.int a0), none] [] (0, 0) (K, I, R, L, sz, ex) (aftr (X z) mT 152 31 ls st (0, 0) Q)) := v152_31 (c := 0) (n := 0)
theorem v152_34 {z : P0} {cu : Nat × Nat} {Q : Res → Mem → Prop} {σ : Mem} {x0 x1 : Option Value} {v : Int32} : X z 152 34 [x0, x1] ([.int v]) cu σ Q = (Q (.inl (some (.int v))) σ) := by
  rw [x152_34]
  exact propext ⟨fun h => h.2, fun h => ⟨trivial, h⟩⟩
theorem v153_0 {z : P0} {st : List Value} {cu : Nat × Nat} {Q : Res → Mem → Prop} {σ : Mem} {x1 : Option Value} {u : Nat} : X z 153 0 [some (.ref u), x1] (st) cu σ Q = (X z 153 1 [some (.ref u), x1] (.ref u :: st) cu σ Q) := by
  rw [x153_0]
  rfl
theorem v153_1 {z : P0} {st : List Value} {cu : Nat × Nat} {Q : Res → Mem → Prop} {σ : Mem} {x1 : Option Value} {u : Nat} : X z 153 1 [some (.ref u), x1] (st) cu σ Q = (X z 153 2 [some (.ref u), x1] (.ref u :: st) cu σ Q) := by
  rw [x153_1]
  rfl
theorem v153_2 {z : P0} {st : List Value} {cu : Nat × Nat} {Q : Res → Mem → Prop} {K : Nat → Nat × Nat} {I : Nat → Nat → Int32} {R : Nat → Nat → Option Nat} {L : Nat → Nat → Int64} {sz : Nat} {ex : Bool} {x0 x1 : Option Value} {u : Nat} : X z 153 2 [x0, x1] (.ref u :: st) cu (K, I, R, L, sz, ex) Q = ((K u).1 = 111 ∧ X z 153 5 [x0, x1] (.int (I u 1) :: st) cu (K, I, R, L, sz, ex) Q) := by
  rw [x153_2]
  rfl
theorem v153_5 {z : P0} {st : List Value} {cu : Nat × Nat} {Q : Res → Mem → Prop} {σ : Mem} {x0 x1 : Option Value} {u : Int32} : X z 153 5 [x0, x1] (.int u :: st) cu σ Q = (if nI 0 < u then X z 153 8 [x0, x1] (st) cu σ Q else X z 153 12 [x0, x1] (st) cu σ Q) := by
  rw [x153_5]
  rw [nI_0]
  obtain ⟨K, I, R, L, sz, ex⟩ := σ
  exact br_ge
theorem v153_8 {z : P0} {st : List Value} {cu : Nat × Nat} {Q : Res → Mem → Prop} {σ : Mem} {x0 x1 : Option Value} : X z 153 8 [x0, x1] (st) cu σ Q = (X z 153 9 [x0, x1] (.int (nI 0) :: st) cu σ Q) := by
  rw [x153_8]
  rfl
theorem v153_9 {z : P0} {st : List Value} {cu : Nat × Nat} {Q : Res → Mem → Prop} {σ : Mem} {x0 x1 : Option Value} : X z 153 9 [x0, x1] (st) cu σ Q = (X z 153 13 [x0, x1] (st) cu σ Q) := by
  rw [x153_9]
  rfl
theorem v153_12 {z : P0} {st : List Value} {cu : Nat × Nat} {Q : Res → Mem → Prop} {σ : Mem} {x0 x1 : Option Value} : X z 153 12 [x0, x1] (st) cu σ Q = (X z 153 13 [x0, x1] (.int (nI 1) :: st) cu σ Q) := by
  rw [x153_12]
  rfl
theorem v153_13 {z : P0} {st : List Value} {cu : Nat × Nat} {Q : Res → Mem → Prop} {K : Nat → Nat × Nat} {I : Nat → Nat → Int32} {R : Nat → Nat → Option Nat} {L : Nat → Nat → Int64} {sz : Nat} {ex : Bool} {x0 x1 : Option Value} {u : Nat} {v : Int32} : X z 153 13 [x0, x1] (.int v :: .ref u :: st) cu (K, I, R, L, sz, ex) Q = ((K u).1 = 111 ∧ X z 153 16 [x0, x1] (st) cu (K, up2 I u 5 v, R, L, sz, ex) Q) := by
  rw [x153_13]
  exact i_putI
theorem v153_16 {z : P0} {st : List Value} {cu : Nat × Nat} {Q : Res → Mem → Prop} {σ : Mem} {x1 : Option Value} {u : Nat} : X z 153 16 [some (.ref u), x1] (st) cu σ Q = (X z 153 17 [some (.ref u), x1] (.ref u :: st) cu σ Q) := by
  rw [x153_16]
  rfl
theorem v153_17 {z : P0} {st : List Value} {cu : Nat × Nat} {Q : Res → Mem → Prop} {K : Nat → Nat × Nat} {I : Nat → Nat → Int32} {R : Nat → Nat → Option Nat} {L : Nat → Nat → Int64} {sz : Nat} {ex : Bool} {x0 x1 : Option Value} {u : Nat} : X z 153 17 [x0, x1] (.ref u :: st) cu (K, I, R, L, sz, ex) Q = ((K u).1 = 111 ∧ X z 153 20 [x0, x1] (.int (I u 5) :: st) cu (K, I, R, L, sz, ex) Q) := by
  rw [x153_17]
  rfl
theorem v153_20 {z : P0} {st : List Value} {cu : Nat × Nat} {Q : Res → Mem → Prop} {σ : Mem} {x0 x1 : Option Value} {u : Int32} : X z 153 20 [x0, x1] (.int u :: st) cu σ Q = (if nI 0 < u then X z 153 23 [x0, x1] (st) cu σ Q else X z 153 25 [x0, x1] (st) cu σ Q) := by
  rw [x153_20]
  rw [nI_0]
  obtain ⟨K, I, R, L, sz, ex⟩ := σ
  exact br_ge
theorem v153_23 {z : P0} {st : List Value} {cu : Nat × Nat} {Q : Res → Mem → Prop} {σ : Mem} {x0 x1 : Option Value} : X z 153 23 [x0, x1] (st) cu σ Q = (X z 153 24 [x0, x1] (.int (nI 0) :: st) cu σ Q) := by
  rw [x153_23]
  rfl
theorem v153_24 {z : P0} {cu : Nat × Nat} {Q : Res → Mem → Prop} {σ : Mem} {x0 x1 : Option Value} {v : Int32} : X z 153 24 [x0, x1] ([.int v]) cu σ Q = (Q (.inl (some (.int v))) σ) := by
  rw [x153_24]
  exact propext ⟨fun h => h.2, fun h => ⟨trivial, h⟩⟩
theorem v153_25 {z : P0} {st : List Value} {cu : Nat × Nat} {Q : Res → Mem → Prop} {σ : Mem} {x1 : Option Value} {u : Nat} : X z 153 25 [some (.ref u), x1] (st) cu σ Q = (X z 153 26 [some (.ref u), x1] (.ref u :: st) cu σ Q) := by
  rw [x153_25]
  rfl
theorem v153_26 {z : P0} {st : List Value} {cu : Nat × Nat} {Q : Res → Mem → Prop} {σ : Mem} {x0 x1 : Option Value} {u : Nat} : X z 153 26 [x0, x1] (.ref u :: st) cu σ Q = (X z 153 27 [x0, x1] (.ref u :: .ref u :: st) cu σ Q) := by
  rw [x153_26]
  exact propext ⟨fun h => h.2, fun h => ⟨rfl, h⟩⟩
theorem v153_26i {z : P0} {st : List Value} {cu : Nat × Nat} {Q : Res → Mem → Prop} {σ : Mem} {x0 x1 : Option Value} {u : Int32} : X z 153 26 [x0, x1] (.int u :: st) cu σ Q = (X z 153 27 [x0, x1] (.int u :: .int u :: st) cu σ Q) := by
  rw [x153_26]
  exact propext ⟨fun h => h.2, fun h => ⟨rfl, h⟩⟩
theorem v153_27 {z : P0} {st : List Value} {cu : Nat × Nat} {Q : Res → Mem → Prop} {K : Nat → Nat × Nat} {I : Nat → Nat → Int32} {R : Nat → Nat → Option Nat} {L : Nat → Nat → Int64} {sz : Nat} {ex : Bool} {x0 x1 : Option Value} {u : Nat} : X z 153 27 [x0, x1] (.ref u :: st) cu (K, I, R, L, sz, ex) Q = ((K u).1 = 111 ∧ X z 153 30 [x0, x1] (.int (I u 1) :: st) cu (K, I, R, L, sz, ex) Q) := by
  rw [x153_27]
  rfl
theorem v153_30 {z : P0} {st : List Value} {cu : Nat × Nat} {Q : Res → Mem → Prop} {σ : Mem} {x0 x1 : Option Value} : X z 153 30 [x0, x1] (st) cu σ Q = (X z 153 31 [x0, x1] (.int (nI 1) :: st) cu σ Q) := by
  rw [x153_30]
  rfl
theorem v153_31 {z : P0} {st : List Value} {cu : Nat × Nat} {Q : Res → Mem → Prop} {σ : Mem} {x0 x1 : Option Value} {u v : Int32} : X z 153 31 [x0, x1] (.int v :: .int u :: st) cu σ Q = (X z 153 32 [x0, x1] (.int (u - v) :: st) cu σ Q) := by
  rw [x153_31]
  rfl
theorem v153_32 {z : P0} {st : List Value} {cu : Nat × Nat} {Q : Res → Mem → Prop} {K : Nat → Nat × Nat} {I : Nat → Nat → Int32} {R : Nat → Nat → Option Nat} {L : Nat → Nat → Int64} {sz : Nat} {ex : Bool} {x0 x1 : Option Value} {u : Nat} {v : Int32} : X z 153 32 [x0, x1] (.int v :: .ref u :: st) cu (K, I, R, L, sz, ex) Q = ((K u).1 = 111 ∧ X z 153 35 [x0, x1] (st) cu (K, up2 I u 1 v, R, L, sz, ex) Q) := by
  rw [x153_32]
  exact i_putI
theorem v153_35 {z : P0} {st : List Value} {cu : Nat × Nat} {Q : Res → Mem → Prop} {σ : Mem} {x0 x1 : Option Value} : X z 153 35 [x0, x1] (st) cu σ Q = (X z 153 36 [x0, x1] (.int (nI 0) :: st) cu σ Q) := by
  rw [x153_35]
  rfl
theorem v153_36 {z : P0} {st : List Value} {cu : Nat × Nat} {Q : Res → Mem → Prop} {σ : Mem} {x0 x1 : Option Value} {u : Int32} : X z 153 36 [x0, x1] (.int u :: st) cu σ Q = (cat2 x0 = false ∧ X z 153 37 [x0, some (.int u)] (st) cu σ Q) := by
  rw [x153_36]
  obtain ⟨K, I, R, L, sz, ex⟩ := σ
  exact i_istore_n.trans sl_1
theorem v153_37 {z : P0} {st : List Value} {cu : Nat × Nat} {Q : Res → Mem → Prop} {σ : Mem} {x0 : Option Value} {u : Int32} : X z 153 37 [x0, some (.int u)] (st) cu σ Q = (X z 153 38 [x0, some (.int u)] (.int u :: st) cu σ Q) := by
  rw [x153_37]
  rfl
theorem v153_38 {z : P0} {st : List Value} {cu : Nat × Nat} {Q : Res → Mem → Prop} {σ : Mem} {x0 x1 : Option Value} : X z 153 38 [x0, x1] (st) cu σ Q = (X z 153 41 [x0, x1] (.int (nI 473) :: st) cu σ Q) := by
  rw [x153_38]
  rfl
theorem v153_41 {z : P0} {st : List Value} {cu : Nat × Nat} {Q : Res → Mem → Prop} {σ : Mem} {x0 x1 : Option Value} {u v : Int32} : X z 153 41 [x0, x1] (.int v :: .int u :: st) cu σ Q = (if u < v then X z 153 44 [x0, x1] (st) cu σ Q else X z 153 71 [x0, x1] (st) cu σ Q) := by
  rw [x153_41]
  obtain ⟨K, I, R, L, sz, ex⟩ := σ
  exact br_ge
theorem v153_44 {z : P0} {st : List Value} {cu : Nat × Nat} {Q : Res → Mem → Prop} {σ : Mem} {x1 : Option Value} {u : Nat} : X z 153 44 [some (.ref u), x1] (st) cu σ Q = (X z 153 45 [some (.ref u), x1] (.ref u :: st) cu σ Q) := by
  rw [x153_44]
  rfl
theorem v153_45 {z : P0} {st : List Value} {cu : Nat × Nat} {Q : Res → Mem → Prop} {K : Nat → Nat × Nat} {I : Nat → Nat → Int32} {R : Nat → Nat → Option Nat} {L : Nat → Nat → Int64} {sz : Nat} {ex : Bool} {x0 x1 : Option Value} {u : Nat} : X z 153 45 [x0, x1] (.ref u :: st) cu (K, I, R, L, sz, ex) Q = ((K u).1 = 111 ∧ X z 153 48 [x0, x1] (va_rf (R u 0) :: st) cu (K, I, R, L, sz, ex) Q) := by
  rw [x153_45]
  rfl
theorem v153_48 {z : P0} {st : List Value} {cu : Nat × Nat} {Q : Res → Mem → Prop} {σ : Mem} {x0 : Option Value} {u : Int32} : X z 153 48 [x0, some (.int u)] (st) cu σ Q = (X z 153 49 [x0, some (.int u)] (.int u :: st) cu σ Q) := by
  rw [x153_48]
  rfl
theorem v153_49 {z : P0} {st : List Value} {cu : Nat × Nat} {Q : Res → Mem → Prop} {σ : Mem} {x1 : Option Value} {u : Nat} : X z 153 49 [some (.ref u), x1] (st) cu σ Q = (X z 153 50 [some (.ref u), x1] (.ref u :: st) cu σ Q) := by
  rw [x153_49]
  rfl
theorem v153_50 {z : P0} {st : List Value} {cu : Nat × Nat} {Q : Res → Mem → Prop} {K : Nat → Nat × Nat} {I : Nat → Nat → Int32} {R : Nat → Nat → Option Nat} {L : Nat → Nat → Int64} {sz : Nat} {ex : Bool} {x0 x1 : Option Value} {u : Nat} : X z 153 50 [x0, x1] (.ref u :: st) cu (K, I, R, L, sz, ex) Q = ((K u).1 = 111 ∧ X z 153 53 [x0, x1] (va_rf (R u 2) :: st) cu (K, I, R, L, sz, ex) Q) := by
  rw [x153_50]
  rfl
theorem v153_53 {z : P0} {st : List Value} {cu : Nat × Nat} {Q : Res → Mem → Prop} {σ : Mem} {x0 x1 : Option Value} : X z 153 53 [x0, x1] (st) cu σ Q = (X z 153 56 [x0, x1] (.int (nI 473) :: st) cu σ Q) := by
  rw [x153_53]
  rfl
theorem v153_56 {z : P0} {st : List Value} {cu : Nat × Nat} {Q : Res → Mem → Prop} {σ : Mem} {x1 : Option Value} {u : Nat} : X z 153 56 [some (.ref u), x1] (st) cu σ Q = (X z 153 57 [some (.ref u), x1] (.ref u :: st) cu σ Q) := by
  rw [x153_56]
  rfl
theorem v153_57 {z : P0} {st : List Value} {cu : Nat × Nat} {Q : Res → Mem → Prop} {K : Nat → Nat × Nat} {I : Nat → Nat → Int32} {R : Nat → Nat → Option Nat} {L : Nat → Nat → Int64} {sz : Nat} {ex : Bool} {x0 x1 : Option Value} {u : Nat} : X z 153 57 [x0, x1] (.ref u :: st) cu (K, I, R, L, sz, ex) Q = ((K u).1 = 111 ∧ X z 153 60 [x0, x1] (.int (I u 1) :: st) cu (K, I, R, L, sz, ex) Q) := by
  rw [x153_57]
  rfl
theorem v153_60 {z : P0} {st : List Value} {cu : Nat × Nat} {Q : Res → Mem → Prop} {σ : Mem} {x0 x1 : Option Value} {u v : Int32} : X z 153 60 [x0, x1] (.int v :: .int u :: st) cu σ Q = (X z 153 61 [x0, x1] (.int (u * v) :: st) cu σ Q) := by
  rw [x153_60]
  rfl
theorem v153_61 {z : P0} {st : List Value} {cu : Nat × Nat} {Q : Res → Mem → Prop} {σ : Mem} {x0 : Option Value} {u : Int32} : X z 153 61 [x0, some (.int u)] (st) cu σ Q = (X z 153 62 [x0, some (.int u)] (.int u :: st) cu σ Q) := by
  rw [x153_61]
  rfl
theorem v153_62 {z : P0} {st : List Value} {cu : Nat × Nat} {Q : Res → Mem → Prop} {σ : Mem} {x0 x1 : Option Value} {u v : Int32} : X z 153 62 [x0, x1] (.int v :: .int u :: st) cu σ Q = (X z 153 63 [x0, x1] (.int (u + v) :: st) cu σ Q) := by
  rw [x153_62]
  rfl
theorem v153_63 {z : P0} {st : List Value} {cu : Nat × Nat} {Q : Res → Mem → Prop} {K : Nat → Nat × Nat} {I : Nat → Nat → Int32} {R : Nat → Nat → Option Nat} {L : Nat → Nat → Int64} {sz : Nat} {ex : Bool} {x0 x1 : Option Value} {u : Nat} {v : Int32} : X z 153 63 [x0, x1] (.int v :: .ref u :: st) cu (K, I, R, L, sz, ex) Q = (((K u).1 = 20 ∨ (K u).1 = 50) ∧ vp_in v (K u).2 ∧ X z 153 64 [x0, x1] (.int (I u v.toNatClampNeg) :: st) cu (K, I, R, L, sz, ex) Q) := by
  rw [x153_63]
  rfl
theorem v153_64 {z : P0} {st : List Value} {cu : Nat × Nat} {Q : Res → Mem → Prop} {K : Nat → Nat × Nat} {I : Nat → Nat → Int32} {R : Nat → Nat → Option Nat} {L : Nat → Nat → Int64} {sz : Nat} {ex : Bool} {x0 x1 : Option Value} {u : Nat} {j v : Int32} : X z 153 64 [x0, x1] (.int v :: .int j :: .ref u :: st) cu (K, I, R, L, sz, ex) Q = ((K u).1 = 20 ∧ vp_in j (K u).2 ∧ X z 153 65 [x0, x1] (st) cu (K, up2 I u j.toNatClampNeg v, R, L, sz, ex) Q) := by
  rw [x153_64]
  rfl
theorem v153_65 {z : P0} {st : List Value} {cu : Nat × Nat} {Q : Res → Mem → Prop} {σ : Mem} {x0 : Option Value} {u : Int32} : X z 153 65 [x0, some (.int u)] (st) cu σ Q = (cat2 x0 = false ∧ X z 153 68 [x0, some (.int (u + nI 1))] (st) cu σ Q) := by
  rw [x153_65]
  obtain ⟨K, I, R, L, sz, ex⟩ := σ
  exact i_iinc.trans (gl_1.trans (ldI_i.trans sl_1))
theorem v153_68 {z : P0} {st : List Value} {cu : Nat × Nat} {Q : Res → Mem → Prop} {σ : Mem} {x0 x1 : Option Value} : X z 153 68 [x0, x1] (st) cu σ Q = (X z 153 37 [x0, x1] (st) cu σ Q) := by
  rw [x153_68]
  rfl
theorem v153_71 {z : P0} {st : List Value} {cu : Nat × Nat} {Q : Res → Mem → Prop} {σ : Mem} {x1 : Option Value} {u : Nat} : X z 153 71 [some (.ref u), x1] (st) cu σ Q = (X z 153 72 [some (.ref u), x1] (.ref u :: st) cu σ Q) := by
  rw [x153_71]
  rfl
theorem v153_72 {z : P0} {st : List Value} {cu : Nat × Nat} {Q : Res → Mem → Prop} {K : Nat → Nat × Nat} {I : Nat → Nat → Int32} {R : Nat → Nat → Option Nat} {L : Nat → Nat → Int64} {sz : Nat} {ex : Bool} {x0 x1 : Option Value} {u : Nat} : X z 153 72 [x0, x1] (.ref u :: st) cu (K, I, R, L, sz, ex) Q = ((K u).1 = 111 ∧ X z 153 75 [x0, x1] (.int (I u 1) :: st) cu (K, I, R, L, sz, ex) Q) := by
  rw [x153_72]
  rfl
theorem v153_75 {z : P0} {cu : Nat × Nat} {Q : Res → Mem → Prop} {σ : Mem} {x0 x1 : Option Value} {v : Int32} : X z 153 75 [x0, x1] ([.int v]) cu σ Q = (Q (.inl (some (.int v))) σ) := by
  rw [x153_75]
  exact propext ⟨fun h => h.2, fun h => ⟨trivial, h⟩⟩
