/-! cells, locals and heaps: what the rules of part 22 ask, in simp form -/
theorem gF_0_0 {f0 : Value} {fs : List Value} {K : Value → Prop} : gF (oO 0 (f0 :: fs)) 0 0 K ↔ K f0 := by simp [gF, clN]
theorem pF_0_0 {f0 : Value} {fs : List Value} {x : Nat} {K : AC → Prop} : pF (oO 0 (f0 :: fs)) 0 0 (.ref x) K ↔ K (oO 0 (.ref x :: fs)) := by simp [pF, clN, clTy, okv, tyX0]
theorem gF_0_1 {f0 f1 : Value} {fs : List Value} {K : Value → Prop} : gF (oO 0 (f0 :: f1 :: fs)) 0 1 K ↔ K f1 := by simp [gF, clN]
theorem pF_0_1 {f0 f1 : Value} {fs : List Value} {x : Nat} {K : AC → Prop} : pF (oO 0 (f0 :: f1 :: fs)) 0 1 (.ref x) K ↔ K (oO 0 (f0 :: .ref x :: fs)) := by simp [pF, clN, clTy, okv, tyX0]
theorem gF_1_0 {f0 : Value} {fs : List Value} {K : Value → Prop} : gF (oO 1 (f0 :: fs)) 1 0 K ↔ K f0 := by simp [gF, clN]
theorem pF_1_0 {f0 : Value} {fs : List Value} {x : Nat} {K : AC → Prop} : pF (oO 1 (f0 :: fs)) 1 0 (.ref x) K ↔ K (oO 1 (.ref x :: fs)) := by simp [pF, clN, clTy, okv, tyX1]
theorem gF_2_0 {f0 : Value} {fs : List Value} {K : Value → Prop} : gF (oO 2 (f0 :: fs)) 2 0 K ↔ K f0 := by simp [gF, clN]
theorem pF_2_0 {f0 : Value} {fs : List Value} {x : Nat} {K : AC → Prop} : pF (oO 2 (f0 :: fs)) 2 0 (.ref x) K ↔ K (oO 2 (.ref x :: fs)) := by simp [pF, clN, clTy, okv, tyX2]
theorem gF_2_1 {f0 f1 : Value} {fs : List Value} {K : Value → Prop} : gF (oO 2 (f0 :: f1 :: fs)) 2 1 K ↔ K f1 := by simp [gF, clN]
theorem pF_2_1 {f0 f1 : Value} {fs : List Value} {x : Int32} {K : AC → Prop} : pF (oO 2 (f0 :: f1 :: fs)) 2 1 (.int x) K ↔ K (oO 2 (f0 :: .int x :: fs)) := by simp [pF, clN, clTy, okv, tyX2]
theorem gF_2_2 {f0 f1 f2 : Value} {fs : List Value} {K : Value → Prop} : gF (oO 2 (f0 :: f1 :: f2 :: fs)) 2 2 K ↔ K f2 := by simp [gF, clN]
theorem pF_2_2 {f0 f1 f2 : Value} {fs : List Value} {x : Int32} {K : AC → Prop} : pF (oO 2 (f0 :: f1 :: f2 :: fs)) 2 2 (.int x) K ↔ K (oO 2 (f0 :: f1 :: .int x :: fs)) := by simp [pF, clN, clTy, okv, tyX2]
theorem gF_2_3 {f0 f1 f2 f3 : Value} {fs : List Value} {K : Value → Prop} : gF (oO 2 (f0 :: f1 :: f2 :: f3 :: fs)) 2 3 K ↔ K f3 := by simp [gF, clN]
theorem pF_2_3 {f0 f1 f2 f3 : Value} {fs : List Value} {x : Int32} {K : AC → Prop} : pF (oO 2 (f0 :: f1 :: f2 :: f3 :: fs)) 2 3 (.int x) K ↔ K (oO 2 (f0 :: f1 :: f2 :: .int x :: fs)) := by simp [pF, clN, clTy, okv, tyX2]
theorem gF_2_4 {f0 f1 f2 f3 f4 : Value} {fs : List Value} {K : Value → Prop} : gF (oO 2 (f0 :: f1 :: f2 :: f3 :: f4 :: fs)) 2 4 K ↔ K f4 := by simp [gF, clN]
theorem pF_2_4 {f0 f1 f2 f3 f4 : Value} {fs : List Value} {x : Int32} {K : AC → Prop} : pF (oO 2 (f0 :: f1 :: f2 :: f3 :: f4 :: fs)) 2 4 (.int x) K ↔ K (oO 2 (f0 :: f1 :: f2 :: f3 :: .int x :: fs)) := by simp [pF, clN, clTy, okv, tyX2]
theorem gF_2_5 {f0 f1 f2 f3 f4 f5 : Value} {fs : List Value} {K : Value → Prop} : gF (oO 2 (f0 :: f1 :: f2 :: f3 :: f4 :: f5 :: fs)) 2 5 K ↔ K f5 := by simp [gF, clN]
theorem pF_2_5 {f0 f1 f2 f3 f4 f5 : Value} {fs : List Value} {x : Int32} {K : AC → Prop} : pF (oO 2 (f0 :: f1 :: f2 :: f3 :: f4 :: f5 :: fs)) 2 5 (.int x) K ↔ K (oO 2 (f0 :: f1 :: f2 :: f3 :: f4 :: .int x :: fs)) := by simp [pF, clN, clTy, okv, tyX2]
theorem gF_2_6 {f0 f1 f2 f3 f4 f5 f6 : Value} {fs : List Value} {K : Value → Prop} : gF (oO 2 (f0 :: f1 :: f2 :: f3 :: f4 :: f5 :: f6 :: fs)) 2 6 K ↔ K f6 := by simp [gF, clN]
theorem pF_2_6 {f0 f1 f2 f3 f4 f5 f6 : Value} {fs : List Value} {x : Int32} {K : AC → Prop} : pF (oO 2 (f0 :: f1 :: f2 :: f3 :: f4 :: f5 :: f6 :: fs)) 2 6 (.int x) K ↔ K (oO 2 (f0 :: f1 :: f2 :: f3 :: f4 :: f5 :: .int x :: fs)) := by simp [pF, clN, clTy, okv, tyX2]
theorem gF_2_7 {f0 f1 f2 f3 f4 f5 f6 f7 : Value} {fs : List Value} {K : Value → Prop} : gF (oO 2 (f0 :: f1 :: f2 :: f3 :: f4 :: f5 :: f6 :: f7 :: fs)) 2 7 K ↔ K f7 := by simp [gF, clN]
theorem pF_2_7 {f0 f1 f2 f3 f4 f5 f6 f7 : Value} {fs : List Value} {x : Int32} {K : AC → Prop} : pF (oO 2 (f0 :: f1 :: f2 :: f3 :: f4 :: f5 :: f6 :: f7 :: fs)) 2 7 (.int x) K ↔ K (oO 2 (f0 :: f1 :: f2 :: f3 :: f4 :: f5 :: f6 :: .int x :: fs)) := by simp [pF, clN, clTy, okv, tyX2]
theorem gF_2_8 {f0 f1 f2 f3 f4 f5 f6 f7 f8 : Value} {fs : List Value} {K : Value → Prop} : gF (oO 2 (f0 :: f1 :: f2 :: f3 :: f4 :: f5 :: f6 :: f7 :: f8 :: fs)) 2 8 K ↔ K f8 := by simp [gF, clN]
theorem pF_2_8 {f0 f1 f2 f3 f4 f5 f6 f7 f8 : Value} {fs : List Value} {x : Int32} {K : AC → Prop} : pF (oO 2 (f0 :: f1 :: f2 :: f3 :: f4 :: f5 :: f6 :: f7 :: f8 :: fs)) 2 8 (.int x) K ↔ K (oO 2 (f0 :: f1 :: f2 :: f3 :: f4 :: f5 :: f6 :: f7 :: .int x :: fs)) := by simp [pF, clN, clTy, okv, tyX2]
theorem gF_3_0 {f0 : Value} {fs : List Value} {K : Value → Prop} : gF (oO 3 (f0 :: fs)) 3 0 K ↔ K f0 := by simp [gF, clN]
theorem pF_3_0 {f0 : Value} {fs : List Value} {x : Int32} {K : AC → Prop} : pF (oO 3 (f0 :: fs)) 3 0 (.int x) K ↔ K (oO 3 (.int x :: fs)) := by simp [pF, clN, clTy, okv, tyX3]
theorem gF_3_1 {f0 f1 : Value} {fs : List Value} {K : Value → Prop} : gF (oO 3 (f0 :: f1 :: fs)) 3 1 K ↔ K f1 := by simp [gF, clN]
theorem pF_3_1 {f0 f1 : Value} {fs : List Value} {x : Int32} {K : AC → Prop} : pF (oO 3 (f0 :: f1 :: fs)) 3 1 (.int x) K ↔ K (oO 3 (f0 :: .int x :: fs)) := by simp [pF, clN, clTy, okv, tyX3]
theorem gF_3_2 {f0 f1 f2 : Value} {fs : List Value} {K : Value → Prop} : gF (oO 3 (f0 :: f1 :: f2 :: fs)) 3 2 K ↔ K f2 := by simp [gF, clN]
theorem pF_3_2 {f0 f1 f2 : Value} {fs : List Value} {x : Nat} {K : AC → Prop} : pF (oO 3 (f0 :: f1 :: f2 :: fs)) 3 2 (.ref x) K ↔ K (oO 3 (f0 :: f1 :: .ref x :: fs)) := by simp [pF, clN, clTy, okv, tyX3]
theorem gF_3_3 {f0 f1 f2 f3 : Value} {fs : List Value} {K : Value → Prop} : gF (oO 3 (f0 :: f1 :: f2 :: f3 :: fs)) 3 3 K ↔ K f3 := by simp [gF, clN]
theorem pF_3_3 {f0 f1 f2 f3 : Value} {fs : List Value} {x : Int32} {K : AC → Prop} : pF (oO 3 (f0 :: f1 :: f2 :: f3 :: fs)) 3 3 (.int x) K ↔ K (oO 3 (f0 :: f1 :: f2 :: .int x :: fs)) := by simp [pF, clN, clTy, okv, tyX3]
theorem gF_4_0 {f0 : Value} {fs : List Value} {K : Value → Prop} : gF (oO 4 (f0 :: fs)) 4 0 K ↔ K f0 := by simp [gF, clN]
theorem pF_4_0 {f0 : Value} {fs : List Value} {x : Nat} {K : AC → Prop} : pF (oO 4 (f0 :: fs)) 4 0 (.ref x) K ↔ K (oO 4 (.ref x :: fs)) := by simp [pF, clN, clTy, okv, tyX4]
theorem gF_4_1 {f0 f1 : Value} {fs : List Value} {K : Value → Prop} : gF (oO 4 (f0 :: f1 :: fs)) 4 1 K ↔ K f1 := by simp [gF, clN]
theorem pF_4_1 {f0 f1 : Value} {fs : List Value} {x : Nat} {K : AC → Prop} : pF (oO 4 (f0 :: f1 :: fs)) 4 1 (.ref x) K ↔ K (oO 4 (f0 :: .ref x :: fs)) := by simp [pF, clN, clTy, okv, tyX4]
theorem gF_4_2 {f0 f1 f2 : Value} {fs : List Value} {K : Value → Prop} : gF (oO 4 (f0 :: f1 :: f2 :: fs)) 4 2 K ↔ K f2 := by simp [gF, clN]
theorem pF_4_2 {f0 f1 f2 : Value} {fs : List Value} {x : Nat} {K : AC → Prop} : pF (oO 4 (f0 :: f1 :: f2 :: fs)) 4 2 (.ref x) K ↔ K (oO 4 (f0 :: f1 :: .ref x :: fs)) := by simp [pF, clN, clTy, okv, tyX4]
theorem gF_4_3 {f0 f1 f2 f3 : Value} {fs : List Value} {K : Value → Prop} : gF (oO 4 (f0 :: f1 :: f2 :: f3 :: fs)) 4 3 K ↔ K f3 := by simp [gF, clN]
theorem pF_4_3 {f0 f1 f2 f3 : Value} {fs : List Value} {x : Nat} {K : AC → Prop} : pF (oO 4 (f0 :: f1 :: f2 :: f3 :: fs)) 4 3 (.ref x) K ↔ K (oO 4 (f0 :: f1 :: f2 :: .ref x :: fs)) := by simp [pF, clN, clTy, okv, tyX4]
theorem gF_4_4 {f0 f1 f2 f3 f4 : Value} {fs : List Value} {K : Value → Prop} : gF (oO 4 (f0 :: f1 :: f2 :: f3 :: f4 :: fs)) 4 4 K ↔ K f4 := by simp [gF, clN]
theorem pF_4_4 {f0 f1 f2 f3 f4 : Value} {fs : List Value} {x : Int32} {K : AC → Prop} : pF (oO 4 (f0 :: f1 :: f2 :: f3 :: f4 :: fs)) 4 4 (.int x) K ↔ K (oO 4 (f0 :: f1 :: f2 :: f3 :: .int x :: fs)) := by simp [pF, clN, clTy, okv, tyX4]
theorem gF_4_5 {f0 f1 f2 f3 f4 f5 : Value} {fs : List Value} {K : Value → Prop} : gF (oO 4 (f0 :: f1 :: f2 :: f3 :: f4 :: f5 :: fs)) 4 5 K ↔ K f5 := by simp [gF, clN]
theorem pF_4_5 {f0 f1 f2 f3 f4 f5 : Value} {fs : List Value} {x : Int32} {K : AC → Prop} : pF (oO 4 (f0 :: f1 :: f2 :: f3 :: f4 :: f5 :: fs)) 4 5 (.int x) K ↔ K (oO 4 (f0 :: f1 :: f2 :: f3 :: f4 :: .int x :: fs)) := by simp [pF, clN, clTy, okv, tyX4]
theorem gF_4_6 {f0 f1 f2 f3 f4 f5 f6 : Value} {fs : List Value} {K : Value → Prop} : gF (oO 4 (f0 :: f1 :: f2 :: f3 :: f4 :: f5 :: f6 :: fs)) 4 6 K ↔ K f6 := by simp [gF, clN]
theorem pF_4_6 {f0 f1 f2 f3 f4 f5 f6 : Value} {fs : List Value} {x : Int32} {K : AC → Prop} : pF (oO 4 (f0 :: f1 :: f2 :: f3 :: f4 :: f5 :: f6 :: fs)) 4 6 (.int x) K ↔ K (oO 4 (f0 :: f1 :: f2 :: f3 :: f4 :: f5 :: .int x :: fs)) := by simp [pF, clN, clTy, okv, tyX4]
theorem gF_5_0 {f0 : Value} {fs : List Value} {K : Value → Prop} : gF (oO 5 (f0 :: fs)) 5 0 K ↔ K f0 := by simp [gF, clN]
theorem pF_5_0 {f0 : Value} {fs : List Value} {x : Nat} {K : AC → Prop} : pF (oO 5 (f0 :: fs)) 5 0 (.ref x) K ↔ K (oO 5 (.ref x :: fs)) := by simp [pF, clN, clTy, okv, tyX6]
theorem gF_5_1 {f0 f1 : Value} {fs : List Value} {K : Value → Prop} : gF (oO 5 (f0 :: f1 :: fs)) 5 1 K ↔ K f1 := by simp [gF, clN]
theorem pF_5_1 {f0 f1 : Value} {fs : List Value} {x : Nat} {K : AC → Prop} : pF (oO 5 (f0 :: f1 :: fs)) 5 1 (.ref x) K ↔ K (oO 5 (f0 :: .ref x :: fs)) := by simp [pF, clN, clTy, okv, tyX6]
theorem gF_5_2 {f0 f1 f2 : Value} {fs : List Value} {K : Value → Prop} : gF (oO 5 (f0 :: f1 :: f2 :: fs)) 5 2 K ↔ K f2 := by simp [gF, clN]
theorem pF_5_2 {f0 f1 f2 : Value} {fs : List Value} {x : Nat} {K : AC → Prop} : pF (oO 5 (f0 :: f1 :: f2 :: fs)) 5 2 (.ref x) K ↔ K (oO 5 (f0 :: f1 :: .ref x :: fs)) := by simp [pF, clN, clTy, okv, tyX6]
theorem gF_5_3 {f0 f1 f2 f3 : Value} {fs : List Value} {K : Value → Prop} : gF (oO 5 (f0 :: f1 :: f2 :: f3 :: fs)) 5 3 K ↔ K f3 := by simp [gF, clN]
theorem pF_5_3 {f0 f1 f2 f3 : Value} {fs : List Value} {x : Nat} {K : AC → Prop} : pF (oO 5 (f0 :: f1 :: f2 :: f3 :: fs)) 5 3 (.ref x) K ↔ K (oO 5 (f0 :: f1 :: f2 :: .ref x :: fs)) := by simp [pF, clN, clTy, okv, tyX6]
theorem gF_5_4 {f0 f1 f2 f3 f4 : Value} {fs : List Value} {K : Value → Prop} : gF (oO 5 (f0 :: f1 :: f2 :: f3 :: f4 :: fs)) 5 4 K ↔ K f4 := by simp [gF, clN]
theorem pF_5_4 {f0 f1 f2 f3 f4 : Value} {fs : List Value} {x : Nat} {K : AC → Prop} : pF (oO 5 (f0 :: f1 :: f2 :: f3 :: f4 :: fs)) 5 4 (.ref x) K ↔ K (oO 5 (f0 :: f1 :: f2 :: f3 :: .ref x :: fs)) := by simp [pF, clN, clTy, okv, tyX6]
theorem gF_5_5 {f0 f1 f2 f3 f4 f5 : Value} {fs : List Value} {K : Value → Prop} : gF (oO 5 (f0 :: f1 :: f2 :: f3 :: f4 :: f5 :: fs)) 5 5 K ↔ K f5 := by simp [gF, clN]
theorem pF_5_5 {f0 f1 f2 f3 f4 f5 : Value} {fs : List Value} {x : Nat} {K : AC → Prop} : pF (oO 5 (f0 :: f1 :: f2 :: f3 :: f4 :: f5 :: fs)) 5 5 (.ref x) K ↔ K (oO 5 (f0 :: f1 :: f2 :: f3 :: f4 :: .ref x :: fs)) := by simp [pF, clN, clTy, okv, tyX6]
theorem gF_5_6 {f0 f1 f2 f3 f4 f5 f6 : Value} {fs : List Value} {K : Value → Prop} : gF (oO 5 (f0 :: f1 :: f2 :: f3 :: f4 :: f5 :: f6 :: fs)) 5 6 K ↔ K f6 := by simp [gF, clN]
theorem pF_5_6 {f0 f1 f2 f3 f4 f5 f6 : Value} {fs : List Value} {x : Nat} {K : AC → Prop} : pF (oO 5 (f0 :: f1 :: f2 :: f3 :: f4 :: f5 :: f6 :: fs)) 5 6 (.ref x) K ↔ K (oO 5 (f0 :: f1 :: f2 :: f3 :: f4 :: f5 :: .ref x :: fs)) := by simp [pF, clN, clTy, okv, tyX6]
theorem gF_5_7 {f0 f1 f2 f3 f4 f5 f6 f7 : Value} {fs : List Value} {K : Value → Prop} : gF (oO 5 (f0 :: f1 :: f2 :: f3 :: f4 :: f5 :: f6 :: f7 :: fs)) 5 7 K ↔ K f7 := by simp [gF, clN]
theorem pF_5_7 {f0 f1 f2 f3 f4 f5 f6 f7 : Value} {fs : List Value} {x : Nat} {K : AC → Prop} : pF (oO 5 (f0 :: f1 :: f2 :: f3 :: f4 :: f5 :: f6 :: f7 :: fs)) 5 7 (.ref x) K ↔ K (oO 5 (f0 :: f1 :: f2 :: f3 :: f4 :: f5 :: f6 :: .ref x :: fs)) := by simp [pF, clN, clTy, okv, tyX6]
theorem gF_5_8 {f0 f1 f2 f3 f4 f5 f6 f7 f8 : Value} {fs : List Value} {K : Value → Prop} : gF (oO 5 (f0 :: f1 :: f2 :: f3 :: f4 :: f5 :: f6 :: f7 :: f8 :: fs)) 5 8 K ↔ K f8 := by simp [gF, clN]
theorem pF_5_8 {f0 f1 f2 f3 f4 f5 f6 f7 f8 : Value} {fs : List Value} {x : Nat} {K : AC → Prop} : pF (oO 5 (f0 :: f1 :: f2 :: f3 :: f4 :: f5 :: f6 :: f7 :: f8 :: fs)) 5 8 (.ref x) K ↔ K (oO 5 (f0 :: f1 :: f2 :: f3 :: f4 :: f5 :: f6 :: f7 :: .ref x :: fs)) := by simp [pF, clN, clTy, okv, tyX6]
theorem gF_5_9 {f0 f1 f2 f3 f4 f5 f6 f7 f8 f9 : Value} {fs : List Value} {K : Value → Prop} : gF (oO 5 (f0 :: f1 :: f2 :: f3 :: f4 :: f5 :: f6 :: f7 :: f8 :: f9 :: fs)) 5 9 K ↔ K f9 := by simp [gF, clN]
theorem pF_5_9 {f0 f1 f2 f3 f4 f5 f6 f7 f8 f9 : Value} {fs : List Value} {x : Nat} {K : AC → Prop} : pF (oO 5 (f0 :: f1 :: f2 :: f3 :: f4 :: f5 :: f6 :: f7 :: f8 :: f9 :: fs)) 5 9 (.ref x) K ↔ K (oO 5 (f0 :: f1 :: f2 :: f3 :: f4 :: f5 :: f6 :: f7 :: f8 :: .ref x :: fs)) := by simp [pF, clN, clTy, okv, tyX6]
theorem gF_5_10 {f0 f1 f2 f3 f4 f5 f6 f7 f8 f9 f10 : Value} {fs : List Value} {K : Value → Prop} : gF (oO 5 (f0 :: f1 :: f2 :: f3 :: f4 :: f5 :: f6 :: f7 :: f8 :: f9 :: f10 :: fs)) 5 10 K ↔ K f10 := by simp [gF, clN]
theorem pF_5_10 {f0 f1 f2 f3 f4 f5 f6 f7 f8 f9 f10 : Value} {fs : List Value} {x : Int32} {K : AC → Prop} : pF (oO 5 (f0 :: f1 :: f2 :: f3 :: f4 :: f5 :: f6 :: f7 :: f8 :: f9 :: f10 :: fs)) 5 10 (.int x) K ↔ K (oO 5 (f0 :: f1 :: f2 :: f3 :: f4 :: f5 :: f6 :: f7 :: f8 :: f9 :: .int x :: fs)) := by simp [pF, clN, clTy, okv, tyX6]
theorem gF_5_11 {f0 f1 f2 f3 f4 f5 f6 f7 f8 f9 f10 f11 : Value} {fs : List Value} {K : Value → Prop} : gF (oO 5 (f0 :: f1 :: f2 :: f3 :: f4 :: f5 :: f6 :: f7 :: f8 :: f9 :: f10 :: f11 :: fs)) 5 11 K ↔ K f11 := by simp [gF, clN]
theorem pF_5_11 {f0 f1 f2 f3 f4 f5 f6 f7 f8 f9 f10 f11 : Value} {fs : List Value} {x : Int32} {K : AC → Prop} : pF (oO 5 (f0 :: f1 :: f2 :: f3 :: f4 :: f5 :: f6 :: f7 :: f8 :: f9 :: f10 :: f11 :: fs)) 5 11 (.int x) K ↔ K (oO 5 (f0 :: f1 :: f2 :: f3 :: f4 :: f5 :: f6 :: f7 :: f8 :: f9 :: f10 :: .int x :: fs)) := by simp [pF, clN, clTy, okv, tyX6]
theorem gF_5_12 {f0 f1 f2 f3 f4 f5 f6 f7 f8 f9 f10 f11 f12 : Value} {fs : List Value} {K : Value → Prop} : gF (oO 5 (f0 :: f1 :: f2 :: f3 :: f4 :: f5 :: f6 :: f7 :: f8 :: f9 :: f10 :: f11 :: f12 :: fs)) 5 12 K ↔ K f12 := by simp [gF, clN]
theorem pF_5_12 {f0 f1 f2 f3 f4 f5 f6 f7 f8 f9 f10 f11 f12 : Value} {fs : List Value} {x : Int32} {K : AC → Prop} : pF (oO 5 (f0 :: f1 :: f2 :: f3 :: f4 :: f5 :: f6 :: f7 :: f8 :: f9 :: f10 :: f11 :: f12 :: fs)) 5 12 (.int x) K ↔ K (oO 5 (f0 :: f1 :: f2 :: f3 :: f4 :: f5 :: f6 :: f7 :: f8 :: f9 :: f10 :: f11 :: .int x :: fs)) := by simp [pF, clN, clTy, okv, tyX6]
theorem gF_5_13 {f0 f1 f2 f3 f4 f5 f6 f7 f8 f9 f10 f11 f12 f13 : Value} {fs : List Value} {K : Value → Prop} : gF (oO 5 (f0 :: f1 :: f2 :: f3 :: f4 :: f5 :: f6 :: f7 :: f8 :: f9 :: f10 :: f11 :: f12 :: f13 :: fs)) 5 13 K ↔ K f13 := by simp [gF, clN]
theorem pF_5_13 {f0 f1 f2 f3 f4 f5 f6 f7 f8 f9 f10 f11 f12 f13 : Value} {fs : List Value} {x : Int32} {K : AC → Prop} : pF (oO 5 (f0 :: f1 :: f2 :: f3 :: f4 :: f5 :: f6 :: f7 :: f8 :: f9 :: f10 :: f11 :: f12 :: f13 :: fs)) 5 13 (.int x) K ↔ K (oO 5 (f0 :: f1 :: f2 :: f3 :: f4 :: f5 :: f6 :: f7 :: f8 :: f9 :: f10 :: f11 :: f12 :: .int x :: fs)) := by simp [pF, clN, clTy, okv, tyX6]
theorem gF_6_0 {f0 : Value} {fs : List Value} {K : Value → Prop} : gF (oO 6 (f0 :: fs)) 6 0 K ↔ K f0 := by simp [gF, clN]
theorem pF_6_0 {f0 : Value} {fs : List Value} {x : Nat} {K : AC → Prop} : pF (oO 6 (f0 :: fs)) 6 0 (.ref x) K ↔ K (oO 6 (.ref x :: fs)) := by simp [pF, clN, clTy, okv, tyX7]
theorem gF_6_1 {f0 f1 : Value} {fs : List Value} {K : Value → Prop} : gF (oO 6 (f0 :: f1 :: fs)) 6 1 K ↔ K f1 := by simp [gF, clN]
theorem pF_6_1 {f0 f1 : Value} {fs : List Value} {x : Nat} {K : AC → Prop} : pF (oO 6 (f0 :: f1 :: fs)) 6 1 (.ref x) K ↔ K (oO 6 (f0 :: .ref x :: fs)) := by simp [pF, clN, clTy, okv, tyX7]
theorem gF_6_2 {f0 f1 f2 : Value} {fs : List Value} {K : Value → Prop} : gF (oO 6 (f0 :: f1 :: f2 :: fs)) 6 2 K ↔ K f2 := by simp [gF, clN]
theorem pF_6_2 {f0 f1 f2 : Value} {fs : List Value} {x : Nat} {K : AC → Prop} : pF (oO 6 (f0 :: f1 :: f2 :: fs)) 6 2 (.ref x) K ↔ K (oO 6 (f0 :: f1 :: .ref x :: fs)) := by simp [pF, clN, clTy, okv, tyX7]
theorem gF_6_3 {f0 f1 f2 f3 : Value} {fs : List Value} {K : Value → Prop} : gF (oO 6 (f0 :: f1 :: f2 :: f3 :: fs)) 6 3 K ↔ K f3 := by simp [gF, clN]
theorem pF_6_3 {f0 f1 f2 f3 : Value} {fs : List Value} {x : Nat} {K : AC → Prop} : pF (oO 6 (f0 :: f1 :: f2 :: f3 :: fs)) 6 3 (.ref x) K ↔ K (oO 6 (f0 :: f1 :: f2 :: .ref x :: fs)) := by simp [pF, clN, clTy, okv, tyX7]
theorem gF_6_4 {f0 f1 f2 f3 f4 : Value} {fs : List Value} {K : Value → Prop} : gF (oO 6 (f0 :: f1 :: f2 :: f3 :: f4 :: fs)) 6 4 K ↔ K f4 := by simp [gF, clN]
theorem pF_6_4 {f0 f1 f2 f3 f4 : Value} {fs : List Value} {x : Nat} {K : AC → Prop} : pF (oO 6 (f0 :: f1 :: f2 :: f3 :: f4 :: fs)) 6 4 (.ref x) K ↔ K (oO 6 (f0 :: f1 :: f2 :: f3 :: .ref x :: fs)) := by simp [pF, clN, clTy, okv, tyX7]
theorem gF_6_5 {f0 f1 f2 f3 f4 f5 : Value} {fs : List Value} {K : Value → Prop} : gF (oO 6 (f0 :: f1 :: f2 :: f3 :: f4 :: f5 :: fs)) 6 5 K ↔ K f5 := by simp [gF, clN]
theorem pF_6_5 {f0 f1 f2 f3 f4 f5 : Value} {fs : List Value} {x : Nat} {K : AC → Prop} : pF (oO 6 (f0 :: f1 :: f2 :: f3 :: f4 :: f5 :: fs)) 6 5 (.ref x) K ↔ K (oO 6 (f0 :: f1 :: f2 :: f3 :: f4 :: .ref x :: fs)) := by simp [pF, clN, clTy, okv, tyX7]
theorem gF_6_6 {f0 f1 f2 f3 f4 f5 f6 : Value} {fs : List Value} {K : Value → Prop} : gF (oO 6 (f0 :: f1 :: f2 :: f3 :: f4 :: f5 :: f6 :: fs)) 6 6 K ↔ K f6 := by simp [gF, clN]
theorem pF_6_6 {f0 f1 f2 f3 f4 f5 f6 : Value} {fs : List Value} {x : Nat} {K : AC → Prop} : pF (oO 6 (f0 :: f1 :: f2 :: f3 :: f4 :: f5 :: f6 :: fs)) 6 6 (.ref x) K ↔ K (oO 6 (f0 :: f1 :: f2 :: f3 :: f4 :: f5 :: .ref x :: fs)) := by simp [pF, clN, clTy, okv, tyX7]
theorem gF_6_7 {f0 f1 f2 f3 f4 f5 f6 f7 : Value} {fs : List Value} {K : Value → Prop} : gF (oO 6 (f0 :: f1 :: f2 :: f3 :: f4 :: f5 :: f6 :: f7 :: fs)) 6 7 K ↔ K f7 := by simp [gF, clN]
theorem pF_6_7 {f0 f1 f2 f3 f4 f5 f6 f7 : Value} {fs : List Value} {x : Nat} {K : AC → Prop} : pF (oO 6 (f0 :: f1 :: f2 :: f3 :: f4 :: f5 :: f6 :: f7 :: fs)) 6 7 (.ref x) K ↔ K (oO 6 (f0 :: f1 :: f2 :: f3 :: f4 :: f5 :: f6 :: .ref x :: fs)) := by simp [pF, clN, clTy, okv, tyX7]
theorem gF_6_8 {f0 f1 f2 f3 f4 f5 f6 f7 f8 : Value} {fs : List Value} {K : Value → Prop} : gF (oO 6 (f0 :: f1 :: f2 :: f3 :: f4 :: f5 :: f6 :: f7 :: f8 :: fs)) 6 8 K ↔ K f8 := by simp [gF, clN]
theorem pF_6_8 {f0 f1 f2 f3 f4 f5 f6 f7 f8 : Value} {fs : List Value} {x : Int32} {K : AC → Prop} : pF (oO 6 (f0 :: f1 :: f2 :: f3 :: f4 :: f5 :: f6 :: f7 :: f8 :: fs)) 6 8 (.int x) K ↔ K (oO 6 (f0 :: f1 :: f2 :: f3 :: f4 :: f5 :: f6 :: f7 :: .int x :: fs)) := by simp [pF, clN, clTy, okv, tyX7]
theorem gF_6_9 {f0 f1 f2 f3 f4 f5 f6 f7 f8 f9 : Value} {fs : List Value} {K : Value → Prop} : gF (oO 6 (f0 :: f1 :: f2 :: f3 :: f4 :: f5 :: f6 :: f7 :: f8 :: f9 :: fs)) 6 9 K ↔ K f9 := by simp [gF, clN]
theorem pF_6_9 {f0 f1 f2 f3 f4 f5 f6 f7 f8 f9 : Value} {fs : List Value} {x : Int32} {K : AC → Prop} : pF (oO 6 (f0 :: f1 :: f2 :: f3 :: f4 :: f5 :: f6 :: f7 :: f8 :: f9 :: fs)) 6 9 (.int x) K ↔ K (oO 6 (f0 :: f1 :: f2 :: f3 :: f4 :: f5 :: f6 :: f7 :: f8 :: .int x :: fs)) := by simp [pF, clN, clTy, okv, tyX7]
theorem gF_7_0 {f0 : Value} {fs : List Value} {K : Value → Prop} : gF (oO 7 (f0 :: fs)) 7 0 K ↔ K f0 := by simp [gF, clN]
theorem pF_7_0 {f0 : Value} {fs : List Value} {x : Nat} {K : AC → Prop} : pF (oO 7 (f0 :: fs)) 7 0 (.ref x) K ↔ K (oO 7 (.ref x :: fs)) := by simp [pF, clN, clTy, okv, tyX8]
theorem gF_7_1 {f0 f1 : Value} {fs : List Value} {K : Value → Prop} : gF (oO 7 (f0 :: f1 :: fs)) 7 1 K ↔ K f1 := by simp [gF, clN]
theorem pF_7_1 {f0 f1 : Value} {fs : List Value} {x : Nat} {K : AC → Prop} : pF (oO 7 (f0 :: f1 :: fs)) 7 1 (.ref x) K ↔ K (oO 7 (f0 :: .ref x :: fs)) := by simp [pF, clN, clTy, okv, tyX8]
theorem gF_7_2 {f0 f1 f2 : Value} {fs : List Value} {K : Value → Prop} : gF (oO 7 (f0 :: f1 :: f2 :: fs)) 7 2 K ↔ K f2 := by simp [gF, clN]
theorem pF_7_2 {f0 f1 f2 : Value} {fs : List Value} {x : Nat} {K : AC → Prop} : pF (oO 7 (f0 :: f1 :: f2 :: fs)) 7 2 (.ref x) K ↔ K (oO 7 (f0 :: f1 :: .ref x :: fs)) := by simp [pF, clN, clTy, okv, tyX8]
theorem gF_7_3 {f0 f1 f2 f3 : Value} {fs : List Value} {K : Value → Prop} : gF (oO 7 (f0 :: f1 :: f2 :: f3 :: fs)) 7 3 K ↔ K f3 := by simp [gF, clN]
theorem pF_7_3 {f0 f1 f2 f3 : Value} {fs : List Value} {x : Int64} {K : AC → Prop} : pF (oO 7 (f0 :: f1 :: f2 :: f3 :: fs)) 7 3 (.long x) K ↔ K (oO 7 (f0 :: f1 :: f2 :: .long x :: fs)) := by simp [pF, clN, clTy, okv, tyX8]
theorem gF_7_4 {f0 f1 f2 f3 f4 : Value} {fs : List Value} {K : Value → Prop} : gF (oO 7 (f0 :: f1 :: f2 :: f3 :: f4 :: fs)) 7 4 K ↔ K f4 := by simp [gF, clN]
theorem pF_7_4 {f0 f1 f2 f3 f4 : Value} {fs : List Value} {x : Int64} {K : AC → Prop} : pF (oO 7 (f0 :: f1 :: f2 :: f3 :: f4 :: fs)) 7 4 (.long x) K ↔ K (oO 7 (f0 :: f1 :: f2 :: f3 :: .long x :: fs)) := by simp [pF, clN, clTy, okv, tyX8]
theorem gF_7_5 {f0 f1 f2 f3 f4 f5 : Value} {fs : List Value} {K : Value → Prop} : gF (oO 7 (f0 :: f1 :: f2 :: f3 :: f4 :: f5 :: fs)) 7 5 K ↔ K f5 := by simp [gF, clN]
theorem pF_7_5 {f0 f1 f2 f3 f4 f5 : Value} {fs : List Value} {x : Nat} {K : AC → Prop} : pF (oO 7 (f0 :: f1 :: f2 :: f3 :: f4 :: f5 :: fs)) 7 5 (.ref x) K ↔ K (oO 7 (f0 :: f1 :: f2 :: f3 :: f4 :: .ref x :: fs)) := by simp [pF, clN, clTy, okv, tyX8]
theorem gF_7_6 {f0 f1 f2 f3 f4 f5 f6 : Value} {fs : List Value} {K : Value → Prop} : gF (oO 7 (f0 :: f1 :: f2 :: f3 :: f4 :: f5 :: f6 :: fs)) 7 6 K ↔ K f6 := by simp [gF, clN]
theorem pF_7_6 {f0 f1 f2 f3 f4 f5 f6 : Value} {fs : List Value} {x : Int32} {K : AC → Prop} : pF (oO 7 (f0 :: f1 :: f2 :: f3 :: f4 :: f5 :: f6 :: fs)) 7 6 (.int x) K ↔ K (oO 7 (f0 :: f1 :: f2 :: f3 :: f4 :: f5 :: .int x :: fs)) := by simp [pF, clN, clTy, okv, tyX8]
theorem gF_7_7 {f0 f1 f2 f3 f4 f5 f6 f7 : Value} {fs : List Value} {K : Value → Prop} : gF (oO 7 (f0 :: f1 :: f2 :: f3 :: f4 :: f5 :: f6 :: f7 :: fs)) 7 7 K ↔ K f7 := by simp [gF, clN]
theorem pF_7_7 {f0 f1 f2 f3 f4 f5 f6 f7 : Value} {fs : List Value} {x : Nat} {K : AC → Prop} : pF (oO 7 (f0 :: f1 :: f2 :: f3 :: f4 :: f5 :: f6 :: f7 :: fs)) 7 7 (.ref x) K ↔ K (oO 7 (f0 :: f1 :: f2 :: f3 :: f4 :: f5 :: f6 :: .ref x :: fs)) := by simp [pF, clN, clTy, okv, tyX8]
theorem gF_7_8 {f0 f1 f2 f3 f4 f5 f6 f7 f8 : Value} {fs : List Value} {K : Value → Prop} : gF (oO 7 (f0 :: f1 :: f2 :: f3 :: f4 :: f5 :: f6 :: f7 :: f8 :: fs)) 7 8 K ↔ K f8 := by simp [gF, clN]
theorem pF_7_8 {f0 f1 f2 f3 f4 f5 f6 f7 f8 : Value} {fs : List Value} {x : Int32} {K : AC → Prop} : pF (oO 7 (f0 :: f1 :: f2 :: f3 :: f4 :: f5 :: f6 :: f7 :: f8 :: fs)) 7 8 (.int x) K ↔ K (oO 7 (f0 :: f1 :: f2 :: f3 :: f4 :: f5 :: f6 :: f7 :: .int x :: fs)) := by simp [pF, clN, clTy, okv, tyX8]
theorem gF_7_9 {f0 f1 f2 f3 f4 f5 f6 f7 f8 f9 : Value} {fs : List Value} {K : Value → Prop} : gF (oO 7 (f0 :: f1 :: f2 :: f3 :: f4 :: f5 :: f6 :: f7 :: f8 :: f9 :: fs)) 7 9 K ↔ K f9 := by simp [gF, clN]
theorem pF_7_9 {f0 f1 f2 f3 f4 f5 f6 f7 f8 f9 : Value} {fs : List Value} {x : Int32} {K : AC → Prop} : pF (oO 7 (f0 :: f1 :: f2 :: f3 :: f4 :: f5 :: f6 :: f7 :: f8 :: f9 :: fs)) 7 9 (.int x) K ↔ K (oO 7 (f0 :: f1 :: f2 :: f3 :: f4 :: f5 :: f6 :: f7 :: f8 :: .int x :: fs)) := by simp [pF, clN, clTy, okv, tyX8]
theorem gF_7_10 {f0 f1 f2 f3 f4 f5 f6 f7 f8 f9 f10 : Value} {fs : List Value} {K : Value → Prop} : gF (oO 7 (f0 :: f1 :: f2 :: f3 :: f4 :: f5 :: f6 :: f7 :: f8 :: f9 :: f10 :: fs)) 7 10 K ↔ K f10 := by simp [gF, clN]
theorem pF_7_10 {f0 f1 f2 f3 f4 f5 f6 f7 f8 f9 f10 : Value} {fs : List Value} {x : Int32} {K : AC → Prop} : pF (oO 7 (f0 :: f1 :: f2 :: f3 :: f4 :: f5 :: f6 :: f7 :: f8 :: f9 :: f10 :: fs)) 7 10 (.int x) K ↔ K (oO 7 (f0 :: f1 :: f2 :: f3 :: f4 :: f5 :: f6 :: f7 :: f8 :: f9 :: .int x :: fs)) := by simp [pF, clN, clTy, okv, tyX8]
theorem gF_7_11 {f0 f1 f2 f3 f4 f5 f6 f7 f8 f9 f10 f11 : Value} {fs : List Value} {K : Value → Prop} : gF (oO 7 (f0 :: f1 :: f2 :: f3 :: f4 :: f5 :: f6 :: f7 :: f8 :: f9 :: f10 :: f11 :: fs)) 7 11 K ↔ K f11 := by simp [gF, clN]
theorem pF_7_11 {f0 f1 f2 f3 f4 f5 f6 f7 f8 f9 f10 f11 : Value} {fs : List Value} {x : Int32} {K : AC → Prop} : pF (oO 7 (f0 :: f1 :: f2 :: f3 :: f4 :: f5 :: f6 :: f7 :: f8 :: f9 :: f10 :: f11 :: fs)) 7 11 (.int x) K ↔ K (oO 7 (f0 :: f1 :: f2 :: f3 :: f4 :: f5 :: f6 :: f7 :: f8 :: f9 :: f10 :: .int x :: fs)) := by simp [pF, clN, clTy, okv, tyX8]
theorem gF_7_12 {f0 f1 f2 f3 f4 f5 f6 f7 f8 f9 f10 f11 f12 : Value} {fs : List Value} {K : Value → Prop} : gF (oO 7 (f0 :: f1 :: f2 :: f3 :: f4 :: f5 :: f6 :: f7 :: f8 :: f9 :: f10 :: f11 :: f12 :: fs)) 7 12 K ↔ K f12 := by simp [gF, clN]
theorem pF_7_12 {f0 f1 f2 f3 f4 f5 f6 f7 f8 f9 f10 f11 f12 : Value} {fs : List Value} {x : Int32} {K : AC → Prop} : pF (oO 7 (f0 :: f1 :: f2 :: f3 :: f4 :: f5 :: f6 :: f7 :: f8 :: f9 :: f10 :: f11 :: f12 :: fs)) 7 12 (.int x) K ↔ ((x = 0 ∨ x = 1) ∧ K (oO 7 (f0 :: f1 :: f2 :: f3 :: f4 :: f5 :: f6 :: f7 :: f8 :: f9 :: f10 :: f11 :: .int x :: fs))) := by simp [pF, clN, clTy, okv, tyX8]
theorem gF_7_13 {f0 f1 f2 f3 f4 f5 f6 f7 f8 f9 f10 f11 f12 f13 : Value} {fs : List Value} {K : Value → Prop} : gF (oO 7 (f0 :: f1 :: f2 :: f3 :: f4 :: f5 :: f6 :: f7 :: f8 :: f9 :: f10 :: f11 :: f12 :: f13 :: fs)) 7 13 K ↔ K f13 := by simp [gF, clN]
theorem pF_7_13 {f0 f1 f2 f3 f4 f5 f6 f7 f8 f9 f10 f11 f12 f13 : Value} {fs : List Value} {x : Nat} {K : AC → Prop} : pF (oO 7 (f0 :: f1 :: f2 :: f3 :: f4 :: f5 :: f6 :: f7 :: f8 :: f9 :: f10 :: f11 :: f12 :: f13 :: fs)) 7 13 (.ref x) K ↔ K (oO 7 (f0 :: f1 :: f2 :: f3 :: f4 :: f5 :: f6 :: f7 :: f8 :: f9 :: f10 :: f11 :: f12 :: .ref x :: fs)) := by simp [pF, clN, clTy, okv, tyX8]
theorem gF_7_14 {f0 f1 f2 f3 f4 f5 f6 f7 f8 f9 f10 f11 f12 f13 f14 : Value} {fs : List Value} {K : Value → Prop} : gF (oO 7 (f0 :: f1 :: f2 :: f3 :: f4 :: f5 :: f6 :: f7 :: f8 :: f9 :: f10 :: f11 :: f12 :: f13 :: f14 :: fs)) 7 14 K ↔ K f14 := by simp [gF, clN]
theorem pF_7_14 {f0 f1 f2 f3 f4 f5 f6 f7 f8 f9 f10 f11 f12 f13 f14 : Value} {fs : List Value} {x : Nat} {K : AC → Prop} : pF (oO 7 (f0 :: f1 :: f2 :: f3 :: f4 :: f5 :: f6 :: f7 :: f8 :: f9 :: f10 :: f11 :: f12 :: f13 :: f14 :: fs)) 7 14 (.ref x) K ↔ K (oO 7 (f0 :: f1 :: f2 :: f3 :: f4 :: f5 :: f6 :: f7 :: f8 :: f9 :: f10 :: f11 :: f12 :: f13 :: .ref x :: fs)) := by simp [pF, clN, clTy, okv, tyX8]
theorem gF_7_15 {f0 f1 f2 f3 f4 f5 f6 f7 f8 f9 f10 f11 f12 f13 f14 f15 : Value} {fs : List Value} {K : Value → Prop} : gF (oO 7 (f0 :: f1 :: f2 :: f3 :: f4 :: f5 :: f6 :: f7 :: f8 :: f9 :: f10 :: f11 :: f12 :: f13 :: f14 :: f15 :: fs)) 7 15 K ↔ K f15 := by simp [gF, clN]
theorem pF_7_15 {f0 f1 f2 f3 f4 f5 f6 f7 f8 f9 f10 f11 f12 f13 f14 f15 : Value} {fs : List Value} {x : Nat} {K : AC → Prop} : pF (oO 7 (f0 :: f1 :: f2 :: f3 :: f4 :: f5 :: f6 :: f7 :: f8 :: f9 :: f10 :: f11 :: f12 :: f13 :: f14 :: f15 :: fs)) 7 15 (.ref x) K ↔ K (oO 7 (f0 :: f1 :: f2 :: f3 :: f4 :: f5 :: f6 :: f7 :: f8 :: f9 :: f10 :: f11 :: f12 :: f13 :: f14 :: .ref x :: fs)) := by simp [pF, clN, clTy, okv, tyX8]
theorem gF_7_16 {f0 f1 f2 f3 f4 f5 f6 f7 f8 f9 f10 f11 f12 f13 f14 f15 f16 : Value} {fs : List Value} {K : Value → Prop} : gF (oO 7 (f0 :: f1 :: f2 :: f3 :: f4 :: f5 :: f6 :: f7 :: f8 :: f9 :: f10 :: f11 :: f12 :: f13 :: f14 :: f15 :: f16 :: fs)) 7 16 K ↔ K f16 := by simp [gF, clN]
theorem pF_7_16 {f0 f1 f2 f3 f4 f5 f6 f7 f8 f9 f10 f11 f12 f13 f14 f15 f16 : Value} {fs : List Value} {x : Nat} {K : AC → Prop} : pF (oO 7 (f0 :: f1 :: f2 :: f3 :: f4 :: f5 :: f6 :: f7 :: f8 :: f9 :: f10 :: f11 :: f12 :: f13 :: f14 :: f15 :: f16 :: fs)) 7 16 (.ref x) K ↔ K (oO 7 (f0 :: f1 :: f2 :: f3 :: f4 :: f5 :: f6 :: f7 :: f8 :: f9 :: f10 :: f11 :: f12 :: f13 :: f14 :: f15 :: .ref x :: fs)) := by simp [pF, clN, clTy, okv, tyX8]
theorem gF_7_17 {f0 f1 f2 f3 f4 f5 f6 f7 f8 f9 f10 f11 f12 f13 f14 f15 f16 f17 : Value} {fs : List Value} {K : Value → Prop} : gF (oO 7 (f0 :: f1 :: f2 :: f3 :: f4 :: f5 :: f6 :: f7 :: f8 :: f9 :: f10 :: f11 :: f12 :: f13 :: f14 :: f15 :: f16 :: f17 :: fs)) 7 17 K ↔ K f17 := by simp [gF, clN]
theorem pF_7_17 {f0 f1 f2 f3 f4 f5 f6 f7 f8 f9 f10 f11 f12 f13 f14 f15 f16 f17 : Value} {fs : List Value} {x : Nat} {K : AC → Prop} : pF (oO 7 (f0 :: f1 :: f2 :: f3 :: f4 :: f5 :: f6 :: f7 :: f8 :: f9 :: f10 :: f11 :: f12 :: f13 :: f14 :: f15 :: f16 :: f17 :: fs)) 7 17 (.ref x) K ↔ K (oO 7 (f0 :: f1 :: f2 :: f3 :: f4 :: f5 :: f6 :: f7 :: f8 :: f9 :: f10 :: f11 :: f12 :: f13 :: f14 :: f15 :: f16 :: .ref x :: fs)) := by simp [pF, clN, clTy, okv, tyX8]
theorem isO_O {c : Nat} {fs : List Value} : isO (oO c fs) c := rfl
theorem aL_I {n : Nat} {f : Nat → Int32} {i : Int32} {K : Int32 → Prop} : aL (oI n f) i K ↔ ((0 ≤ i.toInt ∧ i.toInt < n) ∧ K (f i.toNatClampNeg)) := Iff.rfl
theorem aL_3 {n : Nat} {f : Nat → Int32} {i : Int32} {K : Int32 → Prop} : aL (.inl (3, n, f)) i K ↔ ((0 ≤ i.toInt ∧ i.toInt < n) ∧ K (f i.toNatClampNeg)) := Iff.rfl
theorem bL_Z {n : Nat} {f : Nat → Int32} {i : Int32} {K : Int32 → Prop} : bL (oZ n f) i K ↔ ((0 ≤ i.toInt ∧ i.toInt < n) ∧ K (f i.toNatClampNeg)) := Iff.rfl
theorem bL_2 {n : Nat} {f : Nat → Int32} {i : Int32} {K : Int32 → Prop} : bL (.inl (2, n, f)) i K ↔ ((0 ≤ i.toInt ∧ i.toInt < n) ∧ K (f i.toNatClampNeg)) := Iff.rfl
theorem qL_Q {n : Nat} {f : Nat → Option Nat} {i : Int32} {K : Option Nat → Prop} : qL (oQ n f) i K ↔ ((0 ≤ i.toInt ∧ i.toInt < n) ∧ K (f i.toNatClampNeg)) := Iff.rfl
theorem aS_I {n : Nat} {f : Nat → Int32} {i x : Int32} {K : AC → Prop} : aS (oI n f) i x K ↔ ((0 ≤ i.toInt ∧ i.toInt < n) ∧ K (oI n (upd f i.toNatClampNeg x))) := Iff.rfl
theorem bS_Z {n : Nat} {f : Nat → Int32} {i x : Int32} {K : AC → Prop} : bS (oZ n f) i x K ↔ (((0 ≤ i.toInt ∧ i.toInt < n) ∧ (x = 0 ∨ x = 1)) ∧ K (oZ n (upd f i.toNatClampNeg x))) := Iff.rfl
theorem qS_Q {n : Nat} {f : Nat → Option Nat} {i : Int32} {v : Nat} {fs : List Value} {K : AC → Prop} : qS (oQ n f) (oO 5 fs) i v K ↔ ((0 ≤ i.toInt ∧ i.toInt < n) ∧ K (oQ n (va_up f i.toNatClampNeg (some v)))) := Iff.rfl
theorem cN_I {t n : Nat} {f : Nat → Int32} {K : Nat → Prop} : cN (.inl (t, n, f)) K ↔ K n := Iff.rfl
theorem cN_Q {n : Nat} {f : Nat → Option Nat} {K : Nat → Prop} : cN (oQ n f) K ↔ K n := Iff.rfl
theorem cpO_I {n0 n1 : Nat} {f g : Nat → Int32} {sp dp n : Int32} {K : AC → Prop} : cpO (oI n0 f) (oI n1 g) sp dp n K ↔ ((0 ≤ sp.toInt ∧ 0 ≤ dp.toInt ∧ 0 ≤ n.toInt ∧ sp.toInt + n.toInt ≤ n0 ∧ dp.toInt + n.toInt ≤ n1) ∧ K (oI n1 (cpy f g sp.toNatClampNeg dp.toNatClampNeg n.toNatClampNeg))) := Iff.rfl
theorem hup_1 {h : Hp} {a : Nat} {c : AC} : (hup h a c).1 = h.1 := rfl
theorem hup_2 {h : Hp} {a : Nat} {c : AC} : (hup h a c).2.1 = h.2.1 := rfl
theorem hup_c {h : Hp} {a b : Nat} {c : AC} : (hup h a c).2.2 b = if b = a then c else h.2.2 b := rfl
theorem hnew_1 {h : Hp} {n : Nat} {c : AC} : (hnew h n c).1 = h.1 + 1 := rfl
theorem hnew_2 {h : Hp} {n : Nat} {c : AC} : (hnew h n c).2.1 = h.2.1 + n := rfl
theorem hnew_c {h : Hp} {n b : Nat} {c : AC} : (hnew h n c).2.2 b = if b = h.1 then c else h.2.2 b := rfl
theorem hup_same {h : Hp} {a : Nat} {c c2 : AC} : hup (hup h a c) a c2 = hup h a c2 := by
  unfold hup
  refine Prod.ext rfl (Prod.ext rfl (funext fun j => ?_))
  by_cases q : j = a <;> simp [q]
theorem hup_id {h : Hp} {a : Nat} : hup h a (h.2.2 a) = h := by
  refine Prod.ext rfl (Prod.ext rfl (funext fun j => ?_))
  by_cases q : j = a <;> simp [hup, q]
theorem rl_s {v : Value} {st : List Value} : rl (some v) st = v :: st := rfl
theorem rl_n {st : List Value} : rl none st = st := rfl
theorem kil_i {x : Int32} : kil (.int x) = .int x := rfl
theorem kil_r {x : Nat} : kil (.ref x) = .ref x := rfl
theorem kil_l {x : Int64} : kil (.long x) = un := rfl
theorem kil_u : kil un = un := rfl
theorem kil_0 : kil (.retAddr 0) = .retAddr 0 := rfl
theorem nar_0 : narrow .boolean (.int 0) = .int 0 := rfl
theorem nar_1 : narrow .boolean (.int 1) = .int 1 := rfl
