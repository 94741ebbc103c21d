/-! ===== the mirrors in words: forms ===== -/
theorem i5 {x : Int32} : (5 : Int32) ≤ x ↔ (4 : Int32) < x := by
  rw [Int32.le_iff_toInt_le, Int32.lt_iff_toInt_lt]
  have h1 : (5 : Int32).toInt = 5 := by decide
  have h2 : (4 : Int32).toInt = 4 := by decide
  omega
theorem i20 {x : Int32} : (20 : Int32) ≤ x ↔ (19 : Int32) < x := by
  rw [Int32.le_iff_toInt_le, Int32.lt_iff_toInt_lt]
  have h1 : (20 : Int32).toInt = 20 := by decide
  have h2 : (19 : Int32).toInt = 19 := by decide
  omega
theorem i32 {x : Int32} : (32 : Int32) ≤ x ↔ (31 : Int32) < x := by
  rw [Int32.le_iff_toInt_le, Int32.lt_iff_toInt_lt]
  have h1 : (32 : Int32).toInt = 32 := by decide
  have h2 : (31 : Int32).toInt = 31 := by decide
  omega
theorem inle {x y : Int32} : ¬ x ≤ y ↔ y < x := by
  rw [Int32.le_iff_toInt_le, Int32.lt_iff_toInt_lt]
  omega
theorem op_cases {a : Int32} (h0 : ¬ a < 0) (h1 : a ≤ 10) : a = 0 ∨ a = 1 ∨ a = 2 ∨ a = 3 ∨ a = 4 ∨ a = 5 ∨ a = 6 ∨ a = 7 ∨ a = 8 ∨ a = 9 ∨ a = 10 := by
  obtain ⟨j, hj, rfl⟩ := nI_of2 (n := 10) (by decide) h0 h1
  have : j = 0 ∨ j = 1 ∨ j = 2 ∨ j = 3 ∨ j = 4 ∨ j = 5 ∨ j = 6 ∨ j = 7 ∨ j = 8 ∨ j = 9 ∨ j = 10 := by omega
  rcases this with rfl | rfl | rfl | rfl | rfl | rfl | rfl | rfl | rfl | rfl | rfl <;> decide
theorem gz0 : gzI 0 = some 0 := by decide
theorem gz1 : gzI 1 = some 1 := by decide
set_option maxHeartbeats 4000000 in
/-- the two say alike which forms there are -/
theorem hf_eq (a b c d : Int32) : f_BlockCode_hasForm a b c d = f_BlockCodeModel_hasForm a b c d := by
  by_cases h0 : a < 0
  · simp [f_BlockCode_hasForm, f_BlockCodeModel_hasForm, f_BlockCodeModel_within, h0]
  · by_cases h1 : a ≤ 10
    · rcases op_cases h0 h1 with rfl | rfl | rfl | rfl | rfl | rfl | rfl | rfl | rfl | rfl | rfl <;>
      simp [f_BlockCode_hasForm, f_BlockCode_makesRegister, f_BlockCode_isRegister, f_BlockCode_hasForm_28, f_BlockCode_readsA, f_BlockCode_readsA_11, f_BlockCode_readsA_17, f_BlockCode_hasForm_44, f_BlockCode_combines, f_BlockCode_hasForm_60, f_BlockCode_hasForm_72, f_BlockCode_hasForm_98, f_BlockCode_namedBy, f_BlockCode_isPlace,
        f_BlockCodeModel_hasForm, f_BlockCodeModel_within, f_BlockCodeModel_hasForm_33, f_BlockCodeModel_hasForm_49, f_BlockCodeModel_hasForm_60, f_BlockCodeModel_hasForm_81, f_BlockCodeModel_hasForm_97, f_BlockCodeModel_hasForm_115, f_BlockCodeModel_hasForm_131, i5, i20, i32] <;>
      (repeat' split) <;> simp_all [gz0, gz1]
    · have h2 : (10 : Int32) < a := inle.mp h1
      simp [f_BlockCode_hasForm, f_BlockCodeModel_hasForm, f_BlockCodeModel_within, h0, h1, h2]
theorem hf_some (a b c d : Int32) : f_BlockCodeModel_hasForm a b c d = some 0 ∨ f_BlockCodeModel_hasForm a b c d = some 1 := by
  have w : ∀ x y z, f_BlockCodeModel_within x y z = some 0 ∨ f_BlockCodeModel_within x y z = some 1 := by
    intro x y z; unfold f_BlockCodeModel_within; split
    · exact Or.inl rfl
    · split
      · exact Or.inl rfl
      · exact Or.inr rfl
  have h115 : f_BlockCodeModel_hasForm_115 a b c d = some 0 ∨ f_BlockCodeModel_hasForm_115 a b c d = some 1 := by
    unfold f_BlockCodeModel_hasForm_115
    split
    · rcases w c 0 31 with h | h <;> rw [h] <;> simp [f_BlockCodeModel_hasForm_131]
    · exact Or.inr rfl
  have h97 : f_BlockCodeModel_hasForm_97 a b c d = some 0 ∨ f_BlockCodeModel_hasForm_97 a b c d = some 1 := by
    unfold f_BlockCodeModel_hasForm_97
    split
    · rcases w d 0 19 with h | h <;> rw [h] <;> simp [h115]
    · exact h115
  have h81 : f_BlockCodeModel_hasForm_81 a b c d = some 0 ∨ f_BlockCodeModel_hasForm_81 a b c d = some 1 := by
    unfold f_BlockCodeModel_hasForm_81
    split
    · rcases w c 0 19 with h | h <;> rw [h] <;> simp [h97]
    · exact h97
  have h60 : f_BlockCodeModel_hasForm_60 a b c d = some 0 ∨ f_BlockCodeModel_hasForm_60 a b c d = some 1 := by
    unfold f_BlockCodeModel_hasForm_60
    rcases w a 3 7 with h | h <;> rw [h] <;> simp [h81]
    rcases w d 0 4 with h | h <;> rw [h] <;> simp [h81]
  have h49 : f_BlockCodeModel_hasForm_49 a b c d = some 0 ∨ f_BlockCodeModel_hasForm_49 a b c d = some 1 := by
    unfold f_BlockCodeModel_hasForm_49
    rcases w c 0 4 with h | h <;> rw [h] <;> simp [h60]
  have h33 : f_BlockCodeModel_hasForm_33 a b c d = some 0 ∨ f_BlockCodeModel_hasForm_33 a b c d = some 1 := by
    unfold f_BlockCodeModel_hasForm_33
    rcases w a 2 7 with h | h <;> rw [h] <;> simp [h49]
    split
    · exact h49
    · exact h60
  unfold f_BlockCodeModel_hasForm
  rcases w a 0 10 with h | h <;> rw [h] <;> simp
  rcases w a 1 7 with h | h <;> rw [h] <;> simp [h33]
  rcases w b 0 4 with h | h <;> rw [h] <;> simp [h33]
