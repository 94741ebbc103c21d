/-! ===== numbers and cells ===== -/
theorem rdI_n {f : Nat → Int32} {N i : Nat} (h : i < N) (hN : N < 2 ^ 31) : rdI f N (nI i) = some (f i) := by
  unfold rdI; rw [if_neg (nI_in h hN), nI_clamp (by omega)]
theorem rdL_n {f : Nat → Int64} {N i : Nat} (h : i < N) (hN : N < 2 ^ 31) : rdL f N (nI i) = some (f i) := by
  unfold rdL; rw [if_neg (nI_in h hN), nI_clamp (by omega)]
theorem wrI_n {f : Nat → Int32} {N i : Nat} {x : Int32} (h : i < N) (hN : N < 2 ^ 31) : wrI f N (nI i) x = some (upd f i x) := by
  unfold wrI; rw [if_neg (nI_in h hN), nI_clamp (by omega)]
theorem wrL_n {f : Nat → Int64} {N i : Nat} {x : Int64} (h : i < N) (hN : N < 2 ^ 31) : wrL f N (nI i) x = some (vp_updL f i x) := by
  unfold wrL; rw [if_neg (nI_in h hN), nI_clamp (by omega)]
theorem r20 {f : Nat → Int32} {i : Nat} (h : i < 20) : rdI f 20 (nI i) = some (f i) := rdI_n h (by decide)
theorem w20 {f : Nat → Int32} {i : Nat} {x : Int32} (h : i < 20) : wrI f 20 (nI i) x = some (upd f i x) := wrI_n h (by decide)
theorem r160 {f : Nat → Int32} {i : Nat} (h : i < 160) : rdI f 160 (nI i) = some (f i) := rdI_n h (by decide)
theorem w160 {f : Nat → Int32} {i : Nat} {x : Int32} (h : i < 160) : wrI f 160 (nI i) x = some (upd f i x) := wrI_n h (by decide)
theorem nI_p (a k : Nat) (m : Int32) (h : nI k = m) : nI a + m = nI (a + k) := by rw [← h, nI_add]
theorem p1' (a : Nat) : nI a + 1 = nI (a + 1) := nI_p a 1 1 (by decide)
theorem p2' (a : Nat) : nI a + 2 = nI (a + 2) := nI_p a 2 2 (by decide)
theorem p3' (a : Nat) : nI a + 3 = nI (a + 3) := nI_p a 3 3 (by decide)
theorem m4' (a : Nat) : (4 : Int32) * nI a = nI (4 * a) := by rw [show (4 : Int32) = nI 4 by decide, pk_mul]
theorem m80' (a : Nat) : (80 : Int32) * nI a = nI (80 * a) := by rw [show (80 : Int32) = nI 80 by decide, pk_mul]
/-! ===== the normal form of an instruction ===== -/
def nd (o d : Int32) : Int32 := if o < 1 then 0 else if 7 < o then 0 else d
def na (o a : Int32) : Int32 := if o = 0 then 0 else a
def nb (o b : Int32) : Int32 := if o < 3 then (if o = 9 then b else 0) else if 7 < o then (if o = 9 then b else 0) else b
def isR (x : Int32) (m : Nat) : Prop := ∃ j : Nat, j < m ∧ x = nI j
def Nm (o d a b : Int32) : Prop :=
  (o = 0 ∧ d = 0 ∧ a = 0 ∧ b = 0) ∨ (o = 1 ∧ isR d 5 ∧ b = 0) ∨ (o = 2 ∧ isR d 5 ∧ isR a 5 ∧ b = 0) ∨
  (o = 3 ∧ isR d 5 ∧ isR a 5 ∧ isR b 5) ∨ (o = 4 ∧ isR d 5 ∧ isR a 5 ∧ isR b 5) ∨ (o = 5 ∧ isR d 5 ∧ isR a 5 ∧ isR b 5) ∨ (o = 6 ∧ isR d 5 ∧ isR a 5 ∧ isR b 5) ∨ (o = 7 ∧ isR d 5 ∧ isR a 5 ∧ isR b 5) ∨
  (o = 8 ∧ d = 0 ∧ isR a 20 ∧ b = 0) ∨ (o = 9 ∧ d = 0 ∧ isR a 5 ∧ isR b 20) ∨ (o = 10 ∧ d = 0 ∧ isR a 32 ∧ b = 0)
theorem isR_of {x m : Int32} {k : Nat} (hm : m.toInt = k) (h0 : ¬ x < 0) (h1 : ¬ m < x) : isR x (k + 1) := by
  have h2 : x ≤ m := by
    rw [Int32.lt_iff_toInt_lt] at h1; rw [Int32.le_iff_toInt_le]; omega
  obtain ⟨j, hj, e⟩ := nI_of2 hm h0 h2
  exact ⟨j, by omega, e⟩
theorem within1 {x y z : Int32} (h : f_BlockCodeModel_within x y z = some 1) : ¬ x < y ∧ ¬ z < x := by
  unfold f_BlockCodeModel_within at h
  split at h
  · cases h
  · split at h
    · cases h
    · exact ⟨by assumption, by assumption⟩
theorem within_of {x y z : Int32} (h1 : ¬ x < y) (h2 : ¬ z < x) : f_BlockCodeModel_within x y z = some 1 := by
  unfold f_BlockCodeModel_within; rw [if_neg h1, if_neg h2]
theorem within_or (x y z : Int32) : f_BlockCodeModel_within x y z = some 0 ∨ f_BlockCodeModel_within x y z = some 1 := by
  unfold f_BlockCodeModel_within; split
  · exact Or.inl rfl
  · split
    · exact Or.inl rfl
    · exact Or.inr rfl
set_option maxHeartbeats 4000000 in
theorem hf_Nm {o d a b : Int32} (h : f_BlockCodeModel_hasForm o d a b = some 1) : Nm o (nd o d) (na o a) (nb o b) := by
  have h0 : ¬ o < 0 := fun q => by simp [f_BlockCodeModel_hasForm, f_BlockCodeModel_within, q] at h
  have h1 : o ≤ 10 := by
    apply Decidable.byContradiction
    intro q
    have q' : (10 : Int32) < o := inle.mp q
    simp [f_BlockCodeModel_hasForm, f_BlockCodeModel_within, h0, q'] at h
  have r5 : ∀ {x : Int32}, ¬ x < 0 → ¬ (4 : Int32) < x → isR x 5 := fun p q => isR_of (k := 4) (by decide) p q
  have r20 : ∀ {x : Int32}, ¬ x < 0 → ¬ (19 : Int32) < x → isR x 20 := fun p q => isR_of (k := 19) (by decide) p q
  have r32 : ∀ {x : Int32}, ¬ x < 0 → ¬ (31 : Int32) < x → isR x 32 := fun p q => isR_of (k := 31) (by decide) p q
  rcases op_cases h0 h1 with rfl | rfl | rfl | rfl | rfl | rfl | rfl | rfl | rfl | rfl | rfl <;>
  simp [f_BlockCodeModel_hasForm, f_BlockCodeModel_within, f_BlockCodeModel_hasForm_33, f_BlockCodeModel_hasForm_49, f_BlockCodeModel_hasForm_60, f_BlockCodeModel_hasForm_81, f_BlockCodeModel_hasForm_97, f_BlockCodeModel_hasForm_115, f_BlockCodeModel_hasForm_131] at h <;>
  simp [Nm, nd, na, nb] <;> (repeat' (split at h <;> try simp at h)) <;> (repeat' apply And.intro) <;> first | exact r5 (by assumption) (by assumption) | exact r20 (by assumption) (by assumption) | exact r32 (by assumption) (by assumption) | skip

set_option maxHeartbeats 1000000 in
theorem cput {i : Nat} (hi : i < 20) (o d a b : Int32) (op dd aa bb : Nat → Int32) : f_Code_put (nI i) o d a b op dd aa bb = some (upd op i o, upd dd i (nd o d), upd aa i (na o a), upd bb i (nb o b)) := by
  have m : f_BlockCode_makesRegister o = some (if o < 1 then 0 else if 7 < o then 0 else 1) := by unfold f_BlockCode_makesRegister; (repeat' split) <;> first | rfl | simp_all
  have k : f_BlockCode_combines o = some (if o < 3 then 0 else if 7 < o then 0 else 1) := by unfold f_BlockCode_combines; (repeat' split) <;> first | rfl | simp_all
  simp only [f_Code_put, f_Code_put_24, f_Code_put_40, f_Code_put_59, f_Code_put_65, w20 hi, Option.bind_some, m, k, nd, na, nb]
  by_cases h1 : o < 1 <;> by_cases h2 : 7 < o <;> by_cases h3 : o < 3 <;> by_cases h4 : o = 0 <;> by_cases h5 : o = 9 <;> simp [h1, h2, h3, h4, h5]
set_option maxHeartbeats 1000000 in
theorem mput {k : Nat} (hk : k + 3 < 160) {o : Int32} (h0 : ¬ o < 0) (h10 : o ≤ 10) (d a b : Int32) (code : Nat → Int32) :
    f_BlockCodeModel_put (nI k) o d a b code = some (upd (upd (upd (upd code k o) (k + 1) (nd o d)) (k + 2) (na o a)) (k + 3) (nb o b)) := by
  have w0 : ∀ (f : Nat → Int32) (x : Int32), wrI f 160 (nI k) x = some (upd f k x) := fun f x => w160 (by omega)
  have w1 : ∀ (f : Nat → Int32) (x : Int32), wrI f 160 (nI k + 1) x = some (upd f (k + 1) x) := fun f x => by rw [p1']; exact w160 (by omega)
  have w2 : ∀ (f : Nat → Int32) (x : Int32), wrI f 160 (nI k + 2) x = some (upd f (k + 2) x) := fun f x => by rw [p2']; exact w160 (by omega)
  have w3 : ∀ (f : Nat → Int32) (x : Int32), wrI f 160 (nI k + 3) x = some (upd f (k + 3) x) := fun f x => by rw [p3']; exact w160 (by omega)
  rcases op_cases h0 h10 with rfl | rfl | rfl | rfl | rfl | rfl | rfl | rfl | rfl | rfl | rfl <;>
  simp [f_BlockCodeModel_put_71, f_BlockCodeModel_put_49, f_BlockCodeModel_put_27, f_BlockCodeModel_put, w0, w1, w2, w3, f_BlockCodeModel_says, f_BlockCodeModel_says_42, f_BlockCodeModel_within, gz0, gz1, nd, na, nb]
/-! ===== the relation ===== -/
/-- the program of n instructions, and its four ints each in the reference's one array from k on -/
def CR (n : Nat) (op d a b code : Nat → Int32) (k : Nat) : Prop := ∀ i, i < n → (code (k + 4 * i) = op i ∧ code (k + 4 * i + 1) = d i ∧ code (k + 4 * i + 2) = a i ∧ code (k + 4 * i + 3) = b i) ∧ Nm (op i) (d i) (a i) (b i)
theorem upd_s {f : Nat → Int32} {k : Nat} {x : Int32} : upd f k x k = x := pk_us
theorem upd_n {f : Nat → Int32} {k j : Nat} {x : Int32} (h : j ≠ k) : upd f k x j = f j := pk_un h
/-- one instruction put on both sides -/
theorem CR.put {n : Nat} {op d a b code : Nat → Int32} {k i : Nat} {o x y z : Int32} (h : CR n op d a b code k) (hN : Nm o x y z) (n' : Nat) (hn : ∀ j, j < n' → j = i ∨ j < n) :
    CR n' (upd op i o) (upd d i x) (upd a i y) (upd b i z) (upd (upd (upd (upd code (k + 4 * i) o) (k + 4 * i + 1) x) (k + 4 * i + 2) y) (k + 4 * i + 3) z) k := by
  intro j hj
  by_cases e : j = i
  · subst e
    refine ⟨⟨?_, ?_, ?_, ?_⟩, ?_⟩
    · rw [upd_n (by omega), upd_n (by omega), upd_n (by omega), upd_s, upd_s]
    · rw [upd_n (by omega), upd_n (by omega), upd_s, upd_s]
    · rw [upd_n (by omega), upd_s, upd_s]
    · rw [upd_s, upd_s]
    · simp only [upd_s]; exact hN
  · obtain ⟨⟨h1, h2, h3, h4⟩, h5⟩ := h j ((hn j hj).resolve_left e)
    refine ⟨⟨?_, ?_, ?_, ?_⟩, ?_⟩
    · rw [upd_n (by omega), upd_n (by omega), upd_n (by omega), upd_n (by omega), upd_n e]; exact h1
    · rw [upd_n (by omega), upd_n (by omega), upd_n (by omega), upd_n (by omega), upd_n e]; exact h2
    · rw [upd_n (by omega), upd_n (by omega), upd_n (by omega), upd_n (by omega), upd_n e]; exact h3
    · rw [upd_n (by omega), upd_n (by omega), upd_n (by omega), upd_n (by omega), upd_n e]; exact h4
    · simp only [upd_n e]; exact h5
/-- what is put elsewhere in the one array -/
theorem CR.off {n : Nat} {op d a b code : Nat → Int32} {k q : Nat} {o x y z : Int32} (h : CR n op d a b code k) (hq : ∀ i, i < n → k + 4 * i + 3 < q ∨ q + 3 < k + 4 * i) :
    CR n op d a b (upd (upd (upd (upd code q o) (q + 1) x) (q + 2) y) (q + 3) z) k := by
  intro j hj
  obtain ⟨⟨h1, h2, h3, h4⟩, h5⟩ := h j hj
  have := hq j hj
  refine ⟨⟨?_, ?_, ?_, ?_⟩, h5⟩
  · rw [upd_n (by omega), upd_n (by omega), upd_n (by omega), upd_n (by omega)]; exact h1
  · rw [upd_n (by omega), upd_n (by omega), upd_n (by omega), upd_n (by omega)]; exact h2
  · rw [upd_n (by omega), upd_n (by omega), upd_n (by omega), upd_n (by omega)]; exact h3
  · rw [upd_n (by omega), upd_n (by omega), upd_n (by omega), upd_n (by omega)]; exact h4
