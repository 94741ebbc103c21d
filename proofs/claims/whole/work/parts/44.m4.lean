/-! ===== a program becomes another; differences; poke ===== -/
theorem fuN {m : Nat} (h : m < 2000) : m < fu := h
theorem Nm.norm {o d a b : Int32} (h : Nm o d a b) : (nd o d = d ∧ na o a = a ∧ nb o b = b) ∧ ¬ o < 0 ∧ o ≤ 10 := by
  rcases h with ⟨rfl, rfl, rfl, rfl⟩ | ⟨rfl, -, rfl⟩ | ⟨rfl, -, -, rfl⟩ | ⟨rfl, -, -, -⟩ | ⟨rfl, -, -, -⟩ | ⟨rfl, -, -, -⟩ | ⟨rfl, -, -, -⟩ | ⟨rfl, -, -, -⟩ | ⟨rfl, rfl, -, rfl⟩ | ⟨rfl, rfl, -, -⟩ | ⟨rfl, rfl, -, rfl⟩ <;> simp [nd, na, nb]
/-- the same program as far as n -/
def Same (n : Nat) (op d a b op' d' a' b' : Nat → Int32) : Prop := ∀ j, j < n → op' j = op j ∧ d' j = d j ∧ a' j = a j ∧ b' j = b j
theorem become_loop {n : Nat} (hn : n ≤ 20) {op d a b : Nat → Int32} (hN : ∀ i, i < n → Nm (op i) (d i) (a i) (b i)) (rl : Int32) : ∀ (m i k : Nat) (to td ta tb : Nat → Int32), i + m = n → m < k → Same i op d a b to td ta tb →
    ∃ o' d' a' b', f_Code_become_10 op d a b rl k (nI i) to td ta tb (nI n) = some (o', d', a', b', nI n) ∧ Same n op d a b o' d' a' b' := by
  intro m
  induction m with
  | zero =>
    intro i k to td ta tb e hk hs
    obtain ⟨k, rfl⟩ : ∃ k', k = k' + 1 := ⟨k - 1, by omega⟩
    have e' : i = n := by omega
    subst e'
    exact ⟨to, td, ta, tb, by rw [f_Code_become_10, if_pos (Int32.le_refl _)], hs⟩
  | succ m ih =>
    intro i k to td ta tb e hk hs
    obtain ⟨k, rfl⟩ : ∃ k', k = k' + 1 := ⟨k - 1, by omega⟩
    have hi : i < n := by omega
    have h20 : i < 20 := by omega
    obtain ⟨⟨n1, n2, n3⟩, -, -⟩ := (hN i hi).norm
    obtain ⟨o', d', a', b', h1, h2⟩ := ih (i + 1) k (upd to i (op i)) (upd td i (d i)) (upd ta i (a i)) (upd tb i (b i)) (by omega) (by omega) (by
      intro j hj
      by_cases q : j = i
      · subst q; simp only [upd_s]; exact ⟨trivial, trivial, trivial, trivial⟩
      · simp only [upd_n q]; exact hs j (by omega))
    refine ⟨o', d', a', b', ?_, h2⟩
    rw [f_Code_become_10, if_neg (nI_ge hi (by omega))]
    simp only [r20 h20, Option.bind_some, cput h20, n1, n2, n3, p1']
    exact h1
theorem become {n : Nat} (hn : n ≤ 20) {op d a b : Nat → Int32} (hN : ∀ i, i < n → Nm (op i) (d i) (a i) (b i)) (to td ta tb : Nat → Int32) (tl : Int32) :
    ∃ o' d' a' b', f_Code_become op d a b (nI n) to td ta tb tl = some (o', d', a', b', nI n) ∧ Same n op d a b o' d' a' b' := by
  have := become_loop hn hN (nI n) n 0 fu to td ta tb (by omega) (fuN (by omega)) (fun j hj => absurd hj (by omega))
  rw [show nI 0 = (0 : Int32) by decide] at this
  exact this
theorem copy_loop {n p q : Nat} (hn : n ≤ 20) (hp : p ≤ 1) (hq : q ≤ 1) (hpq : p ≠ q) : ∀ (m i k : Nat) (code : Nat → Int32), i + m = 4 * n → m < k →
    ∃ c', f_BlockCodeModel_copy_2 (nI p) (nI q) (nI n) k (nI i) code = some c' ∧ (∀ j, i ≤ j → j < 4 * n → c' (80 * q + j) = code (80 * p + j)) ∧ ∀ x, (x < 80 * q + i ∨ 80 * q + 4 * n ≤ x) → c' x = code x := by
  intro m
  induction m with
  | zero =>
    intro i k code e hk
    obtain ⟨k, rfl⟩ : ∃ k', k = k' + 1 := ⟨k - 1, by omega⟩
    refine ⟨code, ?_, fun j h1 h2 => absurd h2 (by omega), fun _ _ => rfl⟩
    rw [f_BlockCodeModel_copy_2, m4', if_pos (nI_le (by omega) (by omega))]
  | succ m ih =>
    intro i k code e hk
    obtain ⟨k, rfl⟩ : ∃ k', k = k' + 1 := ⟨k - 1, by omega⟩
    obtain ⟨c', h1, h2, h3⟩ := ih (i + 1) k (upd code (80 * q + i) (code (80 * p + i))) (by omega) (by omega)
    refine ⟨c', ?_, fun j g1 g2 => ?_, fun x hx => ?_⟩
    · rw [f_BlockCodeModel_copy_2, m4', if_neg (nI_ge (by omega) (by omega))]
      simp only [m80', nI_add, r160 (show 80 * p + i < 160 by omega), w160 (show 80 * q + i < 160 by omega), Option.bind_some, p1']
      exact h1
    · by_cases w : j = i
      · subst w
        rw [h3 _ (Or.inl (by omega)), upd_s]
      · rw [h2 j (by omega) g2, upd_n (by omega)]
    · rw [h3 x (by omega), upd_n (by omega)]
theorem copy_ok {n p q : Nat} (hn : n ≤ 20) (hp : p ≤ 1) (hq : q ≤ 1) (hpq : p ≠ q) {op d a b : Nat → Int32} (code : Nat → Int32) (h : CR n op d a b code (80 * p)) :
    ∃ c', f_BlockCodeModel_copy (nI p) (nI q) (nI n) code = some c' ∧ CR n op d a b c' (80 * p) ∧ CR n op d a b c' (80 * q) := by
  obtain ⟨c', h1, h2, h3⟩ := copy_loop hn hp hq hpq (4 * n) 0 fu code (by omega) (fuN (by omega))
  rw [show nI 0 = (0 : Int32) by decide] at h1
  refine ⟨c', h1, fun i hi => ?_, fun i hi => ?_⟩
  · obtain ⟨⟨e0, e1, e2, e3⟩, e4⟩ := h i hi
    refine ⟨⟨?_, ?_, ?_, ?_⟩, e4⟩ <;> rw [h3 _ (by omega)] <;> assumption
  · obtain ⟨⟨e0, e1, e2, e3⟩, e4⟩ := h i hi
    refine ⟨⟨?_, ?_, ?_, ?_⟩, e4⟩
    · rw [h2 (4 * i) (by omega) (by omega)]; exact e0
    · rw [Nat.add_assoc, h2 (4 * i + 1) (by omega) (by omega), ← Nat.add_assoc]; exact e1
    · rw [Nat.add_assoc, h2 (4 * i + 2) (by omega) (by omega), ← Nat.add_assoc]; exact e2
    · rw [Nat.add_assoc, h2 (4 * i + 3) (by omega) (by omega), ← Nat.add_assoc]; exact e3
theorem CR.same {n : Nat} {op d a b op' d' a' b' code : Nat → Int32} {k : Nat} (h : CR n op d a b code k) (hs : Same n op d a b op' d' a' b') : CR n op' d' a' b' code k := fun i hi => by
  obtain ⟨h1, h2, h3, h4⟩ := hs i hi
  rw [h1, h2, h3, h4]; exact h i hi
theorem diff_in {n : Nat} (hn : n ≤ 20) (code : Nat → Int32) (k4 : Int32 → Int32 → Option Int32) {i : Nat} (hi : i < n) (c : Int32) (k : Nat) (hk : 5 ≤ k) :
    f_BlockCodeModel_differences_17 code (nI n) k4 k c (nI i) 1 0 = (if code (4 * i) = code (80 + 4 * i) ∧ code (4 * i + 1) = code (80 + 4 * i + 1) ∧ code (4 * i + 2) = code (80 + 4 * i + 2) ∧ code (4 * i + 3) = code (80 + 4 * i + 3) then k4 c (nI (i + 1)) else k4 (c + 1) (nI (i + 1))) := by
  obtain ⟨k, rfl⟩ : ∃ k', k = k' + 5 := ⟨k - 5, by omega⟩
  have l0 : (0 : Int32) = nI 0 := by decide
  have a1 : ∀ j, j < 4 → rdI code 160 (4 * nI i + nI j) = some (code (4 * i + j)) := fun j hj => by rw [m4', nI_add]; exact r160 (by omega)
  have a2 : ∀ j, j < 4 → rdI code 160 (80 + 4 * nI i + nI j) = some (code (80 + 4 * i + j)) := fun j hj => by rw [m4', show (80 : Int32) = nI 80 by decide, nI_add, nI_add]; exact r160 (by omega)
  have q0 : ¬ (4 : Int32) ≤ nI 0 := by decide
  have q1 : ¬ (4 : Int32) ≤ nI 1 := by decide
  have q2 : ¬ (4 : Int32) ≤ nI 2 := by decide
  have q3 : ¬ (4 : Int32) ≤ nI 3 := by decide
  have q4 : (4 : Int32) ≤ nI 4 := by decide
  rw [show f_BlockCodeModel_differences_17 code (nI n) k4 (k + 5) c (nI i) 1 0 = f_BlockCodeModel_differences_17 code (nI n) k4 (k + 5) c (nI i) 1 (nI 0) by rw [← l0]]
  simp only [f_BlockCodeModel_differences_17, f_BlockCodeModel_differences_53, f_BlockCodeModel_differences_66, q0, q1, q2, q3, q4, if_true, if_false, a1 0 (by decide), a1 1 (by decide), a1 2 (by decide), a1 3 (by decide), a2 0 (by decide), a2 1 (by decide), a2 2 (by decide), a2 3 (by decide), Option.bind_some, p1', Nat.add_zero]
  by_cases w0 : code (4 * i) = code (80 + 4 * i) <;> by_cases w1 : code (4 * i + 1) = code (80 + 4 * i + 1) <;> by_cases w2 : code (4 * i + 2) = code (80 + 4 * i + 2) <;> by_cases w3 : code (4 * i + 3) = code (80 + 4 * i + 3) <;> simp [w0, w1, w2, w3, n10]
theorem diff_loop {n : Nat} (hn : n ≤ 20) {op d a b rop rd ra rb code : Nat → Int32} (h0 : CR n op d a b code 0) (h1 : CR n rop rd ra rb code 80) : ∀ (m i k k' : Nat) (c : Int32), i + m = n → m < k → m < k' →
    ∃ v, f_Code_differencesFrom_4 rop rd ra rb (nI n) op d a b k c (nI i) = some v ∧ f_BlockCodeModel_differences_4 code (nI n) k' c (nI i) = some v := by
  intro m
  induction m with
  | zero =>
    intro i k k' c e hk hk'
    obtain ⟨k, rfl⟩ : ∃ x, k = x + 1 := ⟨k - 1, by omega⟩
    obtain ⟨k', rfl⟩ : ∃ x, k' = x + 1 := ⟨k' - 1, by omega⟩
    have e' : i = n := by omega
    subst e'
    exact ⟨c, by rw [f_Code_differencesFrom_4, if_pos (Int32.le_refl _)], by rw [f_BlockCodeModel_differences_4, if_pos (Int32.le_refl _)]⟩
  | succ m ih =>
    intro i k k' c e hk hk'
    obtain ⟨k, rfl⟩ : ∃ x, k = x + 1 := ⟨k - 1, by omega⟩
    obtain ⟨k', rfl⟩ : ∃ x, k' = x + 1 := ⟨k' - 1, by omega⟩
    have hi : i < n := by omega
    have h20 : i < 20 := by omega
    obtain ⟨⟨e0, e1, e2, e3⟩, -⟩ := h0 i hi
    obtain ⟨⟨f0, f1, f2, f3⟩, -⟩ := h1 i hi
    simp only [Nat.zero_add] at e0 e1 e2 e3
    rw [f_Code_differencesFrom_4, if_neg (nI_ge hi (by omega)), f_BlockCodeModel_differences_4, if_neg (nI_ge hi (by omega)), diff_in hn code _ hi c fu (by decide), e0, e1, e2, e3, f0, f1, f2, f3]
    simp only [r20 h20, Option.bind_some, f_Code_differencesFrom_72, f_Code_differencesFrom_75, p1']
    by_cases w : op i = rop i ∧ d i = rd i ∧ a i = ra i ∧ b i = rb i
    · obtain ⟨w0, w1, w2, w3⟩ := w
      obtain ⟨v, g1, g2⟩ := ih (i + 1) k k' c (by omega) (by omega) (by omega)
      exact ⟨v, by simp only [w0, w1, w2, w3, if_true]; exact g1, by simp only [w0, w1, w2, w3, and_self, if_true]; exact g2⟩
    · obtain ⟨v, g1, g2⟩ := ih (i + 1) k k' (c + 1) (by omega) (by omega) (by omega)
      refine ⟨v, ?_, by rw [if_neg w]; exact g2⟩
      by_cases w0 : rop i = op i
      · by_cases w1 : rd i = d i
        · by_cases w2 : ra i = a i
          · by_cases w3 : rb i = b i
            · exact absurd ⟨w0.symm, w1.symm, w2.symm, w3.symm⟩ w
            · simp only [w0, w1, w2, w3, if_true, if_false]; exact g1
          · simp only [w0, w1, w2, if_true, if_false]; exact g1
        · simp only [w0, w1, if_true, if_false]; exact g1
      · simp only [w0, if_false]; exact g1
theorem diff_eq {n : Nat} (hn : n ≤ 20) {op d a b rop rd ra rb code : Nat → Int32} (h0 : CR n op d a b code 0) (h1 : CR n rop rd ra rb code 80) :
    ∃ v, f_Code_differencesFrom rop rd ra rb (nI n) op d a b = some v ∧ f_BlockCodeModel_differences code (nI n) = some v := by
  have := diff_loop hn h0 h1 n 0 fu fu 0 (by omega) (fuN (by omega)) (fuN (by omega))
  rw [show nI 0 = (0 : Int32) by decide] at this
  exact this
