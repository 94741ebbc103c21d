/-! ===== symbols: the same table on both sides ===== -/
def SR (c : Nat) (xk xl xr mk ml mr : Nat → Int32) : Prop := ∀ s, s < c → xk s = mk s ∧ xl s = ml s ∧ xr s = mr s
def hit (xk xl xr : Nat → Int32) (p1 p2 p3 : Int32) (s : Nat) : Prop := xk s = p1 ∧ xl s = p2 ∧ xr s = p3
theorem SR.add {c : Nat} {xk xl xr mk ml mr : Nat → Int32} (h : SR c xk xl xr mk ml mr) (p1 p2 p3 : Int32) : SR (c + 1) (upd xk c p1) (upd xl c p2) (upd xr c p3) (upd mk c p1) (upd ml c p2) (upd mr c p3) := fun s hs => by
  by_cases e : s = c
  · subst e; simp only [upd_s]; exact ⟨trivial, trivial, trivial⟩
  · simp only [upd_n e]; exact h s (by omega)
/-- what comes of asking for a symbol: its number s, the new count c' -/
def Asked (X : Option (Int32 × (Nat → Int32) × (Nat → Int32) × (Nat → Int32) × Int32)) (M : Option (Int32 × (Nat → Int32) × (Nat → Int32) × (Nat → Int32) × Int32)) (c : Nat) (xk xl xr : Nat → Int32) (p1 p2 p3 : Int32) : Prop :=
  ∃ s c' xk' xl' xr' mk' ml' mr', X = some (nI s, xk', xl', xr', nI c') ∧ M = some (nI s, mk', ml', mr', nI c') ∧ s < c' ∧ c ≤ c' ∧ c' ≤ c + 1 ∧ SR c' xk' xl' xr' mk' ml' mr' ∧
    hit xk' xl' xr' p1 p2 p3 s ∧ (∀ t, t < s → ¬ hit xk' xl' xr' p1 p2 p3 t) ∧ ∀ t, t < c → xk' t = xk t ∧ xl' t = xl t ∧ xr' t = xr t
theorem sym_loop {c : Nat} (hc : c < 45) {xk xl xr mk ml mr : Nat → Int32} (h : SR c xk xl xr mk ml mr) (p1 p2 p3 : Int32) : ∀ (m i k k' : Nat), i + m = c → m < k → m < k' → (∀ t, t < i → ¬ hit xk xl xr p1 p2 p3 t) →
    Asked (f_Symbols_numberOf_3 p1 p2 p3 k (nI i) xk xl xr (nI c)) (f_BlockCodeModel_symbolOf_3 p1 p2 p3 k' (nI i) mk ml mr (nI c)) c xk xl xr p1 p2 p3 := by
  intro m
  induction m with
  | zero =>
    intro i k k' e hk hk' hno
    obtain ⟨k, rfl⟩ : ∃ x, k = x + 1 := ⟨k - 1, by omega⟩
    obtain ⟨k', rfl⟩ : ∃ x, k' = x + 1 := ⟨k' - 1, by omega⟩
    have e' : i = c := by omega
    subst e'
    refine ⟨i, i + 1, upd xk i p1, upd xl i p2, upd xr i p3, upd mk i p1, upd ml i p2, upd mr i p3, ?_, ?_, by omega, by omega, by omega, h.add p1 p2 p3, ⟨upd_s, upd_s, upd_s⟩, fun t ht => ?_, fun t ht => ⟨upd_n (by omega), upd_n (by omega), upd_n (by omega)⟩⟩
    · rw [f_Symbols_numberOf_3, if_pos (Int32.le_refl _)]
      simp only [wrI_n hc (show 45 < 2 ^ 31 by decide), Option.bind_some, p1']
    · rw [f_BlockCodeModel_symbolOf_3, if_pos (Int32.le_refl _)]
      simp only [wrI_n (show i < 120 by omega) (show 120 < 2 ^ 31 by decide), Option.bind_some, p1', nI_pred]
    · intro q
      unfold hit at q
      rw [upd_n (by omega), upd_n (by omega), upd_n (by omega)] at q
      exact hno t ht q
  | succ m ih =>
    intro i k k' e hk hk' hno
    obtain ⟨k, rfl⟩ : ∃ x, k = x + 1 := ⟨k - 1, by omega⟩
    obtain ⟨k', rfl⟩ : ∃ x, k' = x + 1 := ⟨k' - 1, by omega⟩
    have hi : i < c := by omega
    obtain ⟨e1, e2, e3⟩ := h i hi
    rw [f_Symbols_numberOf_3, if_neg (nI_ge hi (by omega)), f_BlockCodeModel_symbolOf_3, if_neg (nI_ge hi (by omega))]
    simp only [rdI_n (show i < 45 by omega) (show 45 < 2 ^ 31 by decide), rdI_n (show i < 120 by omega) (show 120 < 2 ^ 31 by decide), Option.bind_some, ← e1, ← e2, ← e3, f_Symbols_numberOf_48, f_BlockCodeModel_symbolOf_48, p1']
    by_cases w : hit xk xl xr p1 p2 p3 i
    · obtain ⟨w1, w2, w3⟩ := id w
      simp only [w1, w2, w3, if_true]
      exact ⟨i, c, xk, xl, xr, mk, ml, mr, rfl, rfl, hi, by omega, by omega, h, w, hno, fun t _ => ⟨rfl, rfl, rfl⟩⟩
    · have go := ih (i + 1) k k' (by omega) (by omega) (by omega) (fun t ht => by
        by_cases q : t = i
        · subst q; exact w
        · exact hno t (by omega))
      by_cases w1 : xk i = p1
      · by_cases w2 : xl i = p2
        · by_cases w3 : xr i = p3
          · exact absurd ⟨w1, w2, w3⟩ w
          · simp only [w1, w2, w3, if_true, if_false]; exact go
        · simp only [w1, w2, if_true, if_false]; exact go
      · simp only [w1, if_false]; exact go
theorem sym_eq {c : Nat} (hc : c < 45) {xk xl xr mk ml mr : Nat → Int32} (h : SR c xk xl xr mk ml mr) (p1 p2 p3 : Int32) :
    Asked (f_Symbols_numberOf p1 p2 p3 xk xl xr (nI c)) (f_BlockCodeModel_symbolOf p1 p2 p3 mk ml mr (nI c)) c xk xl xr p1 p2 p3 := by
  have := sym_loop hc h p1 p2 p3 c 0 fu fu (by omega) (fuN (by omega)) (fuN (by omega)) (fun t ht => absurd ht (by omega))
  rw [show nI 0 = (0 : Int32) by decide] at this
  exact this
/-- the class asks again: the same number, nothing is added -/
theorem sym_again {c s : Nat} (hc : c ≤ 45) {xk xl xr : Nat → Int32} {p1 p2 p3 : Int32} (hs : s < c) (hh : hit xk xl xr p1 p2 p3 s) (hno : ∀ t, t < s → ¬ hit xk xl xr p1 p2 p3 t) : ∀ (m i k : Nat), i + m = s → m < k →
    f_Symbols_numberOf_3 p1 p2 p3 k (nI i) xk xl xr (nI c) = some (nI s, xk, xl, xr, nI c) := by
  intro m
  induction m with
  | zero =>
    intro i k e hk
    obtain ⟨k, rfl⟩ : ∃ x, k = x + 1 := ⟨k - 1, by omega⟩
    have e' : i = s := by omega
    subst e'
    obtain ⟨w1, w2, w3⟩ := hh
    rw [f_Symbols_numberOf_3, if_neg (nI_ge hs (by omega))]
    simp only [rdI_n (show i < 45 by omega) (show 45 < 2 ^ 31 by decide), Option.bind_some, w1, w2, w3, if_true]
  | succ m ih =>
    intro i k e hk
    obtain ⟨k, rfl⟩ : ∃ x, k = x + 1 := ⟨k - 1, by omega⟩
    have go := ih (i + 1) k (by omega) (by omega)
    have w := hno i (by omega)
    rw [f_Symbols_numberOf_3, if_neg (nI_ge (show i < c by omega) (by omega))]
    simp only [rdI_n (show i < 45 by omega) (show 45 < 2 ^ 31 by decide), Option.bind_some, f_Symbols_numberOf_48, p1']
    by_cases w1 : xk i = p1
    · by_cases w2 : xl i = p2
      · by_cases w3 : xr i = p3
        · exact absurd ⟨w1, w2, w3⟩ w
        · simp only [w1, w2, w3, if_true, if_false]; exact go
      · simp only [w1, w2, if_true, if_false]; exact go
    · simp only [w1, if_false]; exact go
