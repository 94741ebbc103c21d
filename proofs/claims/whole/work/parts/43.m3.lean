/-! ===== the easy calls ===== -/
theorem nm1 {n : Nat} (hn : n ≤ 20) : (nI n - 1).toInt = (n : Int) - 1 := by
  have h := pk_sub_toInt (a := n) (b := 1) (by omega) (by decide)
  rw [show nI 1 = 1 by decide] at h
  exact h
/-- is there an instruction x? -/
theorem hw (x : Int32) {n : Nat} (hn : n ≤ 20) : (f_Code_has x (nI n) = some 0 ∧ f_BlockCodeModel_within x 0 (nI n - 1) = some 0) ∨ ∃ i, i < n ∧ x = nI i ∧ f_Code_has x (nI n) = some 1 ∧ f_BlockCodeModel_within x 0 (nI n - 1) = some 1 := by
  have hm := nm1 hn
  have hz : (0 : Int32).toInt = 0 := by decide
  rcases pk_ix x (n := n) (by omega) with h | h | ⟨j, hj, rfl⟩
  · exact Or.inl ⟨by unfold f_Code_has; rw [if_pos h], by unfold f_BlockCodeModel_within; rw [if_pos h]⟩
  · have h' := Int32.le_iff_toInt_le.mp h
    rw [nI_toInt (by omega)] at h'
    have h0 : ¬ x < 0 := by rw [Int32.lt_iff_toInt_lt, hz]; omega
    refine Or.inl ⟨by unfold f_Code_has; rw [if_neg h0, if_pos h], ?_⟩
    unfold f_BlockCodeModel_within
    rw [if_neg h0, if_pos]
    rw [Int32.lt_iff_toInt_lt, hm]; omega
  · have h0 : ¬ nI j < 0 := nI_pos (by omega)
    refine Or.inr ⟨j, hj, rfl, ?_, ?_⟩
    · unfold f_Code_has; rw [if_neg h0, if_neg (nI_ge hj (by omega))]
    · unfold f_BlockCodeModel_within
      rw [if_neg h0, if_neg]
      rw [Int32.lt_iff_toInt_lt, hm, nI_toInt (by omega)]; omega
theorem n10 : ¬ (1 : Int32) = 0 := by decide
/-- source and result -/
theorem num_eq {n : Nat} (hn : n ≤ 20) {op d a b code : Nat → Int32} {p : Nat} (hp : p ≤ 1) (h : CR n op d a b code (80 * p)) (x f : Int32) :
    ∃ v, f_Code_number x f op d a b (nI n) = some v ∧ f_BlockCodeModel_field (nI p) x f code (nI n) = some v := by
  rcases hw x hn with ⟨h1, h2⟩ | ⟨i, hi, rfl, h1, h2⟩
  · exact ⟨-9, by simp [f_Code_number, h1], by simp [f_BlockCodeModel_field, h2]⟩
  · obtain ⟨⟨e0, e1, e2, e3⟩, -⟩ := h i hi
    have ix : ∀ j, j < 4 → rdI code 160 (80 * nI p + 4 * nI i + nI j) = some (code (80 * p + 4 * i + j)) := fun j hj => by
      rw [m80', m4', nI_add, nI_add]; exact r160 (by omega)
    have i20 : i < 20 := by omega
    by_cases q0 : f = 0
    · subst q0
      refine ⟨op i, by simp [f_Code_number, h1, r20 i20], ?_⟩
      have := ix 0 (by decide)
      rw [show nI 0 = (0 : Int32) by decide] at this
      simp only [f_BlockCodeModel_field, h2, Option.bind_some, n10, if_false, within_of (x := 0) (y := 0) (z := 3) (by decide) (by decide), this]
      rw [← e0]; rfl
    by_cases q1 : f = 1
    · subst q1
      refine ⟨d i, by simp [f_Code_number, h1, r20 i20], ?_⟩
      have := ix 1 (by decide)
      rw [show nI 1 = (1 : Int32) by decide] at this
      simp only [f_BlockCodeModel_field, h2, Option.bind_some, n10, if_false, within_of (x := 1) (y := 0) (z := 3) (by decide) (by decide), this, e1]
    by_cases q2 : f = 2
    · subst q2
      refine ⟨a i, by simp [f_Code_number, h1, r20 i20], ?_⟩
      have := ix 2 (by decide)
      rw [show nI 2 = (2 : Int32) by decide] at this
      simp only [f_BlockCodeModel_field, h2, Option.bind_some, n10, if_false, within_of (x := 2) (y := 0) (z := 3) (by decide) (by decide), this, e2]
    by_cases q3 : f = 3
    · subst q3
      refine ⟨b i, by simp [f_Code_number, h1, r20 i20], ?_⟩
      have := ix 3 (by decide)
      rw [show nI 3 = (3 : Int32) by decide] at this
      simp only [f_BlockCodeModel_field, h2, Option.bind_some, n10, if_false, within_of (x := 3) (y := 0) (z := 3) (by decide) (by decide), this, e3]
    refine ⟨0, by simp [f_Code_number, h1, q0, q1, q2, q3], ?_⟩
    have : f_BlockCodeModel_within f 0 3 = some 0 := by
      rcases within_or f 0 3 with h | h
      · exact h
      · obtain ⟨g1, g2⟩ := within1 h
        obtain ⟨j, hj, rfl⟩ := isR_of (k := 3) (by decide) g1 g2
        exfalso
        have : j = 0 ∨ j = 1 ∨ j = 2 ∨ j = 3 := by omega
        rcases this with rfl | rfl | rfl | rfl
        · exact q0 (by decide)
        · exact q1 (by decide)
        · exact q2 (by decide)
        · exact q3 (by decide)
    simp [f_BlockCodeModel_field, h2, this]
/-- is r a register? -/
theorem regs (r : Int32) : (f_BlockCode_isRegister r = some 0 ∧ f_BlockCodeModel_within r 0 4 = some 0) ∨ ∃ j, j < 5 ∧ r = nI j ∧ f_BlockCode_isRegister r = some 1 ∧ f_BlockCodeModel_within r 0 4 = some 1 := by
  unfold f_BlockCode_isRegister f_BlockCodeModel_within
  by_cases h : r < 0
  · exact Or.inl ⟨if_pos h, if_pos h⟩
  · by_cases h' : 4 < r
    · exact Or.inl ⟨by rw [if_neg h, if_pos (i5.mpr h')], by rw [if_neg h, if_pos h']⟩
    · obtain ⟨j, hj, e⟩ := isR_of (k := 4) (by decide) h h'
      exact Or.inr ⟨j, hj, e, by rw [if_neg h, if_neg (fun q => h' (i5.mp q))], by rw [if_neg h, if_neg h']⟩
def RI (xi mi : Nat → Int32) : Prop := ∀ r, r < 5 → xi r = mi r
theorem st_input {xi mi : Nat → Int32} (h : RI xi mi) (r v th : Int32) : ∃ k xi' mi', f_BlockCode_input r v xi = some (k, xi') ∧ f_BlockCodeModel_input r v th mi = some (k, 0, mi') ∧ RI xi' mi' := by
  rcases regs r with ⟨h1, h2⟩ | ⟨j, hj, rfl, h1, h2⟩
  · exact ⟨0, xi, mi, by simp [f_BlockCode_input, h1], by simp [f_BlockCodeModel_input, h2], h⟩
  · refine ⟨1, upd xi j v, upd mi j v, ?_, ?_, fun q hq => ?_⟩
    · simp [f_BlockCode_input, h1, wrI_n (f := xi) (x := v) hj (show 5 < 2 ^ 31 by decide)]
    · simp [f_BlockCodeModel_input, h2, wrI_n (f := mi) (x := v) hj (show 5 < 2 ^ 31 by decide)]
    · by_cases e : q = j
      · rw [e, upd_s, upd_s]
      · rw [upd_n e, upd_n e]; exact h q hq
def RT (xr : Nat → Int32) (told done : Int32) (mr : Nat → Int32) (set steps ended : Int32) : Prop := done = steps ∧ ((ended = 0 ∧ told = 0) ∨ (ended = 1 ∧ told = set ∧ ∀ r, r < 5 → xr r = mr r))
theorem and1 (x : Int32) : x &&& 1 = 0 ∨ x &&& 1 = 1 := by
  obtain ⟨j, hj, e⟩ := pk_andE x (m := 1) 1 (by decide)
  have : j = 0 ∨ j = 1 := by omega
  rcases this with rfl | rfl
  · exact Or.inl e
  · exact Or.inr e
theorem isIn0 {j : Nat} (hj : j < 32) : f_BlockCode_isIn (nI j) 0 = some 0 := by
  have : ∀ j, j < 32 → f_BlockCode_isIn (nI j) 0 = some 0 := by decide
  exact this j hj
theorem st_told {xr : Nat → Int32} {told done : Int32} {mr : Nat → Int32} {set steps ended : Int32} (h : RT xr told done mr set steps ended) (r th : Int32) : ∃ v, f_BlockCode_told r xr told = some v ∧ f_BlockCodeModel_told r mr set ended th = some (v, 0) := by
  rcases regs r with ⟨h1, h2⟩ | ⟨j, hj, rfl, h1, h2⟩
  · exact ⟨0, by simp [f_BlockCode_told, h1], by simp [f_BlockCodeModel_told, h2]⟩
  · rcases h.2 with ⟨e1, e2⟩ | ⟨e1, e2, e3⟩
    · exact ⟨0, by simp [f_BlockCode_told, h1, e2, isIn0 (show j < 32 by omega)], by simp [f_BlockCodeModel_told, h2, e1]⟩
    · subst e1 e2
      rcases and1 (told >>> (nI j &&& 31)) with q | q
      · refine ⟨0, ?_, ?_⟩
        · simp only [f_BlockCode_told, h1, Option.bind_some, n10, if_false, f_BlockCode_isIn, q, if_true]
        · have : ¬ (0 : Int32) = 1 := by decide
          simp only [f_BlockCodeModel_told, h2, Option.bind_some, n10, if_false, q, this]
      · refine ⟨xr j, ?_, ?_⟩
        · simp only [f_BlockCode_told, h1, Option.bind_some, n10, if_false, f_BlockCode_isIn, q, rdI_n (f := xr) hj (show 5 < 2 ^ 31 by decide)]
        · simp only [f_BlockCodeModel_told, h2, Option.bind_some, n10, if_false, q, if_true, rdI_n (f := mr) hj (show 5 < 2 ^ 31 by decide), e3 j hj]
/-! ===== the relation of the whole ===== -/
def JM (n : Nat) (op a b : Nat → Int32) : Prop := ∀ i, i < n → (op i = 8 → isR (a i) n) ∧ (op i = 9 → isR (b i) n)
def SD (n : Nat) (op a b : Nat → Int32) : Prop := 0 < n ∧ (op (n - 1) = 8 ∨ op (n - 1) = 10) ∧ JM n op a b
def RC (Z : Nat → (Nat → Int32) → (Nat → Int32) → (Nat → Int32) → (Nat → Int32) → (Nat → Int32) → Int32 → (Nat → Int64) → Prop) (op d a b need : Nat → Int32) (len leaders : Int32) (rop rd ra rb : Nat → Int32) (rlen : Int32) (before : Nat → Int64) (sealed found : Int32) (code : Nat → Int32) (size ms mg : Int32) : Prop :=
  ∃ n, n ≤ 20 ∧ len = nI n ∧ size = nI n ∧ CR n op d a b code 0 ∧ ((sealed = 0 ∧ ms = 0 ∧ rlen = 0) ∨ (sealed = 1 ∧ ms = 1 ∧ rlen = nI n ∧ found = mg ∧ (mg = 0 ∨ mg = 1) ∧ CR n rop rd ra rb code 80 ∧ JM n rop ra rb ∧ SD n op a b ∧ Z n op d a b need leaders before))
section ST
variable {Z : Nat → (Nat → Int32) → (Nat → Int32) → (Nat → Int32) → (Nat → Int32) → (Nat → Int32) → Int32 → (Nat → Int64) → Prop} {op d a b need : Nat → Int32} {len leaders : Int32} {rop rd ra rb : Nat → Int32} {rlen : Int32} {before : Nat → Int64} {sealed found : Int32} {code : Nat → Int32} {size ms mg : Int32}
theorem RC.new : RC Z z_I z_I z_I z_I z_I 0 0 z_I z_I z_I z_I 0 z_L 0 0 z_I 0 0 0 := ⟨0, by omega, by decide, by decide, fun i hi => absurd hi (by omega), Or.inl ⟨rfl, rfl, rfl⟩⟩
theorem st_clear (h : RC Z op d a b need len leaders rop rd ra rb rlen before sealed found code size ms mg) : RC Z op d a b need 0 leaders rop rd ra rb 0 before 0 0 code 0 0 0 := ⟨0, by omega, by decide, by decide, fun i hi => absurd hi (by omega), Or.inl ⟨rfl, rfl, rfl⟩⟩
theorem st_size (h : RC Z op d a b need len leaders rop rd ra rb rlen before sealed found code size ms mg) : len = size := by
  obtain ⟨n, -, h1, h2, -⟩ := h
  rw [h1, h2]
theorem wout (out : Nat → Int64) (x : Int64) : wrL out 1 0 x = some (vp_updL out 0 x) := wrL_n (i := 0) (by decide) (by decide)
theorem rout (out : Nat → Int64) (x : Int64) : rdL (vp_updL out 0 x) 1 0 = some x := (rdL_n (i := 0) (by decide) (by decide)).trans (congrArg some pk_uLs)
theorem hf_op {o d a b : Int32} (h : f_BlockCodeModel_hasForm o d a b = some 1) : ¬ o < 0 ∧ o ≤ 10 := by
  have h0 : ¬ o < 0 := fun q => by simp [f_BlockCodeModel_hasForm, f_BlockCodeModel_within, q] at h
  refine ⟨h0, ?_⟩
  apply Decidable.byContradiction
  intro q
  have q' : (10 : Int32) < o := inle.mp q
  simp [f_BlockCodeModel_hasForm, f_BlockCodeModel_within, h0, q'] at h
theorem st_add (h : RC Z op d a b need len leaders rop rd ra rb rlen before sealed found code size ms mg) (v1 v2 v3 v4 th : Int32) (out : Nat → Int64) :
    ∃ k r op' d' a' b' len' out' code' size', g_BlockCodeLaw_add v1 v2 v3 v4 sealed op d a b len out = some (k, op', d', a', b', len', out') ∧ f_BlockCodeModel_add v1 v2 v3 v4 ms code size th = some (r, code', size', k) ∧ (k = 0 → rdL out' 1 0 = some r.toInt64) ∧
      RC Z op' d' a' b' need len' leaders rop rd ra rb rlen before sealed found code' size' ms mg := by
  obtain ⟨n, hn, rfl, rfl, hC, h⟩ := id h
  rcases h with ⟨rfl, rfl, rfl⟩ | ⟨rfl, rfl, h'⟩
  · rcases hf_some v1 v2 v3 v4 with hf | hf
    · refine ⟨0, -1, op, d, a, b, nI n, vp_updL out 0 ((-1 : Int32).toInt64), code, nI n, ?_, ?_, fun _ => rout _ _, n, hn, rfl, rfl, hC, Or.inl ⟨rfl, rfl, rfl⟩⟩
      · simp only [g_BlockCodeLaw_add, f_BlockCodeLaw_add, f_BlockCode_add, hf_eq, hf, if_true, Option.bind_some, wout]
      · simp only [f_BlockCodeModel_add, f_BlockCodeModel_add_13, hf, if_true, Option.bind_some]
    · obtain ⟨o0, o1⟩ := hf_op hf
      by_cases e : n = 20
      · subst e
        refine ⟨0, -2, op, d, a, b, nI 20, vp_updL out 0 ((-2 : Int32).toInt64), code, nI 20, ?_, ?_, fun _ => rout _ _, 20, hn, rfl, rfl, hC, Or.inl ⟨rfl, rfl, rfl⟩⟩
        · have q : ¬ nI 20 < 20 := by decide
          simp only [g_BlockCodeLaw_add, f_BlockCodeLaw_add, f_BlockCode_add, hf_eq, hf, if_true, Option.bind_some, n10, if_false, q, wout]
        · have q : nI 20 = 20 := by decide
          simp only [f_BlockCodeModel_add, f_BlockCodeModel_add_13, hf, if_true, Option.bind_some, n10, if_false, q]
      · have hlt : n < 20 := by omega
        have q1 : nI n < 20 := by rw [show (20 : Int32) = nI 20 by decide]; exact nI_lt hlt (by decide)
        have q2 : ¬ nI n = 20 := fun z => by
          rw [show (20 : Int32) = nI 20 by decide, nI_eq (by omega) (by decide)] at z; omega
        refine ⟨0, nI n, _, _, _, _, nI (n + 1), vp_updL out 0 (nI n).toInt64, _, nI (n + 1), ?_, ?_, fun _ => rout _ _, n + 1, by omega, rfl, rfl, CR.put (i := n) hC (hf_Nm hf) (n + 1) (fun j hj => by omega), Or.inl ⟨rfl, rfl, rfl⟩⟩
        · simp only [g_BlockCodeLaw_add, f_BlockCodeLaw_add, f_BlockCode_add, hf_eq, hf, if_true, Option.bind_some, n10, if_false, q1, cput hlt, p1', wout]
        · rw [Nat.zero_add]
          simp only [f_BlockCodeModel_add, f_BlockCodeModel_add_13, hf, if_true, Option.bind_some, n10, if_false, q2, m4', mput (show 4 * n + 3 < 160 by omega) o0 o1, p1', nI_pred]
  · refine ⟨1, 0, op, d, a, b, nI n, out, code, nI n, ?_, ?_, fun q => absurd q (by decide), n, hn, rfl, rfl, hC, Or.inr ⟨rfl, rfl, h'⟩⟩
    · simp only [g_BlockCodeLaw_add, n10, if_false]
    · simp only [f_BlockCodeModel_add, f_BlockCodeModel_add_13, n10, if_false]
end ST
