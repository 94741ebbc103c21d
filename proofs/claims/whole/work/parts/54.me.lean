/-! ===== facts: the step of each op ===== -/
theorem r105 {f : Nat → Int32} {k : Nat} (h : k < 105) : rdI f 105 (nI k) = some (f k) := rdI_n h (by decide)
section FSTEP
variable {i t : Nat} {code : Nat → Int32} {R I F : Nat → Int32} {x5 x6 : Int32}
/-- an op that makes no register: what is known flows as it is -/
theorem hs_plain (hi : i < 20) {o : Int32} (ho : o = 0 ∨ o = 8 ∨ o = 9) (x3 : Int32) : ∀ (r : Nat) (k : Nat) (x7 : Int32) (I' F' : Nat → Int32), r < 5 → (∀ q, q < 5 → (r ≤ q ∨ t ≠ i) → I' (5 * i + q) = I (5 * i + q) ∧ F' (5 * i + q) = F (5 * i + q)) →
    f_BlockCodeModel_flow_59 (nI i) (nI t) code (k + 1) x3 o x5 x6 x7 (nI r) R I' F' = f_BlockCodeModel_flow_217 (nI i) (nI t) code (f_BlockCodeModel_flow_59 (nI i) (nI t) code k) x3 o x5 x6 x7 (nI r) (I (5 * i + r)) (F (5 * i + r)) R I' F' := by
  intro r k x7 I' F' hr h
  obtain ⟨h1, h2⟩ := h r hr (Or.inl (Nat.le_refl r))
  have w : f_BlockCodeModel_within o 1 7 = some 0 := by rcases ho with rfl | rfl | rfl <;> decide
  rw [f_BlockCodeModel_flow_59, if_neg (by rw [show (5 : Int32) = nI 5 by decide]; exact nI_ge hr (by decide)), m5', nI_add, r105 (by omega), r105 (by omega), h1, h2]
  simp only [Option.bind_some, w, if_true]
/-- what a 1 to 7 makes, in the reference's words: is it an int, and which -/
def mkn (o : Int32) (za zb : Int32) : Int32 := if o = 1 then 1 else if za = 0 then 0 else if o = 2 then 1 else if zb = 0 then 0 else 1
theorem hs_make (hi : i < 20) (hti : t ≠ i) {o : Int32} (ho : o = 1 ∨ o = 2 ∨ o = 3 ∨ o = 4 ∨ o = 5 ∨ o = 6 ∨ o = 7) {jd ja jb : Nat} {av : Int32} (hd : jd < 5) (ha : o ≠ 1 → ja < 5) (hb : o ≠ 1 → o ≠ 2 → jb < 5)
    (cd : code (4 * i + 1) = nI jd) (ca : code (4 * i + 2) = av) (e5 : o ≠ 1 → x5 = nI (5 * i + ja)) (e6 : o ≠ 1 → o ≠ 2 → x6 = nI (5 * i + jb)) (hI : ∀ q, q < 5 → bz (I (5 * i + q))) {mv : Int32}
    (hv : mkn o (I (5 * i + ja)) (I (5 * i + jb)) = 1 → (o = 1 → mv = av) ∧ (o = 2 → mv = F (5 * i + ja)) ∧ (o ≠ 1 → o ≠ 2 → f_BlockCodeModel_value o (F (5 * i + ja)) (F (5 * i + jb)) = some mv)) (hv0 : mkn o (I (5 * i + ja)) (I (5 * i + jb)) = 0 → mv = 0) :
    ∀ (r : Nat) (k : Nat) (x7 : Int32) (I' F' : Nat → Int32), r < 5 → (∀ q, q < 5 → (r ≤ q ∨ t ≠ i) → I' (5 * i + q) = I (5 * i + q) ∧ F' (5 * i + q) = F (5 * i + q)) →
    f_BlockCodeModel_flow_59 (nI i) (nI t) code (k + 1) (nI (4 * i)) o x5 x6 x7 (nI r) R I' F' = f_BlockCodeModel_flow_217 (nI i) (nI t) code (f_BlockCodeModel_flow_59 (nI i) (nI t) code k) (nI (4 * i)) o x5 x6 x7 (nI r)
      (if r = jd then mkn o (I (5 * i + ja)) (I (5 * i + jb)) else I (5 * i + r)) (if r = jd then mv else F (5 * i + r)) R I' F' := by
  intro r k x7 I' F' hr h
  have g : ∀ q, q < 5 → I' (5 * i + q) = I (5 * i + q) ∧ F' (5 * i + q) = F (5 * i + q) := fun q hq => h q hq (Or.inr hti)
  obtain ⟨h1, h2⟩ := g r hr
  have w : f_BlockCodeModel_within o 1 7 = some 1 := by rcases ho with rfl | rfl | rfl | rfl | rfl | rfl | rfl <;> decide
  rw [f_BlockCodeModel_flow_59, if_neg (by rw [show (5 : Int32) = nI 5 by decide]; exact nI_ge hr (by decide)), m5', nI_add, r105 (by omega), r105 (by omega), h1, h2]
  simp only [Option.bind_some, w, n10, if_false, p1', r160 (show 4 * i + 1 < 160 by omega), cd]
  by_cases e : r = jd
  · subst e
    simp only [if_true]
    by_cases o1 : o = 1
    · subst o1
      have mk1 : mkn 1 (I (5 * i + ja)) (I (5 * i + jb)) = 1 := by simp [mkn]
      obtain ⟨v1, -, -⟩ := hv mk1
      simp only [if_true, f_BlockCodeModel_flow_147, f_BlockCodeModel_flow_152, n10, if_false, p2', r160 (show 4 * i + 2 < 160 by omega), Option.bind_some, ca, f_BlockCodeModel_flow_215, mk1, v1 rfl]
    · have a5 := ha o1
      obtain ⟨ga, gf⟩ := g ja a5
      simp only [o1, if_false, e5 o1, r105 (show 5 * i + ja < 105 by omega), Option.bind_some, ga]
      by_cases za : I (5 * i + ja) = 0
      · have mk0 : mkn o (I (5 * i + ja)) (I (5 * i + jb)) = 0 := by simp [mkn, o1, za]
        simp only [za, if_true, f_BlockCodeModel_flow_151, f_BlockCodeModel_flow_152, f_BlockCodeModel_flow_215]
        rw [← za, mk0, hv0 mk0, za]
      · simp only [za, if_false]
        by_cases o2 : o = 2
        · subst o2
          have mk1 : mkn 2 (I (5 * i + ja)) (I (5 * i + jb)) = 1 := by simp [mkn, za]
          obtain ⟨-, v2, -⟩ := hv mk1
          simp only [if_true, f_BlockCodeModel_flow_147, f_BlockCodeModel_flow_152, n10, if_false, o1, e5 o1, r105 (show 5 * i + ja < 105 by omega), Option.bind_some, gf, f_BlockCodeModel_flow_215, mk1, v2 rfl]
        · have b5 := hb o1 o2
          obtain ⟨gb, gg⟩ := g jb b5
          simp only [o2, if_false, e6 o1 o2, r105 (show 5 * i + jb < 105 by omega), Option.bind_some, gb]
          by_cases zb : I (5 * i + jb) = 0
          · have mk0 : mkn o (I (5 * i + ja)) (I (5 * i + jb)) = 0 := by simp [mkn, o1, o2, za, zb]
            simp only [zb, if_true, f_BlockCodeModel_flow_151, f_BlockCodeModel_flow_152, f_BlockCodeModel_flow_215]
            rw [← zb, mk0, hv0 mk0, zb]
          · have mk1 : mkn o (I (5 * i + ja)) (I (5 * i + jb)) = 1 := by simp [mkn, o1, o2, za, zb]
            obtain ⟨-, -, v3⟩ := hv mk1
            simp only [zb, if_false, f_BlockCodeModel_flow_147, f_BlockCodeModel_flow_152, n10, o1, o2, e5 o1, e6 o1 o2, r105 (show 5 * i + ja < 105 by omega), r105 (show 5 * i + jb < 105 by omega), Option.bind_some, gf, gg, v3 o1 o2, f_BlockCodeModel_flow_215, mk1]
  · have e' : ¬ nI jd = nI r := fun q => e ((nI_eq (by omega) (by omega)).mp q).symm
    simp only [e', if_false, e]
end FSTEP
