/-! ===== facts: rounds, and both sides find the same ===== -/
section FRD
variable {n : Nat} {op d a b code : Nat → Int32}
/-- a predicate round the two sides, so that nothing moves the exists -/
def FTwo (X : Option ((Nat → Int64) × (Nat → Int64))) (M : Option ((Nat → Int32) × (Nat → Int32) × (Nat → Int32))) : Prop := ∃ C fl R I F, X = some (C, fl) ∧ M = some (R, I, F) ∧ FR C R I F
theorem frest (hn : n ≤ 20) (hC : CR n op d a b code 0) (hS : SD n op a b) (k41 : Int32 → Int32 → (Nat → Int64) → (Nat → Int64) → Option ((Nat → Int64) × (Nat → Int64))) (k57 : Int32 → Int32 → (Nat → Int32) → (Nat → Int32) → (Nat → Int32) → Option ((Nat → Int32) × (Nat → Int32) × (Nat → Int32))) (x3 x2 : Int32) (B0 : Nat → Int64)
    (hk : ∀ (g : Bool) (C fl : Nat → Int64) (R I F : Nat → Int32), FR C R I F → Gr B0 C g → FTwo (k41 (if g then 1 else 0) (x3 + 1) C fl) (k57 (if g then 1 else 0) (x2 + 1) R I F)) :
    ∀ (m i k k' : Nat) (g : Bool) (B fl : Nat → Int64) (R I F : Nat → Int32), i + m = n → m < k → m < k' → FR B R I F → Gr B0 B g →
      FTwo (f_Facts_find_57 op d a b (nI n) k41 k (if g then 1 else 0) x3 (nI i) B fl) (f_BlockCodeModel_findFacts_72 code (nI n) k57 k' (if g then 1 else 0) x2 (nI i) R I F) := by
  intro m
  induction m with
  | zero =>
    intro i k k' g B fl R I F e h1 h2 hF hG
    obtain ⟨k, rfl⟩ : ∃ x, k = x + 1 := ⟨k - 1, by omega⟩
    obtain ⟨k', rfl⟩ : ∃ x, k' = x + 1 := ⟨k' - 1, by omega⟩
    have e' : i = n := by omega
    subst e'
    rw [f_Facts_find_57, if_pos (Int32.le_refl _), f_BlockCodeModel_findFacts_72, if_pos (Int32.le_refl _)]
    exact hk g B fl R I F hF hG
  | succ m ih =>
    intro i k k' g B fl R I F e h1 h2 hF hG
    obtain ⟨k, rfl⟩ : ∃ x, k = x + 1 := ⟨k - 1, by omega⟩
    obtain ⟨k', rfl⟩ : ∃ x, k' = x + 1 := ⟨k' - 1, by omega⟩
    obtain ⟨g', C, fl', R', I', F', s1, s2, s3, s4⟩ := fstep hn (show i < n by omega) hC hS hF fl
    rw [s3, s4]
    have := ih (i + 1) k k' (g' || g) C fl' R' I' F' (by omega) (by omega) (by omega) s1 (hG.tr s2)
    cases g' <;> cases g <;> simpa using this
set_option maxRecDepth 100000 in
theorem fouter (hn : n ≤ 20) (hC : CR n op d a b code 0) (hS : SD n op a b) : ∀ (m x f f' : Nat) (g : Bool) (B fl : Nat → Int64) (R I F : Nat → Int32), x + m = 200 → m < f → m < f' → FR B R I F → (g = true → 10 + x ≤ Mf 100 B) →
    FTwo (f_Facts_find_41 op d a b (nI n) f (if g then 1 else 0) (nI x) B fl) (f_BlockCodeModel_findFacts_57 code (nI n) f' (if g then 1 else 0) (nI x) R I F) := by
  intro m
  induction m with
  | zero =>
    intro x f f' g B fl R I F e h1 h2 hF hG
    obtain ⟨f, rfl⟩ : ∃ y, f = y + 1 := ⟨f - 1, by omega⟩
    obtain ⟨f', rfl⟩ : ∃ y, f' = y + 1 := ⟨f' - 1, by omega⟩
    cases g with
    | true => have := hG rfl; have := Mf_le 100 B; omega
    | false =>
      refine ⟨B, fl, R, I, F, ?_, ?_, hF⟩
      · rw [f_Facts_find_41]; simp
      · rw [f_BlockCodeModel_findFacts_57]; simp
  | succ m ih =>
    intro x f f' g B fl R I F e h1 h2 hF hG
    obtain ⟨f, rfl⟩ : ∃ y, f = y + 1 := ⟨f - 1, by omega⟩
    obtain ⟨f', rfl⟩ : ∃ y, f' = y + 1 := ⟨f' - 1, by omega⟩
    cases g with
    | false =>
      refine ⟨B, fl, R, I, F, ?_, ?_, hF⟩
      · rw [f_Facts_find_41]; simp
      · rw [f_BlockCodeModel_findFacts_57]; simp
    | true =>
      have hM := hG rfl
      have q1 : ¬ (201 : Int32) ≤ nI x := by rw [show (201 : Int32) = nI 201 by decide]; exact nI_ge (by omega) (by decide)
      have q2 : ¬ (200 : Int32) ≤ nI x := by rw [show (200 : Int32) = nI 200 by decide]; exact nI_ge (by omega) (by decide)
      rw [f_Facts_find_41, f_BlockCodeModel_findFacts_57, if_neg q1, if_neg q2]
      simp only [if_true, n10, if_false]
      have := frest hn hC hS (f_Facts_find_41 op d a b (nI n) f) (f_BlockCodeModel_findFacts_57 code (nI n) f') (nI x) (nI x) B (fun g C fl R I F hF' hG' => by
        rw [p1']
        refine ih (x + 1) f f' g C fl R I F (by omega) (by omega) (by omega) hF' (fun w => ?_)
        have := hG'.2 w
        omega) n 0 fu fu false B fl R I F (by omega) (fuN (by omega)) (fuN (by omega)) hF (Gr.none B)
      rw [show nI 0 = (0 : Int32) by decide] at this
      exact this
theorem c_finit : ∀ (m i f : Nat) (B fl : Nat → Int64), i + m = 100 → m < f → (∀ j, j < i → B j = if j < 5 then fANY else fNR) →
    ∃ B', f_Facts_find_2 op d a b (nI n) f (nI i) B fl = f_Facts_find_41 op d a b (nI n) fu 1 0 B' fl ∧ ∀ j, j < 100 → B' j = if j < 5 then fANY else fNR := by
  intro m
  induction m with
  | zero =>
    intro i f B fl e hf h
    obtain ⟨f, rfl⟩ : ∃ y, f = y + 1 := ⟨f - 1, by omega⟩
    have e' : i = 100 := by omega
    subst e'
    exact ⟨B, by rw [f_Facts_find_2, if_pos (by decide)], h⟩
  | succ m ih =>
    intro i f B fl e hf h
    obtain ⟨f, rfl⟩ : ∃ y, f = y + 1 := ⟨f - 1, by omega⟩
    have q : ¬ (100 : Int32) ≤ nI i := by rw [show (100 : Int32) = nI 100 by decide]; exact nI_ge (by omega) (by decide)
    obtain ⟨B', g1, g2⟩ := ih (i + 1) f (vp_updL B i (if i < 5 then fANY else fNR)) fl (by omega) (by omega) (fun j hj => by
      by_cases w : j = i
      · subst w; exact pk_uLs
      · rw [pk_uLn w]; exact h j (by omega))
    refine ⟨B', ?_, g2⟩
    rw [f_Facts_find_2, if_neg q]
    by_cases w : i < 5
    · rw [if_neg (by rw [show (5 : Int32) = nI 5 by decide]; exact nI_ge w (by decide))]
      simp only [f_Facts_find_30, wrL_n (show i < 100 by omega) (show 100 < 2 ^ 31 by decide), Option.bind_some, p1']
      rw [if_pos w] at g1
      exact g1
    · rw [if_pos (by rw [show (5 : Int32) = nI 5 by decide]; exact nI_le (by omega) (by omega))]
      simp only [f_Facts_find_30, wrL_n (show i < 100 by omega) (show 100 < 2 ^ 31 by decide), Option.bind_some, p1']
      rw [if_neg w] at g1
      exact g1
theorem m_fin5 (k2 : Int32 → (Nat → Int32) → (Nat → Int32) → (Nat → Int32) → Option ((Nat → Int32) × (Nat → Int32) × (Nat → Int32))) {i : Nat} (hi : i < 21) : ∀ (m r f : Nat) (R I F : Nat → Int32), r + m = 5 → m < f → (∀ j, j < 5 * i + r → I j = 0) →
    ∃ I', f_BlockCodeModel_findFacts_25 code (nI n) k2 f (nI i) (nI r) R I F = k2 (nI (i + 1)) R I' F ∧ ∀ j, j < 5 * (i + 1) → I' j = 0 := by
  intro m
  induction m with
  | zero =>
    intro r f R I F e hf h
    obtain ⟨f, rfl⟩ : ∃ y, f = y + 1 := ⟨f - 1, by omega⟩
    have e' : r = 5 := by omega
    subst e'
    exact ⟨I, by rw [f_BlockCodeModel_findFacts_25, if_pos (by decide), p1'], fun j hj => h j (by omega)⟩
  | succ m ih =>
    intro r f R I F e hf h
    obtain ⟨f, rfl⟩ : ∃ y, f = y + 1 := ⟨f - 1, by omega⟩
    obtain ⟨I', g1, g2⟩ := ih (r + 1) f R (upd I (5 * i + r) 0) F (by omega) (by omega) (fun j hj => by
      by_cases w : j = 5 * i + r
      · subst w; exact upd_s
      · rw [upd_n w]; exact h j (by omega))
    refine ⟨I', ?_, g2⟩
    rw [f_BlockCodeModel_findFacts_25, if_neg (by rw [show (5 : Int32) = nI 5 by decide]; exact nI_ge (by omega) (by decide)), m5', nI_add, wz (show 5 * i + r < 105 by omega) (by decide) (Or.inl rfl)]
    simp only [Option.bind_some, p1']
    exact g1
set_option maxRecDepth 100000 in
theorem m_fin22 (k2 : Int32 → (Nat → Int32) → (Nat → Int32) → (Nat → Int32) → Option ((Nat → Int32) × (Nat → Int32) × (Nat → Int32))) {i : Nat} (hi : i < 21) {s : Int32} (hs : bz s) (R I F : Nat → Int32) (h : ∀ j, j < 5 * i → I j = 0) :
    ∃ I', f_BlockCodeModel_findFacts_22 code (nI n) k2 (nI i) s (nI i) R I F = k2 (nI (i + 1)) (upd R i s) I' F ∧ ∀ j, j < 5 * (i + 1) → I' j = 0 := by
  obtain ⟨I1, a1, a2⟩ := m_fin5 (code := code) (n := n) k2 hi 5 0 fu (upd R i s) I F (by omega) (fuN (by omega)) (fun j hj => h j (by omega))
  rw [show nI 0 = (0 : Int32) by decide] at a1
  refine ⟨I1, ?_, a2⟩
  unfold f_BlockCodeModel_findFacts_22
  rw [wz hi (by decide) hs, Option.bind_some]
  exact a1
theorem m_finit (E : Option ((Nat → Int32) × (Nat → Int32) × (Nat → Int32)) → Prop) (F : Nat → Int32) (hE : ∀ R' I', (∀ j, j < 21 → R' j = if j = 0 then 1 else 0) → (∀ j, j < 105 → I' j = 0) → E (f_BlockCodeModel_findFacts_57 code (nI n) fu 1 0 R' I' F)) : ∀ (m i f : Nat) (R I : Nat → Int32), i + m = 21 → m < f → (∀ j, j < i → R j = if j = 0 then 1 else 0) → (∀ j, j < 5 * i → I j = 0) →
    E (f_BlockCodeModel_findFacts_2 code (nI n) f (nI i) R I F) := by
  intro m
  induction m with
  | zero =>
    intro i f R I e hf h h'
    obtain ⟨f, rfl⟩ : ∃ y, f = y + 1 := ⟨f - 1, by omega⟩
    have e' : i = 21 := by omega
    subst e'
    rw [f_BlockCodeModel_findFacts_2, if_pos (by decide)]
    exact hE R I h h'
  | succ m ih =>
    intro i f R I e hf h h'
    obtain ⟨f, rfl⟩ : ∃ y, f = y + 1 := ⟨f - 1, by omega⟩
    have c : ¬ (20 : Int32) < nI i := by rw [show (20 : Int32) = nI 20 by decide]; exact nI_nlt (by omega) (by decide)
    have go : ∀ s : Int32, bz s → s = (if i = 0 then 1 else 0) → E (f_BlockCodeModel_findFacts_22 code (nI n) (f_BlockCodeModel_findFacts_2 code (nI n) f) (nI i) s (nI i) R I F) := by
      intro s hs es
      obtain ⟨I1, a1, a2⟩ := m_fin22 (code := code) (n := n) (f_BlockCodeModel_findFacts_2 code (nI n) f) (show i < 21 by omega) hs R I F h'
      rw [a1]
      refine ih (i + 1) f (upd R i s) I1 (by omega) (by omega) (fun j hj => ?_) a2
      by_cases w : j = i
      · subst w; rw [upd_s]; exact es
      · rw [upd_n w]; exact h j (by omega)
    rw [f_BlockCodeModel_findFacts_2, if_neg c]
    by_cases z : i = 0
    · rw [if_pos (by rw [z]; decide)]
      exact go 1 (Or.inr rfl) (by rw [if_pos z])
    · rw [if_neg (nI_ne0 (by omega) (by omega))]
      exact go 0 (Or.inl rfl) (by rw [if_neg z])
theorem Mf0 {B : Nat → Int64} (h : ∀ j, j < 100 → B j = if j < 5 then fANY else fNR) : 10 ≤ Mf 100 B := by
  have w : ∀ j, j < 5 → wt (B j) = 2 := fun j hj => by rw [h j (by omega), if_pos hj]; decide
  have m5 : Mf 5 B = 10 := by
    simp only [Mf, w 0 (by decide), w 1 (by decide), w 2 (by decide), w 3 (by decide), w 4 (by decide)]
  have up : ∀ k, 10 ≤ Mf (5 + k) B := fun k => by
    induction k with
    | zero => rw [Nat.add_zero, m5]; exact Nat.le_refl _
    | succ k ih => rw [← Nat.add_assoc]; unfold Mf; omega
  exact up 95
set_option maxRecDepth 100000 in
theorem facts_eq (hn : n ≤ 20) (hC : CR n op d a b code 0) (hS : SD n op a b) (B0 fl0 : Nat → Int64) (R0 I0 F0 : Nat → Int32) : FTwo (f_Facts_find op d a b (nI n) B0 fl0) (f_BlockCodeModel_findFacts code (nI n) R0 I0 F0) := by
  obtain ⟨B, g1, g2⟩ := c_finit (op := op) (d := d) (a := a) (b := b) (n := n) 100 0 fu B0 fl0 (by omega) (fuN (by omega)) (fun j hj => absurd hj (by omega))
  rw [show nI 0 = (0 : Int32) by decide] at g1
  unfold f_Facts_find f_BlockCodeModel_findFacts
  rw [g1]
  have := m_finit (code := code) (n := n) (FTwo (f_Facts_find_41 op d a b (nI n) fu 1 0 B fl0)) F0 (fun R I k2 k3 => by
    have hF : FR B R I F0 := fun i hi => by
      by_cases z : i = 0
      · subst z
        refine Or.inr ⟨by rw [k2 0 (by decide)]; rfl, fun r hr => ⟨Or.inl (k3 _ (by omega)), ?_⟩⟩
        rw [g2 _ (by omega), if_pos (by omega), k3 _ (by omega)]; rfl
      · refine Or.inl ⟨by rw [k2 i (by omega), if_neg z], fun r hr => ?_⟩
        rw [g2 _ (by omega), if_neg (by omega)]
    have := fouter hn hC hS 200 0 fu fu true B fl0 R I F0 (by omega) (fuN (by omega)) (fuN (by omega)) hF (fun _ => Mf0 g2)
    rw [show nI 0 = (0 : Int32) by decide] at this
    exact this) 21 0 fu R0 I0 (by omega) (fuN (by omega)) (fun j hj => absurd hj (by omega)) (fun j hj => absurd hj (by omega))
  rw [show nI 0 = (0 : Int32) by decide] at this
  exact this
end FRD
