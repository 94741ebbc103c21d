/-! ===== facts: what is known only grows ===== -/
def wt (x : Int64) : Nat := if x = fNR then 0 else if x = fANY then 2 else 1
theorem wt_le (x : Int64) : wt x ≤ 2 := by unfold wt; (repeat' split) <;> omega
theorem wt_jn (o : Int64) {w : Int64} (h : ¬ w = fNR) : jn o w = o ∨ wt o < wt (jn o w) := by
  unfold jn
  by_cases q1 : o = fNR
  · rw [if_pos q1]
    refine Or.inr ?_
    unfold wt; rw [if_pos q1, if_neg h]; split <;> omega
  · rw [if_neg q1]
    by_cases q2 : o = w
    · rw [if_pos q2]; exact Or.inl q2.symm
    · rw [if_neg q2]
      by_cases q3 : o = fANY
      · exact Or.inl q3.symm
      · refine Or.inr ?_
        unfold wt; rw [if_neg q1, if_neg q3, if_neg (by decide), if_pos rfl]; omega
def Mf : Nat → (Nat → Int64) → Nat
  | 0, _ => 0
  | k + 1, B => Mf k B + wt (B k)
theorem Mf_le : ∀ (k : Nat) (B : Nat → Int64), Mf k B ≤ 2 * k
  | 0, _ => by simp [Mf]
  | k + 1, B => by have := Mf_le k B; have := wt_le (B k); unfold Mf; omega
theorem Mf_mono : ∀ (k : Nat) {B C : Nat → Int64}, (∀ j, wt (B j) ≤ wt (C j)) → Mf k B ≤ Mf k C
  | 0, _, _, _ => Nat.le_refl _
  | k + 1, B, C, h => by have := Mf_mono k h; have := h k; unfold Mf; omega
theorem Mf_lt : ∀ (k : Nat) {B C : Nat → Int64}, (∀ j, wt (B j) ≤ wt (C j)) → ∀ i, i < k → wt (B i) < wt (C i) → Mf k B < Mf k C
  | 0, _, _, _, i, hi, _ => absurd hi (by omega)
  | k + 1, B, C, h, i, hi, hc => by
    by_cases e : i = k
    · subst e; have := Mf_mono i h; unfold Mf; omega
    · have := Mf_lt k h i (by omega) hc; have := h k; unfold Mf; omega
def Gr (B C : Nat → Int64) (g : Bool) : Prop := Mf 100 B ≤ Mf 100 C ∧ (g = true → Mf 100 B < Mf 100 C)
theorem Gr.none (B : Nat → Int64) : Gr B B false := ⟨Nat.le_refl _, fun h => by cases h⟩
theorem Gr.tr {B C D : Nat → Int64} {g g' : Bool} (h : Gr B C g) (h' : Gr C D g') : Gr B D (g' || g) := by
  refine ⟨Nat.le_trans h.1 h'.1, fun q => ?_⟩
  rcases (Bool.or_eq_true _ _).mp q with q | q
  · exact Nat.lt_of_le_of_lt h.1 (h'.2 q)
  · exact Nat.lt_of_lt_of_le (h.2 q) h'.1
theorem Gr.fl {t : Nat} (ht : t < 20) {fl B : Nat → Int64} (h : ∀ q, q < 5 → ¬ fl q = fNR) : Gr B (flt t fl B) (fgr t fl B 5) := by
  have le : ∀ j, wt (B j) ≤ wt (flt t fl B j) := fun j => by
    unfold flt
    by_cases q : 5 * t ≤ j ∧ j < 5 * t + 5
    · rw [if_pos q]
      rcases wt_jn (B j) (h (j - 5 * t) (by omega)) with w | w
      · rw [w]; exact Nat.le_refl _
      · omega
    · rw [if_neg q]; exact Nat.le_refl _
  refine ⟨Mf_mono 100 le, fun g => ?_⟩
  have ex : ∀ r, r ≤ 5 → fgr t fl B r = true → ∃ q, q < r ∧ ¬ jn (B (5 * t + q)) (fl q) = B (5 * t + q) := by
    intro r
    induction r with
    | zero => intro _ g; cases g
    | succ r ih =>
      intro hr g
      unfold fgr at g
      rcases (Bool.or_eq_true _ _).mp g with g | g
      · obtain ⟨q, h1, h2⟩ := ih (by omega) g
        exact ⟨q, by omega, h2⟩
      · exact ⟨r, by omega, of_decide_eq_true g⟩
  obtain ⟨q, h1, h2⟩ := ex 5 (by decide) g
  refine Mf_lt 100 le (5 * t + q) (by omega) ?_
  unfold flt
  rw [if_pos ⟨by omega, by omega⟩, show 5 * t + q - 5 * t = q by omega]
  exact (wt_jn (B (5 * t + q)) (h q h1)).resolve_left h2
/-! ===== facts: a step at i on both sides ===== -/
section FST
variable {n i : Nat} {op d a b code : Nat → Int32} {R I F : Nat → Int32} {B : Nat → Int64}
def FX (n i : Nat) (op d a b code : Nat → Int32) (R I F : Nat → Int32) (B fl : Nat → Int64) : Prop :=
  ∃ (g : Bool) (C : Nat → Int64) (fl' : Nat → Int64) (R' I' F' : Nat → Int32), FR C R' I' F' ∧ Gr B C g ∧
    (∀ k41 k x2 x3, f_Facts_find_57 op d a b (nI n) k41 (k + 1) x2 x3 (nI i) B fl = f_Facts_find_57 op d a b (nI n) k41 k (if g then 1 else x2) x3 (nI (i + 1)) C fl') ∧
    (∀ k57 k x1 x2, f_BlockCodeModel_findFacts_72 code (nI n) k57 (k + 1) x1 x2 (nI i) R I F = f_BlockCodeModel_findFacts_72 code (nI n) k57 k (if g then 1 else x1) x2 (nI (i + 1)) R' I' F')
theorem FX.of (hn : n ≤ 20) (hi : i < n) {fl : Nat → Int64} {g : Bool} {C fl' : Nat → Int64} {R' I' F' : Nat → Int32} (hr : ¬ B (5 * i) = fNR) (hc : f_Facts_flowFrom (nI i) op d a b B fl = some (if g then 1 else 0, C, fl')) (hF : FR C R' I' F') (hG : Gr B C g)
    (hm : ∀ k57 k x1 x2, f_BlockCodeModel_findFacts_72 code (nI n) k57 (k + 1) x1 x2 (nI i) R I F = f_BlockCodeModel_findFacts_72 code (nI n) k57 k (if g then 1 else x1) x2 (nI (i + 1)) R' I' F') : FX n i op d a b code R I F B fl := by
  refine ⟨g, C, fl', R', I', F', hF, hG, fun k41 k x2 x3 => ?_, hm⟩
  have h0 := at_n (show i < 20 by omega) (show 0 < 5 by decide) B
  rw [show nI 0 = (0 : Int32) by decide] at h0
  have hr' : ¬ lg_cmp (B (5 * i + 0)) 4294967297 = 0 := fun z => hr (lg_eq0.mp z)
  rw [f_Facts_find_57, if_neg (nI_ge hi (by omega))]
  simp only [f_Facts_reached, h0, Option.bind_some, hr', if_false, n10, hc, f_Facts_find_87, p1']
  cases g
  · simp
  · simp
theorem fstep (hn : n ≤ 20) (hi : i < n) (hC : CR n op d a b code 0) (hS : SD n op a b) (hF : FR B R I F) (fl : Nat → Int64) : FX n i op d a b code R I F B fl := by
  have h20 : i < 20 := by omega
  obtain ⟨⟨e0, e1, e2, e3⟩, hN⟩ := hC i hi
  simp only [Nat.zero_add] at e0 e1 e2 e3
  have hc4 : cd4 code i (op i) (d i) (a i) (b i) := ⟨e0, e1, e2, e3⟩
  have x0 : rdI code 160 (4 * nI i) = some (op i) := by rw [m4', r160 (by omega), e0]
  have x2' : rdI code 160 (4 * nI i + 2) = some (a i) := by rw [m4', p2', r160 (by omega), e2]
  have x3' : rdI code 160 (4 * nI i + 3) = some (b i) := by rw [m4', p3', r160 (by omega), e3]
  have hlast : ¬ op i = 8 → ¬ op i = 10 → i + 1 < n := fun q8 q10 => by
    apply Decidable.byContradiction
    intro w
    have e : n - 1 = i := by omega
    have := hS.2.1
    rw [e] at this
    rcases this with z | z
    · exact q8 z
    · exact q10 z
  rcases hF i h20 with ⟨hR, hB⟩ | ⟨hR, hB⟩
  · have h0 := at_n h20 (show 0 < 5 by decide) B
    rw [show nI 0 = (0 : Int32) by decide] at h0
    refine ⟨false, B, fl, R, I, F, hF, Gr.none B, fun k41 k y2 y3 => ?_, fun k57 k y1 y2 => ?_⟩
    · rw [f_Facts_find_57, if_neg (nI_ge hi (by omega))]
      simp only [f_Facts_reached, h0, Option.bind_some, lg_eq0.mpr (hB 0 (by decide)), if_true, f_Facts_find_87, p1', Bool.false_eq_true, if_false]
    · rw [f_BlockCodeModel_findFacts_72, if_neg (nI_ge hi (by omega))]
      simp only [x0, r21 (show i < 21 by omega), hR, Option.bind_some, if_true, f_BlockCodeModel_findFacts_307, p1', Bool.false_eq_true, if_false]
  · have hnr : ¬ B (5 * i) = fNR := by rw [show 5 * i = 5 * i + 0 by omega, (hB 0 (by decide)).2]; exact enc_nr _ _
    have fnr : ∀ q, q < 5 → ¬ (fun q => B (5 * i + q)) q = fNR := fun q hq => by show ¬ B (5 * i + q) = fNR; rw [(hB q hq).2]; exact enc_nr _ _
    -- the ops that make a register
    have make : ∀ (ho : mk7 (op i)) {jd ja jb : Nat}, jd < 5 → d i = nI jd → ja < 5 → jb < 5 → (op i ≠ 1 → a i = nI ja) → (op i ≠ 1 → op i ≠ 2 → b i = nI jb) → FX n i op d a b code R I F B fl := by
      intro ho jd ja jb hd ed ha hb ea eb
      have n10' : ¬ op i = 10 := by rcases ho with h | h | h | h | h | h | h <;> rw [h] <;> decide
      have n8 : ¬ op i = 8 := by rcases ho with h | h | h | h | h | h | h <;> rw [h] <;> decide
      have n9 : ¬ op i = 9 := by rcases ho with h | h | h | h | h | h | h <;> rw [h] <;> decide
      by_cases z6 : op i = 6 ∧ B (5 * i + jb) = 0
      · obtain ⟨o6, zb⟩ := z6
        have eb' := eb (by rw [o6]; decide) (by rw [o6]; decide)
        rw [(hB jb hb).2] at zb
        obtain ⟨z1, z2⟩ := enc0.mp zb
        refine FX.of (g := false) (C := B) (fl' := fl) (R' := R) (I' := I) (F' := F) hn hi hnr (c_stop h20 (Or.inr ⟨o6, jb, hb, eb', by rw [(hB jb hb).2]; exact zb⟩) fl) hF (Gr.none B) (fun k57 k y1 y2 => ?_)
        rw [f_BlockCodeModel_findFacts_72, if_neg (nI_ge hi (by omega))]
        have c6a : ¬ (6 : Int32) = 10 := by decide
        have c6b : ¬ (6 : Int32) = 8 := by decide
        have c6c : ¬ (6 : Int32) = 9 := by decide
        simp only [x0, x2', x3', r21 (show i < 21 by omega), hR, Option.bind_some, n10, o6, c6a, c6b, c6c, if_false, if_true, eb', m5', nI_add, f_BlockCodeModel_findFacts_153, r105 (show 5 * i + jb < 105 by omega), z1, z2, f_BlockCodeModel_findFacts_185, f_BlockCodeModel_findFacts_215, f_BlockCodeModel_findFacts_233, f_BlockCodeModel_findFacts_260, f_BlockCodeModel_findFacts_307, p1', Bool.false_eq_true]
      · have h6 : op i = 6 → ¬ B (5 * i + jb) = 0 := fun w z => z6 ⟨w, z⟩
        have hl : i + 1 < n := hlast n8 n10'
        obtain ⟨mv, m1, m2, m3, m4⟩ := made_eq h20 ho ha hb ea eb hB h6
        obtain ⟨fl', hc⟩ := c_make (show i < 19 by omega) ho hd ed hb eb h6 m1 fl
        obtain ⟨R', I2, F2, f1, f2, f3⟩ := m_make (show i < 19 by omega) hc4 ho hF hR hd ed ha hb ea eb m2 m3 m4
        refine FX.of hn hi hnr hc f3 (Gr.fl (by omega) (fun q hq => ?_)) (fun k57 k y1 y2 => ?_)
        · by_cases w : q = jd
          · simp only [w, if_true]; exact enc_nr _ _
          · simp only [w, if_false]; rw [(hB q hq).2]; exact enc_nr _ _
        · rw [f_BlockCodeModel_findFacts_72, if_neg (nI_ge hi (by omega))]
          have h153 : ∀ (k72 : Int32 → Int32 → Int32 → (Nat → Int32) → (Nat → Int32) → (Nat → Int32) → Option ((Nat → Int32) × (Nat → Int32) × (Nat → Int32))), f_BlockCodeModel_findFacts_153 code (nI n) k57 k72 y1 y2 (nI i) (op i) (5 * nI i + a i) (5 * nI i + b i) 1 R I F = f_BlockCodeModel_findFacts_185 code (nI n) k57 k72 y1 y2 (nI i) (op i) (5 * nI i + a i) 1 R I F := by
            intro k72
            unfold f_BlockCodeModel_findFacts_153
            by_cases w : op i = 6
            · rw [if_pos w, eb (by rw [w]; decide) (by rw [w]; decide), m5', nI_add, r105 (by omega), r105 (by omega)]
              simp only [Option.bind_some]
              by_cases z1 : I (5 * i + jb) = 0
              · rw [if_pos z1]
              · rw [if_neg z1, if_neg (fun z2 => h6 w (by rw [(hB jb hb).2]; exact enc0.mpr ⟨z1, z2⟩))]
            · rw [if_neg w]
          simp only [x0, x2', x3', r21 (show i < 21 by omega), hR, Option.bind_some, n10, n10', n8, if_false, h153, f_BlockCodeModel_findFacts_185, n9, f_BlockCodeModel_findFacts_215, p1', f1, f_BlockCodeModel_findFacts_233, f_BlockCodeModel_findFacts_260, f_BlockCodeModel_findFacts_307]
          cases fgr (i + 1) (fun q => if q = jd then enc (mkn (op i) (I (5 * i + ja)) (I (5 * i + jb))) mv else B (5 * i + q)) B 5
          · simp
          · simp
    rcases hN with ⟨o, -⟩ | ⟨o, ⟨jd, hd, ed⟩, -⟩ | ⟨o, ⟨jd, hd, ed⟩, ⟨ja, ha, ea⟩, -⟩ | ⟨o, ⟨jd, hd, ed⟩, ⟨ja, ha, ea⟩, ⟨jb, hb, eb⟩⟩ | ⟨o, ⟨jd, hd, ed⟩, ⟨ja, ha, ea⟩, ⟨jb, hb, eb⟩⟩ | ⟨o, ⟨jd, hd, ed⟩, ⟨ja, ha, ea⟩, ⟨jb, hb, eb⟩⟩ | ⟨o, ⟨jd, hd, ed⟩, ⟨ja, ha, ea⟩, ⟨jb, hb, eb⟩⟩ | ⟨o, ⟨jd, hd, ed⟩, ⟨ja, ha, ea⟩, ⟨jb, hb, eb⟩⟩ | ⟨o, -⟩ | ⟨o, -, ⟨ja, ha, ea⟩, -⟩ | ⟨o, -⟩
    · have hl : i + 1 < n := hlast (by rw [o]; decide) (by rw [o]; decide)
      obtain ⟨fl', hc⟩ := c_zero (d := d) (a := a) (b := b) (B := B) (show i < 19 by omega) o fl
      obtain ⟨R', I2, F2, f1, f2, f3⟩ := m_plain (t := i + 1) h20 (by omega) hc4 (Or.inl o) hF hR
      refine FX.of hn hi hnr hc f3 (Gr.fl (by omega) fnr) (fun k57 k y1 y2 => ?_)
      rw [f_BlockCodeModel_findFacts_72, if_neg (nI_ge hi (by omega))]
      have c1 : ¬ (0 : Int32) = 10 := by decide
      have c2 : ¬ (0 : Int32) = 8 := by decide
      have c3 : ¬ (0 : Int32) = 9 := by decide
      have c4 : ¬ (0 : Int32) = 6 := by decide
      simp only [x0, x2', x3', r21 (show i < 21 by omega), hR, Option.bind_some, n10, o, c1, c2, c3, c4, if_false, f_BlockCodeModel_findFacts_153, f_BlockCodeModel_findFacts_185, f_BlockCodeModel_findFacts_215, p1', f1, f_BlockCodeModel_findFacts_233, f_BlockCodeModel_findFacts_260, f_BlockCodeModel_findFacts_307]
      cases fgr (i + 1) (fun q => B (5 * i + q)) B 5
      · simp
      · simp
    · exact make (Or.inl o) (ja := 0) (jb := 0) hd ed (by decide) (by decide) (fun w => absurd o w) (fun w => absurd o w)
    · exact make (Or.inr (Or.inl o)) (jb := 0) hd ed ha (by decide) (fun _ => ea) (fun _ w => absurd o w)
    · exact make (Or.inr (Or.inr (Or.inl o))) hd ed ha hb (fun _ => ea) (fun _ _ => eb)
    · exact make (Or.inr (Or.inr (Or.inr (Or.inl o)))) hd ed ha hb (fun _ => ea) (fun _ _ => eb)
    · exact make (Or.inr (Or.inr (Or.inr (Or.inr (Or.inl o))))) hd ed ha hb (fun _ => ea) (fun _ _ => eb)
    · exact make (Or.inr (Or.inr (Or.inr (Or.inr (Or.inr (Or.inl o)))))) hd ed ha hb (fun _ => ea) (fun _ _ => eb)
    · exact make (Or.inr (Or.inr (Or.inr (Or.inr (Or.inr (Or.inr o)))))) hd ed ha hb (fun _ => ea) (fun _ _ => eb)
    · obtain ⟨j, hj, ej⟩ := (hS.2.2 i hi).1 o
      obtain ⟨fl', hc⟩ := c_go (d := d) (b := b) (B := B) h20 o (show j < 20 by omega) ej fl
      obtain ⟨R', I2, F2, f1, f2, f3⟩ := m_plain (t := j) h20 (by omega) hc4 (Or.inr (Or.inl o)) hF hR
      refine FX.of hn hi hnr hc f3 (Gr.fl (by omega) fnr) (fun k57 k y1 y2 => ?_)
      rw [f_BlockCodeModel_findFacts_72, if_neg (nI_ge hi (by omega))]
      have c1 : ¬ (8 : Int32) = 10 := by decide
      have c3 : ¬ (8 : Int32) = 9 := by decide
      have c4 : ¬ (8 : Int32) = 6 := by decide
      simp only [x0, x2', x3', r21 (show i < 21 by omega), hR, Option.bind_some, n10, o, ej, c1, c3, c4, if_false, if_true, f_BlockCodeModel_findFacts_153, f_BlockCodeModel_findFacts_185, f_BlockCodeModel_findFacts_215, p1', f1, f_BlockCodeModel_findFacts_233, f_BlockCodeModel_findFacts_260, f_BlockCodeModel_findFacts_307]
      cases fgr j (fun q => B (5 * i + q)) B 5
      · simp
      · simp
    · obtain ⟨j, hj, ej⟩ := (hS.2.2 i hi).2 o
      have hl : i + 1 < n := hlast (by rw [o]; decide) (by rw [o]; decide)
      have c1 : ¬ (9 : Int32) = 10 := by decide
      have c3 : ¬ (9 : Int32) = 8 := by decide
      have c4 : ¬ (9 : Int32) = 6 := by decide
      obtain ⟨fl', hc⟩ := c_branch (d := d) (B := B) (show i < 19 by omega) o ha ea (show j < 20 by omega) ej fl
      obtain ⟨bA, vA⟩ := hB ja ha
      by_cases q0 : B (5 * i + ja) = 0
      · rw [if_pos q0] at hc
        obtain ⟨z1, z2⟩ := enc0.mp (vA ▸ q0)
        obtain ⟨R', I2, F2, f1, f2, f3⟩ := m_plain (t := i + 1) h20 (by omega) hc4 (Or.inr (Or.inr o)) hF hR
        have g : ¬ I2 (5 * i + ja) = 0 ∧ F2 (5 * i + ja) = 0 := by
          rcases f3 i h20 with h | h
          · rw [f2, upd_n (by omega), hR] at h; exact absurd h.1 (by decide)
          · have := (h.2 ja ha).2
            rw [show flt (i + 1) (fun q => B (5 * i + q)) B (5 * i + ja) = B (5 * i + ja) by unfold flt; rw [if_neg (by omega)], q0] at this
            exact enc0.mp this.symm
        refine FX.of hn hi hnr hc f3 (Gr.fl (by omega) fnr) (fun k57 k y1 y2 => ?_)
        rw [f_BlockCodeModel_findFacts_72, if_neg (nI_ge hi (by omega))]
        simp only [x0, x2', x3', r21 (show i < 21 by omega), hR, Option.bind_some, n10, o, ea, m5', nI_add, c1, c3, c4, if_false, if_true, f_BlockCodeModel_findFacts_153, f_BlockCodeModel_findFacts_185, r105 (show 5 * i + ja < 105 by omega), z1, z2, f_BlockCodeModel_findFacts_215, p1', f1, f_BlockCodeModel_findFacts_233, f_BlockCodeModel_findFacts_260, g.1, g.2, f_BlockCodeModel_findFacts_307]
        cases fgr (i + 1) (fun q => B (5 * i + q)) B 5
        · simp
        · simp
      · rw [if_neg q0] at hc
        by_cases q1 : B (5 * i + ja) = fANY
        · rw [if_pos q1] at hc
          have z1 : I (5 * i + ja) = 0 := encA.mp (vA ▸ q1)
          obtain ⟨R', I2, F2, f1, f2, f3⟩ := m_plain (t := i + 1) h20 (by omega) hc4 (Or.inr (Or.inr o)) hF hR
          have keep : ∀ q, q < 5 → flt (i + 1) (fun q => B (5 * i + q)) B (5 * i + q) = B (5 * i + q) := fun q hq => by unfold flt; rw [if_neg (by omega)]
          have g : I2 (5 * i + ja) = 0 := by
            rcases f3 i h20 with h | h
            · rw [f2, upd_n (by omega), hR] at h; exact absurd h.1 (by decide)
            · have := (h.2 ja ha).2
              rw [keep ja ha, q1] at this
              exact encA.mp this.symm
          obtain ⟨R3, I3, F3, k1, k2, k3⟩ := m_plain (t := j) h20 (by omega) hc4 (Or.inr (Or.inr o)) f3 (by rw [f2, upd_n (by omega)]; exact hR)
          rw [fgr_congr keep 5 (by decide)] at k1
          rw [flt_congr keep, flt_comm] at k3
          refine FX.of hn hi hnr hc k3 (Gr.tr (Gr.fl (by omega) fnr) (Gr.fl (by omega) fnr)) (fun k57 k y1 y2 => ?_)
          rw [f_BlockCodeModel_findFacts_72, if_neg (nI_ge hi (by omega))]
          simp only [x0, x2', x3', r21 (show i < 21 by omega), hR, Option.bind_some, n10, o, ea, ej, m5', nI_add, c1, c3, c4, if_false, if_true, f_BlockCodeModel_findFacts_153, f_BlockCodeModel_findFacts_185, r105 (show 5 * i + ja < 105 by omega), z1, f_BlockCodeModel_findFacts_215, p1', f1, f_BlockCodeModel_findFacts_233, f_BlockCodeModel_findFacts_260, g, f_BlockCodeModel_findFacts_287, k1, f_BlockCodeModel_findFacts_307]
          have cm := fgr_comm (i + 1) j (fun q => B (5 * i + q)) B
          rw [Bool.or_comm (fgr (i + 1) (fun q => B (5 * i + q)) (flt j (fun q => B (5 * i + q)) B) 5), ← cm]
          cases fgr (i + 1) (fun q => B (5 * i + q)) B 5 <;> cases fgr j (fun q => B (5 * i + q)) (flt (i + 1) (fun q => B (5 * i + q)) B) 5 <;> simp [n10]
        · rw [if_neg q1] at hc
          have z1 : ¬ I (5 * i + ja) = 0 := fun w => q1 (by rw [vA]; exact encA.mpr w)
          have z2 : ¬ F (5 * i + ja) = 0 := fun w => q0 (by rw [vA]; exact enc0.mpr ⟨z1, w⟩)
          obtain ⟨R', I2, F2, f1, f2, f3⟩ := m_plain (t := j) h20 (by omega) hc4 (Or.inr (Or.inr o)) hF hR
          refine FX.of hn hi hnr hc f3 (Gr.fl (by omega) fnr) (fun k57 k y1 y2 => ?_)
          rw [f_BlockCodeModel_findFacts_72, if_neg (nI_ge hi (by omega))]
          simp only [x0, x2', x3', r21 (show i < 21 by omega), hR, Option.bind_some, n10, o, ea, ej, m5', nI_add, c1, c3, c4, if_false, if_true, f_BlockCodeModel_findFacts_153, f_BlockCodeModel_findFacts_185, r105 (show 5 * i + ja < 105 by omega), z1, z2, f_BlockCodeModel_findFacts_215, p1', f1, f_BlockCodeModel_findFacts_233, f_BlockCodeModel_findFacts_260, f_BlockCodeModel_findFacts_287, f_BlockCodeModel_findFacts_307]
          cases fgr j (fun q => B (5 * i + q)) B 5
          · simp
          · simp
    · refine FX.of (g := false) (C := B) (fl' := fl) (R' := R) (I' := I) (F' := F) hn hi hnr (c_stop h20 (Or.inl o) fl) hF (Gr.none B) (fun k57 k y1 y2 => ?_)
      rw [f_BlockCodeModel_findFacts_72, if_neg (nI_ge hi (by omega))]
      simp only [x0, r21 (show i < 21 by omega), hR, Option.bind_some, n10, o, if_false, if_true, f_BlockCodeModel_findFacts_307, p1', Bool.false_eq_true]
end FST
