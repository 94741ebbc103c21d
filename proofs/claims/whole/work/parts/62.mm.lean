/-! ===== constants ===== -/
section CONS
variable {n : Nat} {op d a b rop rd ra rb code : Nat → Int32} {B : Nat → Int64} {R I F : Nat → Int32}
theorem made_zero {i : Nat} (hi : i < 20) (o : op i = 6) {ja jb : Nat} (ha : ja < 5) (hb : jb < 5) (ea : a i = nI ja) (eb : b i = nI jb) (hB : ∀ q, q < 5 → bz (I (5 * i + q)) ∧ B (5 * i + q) = enc (I (5 * i + q)) (F (5 * i + q))) (z : B (5 * i + jb) = 0) :
    f_Facts_madeBy (nI i) B op a b = some (enc 0 0) := by
  have c1 : ¬ (6 : Int32) = 1 := by decide
  have c2 : ¬ (6 : Int32) = 2 := by decide
  have ia : f_BlockCode_isInt (B (5 * i + ja)) = some (if I (5 * i + ja) = 0 then 0 else 1) := by rw [(hB ja ha).2]; exact isInt_enc _ _
  have ib : f_BlockCode_isInt 0 = some 1 := by decide
  have dz : f_BlockCode_dividesByZero 6 ((0 : Int64).toInt32) = some 1 := by decide
  simp only [f_Facts_madeBy, r20 hi, Option.bind_some, o, c1, c2, if_false, ea, eb, at_n hi ha, at_n hi hb, ia, z, ib, n10, dz]
  split <;> rfl
def ConTwo (n i : Nat) (op d a b rop rd ra rb code : Nat → Int32) (B : Nat → Int64) (R I F : Nat → Int32) : Prop :=
  ∃ o' d' a' b' c', f_BlockCode_putConstant (nI i) op d a b B rop rd ra rb = some (o', d', a', b') ∧ (∀ k', f_BlockCodeModel_constants_15 (nI n) 1 (k' + 1) (nI i) code 0 0 R I F = f_BlockCodeModel_constants_15 (nI n) 1 k' (nI (i + 1)) c' 0 0 R I F) ∧ PS n op d a b o' d' a' b' c'
theorem con_step (hn : n ≤ 20) (hS : SD n op a b) (hP : PS n op d a b rop rd ra rb code) {i : Nat} (hi : i < n) (hR : R i = 1) (hB : ∀ q, q < 5 → bz (I (5 * i + q)) ∧ B (5 * i + q) = enc (I (5 * i + q)) (F (5 * i + q))) : ConTwo n i op d a b rop rd ra rb code B R I F := by
  have h20 : i < 20 := by omega
  have hp := put_zero hn hP hi
  obtain ⟨⟨e0, e1, e2, e3⟩, hN⟩ := hP.1 i hi
  simp only [Nat.zero_add] at e0 e1 e2 e3
  have x0 : rdI code 160 (4 * nI i) = some (op i) := by rw [m4', r160 (by omega), e0]
  have x1 : rdI code 160 (4 * nI i + 1) = some (d i) := by rw [m4', p1', r160 (by omega), e1]
  have x2 : rdI code 160 (4 * nI i + 2) = some (a i) := by rw [m4', p2', r160 (by omega), e2]
  have x3 : rdI code 160 (4 * nI i + 3) = some (b i) := by rw [m4', p3', r160 (by omega), e3]
  have y := r21 (f := R) (show i < 21 by omega)
  rw [hR] at y
  have mi : ∀ {ja : Nat} (f : Nat → Int32), ja < 5 → rdI f 105 (5 * nI i + nI ja) = some (f (5 * i + ja)) := fun f h => by rw [m5', nI_add]; exact r105 (by omega)
  have g : ¬ nI n ≤ nI i := nI_ge hi (by omega)
  have skip : f_BlockCode_putConstant (nI i) op d a b B rop rd ra rb = some (rop, rd, ra, rb) → (∀ k', f_BlockCodeModel_constants_15 (nI n) 1 (k' + 1) (nI i) code 0 0 R I F = f_BlockCodeModel_constants_15 (nI n) 1 k' (nI (i + 1)) code 0 0 R I F) → ConTwo n i op d a b rop rd ra rb code B R I F :=
    fun h1 h2 => ⟨rop, rd, ra, rb, code, h1, h2, hP⟩
  have plain : (op i = 0 ∨ op i = 1 ∨ op i = 8 ∨ op i = 10) → ConTwo n i op d a b rop rd ra rb code B R I F := by
    intro h
    refine skip ?_ (fun k' => ?_)
    · have : f_BlockCode_makesRegister (op i) = some 0 ∨ op i = 1 := by rcases h with h | h | h | h <;> rw [h] <;> decide
      have n9 : ¬ op i = 9 := by rcases h with h | h | h | h <;> rw [h] <;> decide
      simp only [f_BlockCode_putConstant, r20 h20, Option.bind_some, n9, if_false]
      by_cases w : op i = 1
      · rw [if_pos w]
      · rw [if_neg w, this.resolve_right w]; rfl
    · have : f_BlockCodeModel_within (op i) 2 9 = some 0 ∨ op i = 8 := by rcases h with h | h | h | h <;> rw [h] <;> decide
      simp only [f_BlockCodeModel_constants_15, g, if_false, x0, x2, x3, y, Option.bind_some, n10, f_BlockCodeModel_constants_260, p1']
      rcases within_or (op i) 2 9 with w | w
      · rw [w]; rfl
      · have w8 : op i = 8 := this.resolve_left (by rw [w]; decide)
        rw [w, w8]; rfl
  have makes : (op i = 2 ∨ op i = 3 ∨ op i = 4 ∨ op i = 5 ∨ op i = 6 ∨ op i = 7) → isR (d i) 5 → isR (a i) 5 → (op i ≠ 2 → isR (b i) 5) → ConTwo n i op d a b rop rd ra rb code B R I F := by
    intro h hd ha hb
    obtain ⟨jd, hd, ed⟩ := hd
    obtain ⟨ja, ha, ea⟩ := ha
    obtain ⟨jb, hb, eb⟩ : ∃ jb, jb < 5 ∧ (op i ≠ 2 → b i = nI jb) := by
      by_cases w : op i = 2
      · exact ⟨0, by decide, fun q => absurd w q⟩
      · obtain ⟨jb, hb, eb⟩ := hb w
        exact ⟨jb, hb, fun _ => eb⟩
    have o1 : ¬ op i = 1 := by rcases h with h | h | h | h | h | h <;> rw [h] <;> decide
    have o8 : ¬ op i = 8 := by rcases h with h | h | h | h | h | h <;> rw [h] <;> decide
    have o9 : ¬ op i = 9 := by rcases h with h | h | h | h | h | h <;> rw [h] <;> decide
    have w29 : f_BlockCodeModel_within (op i) 2 9 = some 1 := by rcases h with h | h | h | h | h | h <;> rw [h] <;> decide
    have ho : mk7 (op i) := Or.inr h
    have cc : f_BlockCode_putConstant (nI i) op d a b B rop rd ra rb = (f_Facts_madeBy (nI i) B op a b).bind fun rz3 => (f_BlockCode_isInt rz3).bind fun rz4 => if rz4 = 0 then some (rop, rd, ra, rb) else (f_Code_put (nI i) 1 (d i) rz3.toInt32 0 rop rd ra rb).bind fun (u6, u7, u8, u9) => some (u6, u7, u8, u9) := by
      simp only [f_BlockCode_putConstant, r20 h20, Option.bind_some, o9, o1, if_false, mk7_reg ho, n10]
    have mm : ∀ k', f_BlockCodeModel_constants_15 (nI n) 1 (k' + 1) (nI i) code 0 0 R I F = (if I (5 * i + ja) = 0 then f_BlockCodeModel_constants_15 (nI n) 1 k' (nI (i + 1)) code 0 0 R I F else
        if op i = 2 then (f_BlockCodeModel_put (80 + 4 * nI i) 1 (d i) (F (5 * i + ja)) 0 code).bind fun u => f_BlockCodeModel_constants_15 (nI n) 1 k' (nI (i + 1)) u 0 0 R I F else
        if I (5 * i + jb) = 0 then f_BlockCodeModel_constants_15 (nI n) 1 k' (nI (i + 1)) code 0 0 R I F else
        if op i = 6 ∧ F (5 * i + jb) = 0 then f_BlockCodeModel_constants_15 (nI n) 1 k' (nI (i + 1)) code 0 0 R I F else
        (f_BlockCodeModel_value (op i) (F (5 * i + ja)) (F (5 * i + jb))).bind fun rz => (f_BlockCodeModel_put (80 + 4 * nI i) 1 (d i) rz 0 code).bind fun u => f_BlockCodeModel_constants_15 (nI n) 1 k' (nI (i + 1)) u 0 0 R I F) := by
      intro k'
      simp only [f_BlockCodeModel_constants_15, g, if_false, x0, x1, x2, x3, y, Option.bind_some, n10, f_BlockCodeModel_constants_260, f_BlockCodeModel_constants_221, p1', w29, o8, o9, ea, mi I ha, mi F ha]
      by_cases w : op i = 2
      · simp only [w, if_true]
      · simp only [w, if_false, eb w, mi I hb, mi F hb, Option.bind_some]
        by_cases w6 : op i = 6
        · simp only [w6, if_true, true_and]
        · simp only [w6, if_false, false_and]
    have put1 : ∀ v, ∃ o' d' a' b' c', f_Code_put (nI i) 1 (d i) v 0 rop rd ra rb = some (o', d', a', b') ∧ f_BlockCodeModel_put (80 + 4 * nI i) 1 (d i) v 0 code = some c' ∧ PS n op d a b o' d' a' b' c' := fun v =>
      put_both hn hP hi (by decide) (by decide) (Or.inr (Or.inl ⟨rfl, ⟨jd, hd, by rw [ed]; rfl⟩, by decide⟩)) (fun e => absurd e (by decide)) (fun e => absurd e (by decide))
    have i0 : f_BlockCode_isInt (enc 0 0) = some 0 := by rw [isInt_enc]; rfl
    by_cases zz : op i = 6 ∧ B (5 * i + jb) = 0
    · have hb' := (hB jb hb).2
      rw [zz.2] at hb'
      obtain ⟨z1, z2⟩ := enc0.mp hb'.symm
      have o2 : ¬ op i = 2 := by rw [zz.1]; decide
      refine skip ?_ (fun k' => ?_)
      · rw [cc, made_zero h20 zz.1 ha hb ea (eb o2) hB zz.2, Option.bind_some, i0]; rfl
      · rw [mm, if_neg o2, if_neg z1, if_pos (show op i = 6 ∧ F (5 * i + jb) = 0 from ⟨zz.1, z2⟩)]; split <;> rfl
    · obtain ⟨mv, m1, m2, m3, m4⟩ := made_eq h20 ho ha hb (fun _ => ea) (fun _ w => eb w) hB (fun w z => zz ⟨w, z⟩)
      have n6 : ¬ I (5 * i + jb) = 0 → ¬ (op i = 6 ∧ F (5 * i + jb) = 0) := fun z1 ⟨q1, q2⟩ => zz ⟨q1, by rw [(hB jb hb).2]; exact enc0.mpr ⟨z1, q2⟩⟩
      have ii := isInt_enc (mkn (op i) (I (5 * i + ja)) (I (5 * i + jb))) mv
      rcases m2 with q | q
      · rw [q] at m1 ii
        refine skip ?_ (fun k' => ?_)
        · rw [cc, m1, Option.bind_some, ii]; rfl
        · rw [mm]
          by_cases za : I (5 * i + ja) = 0
          · rw [if_pos za]
          · rw [if_neg za]
            by_cases w : op i = 2
            · exfalso; rw [mkn, if_neg o1, if_neg za, if_pos w] at q; exact absurd q (by decide)
            · rw [if_neg w]
              rw [mkn, if_neg o1, if_neg za, if_neg w] at q
              by_cases zb : I (5 * i + jb) = 0
              · rw [if_pos zb]
              · rw [if_neg zb] at q; exact absurd q (by decide)
      · have m3 := m3 q
        rw [q] at m1 ii
        obtain ⟨o', d', a', b', c', q1, q2, q3⟩ := put1 mv
        have za : ¬ I (5 * i + ja) = 0 := fun z => by rw [mkn, if_neg o1, if_pos z] at q; exact absurd q (by decide)
        refine ⟨o', d', a', b', c', ?_, fun k' => ?_, q3⟩
        · rw [cc, m1, Option.bind_some, ii, Option.bind_some, if_neg n10, if_neg n10, encI n10, q1]; rfl
        · rw [mm, if_neg za]
          by_cases w : op i = 2
          · rw [if_pos w, ← m3.2.1 w, q2]; rfl
          · have zb : ¬ I (5 * i + jb) = 0 := fun z => by rw [mkn, if_neg o1, if_neg za, if_neg w, if_pos z] at q; exact absurd q (by decide)
            rw [if_neg w, if_neg zb, if_neg (n6 zb), m3.2.2 o1 w, Option.bind_some, q2]; rfl
  have branch : op i = 9 → isR (a i) 5 → ConTwo n i op d a b rop rd ra rb code B R I F := by
    intro h ha
    obtain ⟨ja, ha, ea⟩ := ha
    obtain ⟨j, hj, ej⟩ := (hS.2.2 i hi).2 h
    have w29 : f_BlockCodeModel_within 9 2 9 = some 1 := by decide
    have c98 : ¬ (9 : Int32) = 8 := by decide
    have cc : f_BlockCode_putConstant (nI i) op d a b B rop rd ra rb = (f_BlockCode_putSettledBranch (nI i) (enc (I (5 * i + ja)) (F (5 * i + ja))) b rop rd ra rb).bind fun (u12, u13, u14, u15) => some (u12, u13, u14, u15) := by
      simp only [f_BlockCode_putConstant, r20 h20, Option.bind_some, h, if_true, ea, at_n h20 ha, (hB ja ha).2]
    have mm : ∀ k', f_BlockCodeModel_constants_15 (nI n) 1 (k' + 1) (nI i) code 0 0 R I F = (if I (5 * i + ja) = 0 then f_BlockCodeModel_constants_15 (nI n) 1 k' (nI (i + 1)) code 0 0 R I F else
        if F (5 * i + ja) = 0 then (f_BlockCodeModel_put (80 + 4 * nI i) 0 0 0 0 code).bind fun u => f_BlockCodeModel_constants_15 (nI n) 1 k' (nI (i + 1)) u 0 0 R I F else
        (f_BlockCodeModel_put (80 + 4 * nI i) 8 0 (b i) 0 code).bind fun u => f_BlockCodeModel_constants_15 (nI n) 1 k' (nI (i + 1)) u 0 0 R I F) := by
      intro k'
      simp only [f_BlockCodeModel_constants_15, g, if_false, x0, x1, x2, x3, y, Option.bind_some, n10, f_BlockCodeModel_constants_260, p1', h, w29, c98, ea, mi I ha, mi F ha, if_true]
    by_cases za : I (5 * i + ja) = 0
    · refine skip ?_ (fun k' => by rw [mm, if_pos za])
      rw [cc]; simp only [f_BlockCode_putSettledBranch, isInt_enc, za, if_true, Option.bind_some]
    · by_cases zf : F (5 * i + ja) = 0
      · obtain ⟨o', d', a', b', c', q1, q2, q3⟩ := hp
        refine ⟨o', d', a', b', c', ?_, fun k' => by rw [mm, if_neg za, if_pos zf, q2]; rfl, q3⟩
        rw [cc]; simp only [f_BlockCode_putSettledBranch, isInt_enc, za, if_false, Option.bind_some, n10, lg_eq0.mpr (enc0.mpr ⟨za, zf⟩), if_true, q1]
      · obtain ⟨o', d', a', b', c', q1, q2, q3⟩ := put_both (o := 8) (x := 0) (y := b i) (z := 0) hn hP hi (by decide) (by decide) (by
          have e : na 8 (b i) = b i := by unfold na; rw [if_neg (by decide)]
          rw [e, show nd 8 0 = 0 by decide, show nb 8 0 = 0 by decide]
          exact Or.inr (Or.inr (Or.inr (Or.inr (Or.inr (Or.inr (Or.inr (Or.inr (Or.inl ⟨rfl, rfl, ⟨j, by omega, ej⟩, rfl⟩))))))))) (fun _ => ⟨j, hj, by rw [ej]; rfl⟩) (fun e => absurd e (by decide))
        refine ⟨o', d', a', b', c', ?_, fun k' => by rw [mm, if_neg za, if_neg zf, q2]; rfl, q3⟩
        have lz : ¬ lg_cmp (enc (I (5 * i + ja)) (F (5 * i + ja))) 0 = 0 := fun q => zf (enc0.mp (lg_eq0.mp q)).2
        rw [cc]; simp only [f_BlockCode_putSettledBranch, isInt_enc, za, if_false, Option.bind_some, n10, lz, r20 h20, q1]
  rcases hN with ⟨o, -⟩ | ⟨o, -⟩ | ⟨o, q1, q2, -⟩ | ⟨o, q1, q2, q3⟩ | ⟨o, q1, q2, q3⟩ | ⟨o, q1, q2, q3⟩ | ⟨o, q1, q2, q3⟩ | ⟨o, q1, q2, q3⟩ | ⟨o, -⟩ | ⟨o, -, q2, -⟩ | ⟨o, -⟩
  · exact plain (Or.inl o)
  · exact plain (Or.inr (Or.inl o))
  · exact makes (Or.inl o) q1 q2 (fun w => absurd o w)
  · exact makes (Or.inr (Or.inl o)) q1 q2 (fun _ => q3)
  · exact makes (Or.inr (Or.inr (Or.inl o))) q1 q2 (fun _ => q3)
  · exact makes (Or.inr (Or.inr (Or.inr (Or.inl o)))) q1 q2 (fun _ => q3)
  · exact makes (Or.inr (Or.inr (Or.inr (Or.inr (Or.inl o))))) q1 q2 (fun _ => q3)
  · exact makes (Or.inr (Or.inr (Or.inr (Or.inr (Or.inr o))))) q1 q2 (fun _ => q3)
  · exact plain (Or.inr (Or.inr (Or.inl o)))
  · exact branch o q2
  · exact plain (Or.inr (Or.inr (Or.inr o)))
theorem reached_n {i : Nat} (hi : i < 20) (h : FP B R I F i) : f_Facts_reached (nI i) B = some (R i) := by
  unfold f_Facts_reached
  rw [show (0 : Int32) = nI 0 by decide, at_n hi (by decide), Option.bind_some]
  rcases h with ⟨e1, e2⟩ | ⟨e1, e2⟩
  · rw [e1, if_pos (by rw [e2 0 (by decide)]; decide), nI0]
  · rw [e1, if_neg (by rw [(e2 0 (by decide)).2]; exact fun q => enc_nr _ _ (lg_eq0.mp q))]
theorem con_loop (hn : n ≤ 20) (hS : SD n op a b) (hF : FR B R I F) : ∀ (m i k k' : Nat) (rop rd ra rb code : Nat → Int32), i + m = n → m < k → m < k' → PS n op d a b rop rd ra rb code →
    ∃ v o' d' a' b' c', f_BlockCode_constants_10 op d a b (nI n) B 1 k (nI i) rop rd ra rb (nI n) 0 = some (v, o', d', a', b', nI n, 0) ∧ f_BlockCodeModel_constants_15 (nI n) 1 k' (nI i) code 0 0 R I F = some (v, c', 0, 0, R, I, F) ∧ PS n op d a b o' d' a' b' c' := by
  intro m
  induction m with
  | zero =>
    intro i k k' rop rd ra rb code e h1 h2 hP
    obtain ⟨k, rfl⟩ : ∃ x, k = x + 1 := ⟨k - 1, by omega⟩
    obtain ⟨k', rfl⟩ : ∃ x, k' = x + 1 := ⟨k' - 1, by omega⟩
    have e' : i = n := by omega
    subst e'
    obtain ⟨v, v1, v2⟩ := diff_eq hn hP.1 hP.2.1
    refine ⟨v, rop, rd, ra, rb, code, ?_, ?_, hP⟩
    · rw [f_BlockCode_constants_10, if_pos (Int32.le_refl _), v1]; rfl
    · rw [f_BlockCodeModel_constants_15, if_pos (Int32.le_refl _), v2]; rfl
  | succ m ih =>
    intro i k k' rop rd ra rb code e h1 h2 hP
    obtain ⟨k, rfl⟩ : ∃ x, k = x + 1 := ⟨k - 1, by omega⟩
    obtain ⟨k', rfl⟩ : ∃ x, k' = x + 1 := ⟨k' - 1, by omega⟩
    have hi : i < n := by omega
    have h20 : i < 20 := by omega
    have go := fun rop rd ra rb code => ih (i + 1) k k' rop rd ra rb code (by omega) (by omega) (by omega)
    rcases hF i h20 with ⟨e1, e2⟩ | ⟨e1, e2⟩
    · have hr := reached_n h20 (hF i h20)
      rw [e1] at hr
      have c : f_BlockCode_constants_10 op d a b (nI n) B 1 (k + 1) (nI i) rop rd ra rb (nI n) 0 = f_BlockCode_constants_10 op d a b (nI n) B 1 k (nI (i + 1)) rop rd ra rb (nI n) 0 := by
        rw [f_BlockCode_constants_10, if_neg (nI_ge hi (by omega)), hr, Option.bind_some, if_pos rfl, f_BlockCode_constants_37, p1']
      have mm : f_BlockCodeModel_constants_15 (nI n) 1 (k' + 1) (nI i) code 0 0 R I F = f_BlockCodeModel_constants_15 (nI n) 1 k' (nI (i + 1)) code 0 0 R I F := by
        rw [f_BlockCodeModel_constants_15, if_neg (nI_ge hi (by omega)), m4', p2', p3', r160 (by omega), r160 (by omega), r160 (by omega), r21 (by omega), e1]
        simp only [Option.bind_some, if_true, f_BlockCodeModel_constants_260, p1']
      rw [c, mm]
      exact go _ _ _ _ _ hP
    · have hr := reached_n h20 (hF i h20)
      rw [e1] at hr
      obtain ⟨o', d', a', b', c', q1, q2, q3⟩ := con_step hn hS hP hi e1 e2
      have c : f_BlockCode_constants_10 op d a b (nI n) B 1 (k + 1) (nI i) rop rd ra rb (nI n) 0 = f_BlockCode_constants_10 op d a b (nI n) B 1 k (nI (i + 1)) o' d' a' b' (nI n) 0 := by
        rw [f_BlockCode_constants_10, if_neg (nI_ge hi (by omega)), hr, Option.bind_some, if_neg n10, q1, Option.bind_some]
        simp only [f_BlockCode_constants_37, p1']
      rw [c, q2]
      exact go _ _ _ _ _ q3
end CONS
section STCON
variable {op d a b need : Nat → Int32} {len leaders : Int32} {rop rd ra rb : Nat → Int32} {rlen : Int32} {before : Nat → Int64} {sealed found : Int32} {code : Nat → Int32} {size ms mg : Int32}
set_option maxRecDepth 100000 in
theorem st_constants (h : RC ZZ op d a b need len leaders rop rd ra rb rlen before sealed found code size ms mg) (out : Nat → Int64) (th : Int32) (R I F : Nat → Int32) :
    ∃ k r rop' rd' ra' rb' rlen' found' out' code' mg' R' I' F', g_BlockCodeLaw_constants op d a b len before sealed rop rd ra rb rlen found out = some (k, rop', rd', ra', rb', rlen', found', out') ∧
      f_BlockCodeModel_constants size ms code th mg R I F = some (r, code', k, mg', R', I', F') ∧ (k = 0 → rdL out' 1 0 = some r.toInt64) ∧ RC ZZ op d a b need len leaders rop' rd' ra' rb' rlen' before sealed found' code' size ms mg' := by
  have h0 := h
  obtain ⟨n, hn, rfl, rfl, hC, h⟩ := id h
  rcases h with ⟨rfl, rfl, rfl⟩ | ⟨rfl, rfl, rfl, rfl, hg, hR, hJ, hS, hZ⟩
  · refine ⟨1, 0, rop, rd, ra, rb, 0, found, out, code, mg, R, I, F, ?_, ?_, fun q => absurd q (by decide), h0⟩
    · simp only [g_BlockCodeLaw_constants, if_true]
    · simp only [f_BlockCodeModel_constants, f_BlockCodeModel_open, f_BlockCodeModel_open_13, if_true, Option.bind_some]
  · obtain ⟨o', d', a', b', c', q1, q2, q3⟩ := opened (rop := rop) (rd := rd) (ra := ra) (rb := rb) hn hC hS (nI n) found th found
    obtain ⟨R', I', F', g1, g2⟩ := hZ.facts hn q3.1 hS R I F
    obtain ⟨v, o2, d2, a2, b2, c2, l1, l2, l3⟩ := con_loop hn hS g2 n 0 fu fu o' d' a' b' c' (by omega) (fuN (by omega)) (fuN (by omega)) q3
    rw [nI0] at l1 l2
    refine ⟨0, v, o2, d2, a2, b2, nI n, 0, vp_updL out 0 v.toInt64, c2, 0, R', I', F', ?_, ?_, fun _ => rout _ _, n, hn, rfl, rfl, l3.1, Or.inr ⟨rfl, rfl, rfl, rfl, Or.inl rfl, l3.2.1, l3.2.2, hS, hZ⟩⟩
    · simp only [g_BlockCodeLaw_constants, n10, if_false, f_BlockCodeLaw_constants, f_BlockCode_constants, f_BlockCode_requireSealed, Option.bind_some, q1, l1, wout]
    · simp only [f_BlockCodeModel_constants, q2, Option.bind_some, n10, if_false, g1, l2]
end STCON
