/-! ===== repeats ===== -/
theorem or0 {L y : Int32} (h : bt L 0 = true) : bt (L ||| y) 0 = true := by rw [b_or, h]; rfl
theorem lead0_loop (op a b : Nat → Int32) (len : Int32) : ∀ (k : Nat) (x L L' : Int32), bt L 0 = true → f_Code_findLeaders_7 op a b len k x L = some L' → bt L' 0 = true := by
  intro k
  induction k with
  | zero => intro x L L' _ e; rw [f_Code_findLeaders_7] at e; cases e
  | succ k ih =>
    intro x L L' h e
    rw [f_Code_findLeaders_7] at e
    split at e
    · injection e with e; rw [← e]; exact h
    · cases q1 : rdI op 20 x with
      | none => rw [q1] at e; cases e
      | some v1 =>
        cases q2 : rdI a 20 x with
        | none => rw [q1, q2] at e; cases e
        | some v2 =>
          cases q3 : rdI b 20 x with
          | none => rw [q1, q2, q3] at e; cases e
          | some v3 =>
            cases q4 : f_BlockCode_namedBy v1 v2 v3 with
            | none => simp only [q1, q2, q3, q4, Option.bind_some, Option.bind_none] at e; cases e
            | some v4 =>
              simp only [q1, q2, q3, q4, Option.bind_some, f_Code_findLeaders_53, f_Code_findLeaders_88] at e
              (repeat' split at e) <;> first | exact ih _ _ _ h e | exact ih _ _ _ (or0 h) e | exact ih _ _ _ (or0 (or0 h)) e
theorem ZZ.lead0 {n : Nat} {op d a b need : Nat → Int32} {leaders : Int32} {before : Nat → Int64} (h : ZZ n op d a b need leaders before) : bt leaders 0 = true := by
  obtain ⟨⟨l0, e⟩, -⟩ := h
  exact lead0_loop op a b (nI n) fu 0 1 leaders (by decide) e
/-- what the registers hold, on both sides: numbers of symbols -/
def HS (c h : Nat) (held hold : Nat → Int32) : Prop := ∀ r, r < 5 → ∃ s, s < c ∧ held r = nI s ∧ hold (h + r) = nI s
theorem HS.upd {c h : Nat} {held hold : Nat → Int32} (H : HS c h held hold) {j s : Nat} (hs : s < c) : HS c h (upd held j (nI s)) (upd hold (h + j) (nI s)) := fun r hr => by
  by_cases e : r = j
  · subst e; exact ⟨s, hs, upd_s, upd_s⟩
  · obtain ⟨t, t1, t2, t3⟩ := H r hr
    exact ⟨t, t1, by rw [upd_n e]; exact t2, by rw [upd_n (by omega)]; exact t3⟩
theorem HS.mono {c c' h : Nat} {held hold : Nat → Int32} (H : HS c h held hold) (hc : c ≤ c') : HS c' h held hold := fun r hr => by
  obtain ⟨t, t1, t2, t3⟩ := H r hr
  exact ⟨t, by omega, t2, t3⟩
theorem r10 {f : Nat → Int32} {i : Nat} (h : i < 10) : rdI f 10 (nI i) = some (f i) := rdI_n h (by decide)
theorem w10 {f : Nat → Int32} {i : Nat} {x : Int32} (h : i < 10) : wrI f 10 (nI i) x = some (upd f i x) := wrI_n h (by decide)
theorem ge5 {r : Nat} (h : r < 5) : ¬ (5 : Int32) ≤ nI r := by rw [show (5 : Int32) = nI 5 by decide]; exact nI_ge h (by decide)
abbrev K15 := Int32 → (Nat → Int32) → Int32 → Int32 → (Nat → Int32) → (Nat → Int32) → (Nat → Int32) → (Nat → Int32) → Int32 → (Nat → Int32) → Option (Int32 × (Nat → Int32) × Int32 × Int32 × (Nat → Int32) × (Nat → Int32) × (Nat → Int32) × (Nat → Int32) × Int32 × (Nat → Int32))
abbrev K10 := Int32 → (Nat → Int32) → (Nat → Int32) → (Nat → Int32) → (Nat → Int32) → Int32 → (Nat → Int32) → (Nat → Int32) → (Nat → Int32) → Int32 → (Nat → Int32) → Int32 → Option (Int32 × (Nat → Int32) × (Nat → Int32) × (Nat → Int32) × (Nat → Int32) × Int32 × (Nat → Int32) × (Nat → Int32) × (Nat → Int32) × Int32 × (Nat → Int32) × Int32)
theorem of_reg {p : Int32} {s : Int32} {k l r k' l' r' : Nat → Int32} {c c' : Int32} (h : f_Symbols_numberOf 0 p 0 k l r c = some (s, k', l', r', c')) : f_Symbols_ofRegister p k l r c = some (s, k', l', r', c') := by unfold f_Symbols_ofRegister; rw [h]; rfl
theorem of_int {p : Int32} {s : Int32} {k l r k' l' r' : Nat → Int32} {c c' : Int32} (h : f_Symbols_numberOf 1 p 0 k l r c = some (s, k', l', r', c')) : f_Symbols_ofInt p k l r c = some (s, k', l', r', c') := by unfold f_Symbols_ofInt; rw [h]; rfl
theorem of_op {o p q : Int32} {s : Int32} {k l r k' l' r' : Nat → Int32} {c c' : Int32} (h : f_Symbols_numberOf o p q k l r c = some (s, k', l', r', c')) : f_Symbols_ofOp o p q k l r c = some (s, k', l', r', c') := by unfold f_Symbols_ofOp; rw [h]; rfl
theorem bgn_loop (size sealed : Int32) (k15 : K15) (x1 th good : Int32) (code lm : Nat → Int32) : ∀ (m r k k' c : Nat) (xk xl xr mk ml mr held hold : Nat → Int32), r + m = 5 → m < k → m < k' → c ≤ r → SR c xk xl xr mk ml mr → (∀ q, q < r → ∃ s, s < c ∧ held q = nI s ∧ hold q = nI s) →
    ∃ c' xk' xl' xr' mk' ml' mr' held' hold', f_Walk_beginUnknown_2 k (nI r) xk xl xr (nI c) held = some (xk', xl', xr', nI c', held') ∧ f_BlockCodeModel_repeats_39 size sealed k15 k' x1 (nI r) code th good lm mk ml mr (nI c) hold = f_BlockCodeModel_repeats_63 size sealed k15 x1 code th good lm mk' ml' mr' (nI c') hold' ∧ c' ≤ 5 ∧ SR c' xk' xl' xr' mk' ml' mr' ∧ HS c' 0 held' hold' := by
  intro m
  induction m with
  | zero =>
    intro r k k' c xk xl xr mk ml mr held hold e h1 h2 hc hS hH
    obtain ⟨k, rfl⟩ : ∃ x, k = x + 1 := ⟨k - 1, by omega⟩
    obtain ⟨k', rfl⟩ : ∃ x, k' = x + 1 := ⟨k' - 1, by omega⟩
    have e' : r = 5 := by omega
    subst e'
    refine ⟨c, xk, xl, xr, mk, ml, mr, held, hold, ?_, ?_, hc, hS, fun q hq => by rw [Nat.zero_add]; exact hH q hq⟩
    · rw [f_Walk_beginUnknown_2, if_pos (by decide)]
    · rw [f_BlockCodeModel_repeats_39, if_pos (by decide)]
  | succ m ih =>
    intro r k k' c xk xl xr mk ml mr held hold e h1 h2 hc hS hH
    obtain ⟨k, rfl⟩ : ∃ x, k = x + 1 := ⟨k - 1, by omega⟩
    obtain ⟨k', rfl⟩ : ∃ x, k' = x + 1 := ⟨k' - 1, by omega⟩
    have hr : r < 5 := by omega
    obtain ⟨s, c', xk', xl', xr', mk', ml', mr', s1, s2, s3, s4, s5, s6, -, -, -⟩ := sym_eq (show c < 45 by omega) hS 0 (nI r) 0
    have go := ih (r + 1) k k' c' xk' xl' xr' mk' ml' mr' (upd held r (nI s)) (upd hold r (nI s)) (by omega) (by omega) (by omega) (by omega) s6 (fun q hq => by
      by_cases w : q = r
      · subst w; exact ⟨s, s3, upd_s, upd_s⟩
      · obtain ⟨t, t1, t2, t3⟩ := hH q (by omega)
        exact ⟨t, by omega, by rw [upd_n w]; exact t2, by rw [upd_n w]; exact t3⟩)
    rw [f_Walk_beginUnknown_2, if_neg (ge5 hr), f_BlockCodeModel_repeats_39, if_neg (ge5 hr), of_reg s1, s2]
    simp only [Option.bind_some, w5 hr, w10 (show r < 10 by omega), p1']
    exact go
theorem holder_loop (size sealed : Int32) (k15 : K15) (x1 x3 s th good : Int32) (code lm mk ml mr : Nat → Int32) (mc : Int32) {held hold : Nat → Int32} (hH : ∀ r, r < 5 → held r = hold r) : ∀ (m r : Nat), r + m = 5 →
    ∃ q, q ≤ 5 ∧ (∀ k, m < k → f_Walk_leastHolder_2 s held k (nI r) = some (if q = 5 then -1 else nI q)) ∧ ∀ k', m < k' → f_BlockCodeModel_repeats_177 size sealed k15 k' x1 x3 s (nI r) code th good lm mk ml mr mc hold = f_BlockCodeModel_repeats_201 size sealed k15 x1 x3 s (nI q) code th good lm mk ml mr mc hold := by
  intro m
  induction m with
  | zero =>
    intro r e
    have e' : r = 5 := by omega
    subst e'
    refine ⟨5, by omega, fun k hk => ?_, fun k' hk => ?_⟩
    · obtain ⟨k, rfl⟩ : ∃ x, k = x + 1 := ⟨k - 1, by omega⟩
      rw [f_Walk_leastHolder_2, if_pos (by decide)]; rfl
    · obtain ⟨k', rfl⟩ : ∃ x, k' = x + 1 := ⟨k' - 1, by omega⟩
      rw [f_BlockCodeModel_repeats_177, if_pos (by decide)]
  | succ m ih =>
    intro r e
    have hr : r < 5 := by omega
    obtain ⟨q, q1, q2, q3⟩ := ih (r + 1) (by omega)
    by_cases w : held r = s
    · refine ⟨r, by omega, fun k hk => ?_, fun k' hk => ?_⟩
      · obtain ⟨k, rfl⟩ : ∃ x, k = x + 1 := ⟨k - 1, by omega⟩
        rw [f_Walk_leastHolder_2, if_neg (ge5 hr), r5 hr, Option.bind_some, if_pos w, if_neg (by omega)]
      · obtain ⟨k', rfl⟩ : ∃ x, k' = x + 1 := ⟨k' - 1, by omega⟩
        rw [f_BlockCodeModel_repeats_177, if_neg (ge5 hr), r10 (show r < 10 by omega), ← hH r hr, Option.bind_some, if_pos w]
    · refine ⟨q, q1, fun k hk => ?_, fun k' hk => ?_⟩
      · obtain ⟨k, rfl⟩ : ∃ x, k = x + 1 := ⟨k - 1, by omega⟩
        rw [f_Walk_leastHolder_2, if_neg (ge5 hr), r5 hr, Option.bind_some, if_neg w, p1']
        exact q2 k (by omega)
      · obtain ⟨k', rfl⟩ : ∃ x, k' = x + 1 := ⟨k' - 1, by omega⟩
        rw [f_BlockCodeModel_repeats_177, if_neg (ge5 hr), r10 (show r < 10 by omega), ← hH r hr, Option.bind_some, if_neg w, p1']
        exact q3 k' (by omega)
theorem m132_no (size sealed : Int32) (k15 : K15) (x1 x2 x3 x4 th good : Int32) (code lm mk ml mr : Nat → Int32) (mc : Int32) (hold : Nat → Int32) (h : f_BlockCodeModel_within x2 3 7 = some 0) :
    f_BlockCodeModel_repeats_132 size sealed k15 x1 x2 x3 x4 code th good lm mk ml mr mc hold = k15 (x1 + 1) code th good lm mk ml mr mc hold := by
  unfold f_BlockCodeModel_repeats_132
  generalize fu = FF
  rw [h, Option.bind_some, if_pos rfl, f_BlockCodeModel_repeats_253]
theorem m132_yes (size sealed : Int32) (k15 : K15) (x1 x2 x3 x4 th good : Int32) (code lm mk ml mr : Nat → Int32) (mc : Int32) (hold : Nat → Int32) (h : f_BlockCodeModel_within x2 3 7 = some 1) {va vb vv rs mc' : Int32} {mk' ml' mr' : Nat → Int32}
    (h1 : rdI hold 10 x4 = some va) (h2 : rdI code 160 (4 * x1 + 3) = some vv) (h3 : rdI hold 10 vv = some vb) (h4 : f_BlockCodeModel_symbolOf x2 va vb mk ml mr mc = some (rs, mk', ml', mr', mc')) {Y : Option (Int32 × (Nat → Int32) × Int32 × Int32 × (Nat → Int32) × (Nat → Int32) × (Nat → Int32) × (Nat → Int32) × Int32 × (Nat → Int32))}
    (hl : ∀ FF, 5 < FF → f_BlockCodeModel_repeats_177 size sealed k15 FF x1 x3 rs 0 code th good lm mk' ml' mr' mc' hold = Y) :
    f_BlockCodeModel_repeats_132 size sealed k15 x1 x2 x3 x4 code th good lm mk ml mr mc hold = Y := by
  unfold f_BlockCodeModel_repeats_132
  have hF : 5 < fu := fuN (by omega)
  generalize fu = FF at hF ⊢
  rw [h, Option.bind_some, if_neg n10, h1, Option.bind_some, h2, Option.bind_some, h3, Option.bind_some, h4, Option.bind_some]
  exact hl FF hF
theorem m114_2 (size sealed : Int32) (k15 : K15) (x1 x3 x4 th good : Int32) (code lm mk ml mr : Nat → Int32) (mc : Int32) (hold : Nat → Int32) {v : Int32} {w : Nat → Int32} (h1 : rdI hold 10 x4 = some v) (h2 : wrI hold 10 x3 v = some w) :
    f_BlockCodeModel_repeats_114 size sealed k15 x1 2 x3 x4 code th good lm mk ml mr mc hold = k15 (x1 + 1) code th good lm mk ml mr mc w := by
  unfold f_BlockCodeModel_repeats_114
  rw [if_pos rfl, h1, Option.bind_some, h2, Option.bind_some]
  exact m132_no _ _ _ _ _ _ _ _ _ _ _ _ _ _ _ _ (by decide)
theorem m114_n (size sealed : Int32) (k15 : K15) (x1 x2 x3 x4 th good : Int32) (code lm mk ml mr : Nat → Int32) (mc : Int32) (hold : Nat → Int32) (h2 : ¬ x2 = 2) (h : f_BlockCodeModel_within x2 3 7 = some 0) :
    f_BlockCodeModel_repeats_114 size sealed k15 x1 x2 x3 x4 code th good lm mk ml mr mc hold = k15 (x1 + 1) code th good lm mk ml mr mc hold := by
  unfold f_BlockCodeModel_repeats_114
  rw [if_neg h2]
  exact m132_no _ _ _ _ _ _ _ _ _ _ _ _ _ _ _ _ h
section REP
variable {n : Nat} {op d a b rop rd ra rb code : Nat → Int32} {c : Nat} {xk xl xr mk ml mr held hold : Nat → Int32}
def RepTwo (n i : Nat) (op d a b : Nat → Int32) (L : Int32) (lm : Nat → Int32) (k10 : K10) (k15 : K15) (rop rd ra rb code : Nat → Int32) (c : Nat) (xk xl xr mk ml mr held hold : Nat → Int32) : Prop :=
  ∃ c' xk' xl' xr' mk' ml' mr' held' hold' o' d' a' b' code',
    f_BlockCode_repeats_46 op d a b (nI n) L 1 k10 (nI i) rop rd ra rb (nI n) xk xl xr (nI c) held 0 = k10 (nI (i + 1)) o' d' a' b' (nI n) xk' xl' xr' (nI c') held' 0 ∧
    f_BlockCodeModel_repeats_63 (nI n) 1 k15 (nI i) code 0 0 lm mk ml mr (nI c) hold = k15 (nI (i + 1)) code' 0 0 lm mk' ml' mr' (nI c') hold' ∧
    c' ≤ c + 1 ∧ PS n op d a b o' d' a' b' code' ∧ SR c' xk' xl' xr' mk' ml' mr' ∧ HS c' 0 held' hold'
set_option maxRecDepth 100000 in
theorem rep_step (hn : n ≤ 20) (hP : PS n op d a b rop rd ra rb code) {i : Nat} (hi : i < n) (hc : c < 45) (hSR : SR c xk xl xr mk ml mr) (hH : HS c 0 held hold) (L : Int32) (lm : Nat → Int32) (k10 : K10) (k15 : K15) :
    RepTwo n i op d a b L lm k10 k15 rop rd ra rb code c xk xl xr mk ml mr held hold := by
  have h20 : i < 20 := by omega
  have hp := put_zero hn hP hi
  obtain ⟨⟨e0, e1, e2, e3⟩, hN⟩ := hP.1 i hi
  simp only [Nat.zero_add] at e0 e1 e2 e3
  have x0 : rdI code 160 (4 * nI i) = some (op i) := by rw [m4', r160 (by omega), e0]
  have x1 : rdI code 160 (4 * nI i + 1) = some (d i) := by rw [m4', p1', r160 (by omega), e1]
  have x2 : rdI code 160 (4 * nI i + 2) = some (a i) := by rw [m4', p2', r160 (by omega), e2]
  have x3 : rdI code 160 (4 * nI i + 3) = some (b i) := by rw [m4', p3', r160 (by omega), e3]
  have plain : (op i = 0 ∨ op i = 8 ∨ op i = 9 ∨ op i = 10) → RepTwo n i op d a b L lm k10 k15 rop rd ra rb code c xk xl xr mk ml mr held hold := by
    intro h
    refine ⟨c, xk, xl, xr, mk, ml, mr, held, hold, rop, rd, ra, rb, code, ?_, ?_, by omega, hP, hSR, hH⟩
    · have q1 : f_BlockCode_combines (op i) = some 0 := by rcases h with h | h | h | h <;> rw [h] <;> decide
      have q2 : f_BlockCode_makesRegister (op i) = some 0 := by rcases h with h | h | h | h <;> rw [h] <;> decide
      simp only [f_BlockCode_repeats_46, f_BlockCode_putRepeat, f_Walk_follow, r20 h20, Option.bind_some, q1, q2, if_true, p1']
    · have q1 : f_BlockCodeModel_within (op i) 3 7 = some 0 := by rcases h with h | h | h | h <;> rw [h] <;> decide
      have q2 : ¬ op i = 1 := by rcases h with h | h | h | h <;> rw [h] <;> decide
      have q3 : ¬ op i = 2 := by rcases h with h | h | h | h <;> rw [h] <;> decide
      unfold f_BlockCodeModel_repeats_63
      rw [x0, Option.bind_some, x1, Option.bind_some, x2, Option.bind_some, if_neg q2, m114_n _ _ _ _ _ _ _ _ _ _ _ _ _ _ _ _ q3 q1, p1']
  have ops : (op i = 3 ∨ op i = 4 ∨ op i = 5 ∨ op i = 6 ∨ op i = 7) → isR (d i) 5 → isR (a i) 5 → isR (b i) 5 → RepTwo n i op d a b L lm k10 k15 rop rd ra rb code c xk xl xr mk ml mr held hold := by
    intro h hd ha hb
    obtain ⟨jd, hd, ed⟩ := hd
    obtain ⟨ja, ha, ea⟩ := ha
    obtain ⟨jb, hb, eb⟩ := hb
    obtain ⟨sa, a1, a2, a3⟩ := hH ja ha
    obtain ⟨sb, b1, b2, b3⟩ := hH jb hb
    rw [Nat.zero_add] at a3 b3
    have o1 : ¬ op i = 1 := by rcases h with h | h | h | h | h <;> rw [h] <;> decide
    have o2 : ¬ op i = 2 := by rcases h with h | h | h | h | h <;> rw [h] <;> decide
    have w37 : f_BlockCodeModel_within (op i) 3 7 = some 1 := by rcases h with h | h | h | h | h <;> rw [h] <;> decide
    have cm : f_BlockCode_combines (op i) = some 1 := by rcases h with h | h | h | h | h <;> rw [h] <;> decide
    have mr1 : f_BlockCode_makesRegister (op i) = some 1 := by rcases h with h | h | h | h | h <;> rw [h] <;> decide
    obtain ⟨s, c', xk', xl', xr', mk', ml', mr', s1, s2, s3, s4, s5, s6, s7, s8, -⟩ := sym_eq hc hSR (op i) (nI sa) (nI sb)
    have sg : f_Symbols_numberOf (op i) (nI sa) (nI sb) xk' xl' xr' (nI c') = some (nI s, xk', xl', xr', nI c') := by
      have := sym_again (show c' ≤ 45 by omega) s3 s7 s8 s 0 fu (by omega) (fuN (by omega))
      rw [nI0] at this; exact this
    obtain ⟨q, q1, q2, q3⟩ := holder_loop (nI n) 1 k15 (nI i) (nI jd) (nI s) 0 0 code lm mk' ml' mr' (nI c') (held := held) (hold := hold) (fun r hr => by
      obtain ⟨t, -, t2, t3⟩ := hH r hr
      rw [Nat.zero_add] at t3; rw [t2, t3]) 5 0 (by omega)
    have q2' : f_Walk_leastHolder (nI s) held = some (if q = 5 then -1 else nI q) := by
      have := q2 fu (fuN (by omega))
      rw [nI0] at this; exact this
    rw [nI0] at q3
    have mb : ∀ {k l r k' l' r' : Nat → Int32} {y y' : Int32}, f_Symbols_numberOf (op i) (nI sa) (nI sb) k l r y = some (nI s, k', l', r', y') → f_Walk_madeBy (nI i) 0 held op a b k l r y = some (nI s, k', l', r', y') := fun hq => by
      simp only [f_Walk_madeBy, r20 h20, Option.bind_some, o1, o2, if_false, ea, eb, r5 ha, r5 hb, a2, b2, if_true, of_op hq]
    have fo : f_Walk_follow (nI i) 0 op d a b xk' xl' xr' (nI c') held = some (xk', xl', xr', nI c', upd held jd (nI s)) := by
      simp only [f_Walk_follow, r20 h20, Option.bind_some, mr1, n10, if_false, mb sg, ed, w5 hd]
    have cc : f_BlockCode_putRepeat (nI i) op d a b held rop rd ra rb xk xl xr (nI c) = (if (if q = 5 then (-1 : Int32) else nI q) = nI jd then (f_Code_put (nI i) 0 0 0 0 rop rd ra rb).bind fun (u1, u2, u3, u4) => some (u1, u2, u3, u4, xk', xl', xr', nI c') else
        if (if q = 5 then (-1 : Int32) else nI q) < 0 then some (rop, rd, ra, rb, xk', xl', xr', nI c') else (f_Code_put (nI i) 2 (nI jd) (if q = 5 then (-1 : Int32) else nI q) 0 rop rd ra rb).bind fun (u1, u2, u3, u4) => some (u1, u2, u3, u4, xk', xl', xr', nI c')) := by
      simp only [f_BlockCode_putRepeat, r20 h20, Option.bind_some, cm, n10, if_false, mb s1, q2', ed]
    have mm : f_BlockCodeModel_repeats_63 (nI n) 1 k15 (nI i) code 0 0 lm mk ml mr (nI c) hold = (if nI q = nI jd then (f_BlockCodeModel_put (80 + 4 * nI i) 0 0 0 0 code).bind fun u => k15 (nI (i + 1)) u 0 0 lm mk' ml' mr' (nI c') (upd hold jd (nI s)) else
        if (5 : Int32) ≤ nI q then k15 (nI (i + 1)) code 0 0 lm mk' ml' mr' (nI c') (upd hold jd (nI s)) else (f_BlockCodeModel_put (80 + 4 * nI i) 2 (nI jd) (nI q) 0 code).bind fun u => k15 (nI (i + 1)) u 0 0 lm mk' ml' mr' (nI c') (upd hold jd (nI s))) := by
      unfold f_BlockCodeModel_repeats_63 f_BlockCodeModel_repeats_114
      rw [x0, Option.bind_some, x1, Option.bind_some, x2, Option.bind_some, if_neg o1, if_neg o2, ed]
      refine m132_yes _ _ _ _ _ _ _ _ _ _ _ _ _ _ _ _ w37 (by rw [ea, r10 (show ja < 10 by omega), a3]) x3 (by rw [eb, r10 (show jb < 10 by omega), b3]) s2 (fun FF hF => ?_)
      rw [q3 FF hF]
      simp only [f_BlockCodeModel_repeats_201, f_BlockCodeModel_repeats_245, f_BlockCodeModel_repeats_253, w10 (show jd < 10 by omega), Option.bind_some, p1']
    have hH' : HS c' 0 (upd held jd (nI s)) (upd hold jd (nI s)) := by
      have := (hH.mono s4).upd (j := jd) s3
      rw [Nat.zero_add] at this; exact this
    unfold RepTwo
    rw [mm]
    unfold f_BlockCode_repeats_46
    rw [cc]
    by_cases w : q = jd
    · subst w
      obtain ⟨o', d', a', b', code', z1, z2, z3⟩ := hp
      refine ⟨c', xk', xl', xr', mk', ml', mr', upd held q (nI s), upd hold q (nI s), o', d', a', b', code', ?_, ?_, s5, z3, s6, hH'⟩
      · rw [if_neg (show ¬ q = 5 by omega), if_pos rfl, z1]
        simp only [Option.bind_some, fo, p1']
      · rw [if_pos rfl, z2]; rfl
    · have ne : ¬ nI q = nI jd := fun z => w ((nI_eq (by omega) (by omega)).mp z)
      by_cases w5' : q = 5
      · subst w5'
        have ne1 : ¬ (-1 : Int32) = nI jd := fun z => by
          have z' := congrArg Int32.toInt z
          rw [nI_toInt (by omega)] at z'
          have : (-1 : Int32).toInt = -1 := by decide
          omega
        refine ⟨c', xk', xl', xr', mk', ml', mr', upd held jd (nI s), upd hold jd (nI s), rop, rd, ra, rb, code, ?_, ?_, s5, hP, s6, hH'⟩
        · rw [if_pos rfl, if_neg ne1, if_pos (by decide)]
          simp only [Option.bind_some, fo, p1']
        · rw [if_neg ne, if_pos (by decide)]
      · have hq : q < 5 := by omega
        obtain ⟨o', d', a', b', code', z1, z2, z3⟩ := put_both (o := 2) (x := nI jd) (y := nI q) (z := 0) hn hP hi (by decide) (by decide) (Or.inr (Or.inr (Or.inl ⟨rfl, ⟨jd, hd, rfl⟩, ⟨q, hq, rfl⟩, rfl⟩))) (fun e => absurd e (by decide)) (fun e => absurd e (by decide))
        refine ⟨c', xk', xl', xr', mk', ml', mr', upd held jd (nI s), upd hold jd (nI s), o', d', a', b', code', ?_, ?_, s5, z3, s6, hH'⟩
        · rw [if_neg w5', if_neg ne, if_neg (nI_pos (by omega)), z1]
          simp only [Option.bind_some, fo, p1']
        · rw [if_neg ne, if_neg (ge5 hq), z2]; rfl
  rcases hN with ⟨o, -⟩ | ⟨o, q1, -⟩ | ⟨o, q1, q2, -⟩ | ⟨o, q1, q2, q3⟩ | ⟨o, q1, q2, q3⟩ | ⟨o, q1, q2, q3⟩ | ⟨o, q1, q2, q3⟩ | ⟨o, q1, q2, q3⟩ | ⟨o, -⟩ | ⟨o, -⟩ | ⟨o, -⟩
  · exact plain (Or.inl o)
  · obtain ⟨jd, hd, ed⟩ := q1
    obtain ⟨s, c', xk', xl', xr', mk', ml', mr', s1, s2, s3, s4, s5, s6, -, -, -⟩ := sym_eq hc hSR 1 (a i) 0
    have hH' := (hH.mono s4).upd (j := jd) s3
    rw [Nat.zero_add] at hH'
    refine ⟨c', xk', xl', xr', mk', ml', mr', upd held jd (nI s), upd hold jd (nI s), rop, rd, ra, rb, code, ?_, ?_, s5, hP, s6, hH'⟩
    · have t1 : f_BlockCode_combines 1 = some 0 := by decide
      have t2 : f_BlockCode_makesRegister 1 = some 1 := by decide
      simp only [f_BlockCode_repeats_46, f_BlockCode_putRepeat, f_Walk_follow, f_Walk_madeBy, r20 h20, Option.bind_some, o, t1, t2, if_true, n10, if_false, of_int s1, ed, w5 hd, p1']
    · have t1 : f_BlockCodeModel_within 1 3 7 = some 0 := by decide
      have t2 : ¬ (1 : Int32) = 2 := by decide
      unfold f_BlockCodeModel_repeats_63
      rw [x0, Option.bind_some, x1, Option.bind_some, x2, Option.bind_some, o, if_pos rfl, s2, Option.bind_some]
      dsimp only
      rw [ed, w10 (show jd < 10 by omega), Option.bind_some, m114_n _ _ _ _ _ _ _ _ _ _ _ _ _ _ _ _ t2 t1, p1']
  · obtain ⟨jd, hd, ed⟩ := q1
    obtain ⟨ja, ha, ea⟩ := q2
    obtain ⟨sa, a1, a2, a3⟩ := hH ja ha
    rw [Nat.zero_add] at a3
    have hH' := hH.upd (j := jd) a1
    rw [Nat.zero_add] at hH'
    refine ⟨c, xk, xl, xr, mk, ml, mr, upd held jd (nI sa), upd hold jd (nI sa), rop, rd, ra, rb, code, ?_, ?_, by omega, hP, hSR, hH'⟩
    · have t1 : f_BlockCode_combines 2 = some 0 := by decide
      have t2 : f_BlockCode_makesRegister 2 = some 1 := by decide
      have t3 : ¬ (2 : Int32) = 1 := by decide
      simp only [f_BlockCode_repeats_46, f_BlockCode_putRepeat, f_Walk_follow, f_Walk_madeBy, r20 h20, Option.bind_some, o, t1, t2, t3, if_true, n10, if_false, ed, ea, r5 ha, a2, w5 hd, p1']
    · have t1 : f_BlockCodeModel_within 2 3 7 = some 0 := by decide
      have t2 : ¬ (2 : Int32) = 1 := by decide
      unfold f_BlockCodeModel_repeats_63
      rw [x0, Option.bind_some, x1, Option.bind_some, x2, Option.bind_some, o, if_neg t2, m114_2 _ _ _ _ _ _ _ _ _ _ _ _ _ _ _ (by rw [ea, r10 (show ja < 10 by omega), a3]) (by rw [ed, w10 (show jd < 10 by omega)]), p1']
  · exact ops (Or.inl o) q1 q2 q3
  · exact ops (Or.inr (Or.inl o)) q1 q2 q3
  · exact ops (Or.inr (Or.inr (Or.inl o))) q1 q2 q3
  · exact ops (Or.inr (Or.inr (Or.inr (Or.inl o)))) q1 q2 q3
  · exact ops (Or.inr (Or.inr (Or.inr (Or.inr o)))) q1 q2 q3
  · exact plain (Or.inr (Or.inl o))
  · exact plain (Or.inr (Or.inr (Or.inl o)))
  · exact plain (Or.inr (Or.inr (Or.inr o)))
end REP
