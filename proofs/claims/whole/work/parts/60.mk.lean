/-! ===== what a seal studies; seal, known, needed, commit ===== -/
def ZZ (n : Nat) (op d a b need : Nat → Int32) (leaders : Int32) (before : Nat → Int64) : Prop :=
  (∃ l0, f_Code_findLeaders op a b (nI n) l0 = some leaders) ∧ (∃ v0, f_Code_findNeeds op d a b (nI n) v0 = some need) ∧ ∃ B0 fl0 fl', f_Facts_find op d a b (nI n) B0 fl0 = some (before, fl')
theorem nI0 : nI 0 = (0 : Int32) := by decide
section ZED
variable {n : Nat} {op d a b need : Nat → Int32} {leaders : Int32} {before : Nat → Int64} {code : Nat → Int32}
theorem ZZ.lead (h : ZZ n op d a b need leaders before) (hn : n ≤ 20) (hC : CR n op d a b code 0) (hS : SD n op a b) (lm : Nat → Int32) : ∃ lm', f_BlockCodeModel_findLeaders code (nI n) lm = some lm' ∧ LB n leaders lm' := by
  obtain ⟨⟨l0, e⟩, -⟩ := h
  obtain ⟨L, lm', h1, h2, h3⟩ := leaders_eq hn hS.1 hC hS.2.2 l0 lm
  rw [h1] at e
  injection e with e
  subst e
  exact ⟨lm', h2, h3⟩
theorem ZZ.needs (h : ZZ n op d a b need leaders before) (hn : n ≤ 20) (hC : CR n op d a b code 0) (hS : SD n op a b) (w0 : Nat → Int32) : ∃ w, f_BlockCodeModel_findNeeded 0 code (nI n) w0 = some w ∧ Ag n need w ∧ Zb n w := by
  obtain ⟨-, ⟨v0, e⟩, -⟩ := h
  obtain ⟨v, w, h1, h2, h3, h4, -⟩ := need_eq (p := 0) hn (by decide) hC hS.2.2 v0 w0
  rw [h1] at e
  injection e with e
  subst e
  rw [nI0] at h2
  exact ⟨w, h2, h3, h4⟩
theorem ZZ.facts (h : ZZ n op d a b need leaders before) (hn : n ≤ 20) (hC : CR n op d a b code 0) (hS : SD n op a b) (R0 I0 F0 : Nat → Int32) : ∃ R I F, f_BlockCodeModel_findFacts code (nI n) R0 I0 F0 = some (R, I, F) ∧ FR before R I F := by
  obtain ⟨-, -, B0, fl0, fl', e⟩ := h
  obtain ⟨C, fl, R, I, F, h1, h2, h3⟩ := facts_eq hn hC hS B0 fl0 R0 I0 F0
  rw [h1] at e
  injection e with e
  injection e with e1 e2
  subst e1
  exact ⟨R, I, F, h2, h3⟩
theorem study (hn : n ≤ 20) (hC : CR n op d a b code 0) (hS : SD n op a b) (need0 : Nat → Int32) (l0 : Int32) (B0 fl0 : Nat → Int64) :
    ∃ v L B fl, f_BlockCode_studySource op d a b (nI n) need0 l0 B0 fl0 = some (v, L, B, fl) ∧ ZZ n op d a b v L B ∧ ∀ j, n ≤ j → j < 32 → bt L j = false := by
  obtain ⟨L, lm', h1, -, h3⟩ := leaders_eq hn hS.1 hC hS.2.2 l0 z_I
  obtain ⟨v, w, g1, -⟩ := need_eq (p := 0) hn (by decide) hC hS.2.2 need0 z_I
  obtain ⟨B, fl, R, I, F, k1, -⟩ := facts_eq hn hC hS B0 fl0 z_I z_I z_I
  refine ⟨v, L, B, fl, ?_, ⟨⟨l0, h1⟩, ⟨need0, g1⟩, ⟨B0, fl0, fl, k1⟩⟩, h3.2⟩
  unfold f_BlockCode_studySource
  rw [h1, g1, k1]
  rfl
/-! ===== can it be sealed? ===== -/
def jok (n : Nat) (op a b : Nat → Int32) (i : Nat) : Prop := (op i = 8 → isR (a i) n) ∧ (op i = 9 → isR (b i) n)
def SealTwo (n : Nat) (op a b : Nat → Int32) (X : Option Int32) (M : Option (Int32 × (Nat → Int32) × Int32 × Int32 × Int32 × (Nat → Int32))) (i : Nat) (cx : Option Int32) (cm bad : Option (Int32 × (Nat → Int32) × Int32 × Int32 × Int32 × (Nat → Int32))) : Prop :=
  (X = some 0 ∧ M = bad) ∨ ((∀ j, i ≤ j → j < n → jok n op a b j) ∧ X = cx ∧ M = cm)
theorem seal_loop (hn : n ≤ 20) (hC : CR n op d a b code 0) (th ms mg : Int32) (lm : Nat → Int32) : ∀ (m i k k' : Nat), i + m = n → m < k → m < k' →
    SealTwo n op a b (f_Code_canBeSealed_2 op a b (nI n) k (nI i)) (f_BlockCodeModel_seal_55 (nI n) k' (nI i) code th ms mg lm) i
      ((f_Code_endsWell op (nI n)).bind fun rz1 => (gzI rz1).bind fun z0 => some z0)
      ((f_BlockCodeModel_copy 0 1 (nI n) code).bind fun u1 => (f_BlockCodeModel_findLeaders u1 (nI n) lm).bind fun u2 => f_BlockCodeModel_seal_155 (nI n) fu 0 0 u1 th 1 0 u2)
      (some (-1, code, th, ms, mg, lm)) := by
  intro m
  induction m with
  | zero =>
    intro i k k' e h1 h2
    obtain ⟨k, rfl⟩ : ∃ x, k = x + 1 := ⟨k - 1, by omega⟩
    obtain ⟨k', rfl⟩ : ∃ x, k' = x + 1 := ⟨k' - 1, by omega⟩
    have e' : i = n := by omega
    subst e'
    refine Or.inr ⟨fun j g1 g2 => absurd g2 (by omega), ?_, ?_⟩
    · rw [f_Code_canBeSealed_2, if_pos (Int32.le_refl _)]
    · rw [f_BlockCodeModel_seal_55, if_pos (Int32.le_refl _)]
  | succ m ih =>
    intro i k k' e h1 h2
    obtain ⟨k, rfl⟩ : ∃ x, k = x + 1 := ⟨k - 1, by omega⟩
    obtain ⟨k', rfl⟩ : ∃ x, k' = x + 1 := ⟨k' - 1, by omega⟩
    have hi : i < n := by omega
    have h20 : i < 20 := by omega
    obtain ⟨⟨e0, e1, e2, e3⟩, hN⟩ := hC i hi
    simp only [Nat.zero_add] at e0 e1 e2 e3
    have x0 : rdI code 160 (4 * nI i) = some (op i) := by rw [m4', r160 (by omega), e0]
    have x2 : rdI code 160 (4 * nI i + 2) = some (a i) := by rw [m4', p2', r160 (by omega), e2]
    have x3 : rdI code 160 (4 * nI i + 3) = some (b i) := by rw [m4', p3', r160 (by omega), e3]
    rw [f_Code_canBeSealed_2, if_neg (nI_ge hi (by omega)), f_BlockCodeModel_seal_55, if_neg (nI_ge hi (by omega))]
    simp only [r20 h20, Option.bind_some, x0]
    have lift : ∀ {X M cx cm bad}, jok n op a b i → SealTwo n op a b X M (i + 1) cx cm bad → SealTwo n op a b X M i cx cm bad := by
      intro X M cx cm bad hj h
      rcases h with h | ⟨q1, q2, q3⟩
      · exact Or.inl h
      · refine Or.inr ⟨fun j g1 g2 => ?_, q2, q3⟩
        by_cases w : j = i
        · subst w; exact hj
        · exact q1 j (by omega) g2
    have go := ih (i + 1) k k' (by omega) (by omega) (by omega)
    have m1n : (-1 : Int32) < nI n := by
      rw [Int32.lt_iff_toInt_lt, nI_toInt (by omega)]
      have : (-1 : Int32).toInt = -1 := by decide
      omega
    by_cases o8 : op i = 8
    · have n9 : ¬ (8 : Int32) = 9 := by decide
      have : isR (a i) 20 := by
        rcases hN with ⟨o, -⟩ | ⟨o, -⟩ | ⟨o, -⟩ | ⟨o, -⟩ | ⟨o, -⟩ | ⟨o, -⟩ | ⟨o, -⟩ | ⟨o, -⟩ | ⟨-, -, q, -⟩ | ⟨o, -⟩ | ⟨o, -⟩
        all_goals first | exact q | exact absurd (o8.symm.trans o) (by decide)
      obtain ⟨j, hj, ej⟩ := this
      simp only [f_BlockCode_namedBy, o8, if_true, Option.bind_some, x2, ej, f_BlockCodeModel_seal_93, x0, n9, if_false, f_BlockCodeModel_seal_125, p1']
      by_cases w : j < n
      · rw [if_pos (nI_lt w (by omega)), if_neg (nI_ge w (by omega))]
        exact lift ⟨fun _ => ⟨j, w, ej⟩, fun q => absurd (o8.symm.trans q) (by decide)⟩ go
      · rw [if_neg (nI_nlt (by omega) (by omega)), if_pos (nI_le (by omega) (by omega))]
        exact Or.inl ⟨rfl, rfl⟩
    · by_cases o9 : op i = 9
      · have n8 : ¬ (9 : Int32) = 8 := by decide
        have : isR (b i) 20 := by
          rcases hN with ⟨o, -⟩ | ⟨o, -⟩ | ⟨o, -⟩ | ⟨o, -⟩ | ⟨o, -⟩ | ⟨o, -⟩ | ⟨o, -⟩ | ⟨o, -⟩ | ⟨o, -⟩ | ⟨-, -, -, q⟩ | ⟨o, -⟩
          all_goals first | exact q | exact absurd (o9.symm.trans o) (by decide)
        obtain ⟨j, hj, ej⟩ := this
        simp only [f_BlockCode_namedBy, o9, n8, if_true, if_false, Option.bind_some, x3, ej, f_BlockCodeModel_seal_93, x0, f_BlockCodeModel_seal_125, p1']
        by_cases w : j < n
        · rw [if_pos (nI_lt w (by omega)), if_pos (nI_lt w (by omega))]
          exact lift ⟨fun q => absurd (o9.symm.trans q) (by decide), fun _ => ⟨j, w, ej⟩⟩ go
        · rw [if_neg (nI_nlt (by omega) (by omega)), if_neg (nI_nlt (by omega) (by omega))]
          exact Or.inl ⟨rfl, rfl⟩
      · simp only [f_BlockCode_namedBy, o8, o9, if_false, Option.bind_some, m1n, if_true, f_BlockCodeModel_seal_93, x0, f_BlockCodeModel_seal_125, p1']
        exact lift ⟨fun q => absurd q o8, fun q => absurd q o9⟩ go
theorem ends_n (hn : n ≤ 20) (h0 : 0 < n) : f_Code_endsWell op (nI n) = some (if op (n - 1) = 8 ∨ op (n - 1) = 10 then 1 else 0) := by
  obtain ⟨m, rfl⟩ : ∃ m, n = m + 1 := ⟨n - 1, by omega⟩
  unfold f_Code_endsWell f_Code_endsWell_39
  rw [if_neg (by rw [show (0 : Int32) = nI 0 by decide]; exact nI_ge (by omega) (by omega)), nI_pred, r20 (by omega), show m + 1 - 1 = m by omega]
  simp only [Option.bind_some]
  by_cases q : op m = 8
  · simp [q]
  · by_cases q' : op m = 10
    · simp [q']
    · simp [q, q']
theorem mends (x : Int32) : f_BlockCodeModel_ends x = some (if x = 8 ∨ x = 10 then 1 else 0) := by
  unfold f_BlockCodeModel_ends f_BlockCodeModel_ends_12
  by_cases q : x = 8
  · simp [q]
  · by_cases q' : x = 10
    · simp [q']
    · simp [q, q']
theorem count_loop (hn : n ≤ 20) {L : Int32} {lm : Nat → Int32} (h : LB n L lm) (code : Nat → Int32) (th ms mg : Int32) : ∀ (m i k : Nat), i + m = n → m < k →
    f_BlockCodeModel_seal_155 (nI n) k (nI (cb L i)) (nI i) code th ms mg lm = some (nI (cb L n), code, th, ms, mg, lm) := by
  intro m
  induction m with
  | zero =>
    intro i k e hk
    obtain ⟨k, rfl⟩ : ∃ x, k = x + 1 := ⟨k - 1, by omega⟩
    have e' : i = n := by omega
    subst e'
    rw [f_BlockCodeModel_seal_155, if_pos (Int32.le_refl _)]
  | succ m ih =>
    intro i k e hk
    obtain ⟨k, rfl⟩ : ∃ x, k = x + 1 := ⟨k - 1, by omega⟩
    have hi : i < n := by omega
    have go := ih (i + 1) k (by omega) (by omega)
    have c : cb L (i + 1) = cb L i + if bt L i then 1 else 0 := rfl
    rw [f_BlockCodeModel_seal_155, if_neg (nI_ge hi (by omega)), r21 (by omega), h.1 i hi]
    simp only [Option.bind_some, f_BlockCodeModel_seal_175, p1']
    by_cases q : bt L i = true
    · rw [if_pos q] at c
      rw [c] at go
      simp only [q, if_true, n10, if_false]
      exact go
    · rw [if_neg q, Nat.add_zero] at c
      rw [c] at go
      simp only [q, if_false, if_true]
      exact go
end ZED
theorem CR.src {n : Nat} {op d a b code : Nat → Int32} {k : Nat} (h : CR n op d a b code k) : ∀ i, i < n → Nm (op i) (d i) (a i) (b i) := fun i hi => (h i hi).2
theorem JM.same {n : Nat} {op d a b op' d' a' b' : Nat → Int32} (hJ : JM n op a b) (hs : Same n op d a b op' d' a' b') : JM n op' a' b' := fun i hi => by
  obtain ⟨h1, h2, h3, h4⟩ := hs i hi
  rw [h1, h3, h4]; exact hJ i hi
section SEAL
variable {op d a b need : Nat → Int32} {len leaders : Int32} {rop rd ra rb : Nat → Int32} {rlen : Int32} {before : Nat → Int64} {sealed found : Int32} {code : Nat → Int32} {size ms mg : Int32}
set_option maxRecDepth 100000 in
theorem st_seal (h : RC ZZ op d a b need len leaders rop rd ra rb rlen before sealed found code size ms mg) (fl out : Nat → Int64) (th : Int32) (lm : Nat → Int32) :
    ∃ k r need' leaders' rop' rd' ra' rb' rlen' before' fl' sealed' found' out' code' ms' mg' lm', g_BlockCodeLaw_seal op d a b len need leaders rop rd ra rb rlen before fl sealed found out = some (k, need', leaders', rop', rd', ra', rb', rlen', before', fl', sealed', found', out') ∧
      f_BlockCodeModel_seal size code th ms mg lm = some (r, code', k, ms', mg', lm') ∧ (k = 0 → rdL out' 1 0 = some r.toInt64) ∧ RC ZZ op d a b need' len leaders' rop' rd' ra' rb' rlen' before' sealed' found' code' size ms' mg' := by
  obtain ⟨n, hn, rfl, rfl, hC, h⟩ := id h
  rcases h with ⟨rfl, rfl, rfl⟩ | ⟨rfl, rfl, h'⟩
  · have bad : ∀ (hx : f_Code_canBeSealed op a b (nI n) = some 0) (hm : f_BlockCodeModel_seal (nI n) code th 0 mg lm = some (-1, code, 0, 0, mg, lm)), ∃ k r need' leaders' rop' rd' ra' rb' rlen' before' fl' sealed' found' out' code' ms' mg' lm', g_BlockCodeLaw_seal op d a b (nI n) need leaders rop rd ra rb 0 before fl 0 found out = some (k, need', leaders', rop', rd', ra', rb', rlen', before', fl', sealed', found', out') ∧
        f_BlockCodeModel_seal (nI n) code th 0 mg lm = some (r, code', k, ms', mg', lm') ∧ (k = 0 → rdL out' 1 0 = some r.toInt64) ∧ RC ZZ op d a b need' (nI n) leaders' rop' rd' ra' rb' rlen' before' sealed' found' code' (nI n) ms' mg' := by
      intro hx hm
      refine ⟨0, -1, need, leaders, rop, rd, ra, rb, 0, before, fl, 0, found, vp_updL out 0 ((-1 : Int32).toInt64), code, 0, mg, lm, ?_, hm, fun _ => rout _ _, n, hn, rfl, rfl, hC, Or.inl ⟨rfl, rfl, rfl⟩⟩
      simp only [g_BlockCodeLaw_seal, f_BlockCodeLaw_seal, f_BlockCode_seal, if_true, hx, Option.bind_some, wout]
    have L := seal_loop hn hC 0 0 mg lm n 0 fu fu (by omega) (fuN (by omega)) (fuN (by omega))
    rw [nI0] at L
    by_cases n0 : n = 0
    · subst n0
      refine bad ?_ ?_
      · have ew : f_Code_endsWell op (nI 0) = some 0 := by unfold f_Code_endsWell; rw [if_pos (by decide)]
        unfold f_Code_canBeSealed
        rcases L with ⟨q, -⟩ | ⟨-, q, -⟩
        · exact q
        · rw [q, ew]; rfl
      · have z : nI 0 = (0 : Int32) := by decide
        simp only [f_BlockCodeModel_seal, f_BlockCodeModel_seal_13, if_true, z]
    · have hp : 0 < n := by omega
      have en := ends_n (op := op) hn hp
      obtain ⟨⟨e0, -, -, -⟩, -⟩ := hC (n - 1) (by omega)
      have hm : f_BlockCodeModel_seal (nI n) code th 0 mg lm = (if (if op (n - 1) = 8 ∨ op (n - 1) = 10 then (1 : Int32) else 0) = 0 then some (-1, code, 0, 0, mg, lm) else f_BlockCodeModel_seal_55 (nI n) fu 0 code 0 0 mg lm) := by
        have z : ¬ nI n = 0 := nI_ne0 (by omega) (by omega)
        have ix : 4 * nI n - 4 = nI (0 + 4 * (n - 1)) := by rw [m4', show (4 : Int32) = nI 4 by decide, nI_sub' (by omega)]; congr 1; omega
        simp only [f_BlockCodeModel_seal, f_BlockCodeModel_seal_13, if_true, z, if_false, ix, r160 (show 0 + 4 * (n - 1) < 160 by omega), Option.bind_some, mends, e0]
      by_cases ew : op (n - 1) = 8 ∨ op (n - 1) = 10
      · rw [if_pos ew] at en hm
        rw [if_neg n10] at hm
        rcases L with ⟨q1, q2⟩ | ⟨q1, q2, q3⟩
        · exact bad q1 (by rw [hm, q2])
        · have hJ : JM n op a b := fun j hj => q1 j (by omega) hj
          have hS : SD n op a b := ⟨hp, ew, hJ⟩
          obtain ⟨v, L', B, fl', s1, s2, s3⟩ := study hn hC hS need leaders before fl
          obtain ⟨o', d', a', b', b1, b2⟩ := become hn hC.src rop rd ra rb 0
          obtain ⟨c', c1, c2, c3⟩ := copy_ok (p := 0) (q := 1) hn (by decide) (by decide) (by decide) code hC
          obtain ⟨lm', l1, l2⟩ := s2.lead hn c2 hS lm
          rw [nI0, show nI 1 = (1 : Int32) by decide] at c1
          have cl := count_loop hn l2 c' 0 1 0 n 0 fu (by omega) (fuN (by omega))
          rw [show nI (cb L' 0) = (0 : Int32) from nI0, nI0] at cl
          refine ⟨0, nI (cb L' n), v, L', o', d', a', b', nI n, B, fl', 1, 0, vp_updL out 0 ((nI (cb L' n)).toInt64), c', 1, 0, lm', ?_, ?_, fun _ => rout _ _, n, hn, rfl, rfl, c2, Or.inr ⟨rfl, rfl, rfl, rfl, Or.inl rfl, c3.same b2, hJ.same b2, hS, s2⟩⟩
          · have cs : f_Code_canBeSealed op a b (nI n) = some 1 := by unfold f_Code_canBeSealed; rw [q2, en]; decide
            simp only [g_BlockCodeLaw_seal, f_BlockCodeLaw_seal, f_BlockCode_seal, if_true, cs, Option.bind_some, n10, if_false, s1, f_BlockCode_resultBecomesSource, b1, bitCount_eq hn s3, wout]
          · rw [hm, q3, c1, Option.bind_some, l1, Option.bind_some]; exact cl
      · rw [if_neg ew] at en hm
        rw [if_pos rfl] at hm
        refine bad ?_ hm
        unfold f_Code_canBeSealed
        rcases L with ⟨q, -⟩ | ⟨-, q, -⟩
        · exact q
        · rw [q, en]; decide
  · refine ⟨1, 0, need, leaders, rop, rd, ra, rb, rlen, before, fl, 1, found, out, code, 1, mg, lm, ?_, ?_, fun q => absurd q (by decide), n, hn, rfl, rfl, hC, Or.inr ⟨rfl, rfl, h'⟩⟩
    · simp only [g_BlockCodeLaw_seal, n10, if_false]
    · simp only [f_BlockCodeModel_seal, f_BlockCodeModel_seal_13, n10, if_false]
end SEAL
