/-! ===== repeats, the loop ===== -/
theorem isLead {i : Nat} (hi : i < 32) (L : Int32) : f_Code_isLeader (nI i) L = some (if bt L i then 1 else 0) := by
  unfold f_Code_isLeader; rw [isIn_bt hi, Option.bind_some, gzb, Option.bind_some]
set_option maxRecDepth 100000 in
theorem begin_all (size sealed : Int32) (k15 : K15) (x1 th good : Int32) (code lm : Nat → Int32) (xk xl xr mk ml mr held hold : Nat → Int32) :
    ∃ c' xk' xl' xr' mk' ml' mr' held' hold', f_Walk_beginUnknown xk xl xr 0 held = some (xk', xl', xr', nI c', held') ∧ f_BlockCodeModel_repeats_39 size sealed k15 fu x1 0 code th good lm mk ml mr 0 hold = f_BlockCodeModel_repeats_63 size sealed k15 x1 code th good lm mk' ml' mr' (nI c') hold' ∧ c' ≤ 5 ∧ SR c' xk' xl' xr' mk' ml' mr' ∧ HS c' 0 held' hold' := by
  have := bgn_loop size sealed k15 x1 th good code lm 5 0 fu fu 0 xk xl xr mk ml mr held hold (by omega) (fuN (by omega)) (fuN (by omega)) (by omega) (fun s hs => absurd hs (by omega)) (fun s hs => absurd hs (by omega))
  rw [nI0] at this
  exact this
section REPL
variable {n : Nat} {op d a b : Nat → Int32}
def RepEnd (n : Nat) (op d a b : Nat → Int32) (lm : Nat → Int32) (X : Option (Int32 × (Nat → Int32) × (Nat → Int32) × (Nat → Int32) × (Nat → Int32) × Int32 × (Nat → Int32) × (Nat → Int32) × (Nat → Int32) × Int32 × (Nat → Int32) × Int32)) (M : Option (Int32 × (Nat → Int32) × Int32 × Int32 × (Nat → Int32) × (Nat → Int32) × (Nat → Int32) × (Nat → Int32) × Int32 × (Nat → Int32))) : Prop :=
  ∃ v o' d' a' b' xk' xl' xr' xc' held' c' mk' ml' mr' mc' hold', X = some (v, o', d', a', b', nI n, xk', xl', xr', xc', held', 0) ∧ M = some (v, c', 0, 0, lm, mk', ml', mr', mc', hold') ∧ PS n op d a b o' d' a' b' c'
set_option maxRecDepth 100000 in
theorem rep_loop (hn : n ≤ 20) {L : Int32} {lm : Nat → Int32} (hL : LB n L lm) : ∀ (m i k k' : Nat) (rop rd ra rb code xk xl xr mk ml mr held hold : Nat → Int32) (xc mc : Int32), i + m = n → m < k → m < k' → PS n op d a b rop rd ra rb code → (i < n → bt L i = false → ∃ c, c ≤ 5 + i ∧ xc = nI c ∧ mc = nI c ∧ SR c xk xl xr mk ml mr ∧ HS c 0 held hold) →
    RepEnd n op d a b lm (f_BlockCode_repeats_10 op d a b (nI n) L 1 k (nI i) rop rd ra rb (nI n) xk xl xr xc held 0) (f_BlockCodeModel_repeats_15 (nI n) 1 k' (nI i) code 0 0 lm mk ml mr mc hold) := by
  intro m
  induction m with
  | zero =>
    intro i k k' rop rd ra rb code xk xl xr mk ml mr held hold xc mc e h1 h2 hP _
    obtain ⟨k, rfl⟩ : ∃ x, k = x + 1 := ⟨k - 1, by omega⟩
    obtain ⟨k', rfl⟩ : ∃ x, k' = x + 1 := ⟨k' - 1, by omega⟩
    have e' : i = n := by omega
    subst e'
    obtain ⟨v, v1, v2⟩ := diff_eq hn hP.1 hP.2.1
    refine ⟨v, rop, rd, ra, rb, xk, xl, xr, xc, held, code, mk, ml, mr, mc, hold, ?_, ?_, hP⟩
    · rw [f_BlockCode_repeats_10, if_pos (Int32.le_refl _), v1]; rfl
    · rw [f_BlockCodeModel_repeats_15, if_pos (Int32.le_refl _), v2]; rfl
  | succ m ih =>
    intro i k k' rop rd ra rb code xk xl xr mk ml mr held hold xc mc e h1 h2 hP hQ
    obtain ⟨k, rfl⟩ : ∃ x, k = x + 1 := ⟨k - 1, by omega⟩
    obtain ⟨k', rfl⟩ : ∃ x, k' = x + 1 := ⟨k' - 1, by omega⟩
    have hi : i < n := by omega
    have step : ∀ (c : Nat) (xk xl xr mk ml mr held hold : Nat → Int32), c ≤ 5 + i → SR c xk xl xr mk ml mr → HS c 0 held hold → RepEnd n op d a b lm
        (f_BlockCode_repeats_46 op d a b (nI n) L 1 (f_BlockCode_repeats_10 op d a b (nI n) L 1 k) (nI i) rop rd ra rb (nI n) xk xl xr (nI c) held 0)
        (f_BlockCodeModel_repeats_63 (nI n) 1 (f_BlockCodeModel_repeats_15 (nI n) 1 k') (nI i) code 0 0 lm mk ml mr (nI c) hold) := by
      intro c xk xl xr mk ml mr held hold hc hS hH
      obtain ⟨c', xk', xl', xr', mk', ml', mr', held', hold', o', d', a', b', code', t1, t2, t3, t4, t5, t6⟩ := rep_step hn hP hi (show c < 45 by omega) hS hH L lm (f_BlockCode_repeats_10 op d a b (nI n) L 1 k) (f_BlockCodeModel_repeats_15 (nI n) 1 k')
      rw [t1, t2]
      exact ih (i + 1) k k' o' d' a' b' code' xk' xl' xr' mk' ml' mr' held' hold' (nI c') (nI c') (by omega) (by omega) (by omega) t4 (fun _ _ => ⟨c', by omega, rfl, rfl, t5, t6⟩)
    rw [f_BlockCode_repeats_10, if_neg (nI_ge hi (by omega)), f_BlockCodeModel_repeats_15, if_neg (nI_ge hi (by omega)), isLead (by omega), r21 (by omega), hL.1 i hi, Option.bind_some, Option.bind_some]
    by_cases w : bt L i = true
    · obtain ⟨c', xk', xl', xr', mk', ml', mr', held', hold', t1, t2, t3, t4, t5⟩ := begin_all (nI n) 1 (f_BlockCodeModel_repeats_15 (nI n) 1 k') (nI i) 0 0 code lm xk xl xr mk ml mr held hold
      rw [if_pos w, if_neg n10, if_neg n10, t2]
      unfold f_Symbols_forget
      rw [Option.bind_some, t1, Option.bind_some]
      exact step c' xk' xl' xr' mk' ml' mr' held' hold' (by omega) t4 t5
    · have w' : bt L i = false := by simpa using w
      obtain ⟨c, c1, rfl, rfl, c2, c3⟩ := hQ hi w'
      rw [if_neg w, if_pos rfl, if_pos rfl]
      exact step c xk xl xr mk ml mr held hold c1 c2 c3
end REPL
section STREP
variable {op d a b need : Nat → Int32} {len leaders : Int32} {rop rd ra rb : Nat → Int32} {rlen : Int32} {before : Nat → Int64} {sealed found : Int32} {code : Nat → Int32} {size ms mg : Int32}
set_option maxRecDepth 100000 in
theorem st_repeats (h : RC ZZ op d a b need len leaders rop rd ra rb rlen before sealed found code size ms mg) (out : Nat → Int64) (th : Int32) (xk xl xr held lm mk ml mr hold : Nat → Int32) (xc mc : Int32) :
    ∃ k r rop' rd' ra' rb' rlen' xk' xl' xr' xc' held' found' out' code' mg' lm' mk' ml' mr' mc' hold', g_BlockCodeLaw_repeats op d a b len leaders sealed rop rd ra rb rlen xk xl xr xc held found out = some (k, rop', rd', ra', rb', rlen', xk', xl', xr', xc', held', found', out') ∧
      f_BlockCodeModel_repeats size ms code th mg lm mk ml mr mc hold = some (r, code', k, mg', lm', mk', ml', mr', mc', hold') ∧ (k = 0 → rdL out' 1 0 = some r.toInt64) ∧ RC ZZ op d a b need len leaders rop' rd' ra' rb' rlen' before sealed found' code' size ms mg' := by
  have h0 := h
  obtain ⟨n, hn, rfl, rfl, hC, h⟩ := id h
  rcases h with ⟨rfl, rfl, rfl⟩ | ⟨rfl, rfl, rfl, rfl, hg, hR, hJ, hS, hZ⟩
  · refine ⟨1, 0, rop, rd, ra, rb, 0, xk, xl, xr, xc, held, found, out, code, mg, lm, mk, ml, mr, mc, hold, ?_, ?_, fun q => absurd q (by decide), h0⟩
    · simp only [g_BlockCodeLaw_repeats, if_true]
    · simp only [f_BlockCodeModel_repeats, f_BlockCodeModel_open, f_BlockCodeModel_open_13, if_true, Option.bind_some]
  · obtain ⟨o', d', a', b', c', q1, q2, q3⟩ := opened (rop := rop) (rd := rd) (ra := ra) (rb := rb) hn hC hS (nI n) found th found
    obtain ⟨lm', g1, g2⟩ := hZ.lead hn q3.1 hS lm
    have hl := rep_loop hn g2 n 0 fu fu o' d' a' b' c' xk xl xr mk ml mr held hold xc mc (by omega) (fuN (by omega)) (fuN (by omega)) q3 (fun _ w => absurd (hZ.lead0.symm.trans w) (by decide))
    rw [nI0] at hl
    obtain ⟨v, o2, d2, a2, b2, xk', xl', xr', xc', held', c2, mk', ml', mr', mc', hold', l1, l2, l3⟩ := hl
    refine ⟨0, v, o2, d2, a2, b2, nI n, xk', xl', xr', xc', held', 0, vp_updL out 0 v.toInt64, c2, 0, lm', mk', ml', mr', mc', hold', ?_, ?_, fun _ => rout _ _, n, hn, rfl, rfl, l3.1, Or.inr ⟨rfl, rfl, rfl, rfl, Or.inl rfl, l3.2.1, l3.2.2, hS, hZ⟩⟩
    · unfold g_BlockCodeLaw_repeats f_BlockCodeLaw_repeats f_BlockCode_repeats f_BlockCode_requireSealed
      rw [if_neg n10, if_neg n10, Option.bind_some, q1, Option.bind_some]
      dsimp only
      rw [l1, Option.bind_some, wout, Option.bind_some]
    · unfold f_BlockCodeModel_repeats
      rw [q2, Option.bind_some]
      dsimp only
      rw [if_neg n10, g1, Option.bind_some]
      exact l2
end STREP
