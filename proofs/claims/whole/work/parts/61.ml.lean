/-! ===== known, needed, commit, unneeded, constants ===== -/
def PS (n : Nat) (op d a b rop rd ra rb code : Nat → Int32) : Prop := CR n op d a b code 0 ∧ CR n rop rd ra rb code 80 ∧ JM n rop ra rb
section PUTS
variable {n : Nat} {op d a b rop rd ra rb code : Nat → Int32}
theorem put_both (hn : n ≤ 20) (h : PS n op d a b rop rd ra rb code) {i : Nat} (hi : i < n) {o x y z : Int32} (h0 : ¬ o < 0) (h10 : o ≤ 10) (hN : Nm o (nd o x) (na o y) (nb o z)) (j8 : o = 8 → isR (na o y) n) (j9 : o = 9 → isR (nb o z) n) :
    ∃ o' d' a' b' c', f_Code_put (nI i) o x y z rop rd ra rb = some (o', d', a', b') ∧ f_BlockCodeModel_put (80 + 4 * nI i) o x y z code = some c' ∧ PS n op d a b o' d' a' b' c' := by
  refine ⟨_, _, _, _, _, cput (show i < 20 by omega) o x y z rop rd ra rb, ?_, CR.off (q := 80 + 4 * i) h.1 (fun j hj => by omega), CR.put (i := i) h.2.1 hN n (fun j hj => Or.inr hj), fun j hj => ?_⟩
  · rw [m4', show (80 : Int32) = nI 80 by decide, nI_add]
    exact mput (show 80 + 4 * i + 3 < 160 by omega) h0 h10 x y z code
  · by_cases w : j = i
    · subst w
      simp only [upd_s]
      exact ⟨j8, j9⟩
    · simp only [upd_n w]; exact h.2.2 j hj
theorem put_zero (hn : n ≤ 20) (h : PS n op d a b rop rd ra rb code) {i : Nat} (hi : i < n) :
    ∃ o' d' a' b' c', f_Code_put (nI i) 0 0 0 0 rop rd ra rb = some (o', d', a', b') ∧ f_BlockCodeModel_put (80 + 4 * nI i) 0 0 0 0 code = some c' ∧ PS n op d a b o' d' a' b' c' :=
  put_both hn h hi (by decide) (by decide) (Or.inl ⟨rfl, by decide, by decide, by decide⟩) (fun e => absurd e (by decide)) (fun e => absurd e (by decide))
theorem opened (hn : n ≤ 20) (hC : CR n op d a b code 0) (hS : SD n op a b) (rlen found th mg : Int32) :
    ∃ o' d' a' b' c', f_BlockCode_resultBecomesSource op d a b (nI n) rop rd ra rb rlen found = some (o', d', a', b', nI n, 0) ∧ f_BlockCodeModel_open (nI n) 1 code th mg = some (1, c', 0, 0) ∧ PS n op d a b o' d' a' b' c' := by
  obtain ⟨o', d', a', b', b1, b2⟩ := become hn hC.src rop rd ra rb rlen
  obtain ⟨c', c1, c2, c3⟩ := copy_ok (p := 0) (q := 1) hn (by decide) (by decide) (by decide) code hC
  rw [nI0, show nI 1 = (1 : Int32) by decide] at c1
  refine ⟨o', d', a', b', c', ?_, ?_, c2, c3.same b2, hS.2.2.same b2⟩
  · unfold f_BlockCode_resultBecomesSource; rw [b1]; rfl
  · unfold f_BlockCodeModel_open f_BlockCodeModel_open_13; rw [if_neg n10, if_neg n10, c1]; rfl
set_option maxRecDepth 100000 in
theorem unn_loop (hn : n ≤ 20) {need w : Nat → Int32} (hA : Ag n need w) (hZ : Zb n w) : ∀ (m i k k' : Nat) (rop rd ra rb code : Nat → Int32), i + m = n → m < k → m < k' → PS n op d a b rop rd ra rb code →
    ∃ v o' d' a' b' c', f_BlockCode_unneeded_10 op d a b need (nI n) 1 k (nI i) rop rd ra rb (nI n) 0 = some (v, o', d', a', b', nI n, 0) ∧ f_BlockCodeModel_unneeded_16 (nI n) 1 k' (nI i) code 0 0 w = some (v, c', 0, 0, w) ∧ PS n op d a b o' d' a' b' c' := by
  intro m
  induction m with
  | zero =>
    intro i k k' rop rd ra rb code e h1 h2 hP
    obtain ⟨k, rfl⟩ : ∃ x, k = x + 1 := ⟨k - 1, by omega⟩
    obtain ⟨k', rfl⟩ : ∃ x, k' = x + 1 := ⟨k' - 1, by omega⟩
    have e' : i = n := by omega
    subst e'
    obtain ⟨v, v1, v2⟩ := diff_eq hn hP.1 hP.2.1
    refine ⟨v, rop, rd, ra, rb, code, ?_, ?_, hP⟩
    · rw [f_BlockCode_unneeded_10, if_pos (Int32.le_refl _), v1]; rfl
    · rw [f_BlockCodeModel_unneeded_16, if_pos (Int32.le_refl _), v2]; rfl
  | succ m ih =>
    intro i k k' rop rd ra rb code e h1 h2 hP
    obtain ⟨k, rfl⟩ : ∃ x, k = x + 1 := ⟨k - 1, by omega⟩
    obtain ⟨k', rfl⟩ : ∃ x, k' = x + 1 := ⟨k' - 1, by omega⟩
    have hi : i < n := by omega
    have h20 : i < 20 := by omega
    obtain ⟨⟨e0, e1, e2, e3⟩, hN⟩ := hP.1 i hi
    simp only [Nat.zero_add] at e0 e1 e2 e3
    have x0 : rdI code 160 (4 * nI i) = some (op i) := by rw [m4', r160 (by omega), e0]
    have x1 : rdI code 160 (4 * nI i + 1) = some (d i) := by rw [m4', p1', r160 (by omega), e1]
    have go := fun rop rd ra rb code => ih (i + 1) k k' rop rd ra rb code (by omega) (by omega) (by omega)
    have c : f_BlockCode_unneeded_10 op d a b need (nI n) 1 (k + 1) (nI i) rop rd ra rb (nI n) 0 = (f_BlockCode_makesRegister (op i)).bind fun rz3 =>
      if rz3 = 0 then f_BlockCode_unneeded_10 op d a b need (nI n) 1 k (nI (i + 1)) rop rd ra rb (nI n) 0 else if op i = 6 then f_BlockCode_unneeded_10 op d a b need (nI n) 1 k (nI (i + 1)) rop rd ra rb (nI n) 0 else
      if ((vv n need (i + 1) >>> (d i &&& 31)) &&& 1) = 0 then (f_Code_put (nI i) 0 0 0 0 rop rd ra rb).bind fun (u4, u5, u6, u7) => f_BlockCode_unneeded_10 op d a b need (nI n) 1 k (nI (i + 1)) u4 u5 u6 u7 (nI n) 0 else f_BlockCode_unneeded_10 op d a b need (nI n) 1 k (nI (i + 1)) rop rd ra rb (nI n) 0 := by
      rw [f_BlockCode_unneeded_10, if_neg (nI_ge hi (by omega))]
      simp only [r20 h20, Option.bind_some, f_BlockCode_unneeded_48, f_BlockCode_unneeded_49, f_BlockCode_unneeded_91, n10, if_false, if_true, p1', needAt_n hn need (show i + 1 ≤ 20 by omega)]
      congr 1; funext rz3
      rcases and1 (vv n need (i + 1) >>> (d i &&& 31)) with q | q
      · simp only [f_BlockCode_isIn, q, if_true, Option.bind_some]
      · simp only [f_BlockCode_isIn, q, n10, if_false, Option.bind_some]
    have mm : f_BlockCodeModel_unneeded_16 (nI n) 1 (k' + 1) (nI i) code 0 0 w = (f_BlockCodeModel_within (op i) 1 7).bind fun rz3 =>
      if rz3 = 0 then f_BlockCodeModel_unneeded_16 (nI n) 1 k' (nI (i + 1)) code 0 0 w else if op i = 6 then f_BlockCodeModel_unneeded_16 (nI n) 1 k' (nI (i + 1)) code 0 0 w else
      if ((vv n need (i + 1) >>> (d i &&& 31)) &&& 1) = 0 then (f_BlockCodeModel_put (80 + 4 * nI i) 0 0 0 0 code).bind fun u6 => f_BlockCodeModel_unneeded_16 (nI n) 1 k' (nI (i + 1)) u6 0 0 w else f_BlockCodeModel_unneeded_16 (nI n) 1 k' (nI (i + 1)) code 0 0 w := by
      rw [f_BlockCodeModel_unneeded_16, if_neg (nI_ge hi (by omega))]
      simp only [x0, x1, Option.bind_some, f_BlockCodeModel_unneeded_87, p1', rneed hZ (show i + 1 < 21 by omega), vv_ag hA]
    have mw : f_BlockCodeModel_within (op i) 1 7 = f_BlockCode_makesRegister (op i) := by
      unfold f_BlockCodeModel_within f_BlockCode_makesRegister; rfl
    rw [c, mm, mw]
    have hmr : f_BlockCode_makesRegister (op i) = some 0 ∨ f_BlockCode_makesRegister (op i) = some 1 := by rw [← mw]; exact within_or _ _ _
    rcases hmr with q | q
    · rw [q]; simp only [Option.bind_some, if_true]; exact go _ _ _ _ _ hP
    · rw [q]; simp only [Option.bind_some, n10, if_false]
      by_cases o6 : op i = 6
      · rw [if_pos o6, if_pos o6]; exact go _ _ _ _ _ hP
      · rw [if_neg o6, if_neg o6]
        by_cases z : ((vv n need (i + 1) >>> (d i &&& 31)) &&& 1) = 0
        · rw [if_pos z, if_pos z]
          obtain ⟨o', d', a', b', c', q1, q2, q3⟩ := put_zero hn hP hi
          rw [q1, q2]
          exact go _ _ _ _ _ q3
        · rw [if_neg z, if_neg z]; exact go _ _ _ _ _ hP
end PUTS
section FIVE
variable {op d a b need : Nat → Int32} {len leaders : Int32} {rop rd ra rb : Nat → Int32} {rlen : Int32} {before : Nat → Int64} {sealed found : Int32} {code : Nat → Int32} {size ms mg : Int32}
theorem st_known (h : RC ZZ op d a b need len leaders rop rd ra rb rlen before sealed found code size ms mg) (p r th : Int32) (R I F : Nat → Int32) :
    ∃ v R' I' F', f_BlockCode_known p r len before sealed = some v ∧ f_BlockCodeModel_known p r code size ms th R I F = some (v, 0, R', I', F') := by
  obtain ⟨n, hn, rfl, rfl, hC, h⟩ := id h
  rcases h with ⟨rfl, rfl, rfl⟩ | ⟨rfl, rfl, rfl, rfl, -, -, -, hS, hZ⟩
  · exact ⟨4294967298, R, I, F, by simp only [f_BlockCode_known, if_true], by simp only [f_BlockCodeModel_known, if_true]⟩
  · rcases hw p hn with ⟨q1, q2⟩ | ⟨i, hi, rfl, q1, q2⟩
    · exact ⟨4294967298, R, I, F, by simp only [f_BlockCode_known, n10, if_false, q1, Option.bind_some, if_true], by simp only [f_BlockCodeModel_known, n10, if_false, q2, Option.bind_some, if_true]⟩
    · rcases regs r with ⟨h1, h2⟩ | ⟨j, hj, rfl, h1, h2⟩
      · exact ⟨4294967298, R, I, F, by simp only [f_BlockCode_known, n10, if_false, q1, h1, Option.bind_some, if_true], by simp only [f_BlockCodeModel_known, n10, if_false, q2, h2, Option.bind_some, if_true]⟩
      · obtain ⟨R', I', F', g1, g2⟩ := hZ.facts hn hC hS R I F
        refine ⟨before (5 * i + j), R', I', F', ?_, ?_⟩
        · simp only [f_BlockCode_known, n10, if_false, q1, h1, Option.bind_some, at_n (show i < 20 by omega) hj]
        · simp only [f_BlockCodeModel_known, n10, if_false, q2, h2, Option.bind_some, g1, r21 (show i < 21 by omega), m5', nI_add, r105 (show 5 * i + j < 105 by omega)]
          rcases g2 i (by omega) with ⟨e1, e2⟩ | ⟨e1, e2⟩
          · rw [e1, if_pos rfl, e2 j hj]
          · rw [e1, if_neg n10, (e2 j hj).2, enc]
            by_cases z : I' (5 * i + j) = 0
            · rw [if_pos z, if_pos z]
            · rw [if_neg z, if_neg z]
theorem st_needed (h : RC ZZ op d a b need len leaders rop rd ra rb rlen before sealed found code size ms mg) (p th : Int32) (w : Nat → Int32) :
    ∃ v w', f_BlockCode_needed p need len sealed = some v ∧ f_BlockCodeModel_needed p code size ms th w = some (v, 0, w') := by
  obtain ⟨n, hn, rfl, rfl, hC, h⟩ := id h
  rcases h with ⟨rfl, rfl, rfl⟩ | ⟨rfl, rfl, rfl, rfl, -, -, -, hS, hZ⟩
  · exact ⟨-9, w, by simp only [f_BlockCode_needed, if_true], by simp only [f_BlockCodeModel_needed, if_true]⟩
  · rcases hw p hn with ⟨q1, q2⟩ | ⟨i, hi, rfl, q1, q2⟩
    · exact ⟨-9, w, by simp only [f_BlockCode_needed, n10, if_false, q1, Option.bind_some, if_true], by simp only [f_BlockCodeModel_needed, n10, if_false, q2, Option.bind_some, if_true]⟩
    · obtain ⟨w', g1, g2, g3⟩ := hZ.needs hn hC hS w
      refine ⟨vv n need i, w', ?_, ?_⟩
      · simp only [f_BlockCode_needed, n10, if_false, q1, Option.bind_some, needAt_n hn need (show i ≤ 20 by omega)]
      · simp only [f_BlockCodeModel_needed, n10, if_false, q2, Option.bind_some, g1, rneed g3 (show i < 21 by omega), vv_ag g2]
theorem st_commit (h : RC ZZ op d a b need len leaders rop rd ra rb rlen before sealed found code size ms mg) (fl : Nat → Int64) (th : Int32) :
    ∃ k op' d' a' b' need' len' leaders' before' fl' found' code' mg', f_BlockCode_commit rop rd ra rb rlen sealed op d a b need len leaders before fl found = some (k, op', d', a', b', need', len', leaders', before', fl', found') ∧
      f_BlockCodeModel_commit size ms code th mg = some (k, code', 0, mg') ∧ RC ZZ op' d' a' b' need' len' leaders' rop rd ra rb rlen before' sealed found' code' size ms mg' := by
  have h0 := h
  obtain ⟨n, hn, rfl, rfl, hC, h⟩ := id h
  rcases h with ⟨rfl, rfl, rfl⟩ | ⟨rfl, rfl, rfl, rfl, hg, hR, hJ, hS, hZ⟩
  · exact ⟨0, op, d, a, b, need, nI n, leaders, before, fl, found, code, mg, by simp only [f_BlockCode_commit, if_true], by simp only [f_BlockCodeModel_commit, if_true], h0⟩
  · rcases hg with rfl | rfl
    · exact ⟨0, op, d, a, b, need, nI n, leaders, before, fl, 0, code, 0, by simp only [f_BlockCode_commit, n10, if_false, if_true], by simp only [f_BlockCodeModel_commit, n10, if_false, if_true], h0⟩
    · have hp := hS.1
      have en := ends_n (op := rop) hn hp
      obtain ⟨⟨e0, -, -, -⟩, -⟩ := hR (n - 1) (by omega)
      have ix : rdI code 160 (80 + 4 * nI n - 4) = some (rop (n - 1)) := by
        rw [m4', show (80 : Int32) = nI 80 by decide, nI_add, show (4 : Int32) = nI 4 by decide, nI_sub' (by omega), r160 (by omega), show 80 + 4 * n - 4 = 80 + 4 * (n - 1) by omega, e0]
      by_cases ew : rop (n - 1) = 8 ∨ rop (n - 1) = 10
      · rw [if_pos ew] at en
        obtain ⟨c', c1, c3, c2⟩ := copy_ok (p := 1) (q := 0) hn (by decide) (by decide) (by decide) code hR
        obtain ⟨o', d', a', b', b1, b2⟩ := become hn hR.src op d a b (nI n)
        rw [nI0, show nI 1 = (1 : Int32) by decide] at c1
        have hC' := CR.same c2 b2
        have hS' : SD n o' a' b' := ⟨hp, by rw [(b2 (n - 1) (by omega)).1]; exact ew, hJ.same b2⟩
        obtain ⟨v, L', B, fl', s1, s2, s3⟩ := study hn hC' hS' need leaders before fl
        refine ⟨1, o', d', a', b', v, nI n, L', B, fl', 0, c', 0, ?_, ?_, n, hn, rfl, rfl, hC', Or.inr ⟨rfl, rfl, rfl, rfl, Or.inl rfl, c3, hJ, hS', s2⟩⟩
        · simp only [f_BlockCode_commit, n10, if_false, en, Option.bind_some, b1, s1]
        · simp only [f_BlockCodeModel_commit, n10, if_false, ix, mends, if_pos ew, Option.bind_some, c1]
      · rw [if_neg ew] at en
        refine ⟨0, op, d, a, b, need, nI n, leaders, before, fl, 1, code, 1, ?_, ?_, h0⟩
        · simp only [f_BlockCode_commit, n10, if_false, en, Option.bind_some, if_true]
        · simp only [f_BlockCodeModel_commit, n10, if_false, ix, mends, if_neg ew, Option.bind_some, if_true]
set_option maxRecDepth 100000 in
theorem st_unneeded (h : RC ZZ op d a b need len leaders rop rd ra rb rlen before sealed found code size ms mg) (out : Nat → Int64) (th : Int32) (w : Nat → Int32) :
    ∃ k r rop' rd' ra' rb' rlen' found' out' code' mg' w', g_BlockCodeLaw_unneeded op d a b need len sealed rop rd ra rb rlen found out = some (k, rop', rd', ra', rb', rlen', found', out') ∧
      f_BlockCodeModel_unneeded size ms code th mg w = some (r, code', k, mg', w') ∧ (k = 0 → rdL out' 1 0 = some r.toInt64) ∧ RC ZZ op d a b need len leaders rop' rd' ra' rb' rlen' before sealed found' code' size ms mg' := by
  have h0 := h
  obtain ⟨n, hn, rfl, rfl, hC, h⟩ := id h
  rcases h with ⟨rfl, rfl, rfl⟩ | ⟨rfl, rfl, rfl, rfl, hg, hR, hJ, hS, hZ⟩
  · refine ⟨1, 0, rop, rd, ra, rb, 0, found, out, code, mg, w, ?_, ?_, fun q => absurd q (by decide), h0⟩
    · simp only [g_BlockCodeLaw_unneeded, if_true]
    · simp only [f_BlockCodeModel_unneeded, f_BlockCodeModel_open, f_BlockCodeModel_open_13, if_true, Option.bind_some]
  · obtain ⟨o', d', a', b', c', q1, q2, q3⟩ := opened (rop := rop) (rd := rd) (ra := ra) (rb := rb) hn hC hS (nI n) found th found
    obtain ⟨w', g1, g2, g3⟩ := hZ.needs hn q3.1 hS w
    obtain ⟨v, o2, d2, a2, b2, c2, l1, l2, l3⟩ := unn_loop hn g2 g3 n 0 fu fu o' d' a' b' c' (by omega) (fuN (by omega)) (fuN (by omega)) q3
    rw [nI0] at l1 l2
    refine ⟨0, v, o2, d2, a2, b2, nI n, 0, vp_updL out 0 v.toInt64, c2, 0, w', ?_, ?_, fun _ => rout _ _, n, hn, rfl, rfl, l3.1, Or.inr ⟨rfl, rfl, rfl, rfl, Or.inl rfl, l3.2.1, l3.2.2, hS, hZ⟩⟩
    · simp only [g_BlockCodeLaw_unneeded, n10, if_false, f_BlockCodeLaw_unneeded, f_BlockCode_unneeded, f_BlockCode_requireSealed, Option.bind_some, q1, l1, wout]
    · simp only [f_BlockCodeModel_unneeded, q2, Option.bind_some, n10, if_false, g1, l2]
end FIVE
