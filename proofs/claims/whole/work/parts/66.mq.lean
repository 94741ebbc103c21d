/-! ===== compare: one program gone through in symbols ===== -/
abbrev K89 := Int32 → Int32 → (Nat → Int32) → (Nat → Int32) → (Nat → Int32) → Int32 → (Nat → Int32) → (Nat → Int32) → (Nat → Int32) → (Nat → Int32) → (Nat → Int32) → (Nat → Int32) → (Nat → Int32) → Option ((Nat → Int32) × (Nat → Int32) × (Nat → Int32) × Int32 × (Nat → Int32) × (Nat → Int32) × (Nat → Int32) × (Nat → Int32) × (Nat → Int32) × (Nat → Int32) × (Nat → Int32))
theorem m263 (p1 p2 p3 : Int32) (code I F : Nat → Int32) (k89 : K89) (x4 x5 x7 x9 x10 : Int32) (mk ml mr : Nat → Int32) (mc : Int32) (hold risk risks en to sy pl : Nat → Int32) (h8 : ¬ x7 = 8) (h9 : ¬ x7 = 9) (h10 : ¬ x7 = 10) :
    f_BlockCodeModel_walk_263 p1 p2 p3 code I F k89 x4 x5 x7 x9 x10 mk ml mr mc hold risk risks en to sy pl = k89 x4 (x5 + 1) mk ml mr mc hold risk risks en to sy pl := by
  unfold f_BlockCodeModel_walk_263 f_BlockCodeModel_walk_279 f_BlockCodeModel_walk_295 f_BlockCodeModel_walk_380
  rw [if_neg h8, if_neg h10, if_neg h9]
theorem m215_no (p1 p2 p3 : Int32) (code I F : Nat → Int32) (k89 : K89) (x4 x5 x7 x8 x9 x10 : Int32) (mk ml mr : Nat → Int32) (mc : Int32) (hold risk risks en to sy pl : Nat → Int32) (h : f_BlockCodeModel_within x7 3 7 = some 0) :
    f_BlockCodeModel_walk_215 p1 p2 p3 code I F k89 x4 x5 x7 x8 x9 x10 mk ml mr mc hold risk risks en to sy pl = f_BlockCodeModel_walk_263 p1 p2 p3 code I F k89 x4 x5 x7 x9 x10 mk ml mr mc hold risk risks en to sy pl := by
  unfold f_BlockCodeModel_walk_215
  rw [h, Option.bind_some, if_pos rfl]
section WALK
variable {n p c q i : Nat} {op d a b code I F : Nat → Int32} {fr : Int32} {bh : Nat} {xk xl xr mk ml mr held hold dv ds risk risks en to sy pl : Nat → Int32}
def HKeep (p : Nat) (hold hold' : Nat → Int32) : Prop := ∀ x, (x < 5 * p ∨ 5 * p + 5 ≤ x) → hold' x = hold x
theorem HKeep.upd {p : Nat} {hold : Nat → Int32} {j : Nat} (hj : j < 5) (v : Int32) : HKeep p hold (upd hold (5 * p + j) v) := fun x hx => upd_n (by omega)
def WStep (n p i c q : Nat) (op d a b code I F : Nat → Int32) (fr : Int32) (bh : Nat) (xk xl xr mk ml mr held hold dv ds risk risks en to sy pl : Nat → Int32) : Prop :=
  ∃ c' q' xk' xl' xr' mk' ml' mr' held' hold' dv' ds' risk' risks', f_Walk_noteRisk (nI i) xk xl held op a b dv ds (nI q) = some (dv', ds', nI q') ∧ f_Walk_follow (nI i) 1 op d a b xk xl xr (nI c) held = some (xk', xl', xr', nI c', held') ∧
    (∀ k', f_BlockCodeModel_walk_89 (nI p) fr (nI bh) code I F (k' + 1) (nI (5 * p)) (nI i) mk ml mr (nI c) hold risk risks en to sy pl = f_BlockCodeModel_walk_89 (nI p) fr (nI bh) code I F k' (nI (5 * p)) (nI (i + 1)) mk' ml' mr' (nI c') hold' risk' risks' en to sy (upd pl p (nI i))) ∧
    c ≤ c' ∧ c' ≤ c + 1 ∧ SR c' xk' xl' xr' mk' ml' mr' ∧ Old c xk xl xr xk' xl' xr' ∧ HS c' (5 * p) held' hold' ∧ q' ≤ q + 1 ∧ RK p q' dv' ds' risk' risks' ∧ RKeep p risk risks risk' risks' ∧ HKeep p hold hold'
theorem note_n (h20 : i < 20) {ja jb sx sy : Nat} (ha : ja < 5) (hb : jb < 5) (ea : a i = nI ja) (eb : b i = nI jb) (hx : held ja = nI sx) (hy : held jb = nI sy) (xk xl dv ds : Nat → Int32) (q : Int32) : f_Walk_noteRisk (nI i) xk xl held op a b dv ds q = nrk (op i) (nI sx) (nI sy) xk xl dv ds q := by
  unfold f_Walk_noteRisk nrk f_Walk_noteRisk_62
  simp only [r20 h20, Option.bind_some, ea, eb, r5 ha, r5 hb, hx, hy]
theorem note_no (h20 : i < 20) (h : ¬ op i = 6) (xk xl dv ds : Nat → Int32) (q : Int32) : f_Walk_noteRisk (nI i) xk xl held op a b dv ds q = some (dv, ds, q) := by
  unfold f_Walk_noteRisk
  rw [r20 h20, Option.bind_some, if_neg h]
theorem of_reads (hn : n ≤ 20) (hp : p ≤ 1) (hC : CR n op d a b code (80 * p)) (hi : i < n) : rdI code 160 (80 * nI p + 4 * nI i) = some (op i) ∧ rdI code 160 (80 * nI p + 4 * nI i + 1) = some (d i) ∧ rdI code 160 (80 * nI p + 4 * nI i + 2) = some (a i) ∧ rdI code 160 (80 * nI p + 4 * nI i + 3) = some (b i) := by
  obtain ⟨⟨e0, e1, e2, e3⟩, -⟩ := hC i hi
  rw [m80', m4', nI_add, p1', p2', p3', r160 (by omega), r160 (by omega), r160 (by omega), r160 (by omega), e0, e1, e2, e3]
  exact ⟨rfl, rfl, rfl, rfl⟩
theorem w_step (hn : n ≤ 20) (hp : p ≤ 1) (hC : CR n op d a b code (80 * p)) (hi : i < n) (hb : i < bh) (hbn : bh ≤ n) (hE : en p = 0) (hc : c < 45) (hq : q < 20) (hS : SR c xk xl xr mk ml mr) (hH : HS c (5 * p) held hold) (hR : RK p q dv ds risk risks) (o8 : ¬ op i = 8) (o9 : ¬ op i = 9) (o10 : ¬ op i = 10) :
    WStep n p i c q op d a b code I F fr bh xk xl xr mk ml mr held hold dv ds risk risks en to sy pl := by
  have h20 : i < 20 := by omega
  obtain ⟨y0, y1, y2, y3⟩ := of_reads hn hp hC hi
  have g : ¬ nI bh ≤ nI i := nI_ge hb (by omega)
  have yE := r2 (f := en) hp
  rw [hE] at yE
  have ops : (op i = 3 ∨ op i = 4 ∨ op i = 5 ∨ op i = 6 ∨ op i = 7) → isR (d i) 5 → isR (a i) 5 → isR (b i) 5 → WStep n p i c q op d a b code I F fr bh xk xl xr mk ml mr held hold dv ds risk risks en to sy pl := by
    intro h hd ha hb
    obtain ⟨jd, hd, ed⟩ := hd
    obtain ⟨ja, ha, ea⟩ := ha
    obtain ⟨jb, hb, eb⟩ := hb
    obtain ⟨sx, a1, a2, a3⟩ := hH ja ha
    obtain ⟨sy', b1, b2, b3⟩ := hH jb hb
    have o1 : ¬ op i = 1 := by rcases h with h | h | h | h | h <;> rw [h] <;> decide
    have o2 : ¬ op i = 2 := by rcases h with h | h | h | h | h <;> rw [h] <;> decide
    have w37 : f_BlockCodeModel_within (op i) 3 7 = some 1 := by rcases h with h | h | h | h | h <;> rw [h] <;> decide
    have mr1 : f_BlockCode_makesRegister (op i) = some 1 := by rcases h with h | h | h | h | h <;> rw [h] <;> decide
    obtain ⟨s, c', q', xk', xl', xr', mk', ml', mr', dv', ds', risk', risks', t1, t2, t3, t4, t5, t6, t7, t8, t9, t10, t11⟩ := made_two hp hq hc hS a1 b1 h hR
    refine ⟨c', q', xk', xl', xr', mk', ml', mr', upd held jd (nI s), upd hold (5 * p + jd) (nI s), dv', ds', risk', risks', ?_, ?_, fun k' => ?_, t5, t6, t7, t8, (hH.mono t5).upd t4, t9, t10, t11, HKeep.upd hd _⟩
    · rw [note_n h20 ha hb ea eb a2 b2]; exact t2
    · simp only [f_Walk_follow, f_Walk_madeBy, r20 h20, Option.bind_some, mr1, n10, if_false, o1, o2, ea, eb, r5 ha, r5 hb, a2, b2, t1, ed, w5 hd]
    · rw [f_BlockCodeModel_walk_89, if_neg g, yE, Option.bind_some, if_pos rfl]
      simp only [y0, y1, y2, y3, Option.bind_some, w2 hp]
      unfold f_BlockCodeModel_walk_189 f_BlockCodeModel_walk_215
      rw [if_neg o1, if_neg o2, w37, Option.bind_some, if_neg n10, ea, eb, ed, nI_add, nI_add, nI_add, r10 (by omega), r10 (by omega), Option.bind_some, Option.bind_some, a3, b3, t3, Option.bind_some]
      simp only [w10 (show 5 * p + jd < 10 by omega), Option.bind_some, m263 _ _ _ _ _ _ _ _ _ _ _ _ _ _ _ _ _ _ _ _ _ _ _ o8 o9 o10, p1']
  rcases (hC i hi).2 with ⟨o, -⟩ | ⟨o, q1, -⟩ | ⟨o, q1, q2, -⟩ | ⟨o, q1, q2, q3⟩ | ⟨o, q1, q2, q3⟩ | ⟨o, q1, q2, q3⟩ | ⟨o, q1, q2, q3⟩ | ⟨o, q1, q2, q3⟩ | ⟨o, -⟩ | ⟨o, -⟩ | ⟨o, -⟩
  · refine ⟨c, q, xk, xl, xr, mk, ml, mr, held, hold, dv, ds, risk, risks, note_no h20 (by rw [o]; decide) _ _ _ _ _, ?_, fun k' => ?_, by omega, by omega, hS, Old.rfl', hH, by omega, hR, RKeep.rfl', fun _ _ => rfl⟩
    · unfold f_Walk_follow
      rw [r20 h20, Option.bind_some, o, show f_BlockCode_makesRegister 0 = some 0 by decide, Option.bind_some, if_pos rfl]
    · rw [f_BlockCodeModel_walk_89, if_neg g, yE, Option.bind_some, if_pos rfl]
      simp only [y0, y1, y2, y3, Option.bind_some, w2 hp]
      unfold f_BlockCodeModel_walk_189
      rw [if_neg (by rw [o]; decide), if_neg (by rw [o]; decide), m215_no _ _ _ _ _ _ _ _ _ _ _ _ _ _ _ _ _ _ _ _ _ _ _ _ (by rw [o]; decide), m263 _ _ _ _ _ _ _ _ _ _ _ _ _ _ _ _ _ _ _ _ _ _ _ o8 o9 o10, p1']
  · obtain ⟨jd, hd, ed⟩ := q1
    obtain ⟨s, c', xk', xl', xr', mk', ml', mr', s1, s2, s3, s4, s5, s6, s7, -, -⟩ := sym_ask hc hS 1 (a i) 0
    refine ⟨c', q, xk', xl', xr', mk', ml', mr', upd held jd (nI s), upd hold (5 * p + jd) (nI s), dv, ds, risk, risks, note_no h20 (by rw [o]; decide) _ _ _ _ _, ?_, fun k' => ?_, s4, s5, s6, s7, (hH.mono s4).upd s3, by omega, hR, RKeep.rfl', HKeep.upd hd _⟩
    · have t2 : f_BlockCode_makesRegister 1 = some 1 := by decide
      simp only [f_Walk_follow, f_Walk_madeBy, r20 h20, Option.bind_some, o, t2, n10, if_false, if_true, of_int s1, ed, w5 hd]
    · rw [f_BlockCodeModel_walk_89, if_neg g, yE, Option.bind_some, if_pos rfl]
      simp only [y0, y1, y2, y3, Option.bind_some, w2 hp]
      rw [if_pos o, s2, Option.bind_some]
      simp only [ed, nI_add, w10 (show 5 * p + jd < 10 by omega), Option.bind_some]
      unfold f_BlockCodeModel_walk_189
      rw [if_neg (by rw [o]; decide), m215_no _ _ _ _ _ _ _ _ _ _ _ _ _ _ _ _ _ _ _ _ _ _ _ _ (by rw [o]; decide), m263 _ _ _ _ _ _ _ _ _ _ _ _ _ _ _ _ _ _ _ _ _ _ _ o8 o9 o10, p1']
  · obtain ⟨jd, hd, ed⟩ := q1
    obtain ⟨ja, ha, ea⟩ := q2
    obtain ⟨sx, a1, a2, a3⟩ := hH ja ha
    refine ⟨c, q, xk, xl, xr, mk, ml, mr, upd held jd (nI sx), upd hold (5 * p + jd) (nI sx), dv, ds, risk, risks, note_no h20 (by rw [o]; decide) _ _ _ _ _, ?_, fun k' => ?_, by omega, by omega, hS, Old.rfl', hH.upd a1, by omega, hR, RKeep.rfl', HKeep.upd hd _⟩
    · have t2 : f_BlockCode_makesRegister 2 = some 1 := by decide
      have t3 : ¬ (2 : Int32) = 1 := by decide
      simp only [f_Walk_follow, f_Walk_madeBy, r20 h20, Option.bind_some, o, t2, t3, n10, if_false, if_true, ed, ea, r5 ha, a2, w5 hd]
    · rw [f_BlockCodeModel_walk_89, if_neg g, yE, Option.bind_some, if_pos rfl]
      simp only [y0, y1, y2, y3, Option.bind_some, w2 hp]
      unfold f_BlockCodeModel_walk_189
      rw [if_neg (by rw [o]; decide), if_pos o, ea, ed, nI_add, nI_add, r10 (by omega), Option.bind_some, a3, w10 (by omega), Option.bind_some, m215_no _ _ _ _ _ _ _ _ _ _ _ _ _ _ _ _ _ _ _ _ _ _ _ _ (by rw [o]; decide), m263 _ _ _ _ _ _ _ _ _ _ _ _ _ _ _ _ _ _ _ _ _ _ _ o8 o9 o10, p1']
  · exact ops (Or.inl o) q1 q2 q3
  · exact ops (Or.inr (Or.inl o)) q1 q2 q3
  · exact ops (Or.inr (Or.inr (Or.inl o))) q1 q2 q3
  · exact ops (Or.inr (Or.inr (Or.inr (Or.inl o)))) q1 q2 q3
  · exact ops (Or.inr (Or.inr (Or.inr (Or.inr o)))) q1 q2 q3
  · exact absurd o o8
  · exact absurd o o9
  · exact absurd o o10
end WALK
