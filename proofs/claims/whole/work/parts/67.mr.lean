/-! ===== compare: the end of a walk, the walk ===== -/
def ER (e n p : Nat) (ek nu ep es : Int32) (en to sy pl : Nat → Int32) : Prop :=
  (∃ t, t < e ∧ ek = 8 ∧ nu = nI t ∧ ep = 0 ∧ es = 0 ∧ en p = 1 ∧ to p = nI t ∧ sy p = 0) ∨
  (∃ t i, t < n ∧ i + 1 < e ∧ ek = 9 ∧ nu = nI t ∧ ep = nI i ∧ es = sy p ∧ en p = 2 ∧ to p = nI t ∧ pl p = nI i) ∨
  (∃ t, t < 32 ∧ ek = 10 ∧ nu = nI t ∧ ep = 0 ∧ es = 0 ∧ en p = 3 ∧ to p = nI t ∧ sy p = 0)
def EKeep (p : Nat) (en to sy pl en' to' sy' pl' : Nat → Int32) : Prop := ∀ x, x ≠ p → en' x = en x ∧ to' x = to x ∧ sy' x = sy x ∧ pl' x = pl x
theorem EKeep.tr {p : Nat} {a1 a2 a3 a4 b1 b2 b3 b4 c1 c2 c3 c4 : Nat → Int32} (h : EKeep p a1 a2 a3 a4 b1 b2 b3 b4) (h' : EKeep p b1 b2 b3 b4 c1 c2 c3 c4) : EKeep p a1 a2 a3 a4 c1 c2 c3 c4 := fun x hx => by
  obtain ⟨u1, u2, u3, u4⟩ := h x hx
  obtain ⟨v1, v2, v3, v4⟩ := h' x hx
  exact ⟨v1.trans u1, v2.trans u2, v3.trans u3, v4.trans u4⟩
theorem leave_n {p : Nat} (hp : p ≤ 1) (h t s : Int32) (en to sy : Nat → Int32) : f_BlockCodeModel_leave (nI p) h t s en to sy = some (upd en p h, upd to p t, upd sy p (if h = 2 then s else 0)) := by
  unfold f_BlockCodeModel_leave f_BlockCodeModel_leave_30
  rw [w2 hp, Option.bind_some, w2 hp, Option.bind_some, w2 hp, w2 hp, Option.bind_some, Option.bind_some]
  split <;> rfl
section WEND
variable {n p c q i e : Nat} {op d a b code I F : Nat → Int32} {fr : Int32} {bh : Nat} {xk xl xr mk ml mr held hold dv ds risk risks en to sy pl : Nat → Int32}
theorem w_done (hp : p ≤ 1) (hE : ¬ en p = 0) (x4 x5 p3 mc : Int32) (k' : Nat) : f_BlockCodeModel_walk_89 (nI p) fr p3 code I F (k' + 1) x4 x5 mk ml mr mc hold risk risks en to sy pl = some (mk, ml, mr, mc, hold, risk, risks, en, to, sy, pl) := by
  have h : f_BlockCodeModel_walk_386 (nI p) fr p3 code I F mk ml mr mc hold risk risks en to sy pl = some (mk, ml, mr, mc, hold, risk, risks, en, to, sy, pl) := by
    unfold f_BlockCodeModel_walk_386
    rw [r2 hp, Option.bind_some, if_neg hE]
  rw [f_BlockCodeModel_walk_89, r2 hp, Option.bind_some, if_neg hE, h]
  split <;> rfl
def WEnd (e n p i c : Nat) (op d a b code I F : Nat → Int32) (fr : Int32) (bh : Nat) (xk xl held mk ml mr hold risk risks en to sy pl : Nat → Int32) : Prop :=
  ∀ e0 e1 e2 e3, ∃ ek nu ep es en' to' sy' pl', f_Walk_endAt (nI i) xk xl held op a b e0 e1 e2 e3 = some (ek, nu, ep, es) ∧
    (∀ k', f_BlockCodeModel_walk_89 (nI p) fr (nI bh) code I F (k' + 2) (nI (5 * p)) (nI i) mk ml mr (nI c) hold risk risks en to sy pl = some (mk, ml, mr, nI c, hold, risk, risks, en', to', sy', pl')) ∧
    ER e n p ek nu ep es en' to' sy' pl' ∧ EKeep p en to sy pl en' to' sy' pl'
theorem w_end (hn : n ≤ 20) (hp : p ≤ 1) (hC : CR n op d a b code (80 * p)) (hJ : JM n op a b) (hne : n ≤ e) (hi : i < n) (hb : i < bh) (hbn : bh ≤ n) (hE : en p = 0) (hc : c ≤ 45) (hS : SR c xk xl xr mk ml mr) (hH : HS c (5 * p) held hold) (h9e : op i = 9 → i + 1 < e) (ho : op i = 8 ∨ op i = 9 ∨ op i = 10) :
    WEnd e n p i c op d a b code I F fr bh xk xl held mk ml mr hold risk risks en to sy pl := by
  intro e0 e1 e2 e3
  have h20 : i < 20 := by omega
  obtain ⟨y0, y1, y2, y3⟩ := of_reads hn hp hC hi
  have g : ¬ nI bh ≤ nI i := nI_ge hb (by omega)
  have yE := r2 (f := en) hp
  rw [hE] at yE
  have keep : ∀ (h t s : Int32), EKeep p en to sy pl (upd en p h) (upd to p t) (upd sy p s) (upd pl p (nI i)) := fun h t s x hx => ⟨upd_n hx, upd_n hx, upd_n hx, upd_n hx⟩
  have top : (op i = 8 ∨ op i = 9 ∨ op i = 10) → ∀ k', f_BlockCodeModel_walk_89 (nI p) fr (nI bh) code I F (k' + 2) (nI (5 * p)) (nI i) mk ml mr (nI c) hold risk risks en to sy pl = f_BlockCodeModel_walk_263 (nI p) fr (nI bh) code I F (f_BlockCodeModel_walk_89 (nI p) fr (nI bh) code I F (k' + 1)) (nI (5 * p)) (nI i) (op i) (a i) (b i) mk ml mr (nI c) hold risk risks en to sy (upd pl p (nI i)) := by
    intro h k'
    have o1 : ¬ op i = 1 := by rcases h with h | h | h <;> rw [h] <;> decide
    have o2 : ¬ op i = 2 := by rcases h with h | h | h <;> rw [h] <;> decide
    have w37 : f_BlockCodeModel_within (op i) 3 7 = some 0 := by rcases h with h | h | h <;> rw [h] <;> decide
    rw [f_BlockCodeModel_walk_89, if_neg g, yE, Option.bind_some, if_pos rfl]
    simp only [y0, y1, y2, y3, Option.bind_some, w2 hp]
    unfold f_BlockCodeModel_walk_189
    rw [if_neg o1, if_neg o2, m215_no _ _ _ _ _ _ _ _ _ _ _ _ _ _ _ _ _ _ _ _ _ _ _ _ w37]
  have ne1 : ∀ {z : Int32}, ¬ z = 0 → ¬ upd en p z p = 0 := fun h => by rw [upd_s]; exact h
  have ne2 : ∀ (x : Int32), (if (1 : Int32) = 2 then x else 0) = 0 := fun x => if_neg (by decide)
  rcases ho with o | o | o
  · obtain ⟨j, hj, ej⟩ := (hJ i hi).1 o
    refine ⟨8, nI j, 0, 0, upd en p 1, upd to p (nI j), upd sy p 0, upd pl p (nI i), ?_, fun k' => ?_, Or.inl ⟨j, by omega, rfl, rfl, rfl, rfl, upd_s, upd_s, upd_s⟩, keep _ _ _⟩
    · have t : ¬ (8 : Int32) = 9 := by decide
      simp only [f_Walk_endAt, f_Walk_endBy, r20 h20, Option.bind_some, o, t, if_false, ej]
    · rw [top (Or.inl o)]
      unfold f_BlockCodeModel_walk_263 f_BlockCodeModel_walk_279 f_BlockCodeModel_walk_295 f_BlockCodeModel_walk_380
      rw [if_pos o, leave_n hp, Option.bind_some]
      simp only []
      rw [if_neg (by rw [o]; decide), if_neg (by rw [o]; decide), w_done hp (ne1 (by decide)), ne2, ej]
  · obtain ⟨ja, ha, ea⟩ : isR (a i) 5 := by
      rcases (hC i hi).2 with ⟨o', -⟩ | ⟨o', -⟩ | ⟨o', -⟩ | ⟨o', -⟩ | ⟨o', -⟩ | ⟨o', -⟩ | ⟨o', -⟩ | ⟨o', -⟩ | ⟨o', -⟩ | ⟨o', -, w, -⟩ | ⟨o', -⟩
      all_goals first | exact w | exact absurd (o.symm.trans o') (by decide)
    obtain ⟨j, hj, ej⟩ := (hJ i hi).2 o
    obtain ⟨s, a1, a2, a3⟩ := hH ja ha
    obtain ⟨k1, k2, -⟩ := hS s a1
    have hie := h9e o
    have cc : f_Walk_endAt (nI i) xk xl held op a b e0 e1 e2 e3 = (f_Walk_endAtBranch (nI i) (nI s) (nI j) xk xl e0 e1 e2 e3).bind fun (u11, u12, u13, u14) => some (u11, u12, u13, u14) := by
      simp only [f_Walk_endAt, r20 h20, Option.bind_some, o, if_true, ea, ej, r5 ha, a2]
    have mm : ∀ k', f_BlockCodeModel_walk_89 (nI p) fr (nI bh) code I F (k' + 2) (nI (5 * p)) (nI i) mk ml mr (nI c) hold risk risks en to sy pl = (if xk s = 1 then (if xl s = 0 then some (mk, ml, mr, nI c, hold, risk, risks, upd en p 1, upd to p (nI (i + 1)), upd sy p 0, upd pl p (nI i)) else some (mk, ml, mr, nI c, hold, risk, risks, upd en p 1, upd to p (nI j), upd sy p 0, upd pl p (nI i))) else
        if nI j = nI (i + 1) then some (mk, ml, mr, nI c, hold, risk, risks, upd en p 1, upd to p (nI j), upd sy p 0, upd pl p (nI i)) else some (mk, ml, mr, nI c, hold, risk, risks, upd en p 2, upd to p (nI j), upd sy p (nI s), upd pl p (nI i))) := by
      intro k'
      rw [top (Or.inr (Or.inl o))]
      unfold f_BlockCodeModel_walk_263 f_BlockCodeModel_walk_279 f_BlockCodeModel_walk_295
      rw [if_neg (by rw [o]; decide), if_neg (by rw [o]; decide), if_pos o, ea, nI_add, r10 (by omega), Option.bind_some, a3, r120 (by omega), Option.bind_some, r120 (by omega), Option.bind_some, ← k1, ← k2]
      unfold f_BlockCodeModel_walk_350 f_BlockCodeModel_walk_373 f_BlockCodeModel_walk_380
      simp only [leave_n hp, Option.bind_some, p1', ej, ne2, if_true, w_done hp (ne1 (show ¬ (1 : Int32) = 0 by decide)), w_done hp (ne1 (show ¬ (2 : Int32) = 0 by decide))]
    unfold f_Walk_endAtBranch f_Walk_endAtBranch_32 f_Walk_endBy at cc
    rw [hold_int (show s < 45 by omega), int_of (show s < 45 by omega)] at cc
    simp only [Option.bind_some, p1'] at cc
    by_cases w1 : xk s = 1
    · simp only [w1, if_true, n10, if_false] at cc mm
      by_cases w2 : xl s = 0
      · simp only [w2, if_true] at cc mm
        exact ⟨8, nI (i + 1), 0, 0, _, _, _, _, cc, mm, Or.inl ⟨i + 1, hie, rfl, rfl, rfl, rfl, upd_s, upd_s, upd_s⟩, keep _ _ _⟩
      · simp only [w2, if_false] at cc mm
        exact ⟨8, nI j, 0, 0, _, _, _, _, cc, mm, Or.inl ⟨j, by omega, rfl, rfl, rfl, rfl, upd_s, upd_s, upd_s⟩, keep _ _ _⟩
    · simp only [w1, if_true, if_false] at cc mm
      by_cases w2 : nI j = nI (i + 1)
      · simp only [w2, if_true] at cc mm
        exact ⟨8, nI (i + 1), 0, 0, _, _, _, _, cc, mm, Or.inl ⟨i + 1, hie, rfl, rfl, rfl, rfl, upd_s, upd_s, upd_s⟩, keep _ _ _⟩
      · simp only [w2, if_false] at cc mm
        exact ⟨9, nI j, nI i, nI s, _, _, _, _, cc, mm, Or.inr (Or.inl ⟨j, i, hj, hie, rfl, rfl, rfl, upd_s.symm, upd_s, upd_s, upd_s⟩), keep _ _ _⟩
  · obtain ⟨j, hj, ej⟩ : isR (a i) 32 := by
      rcases (hC i hi).2 with ⟨o', -⟩ | ⟨o', -⟩ | ⟨o', -⟩ | ⟨o', -⟩ | ⟨o', -⟩ | ⟨o', -⟩ | ⟨o', -⟩ | ⟨o', -⟩ | ⟨o', -⟩ | ⟨o', -⟩ | ⟨o', -, w, -⟩
      all_goals first | exact w | exact absurd (o.symm.trans o') (by decide)
    refine ⟨10, nI j, 0, 0, upd en p 3, upd to p (nI j), upd sy p 0, upd pl p (nI i), ?_, fun k' => ?_, Or.inr (Or.inr ⟨j, hj, rfl, rfl, rfl, rfl, upd_s, upd_s, upd_s⟩), keep _ _ _⟩
    · have t : ¬ (10 : Int32) = 9 := by decide
      simp only [f_Walk_endAt, f_Walk_endBy, r20 h20, Option.bind_some, o, t, if_false, ej]
    · have ne3 : ∀ (x : Int32), (if (3 : Int32) = 2 then x else 0) = 0 := fun x => if_neg (by decide)
      rw [top (Or.inr (Or.inr o))]
      unfold f_BlockCodeModel_walk_263 f_BlockCodeModel_walk_279 f_BlockCodeModel_walk_295 f_BlockCodeModel_walk_380
      rw [if_neg (by rw [o]; decide), if_pos o, leave_n hp, Option.bind_some]
      simp only []
      rw [if_neg (by rw [o]; decide), w_done hp (ne1 (by decide)), ne3, ej]
end WEND
