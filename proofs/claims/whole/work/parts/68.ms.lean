/-! ===== compare: the walk ===== -/
theorem HKeep.tr {p : Nat} {a1 b1 c1 : Nat → Int32} (h : HKeep p a1 b1) (h' : HKeep p b1 c1) : HKeep p a1 c1 := fun x hx => (h' x hx).trans (h x hx)
abbrev CW := Option ((Nat → Int32) × (Nat → Int32) × (Nat → Int32) × Int32 × (Nat → Int32) × (Nat → Int32) × (Nat → Int32) × Int32 × Int32 × Int32 × Int32 × Int32)
abbrev MW := Option ((Nat → Int32) × (Nat → Int32) × (Nat → Int32) × Int32 × (Nat → Int32) × (Nat → Int32) × (Nat → Int32) × (Nat → Int32) × (Nat → Int32) × (Nat → Int32) × (Nat → Int32))
def WE (e n p cm c0 : Nat) (xk0 xl0 xr0 hold0 risk0 risks0 en0 to0 sy0 pl0 : Nat → Int32) (X : CW) (M : MW) : Prop :=
  ∃ c q xk xl xr held dv ds ek nu ep es mk ml mr hold risk risks en to sy pl, X = some (xk, xl, xr, nI c, held, dv, ds, nI q, ek, nu, ep, es) ∧ M = some (mk, ml, mr, nI c, hold, risk, risks, en, to, sy, pl) ∧
    c0 ≤ c ∧ c ≤ cm ∧ SR c xk xl xr mk ml mr ∧ Old c0 xk0 xl0 xr0 xk xl xr ∧ HS c (5 * p) held hold ∧ q ≤ 20 ∧ RK p q dv ds risk risks ∧ ER e n p ek nu ep es en to sy pl ∧ HKeep p hold0 hold ∧ RKeep p risk0 risks0 risk risks ∧ EKeep p en0 to0 sy0 pl0 en to sy pl
theorem WE.back {e n p cm c0 c1 : Nat} {xk0 xl0 xr0 hold0 risk0 risks0 en0 to0 sy0 pl0 xk1 xl1 xr1 hold1 risk1 risks1 en1 to1 sy1 pl1 : Nat → Int32} {X : CW} {M : MW} (h : WE e n p cm c1 xk1 xl1 xr1 hold1 risk1 risks1 en1 to1 sy1 pl1 X M)
    (hc : c0 ≤ c1) (hO : Old c0 xk0 xl0 xr0 xk1 xl1 xr1) (hH : HKeep p hold0 hold1) (hR : RKeep p risk0 risks0 risk1 risks1) (hE : EKeep p en0 to0 sy0 pl0 en1 to1 sy1 pl1) : WE e n p cm c0 xk0 xl0 xr0 hold0 risk0 risks0 en0 to0 sy0 pl0 X M := by
  obtain ⟨c, q, xk, xl, xr, held, dv, ds, ek, nu, ep, es, mk, ml, mr, hold, risk, risks, en, to, sy, pl, h1, h2, h3, h4, h5, h6, h7, h8, h9, h10, h11, h12, h13⟩ := h
  exact ⟨c, q, xk, xl, xr, held, dv, ds, ek, nu, ep, es, mk, ml, mr, hold, risk, risks, en, to, sy, pl, h1, h2, by omega, h4, h5, hO.tr hc h6, h7, h8, h9, h10, hH.tr h11, hR.tr h12, hE.tr h13⟩
section WLOOP
variable {n p e la : Nat} {op d a b code I F : Nat → Int32}
theorem lt8 {o d a b : Int32} (h : Nm o d a b) : (o < 8 ∧ ¬ o = 8 ∧ ¬ o = 9 ∧ ¬ o = 10) ∨ (¬ o < 8 ∧ (o = 8 ∨ o = 9 ∨ o = 10)) := by
  rcases h with ⟨rfl, -⟩ | ⟨rfl, -⟩ | ⟨rfl, -⟩ | ⟨rfl, -⟩ | ⟨rfl, -⟩ | ⟨rfl, -⟩ | ⟨rfl, -⟩ | ⟨rfl, -⟩ | ⟨rfl, -⟩ | ⟨rfl, -⟩ | ⟨rfl, -⟩ <;> decide
theorem walk_loop (hn : n ≤ 20) (hp : p ≤ 1) (hC : CR n op d a b code (80 * p)) (hJ : JM n op a b) (hne : n ≤ e) (hEE : ∀ i, i < n → ¬ op i = 8 → ¬ op i = 10 → i + 1 < e) (hla : la < n) {cm : Nat} (hcm : cm ≤ 45) (fr fr' : Int32) :
    ∀ (m i k k' c q : Nat) (xk xl xr held dv ds mk ml mr hold risk risks en to sy pl : Nat → Int32) (e0 e1 e2 e3 : Int32), i + m = la + 1 → m < k → m + 1 < k' → c + m ≤ cm → q + m ≤ 20 → en p = 0 → (i = la + 1 → la + 1 < e) → SR c xk xl xr mk ml mr → HS c (5 * p) held hold → RK p q dv ds risk risks →
    WE e n p cm c xk xl xr hold risk risks en to sy pl (f_Walk_goThrough_3 fr (nI la) op d a b k (nI i) xk xl xr (nI c) held dv ds (nI q) e0 e1 e2 e3) (f_BlockCodeModel_walk_89 (nI p) fr' (nI (la + 1)) code I F k' (nI (5 * p)) (nI i) mk ml mr (nI c) hold risk risks en to sy pl) := by
  intro m
  induction m with
  | zero =>
    intro i k k' c q xk xl xr held dv ds mk ml mr hold risk risks en to sy pl e0 e1 e2 e3 e h1 h2 hc hq hE hB hS hH hR
    obtain ⟨k, rfl⟩ : ∃ x, k = x + 1 := ⟨k - 1, by omega⟩
    obtain ⟨k', rfl⟩ : ∃ x, k' = x + 1 := ⟨k' - 1, by omega⟩
    have e' : i = la + 1 := by omega
    subst e'
    have z12 : (if (1 : Int32) = 2 then (0 : Int32) else 0) = 0 := by decide
    refine ⟨c, q, xk, xl, xr, held, dv, ds, 8, nI (la + 1), 0, 0, mk, ml, mr, hold, risk, risks, upd en p 1, upd to p (nI (la + 1)), upd sy p 0, pl, ?_, ?_, by omega, by omega, hS, Old.rfl', hH, by omega, hR, Or.inl ⟨la + 1, hB rfl, rfl, rfl, rfl, rfl, upd_s, upd_s, upd_s⟩, fun _ _ => rfl, RKeep.rfl', fun x hx => ⟨upd_n hx, upd_n hx, upd_n hx, rfl⟩⟩
    · rw [f_Walk_goThrough_3, if_pos (nI_lt (by omega) (by omega))]
      simp only [f_Walk_endBy, Option.bind_some, p1']
    · rw [f_BlockCodeModel_walk_89, if_pos (Int32.le_refl _)]
      unfold f_BlockCodeModel_walk_386
      rw [r2 hp, Option.bind_some, if_pos hE, leave_n hp, Option.bind_some, z12]
  | succ m ih =>
    intro i k k' c q xk xl xr held dv ds mk ml mr hold risk risks en to sy pl e0 e1 e2 e3 e' h1 h2 hc hq hE hB hS hH hR
    obtain ⟨k, rfl⟩ : ∃ x, k = x + 1 := ⟨k - 1, by omega⟩
    obtain ⟨k', rfl⟩ : ∃ x, k' = x + 2 := ⟨k' - 2, by omega⟩
    have hi : i < n := by omega
    rw [f_Walk_goThrough_3, if_neg (nI_nlt (show i ≤ la by omega) (by omega)), r20 (by omega), Option.bind_some]
    rcases lt8 (hC i hi).2 with ⟨l, o8, o9, o10⟩ | ⟨l, ho⟩
    · obtain ⟨c', q', xk', xl', xr', mk', ml', mr', held', hold', dv', ds', risk', risks', t1, t2, t3, t4, t5, t6, t7, t8, t9, t10, t11, t12⟩ := w_step (I := I) (F := F) (fr := fr') (to := to) (sy := sy) (pl := pl) hn hp hC hi (show i < la + 1 by omega) (by omega) hE (show c < 45 by omega) (show q < 20 by omega) hS hH hR o8 o9 o10
      rw [if_pos l, t1, Option.bind_some]
      simp only []
      rw [t2, Option.bind_some]
      simp only [p1']
      rw [t3]
      exact (ih (i + 1) k (k' + 1) c' q' xk' xl' xr' held' dv' ds' mk' ml' mr' hold' risk' risks' en to sy (upd pl p (nI i)) e0 e1 e2 e3 (by omega) (by omega) (by omega) (by omega) (by omega) hE (fun z => by rw [← z]; exact hEE i hi o8 o10) t6 t8 t10).back t4 t7 t12 t11 (fun x hx => ⟨rfl, rfl, rfl, upd_n hx⟩)
    · obtain ⟨ek, nu, ep, es, en', to', sy', pl', t1, t2, t3, t4⟩ := w_end (e := e) (I := I) (F := F) (fr := fr') (risk := risk) (risks := risks) (to := to) (sy := sy) (pl := pl) hn hp hC hJ hne hi (show i < la + 1 by omega) (by omega) hE (show c ≤ 45 by omega) hS hH (fun z => hEE i hi (by rw [z]; decide) (by rw [z]; decide)) ho e0 e1 e2 e3
      rw [if_neg l, t1, Option.bind_some, t2]
      exact ⟨c, q, xk, xl, xr, held, dv, ds, ek, nu, ep, es, mk, ml, mr, hold, risk, risks, en', to', sy', pl', rfl, rfl, by omega, by omega, hS, Old.rfl', hH, by omega, hR, t3, fun _ _ => rfl, RKeep.rfl', t4⟩
end WLOOP
section BEGIN
variable {p f : Nat} {B : Nat → Int64} {I F : Nat → Int32}
/-- what a block begins with -/
def QK (I F : Nat → Int32) (f r : Nat) : Int32 := if I (5 * f + r) = 0 then 0 else 1
def QV (I F : Nat → Int32) (f r : Nat) : Int32 := if I (5 * f + r) = 0 then nI r else F (5 * f + r)
def QH (I F : Nat → Int32) (f c : Nat) (xk xl xr : Nat → Int32) (r : Nat) : Prop := ∃ t, t < c ∧ hit xk xl xr (QK I F f r) (QV I F f r) 0 t
theorem QH.mono {c c' r : Nat} {xk xl xr xk' xl' xr' : Nat → Int32} (h : QH I F f c xk xl xr r) (hc : c ≤ c') (hO : Old c xk xl xr xk' xl' xr') : QH I F f c' xk' xl' xr' r := by
  obtain ⟨t, t1, t2, t3, t4⟩ := h
  obtain ⟨o1, o2, o3⟩ := hO t t1
  exact ⟨t, by omega, o1.trans t2, o2.trans t3, o3.trans t4⟩
abbrev CB := Option ((Nat → Int32) × (Nat → Int32) × (Nat → Int32) × Int32 × (Nat → Int32) × Int32)
def BE (p f cm c0 : Nat) (I F : Nat → Int32) (xk0 xl0 xr0 hold0 : Nat → Int32) (X : CB) (M : (Nat → Int32) → (Nat → Int32) → (Nat → Int32) → Int32 → (Nat → Int32) → Prop) : Prop :=
  ∃ c xk xl xr held mk ml mr hold, X = some (xk, xl, xr, nI c, held, 0) ∧ M mk ml mr (nI c) hold ∧ c0 ≤ c ∧ c ≤ cm ∧ SR c xk xl xr mk ml mr ∧ Old c0 xk0 xl0 xr0 xk xl xr ∧ HS c (5 * p) held hold ∧ HKeep p hold0 hold ∧ ∀ r, r < 5 → QH I F f c xk xl xr r
theorem known_loop (hp : p ≤ 1) (hf : f < 20) (hB : ∀ q, q < 5 → bz (I (5 * f + q)) ∧ B (5 * f + q) = enc (I (5 * f + q)) (F (5 * f + q))) {cm : Nat} (hcm : cm < 45) (bh : Int32) (code risk risks en to sy pl : Nat → Int32) :
    ∀ (m r k k' c : Nat) (xk xl xr mk ml mr held hold : Nat → Int32), r + m = 5 → m < k → m < k' → c ≤ cm → (c + m ≤ cm ∨ ∀ q, q < 5 → QH I F f c xk xl xr q) → SR c xk xl xr mk ml mr → (∀ q, q < r → ∃ s, s < c ∧ held q = nI s ∧ hold (5 * p + q) = nI s) → (∀ q, q < r → QH I F f c xk xl xr q) →
    BE p f cm c I F xk xl xr hold (f_Walk_beginKnown_7 (nI f) B k (nI r) xk xl xr (nI c) held 0) (fun mk' ml' mr' mc' hold' => f_BlockCodeModel_walk_22 (nI p) (nI f) bh code I F k' (nI (5 * p)) (nI r) mk ml mr (nI c) hold risk risks en to sy pl = f_BlockCodeModel_walk_89 (nI p) (nI f) bh code I F fu (nI (5 * p)) (nI f) mk' ml' mr' mc' hold' risk risks en to sy pl) := by
  intro m
  induction m with
  | zero =>
    intro r k k' c xk xl xr mk ml mr held hold e h1 h2 hc hcc hS hH hQ
    obtain ⟨k, rfl⟩ : ∃ x, k = x + 1 := ⟨k - 1, by omega⟩
    obtain ⟨k', rfl⟩ : ∃ x, k' = x + 1 := ⟨k' - 1, by omega⟩
    have e' : r = 5 := by omega
    subst e'
    refine ⟨c, xk, xl, xr, held, mk, ml, mr, hold, ?_, ?_, by omega, hc, hS, Old.rfl', hH, fun _ _ => rfl, hQ⟩
    · rw [f_Walk_beginKnown_7, if_pos (by decide)]
    · rw [f_BlockCodeModel_walk_22, if_pos (by decide)]
  | succ m ih =>
    intro r k k' c xk xl xr mk ml mr held hold e h1 h2 hc hcc hS hH hQ
    obtain ⟨k, rfl⟩ : ∃ x, k = x + 1 := ⟨k - 1, by omega⟩
    obtain ⟨k', rfl⟩ : ∃ x, k' = x + 1 := ⟨k' - 1, by omega⟩
    have hr : r < 5 := by omega
    obtain ⟨s, c', xk', xl', xr', mk', ml', mr', s1, s2, s3, s4, s5, s6, s7, s8, s9⟩ := sym_ask (show c < 45 by omega) hS (QK I F f r) (QV I F f r) 0
    have hc' : c' ≤ cm ∧ (c' + m ≤ cm ∨ ∀ q, q < 5 → QH I F f c' xk' xl' xr' q) := by
      rcases hcc with w | w
      · exact ⟨by omega, Or.inl (by omega)⟩
      · have ec := s9 (w r hr)
        exact ⟨by omega, Or.inr (fun q hq => (w q hq).mono s4 s7)⟩
    have go := ih (r + 1) k k' c' xk' xl' xr' mk' ml' mr' (upd held r (nI s)) (upd hold (5 * p + r) (nI s)) (by omega) (by omega) (by omega) hc'.1 hc'.2 s6 (fun q hq => by
      by_cases w : q = r
      · subst w; exact ⟨s, s3, upd_s, upd_s⟩
      · obtain ⟨t, t1, t2, t3⟩ := hH q (by omega)
        exact ⟨t, by omega, by rw [upd_n w]; exact t2, by rw [upd_n (by omega)]; exact t3⟩) (fun q hq => by
      by_cases w : q = r
      · subst w; exact ⟨s, s3, s8⟩
      · exact (hQ q (by omega)).mono s4 s7)
    have c1 : f_Walk_beginKnown_7 (nI f) B (k + 1) (nI r) xk xl xr (nI c) held 0 = f_Walk_beginKnown_7 (nI f) B k (nI (r + 1)) xk' xl' xr' (nI c') (upd held r (nI s)) 0 := by
      rw [f_Walk_beginKnown_7, if_neg (ge5 hr), at_n hf hr, Option.bind_some, (hB r hr).2, isInt_enc, Option.bind_some]
      by_cases z : I (5 * f + r) = 0
      · rw [if_pos z, if_pos rfl]
        rw [QK, QV, if_pos z, if_pos z] at s1
        rw [of_reg s1, Option.bind_some]
        simp only [f_Walk_beginKnown_54, w5 hr, Option.bind_some, p1']
      · rw [if_neg z, if_neg n10, encI z]
        rw [QK, QV, if_neg z, if_neg z] at s1
        rw [of_int s1, Option.bind_some]
        simp only [f_Walk_beginKnown_54, w5 hr, Option.bind_some, p1']
    have m1 : f_BlockCodeModel_walk_22 (nI p) (nI f) bh code I F (k' + 1) (nI (5 * p)) (nI r) mk ml mr (nI c) hold risk risks en to sy pl = f_BlockCodeModel_walk_22 (nI p) (nI f) bh code I F k' (nI (5 * p)) (nI (r + 1)) mk' ml' mr' (nI c') (upd hold (5 * p + r) (nI s)) risk risks en to sy pl := by
      rw [f_BlockCodeModel_walk_22, if_neg (ge5 hr), m5', nI_add, nI_add, r105 (by omega), r105 (by omega), Option.bind_some, Option.bind_some]
      by_cases z : I (5 * f + r) = 0
      · rw [if_pos z]
        rw [QK, QV, if_pos z, if_pos z] at s2
        rw [s2, Option.bind_some]
        simp only [f_BlockCodeModel_walk_79, w10 (show 5 * p + r < 10 by omega), Option.bind_some, p1']
      · rw [if_neg z]
        rw [QK, QV, if_neg z, if_neg z] at s2
        rw [s2, Option.bind_some]
        simp only [f_BlockCodeModel_walk_79, w10 (show 5 * p + r < 10 by omega), Option.bind_some, p1']
    rw [c1]
    simp only [m1]
    obtain ⟨c2, xk2, xl2, xr2, held2, mk2, ml2, mr2, hold2, g1, g2, g3, g4, g5, g6, g7, g8, g9⟩ := go
    exact ⟨c2, xk2, xl2, xr2, held2, mk2, ml2, mr2, hold2, g1, g2, by omega, g4, g5, s7.tr s4 g6, g7, (HKeep.upd hr _).tr g8, g9⟩
end BEGIN
