/-! ===== compare: symbols of a walk, risks ===== -/
def Old (c : Nat) (xk xl xr xk' xl' xr' : Nat → Int32) : Prop := ∀ t, t < c → xk' t = xk t ∧ xl' t = xl t ∧ xr' t = xr t
theorem Old.rfl' {c : Nat} {xk xl xr : Nat → Int32} : Old c xk xl xr xk xl xr := fun _ _ => ⟨rfl, rfl, rfl⟩
theorem Old.tr {c c' : Nat} {xk xl xr xk' xl' xr' yk yl yr : Nat → Int32} (h : Old c xk xl xr xk' xl' xr') (hc : c ≤ c') (h' : Old c' xk' xl' xr' yk yl yr) : Old c xk xl xr yk yl yr := fun t ht => by
  obtain ⟨a1, a2, a3⟩ := h t ht
  obtain ⟨b1, b2, b3⟩ := h' t (by omega)
  exact ⟨b1.trans a1, b2.trans a2, b3.trans a3⟩
theorem least_hit (xk xl xr : Nat → Int32) (p1 p2 p3 : Int32) : ∀ (t : Nat), hit xk xl xr p1 p2 p3 t → ∃ s, s ≤ t ∧ hit xk xl xr p1 p2 p3 s ∧ ∀ u, u < s → ¬ hit xk xl xr p1 p2 p3 u := by
  intro t
  induction t using Nat.strongRecOn with
  | _ t ih =>
    intro h
    by_cases w : ∃ u, u < t ∧ hit xk xl xr p1 p2 p3 u
    · obtain ⟨u, u1, u2⟩ := w
      obtain ⟨s, s1, s2, s3⟩ := ih u u1 u2
      exact ⟨s, by omega, s2, s3⟩
    · exact ⟨t, Nat.le_refl _, h, fun u hu q => w ⟨u, hu, q⟩⟩
theorem sym_ask {c : Nat} (hc : c < 45) {xk xl xr mk ml mr : Nat → Int32} (h : SR c xk xl xr mk ml mr) (p1 p2 p3 : Int32) :
    ∃ s c' xk' xl' xr' mk' ml' mr', f_Symbols_numberOf p1 p2 p3 xk xl xr (nI c) = some (nI s, xk', xl', xr', nI c') ∧ f_BlockCodeModel_symbolOf p1 p2 p3 mk ml mr (nI c) = some (nI s, mk', ml', mr', nI c') ∧ s < c' ∧ c ≤ c' ∧ c' ≤ c + 1 ∧ SR c' xk' xl' xr' mk' ml' mr' ∧
      Old c xk xl xr xk' xl' xr' ∧ hit xk' xl' xr' p1 p2 p3 s ∧ ((∃ t, t < c ∧ hit xk xl xr p1 p2 p3 t) → c' = c) := by
  obtain ⟨s, c', xk', xl', xr', mk', ml', mr', s1, s2, s3, s4, s5, s6, s7, s8, s9⟩ := sym_eq hc h p1 p2 p3
  refine ⟨s, c', xk', xl', xr', mk', ml', mr', s1, s2, s3, s4, s5, s6, s9, s7, fun ⟨t, t1, t2⟩ => ?_⟩
  obtain ⟨u, u1, u2, u3⟩ := least_hit xk xl xr p1 p2 p3 t t2
  have := sym_again (show c ≤ 45 by omega) (show u < c by omega) u2 u3 u 0 fu (by omega) (fuN (by omega))
  rw [nI0] at this
  have e : some (nI u, xk, xl, xr, nI c) = some (nI s, xk', xl', xr', nI c') := this.symm.trans s1
  injection e with e
  injection e with e1 e
  injection e with e2 e
  injection e with e3 e
  injection e with e4 e5
  exact ((nI_eq (by omega) (by omega)).mp e5).symm
/-! risks -/
def RK (p q : Nat) (dv ds risk risks : Nat → Int32) : Prop := risks p = nI q ∧ ∀ k, k < q → risk (40 * p + 2 * k) = dv k ∧ risk (40 * p + 2 * k + 1) = ds k
def rh (x y : Int32) (dv ds : Nat → Int32) : Nat → Nat → Bool
  | 0, _ => false
  | m + 1, j => decide (dv j = x ∧ ds j = y) || rh x y dv ds m (j + 1)
theorem c_rh {q : Nat} (hq : q ≤ 20) (x y : Int32) (dv ds : Nat → Int32) : ∀ (m j k : Nat), j + m = q → m < k → f_Walk_hasRisk_2 x y dv ds (nI q) k (nI j) = some (if rh x y dv ds m j then 1 else 0) := by
  intro m
  induction m with
  | zero =>
    intro j k e hk
    obtain ⟨k, rfl⟩ : ∃ z, k = z + 1 := ⟨k - 1, by omega⟩
    have e' : j = q := by omega
    subst e'
    rw [f_Walk_hasRisk_2, if_pos (Int32.le_refl _)]; rfl
  | succ m ih =>
    intro j k e hk
    obtain ⟨k, rfl⟩ : ∃ z, k = z + 1 := ⟨k - 1, by omega⟩
    have go := ih (j + 1) k (by omega) (by omega)
    rw [f_Walk_hasRisk_2, if_neg (nI_ge (show j < q by omega) (by omega)), r20 (by omega), r20 (by omega)]
    simp only [Option.bind_some, f_Walk_hasRisk_32, p1', rh]
    by_cases w1 : dv j = x
    · by_cases w2 : ds j = y
      · simp [w1, w2]
      · simp [w1, w2, go]
    · simp [w1, go]
theorem r80 {f : Nat → Int32} {i : Nat} (h : i < 80) : rdI f 80 (nI i) = some (f i) := rdI_n h (by decide)
theorem w80 {f : Nat → Int32} {i : Nat} {x : Int32} (h : i < 80) : wrI f 80 (nI i) x = some (upd f i x) := wrI_n h (by decide)
theorem r2 {f : Nat → Int32} {i : Nat} (h : i ≤ 1) : rdI f 2 (nI i) = some (f i) := rdI_n (by omega) (by decide)
theorem w2 {f : Nat → Int32} {i : Nat} {x : Int32} (h : i ≤ 1) : wrI f 2 (nI i) x = some (upd f i x) := wrI_n (by omega) (by decide)
theorem m40' (a : Nat) : (40 : Int32) * nI a = nI (40 * a) := by rw [show (40 : Int32) = nI 40 by decide, pk_mul]
theorem m2' (a : Nat) : (2 : Int32) * nI a = nI (2 * a) := by rw [show (2 : Int32) = nI 2 by decide, pk_mul]
theorem m_rh {p q : Nat} (hp : p ≤ 1) (hq : q < 20) (o x y : Int32) {dv ds risk risks : Nat → Int32} (hR : RK p q dv ds risk risks) (mk ml mr : Nat → Int32) (mc : Int32) : ∀ (m j k : Nat) (g : Bool), j + m = q → m < k →
    f_BlockCodeModel_made_72 (nI p) o x y k 0 (if g then 1 else 0) (nI q) (nI j) mk ml mr mc risk risks =
      (if (g || rh x y dv ds m j) then f_BlockCodeModel_made_175 (nI p) o x y 0 mk ml mr mc risk risks else f_BlockCodeModel_made_175 (nI p) o x y 0 mk ml mr mc (upd (upd risk (40 * p + 2 * q) x) (40 * p + 2 * q + 1) y) (upd risks p (nI (q + 1)))) := by
  intro m
  induction m with
  | zero =>
    intro j k g e hk
    obtain ⟨k, rfl⟩ : ∃ z, k = z + 1 := ⟨k - 1, by omega⟩
    have e' : j = q := by omega
    subst e'
    rw [f_BlockCodeModel_made_72, if_pos (Int32.le_refl _)]
    simp only [m40', m2', nI_add, p1', w80 (show 40 * p + 2 * j < 80 by omega), w80 (show 40 * p + 2 * j + 1 < 80 by omega), w2 hp, Option.bind_some, rh, Bool.or_false]
    cases g
    · simp
    · simp [n10]
  | succ m ih =>
    intro j k g e hk
    obtain ⟨k, rfl⟩ : ∃ z, k = z + 1 := ⟨k - 1, by omega⟩
    obtain ⟨e1, e2⟩ := hR.2 j (by omega)
    rw [f_BlockCodeModel_made_72, if_neg (nI_ge (show j < q by omega) (by omega))]
    simp only [m40', m2', nI_add, p1', r80 (show 40 * p + 2 * j < 80 by omega), r80 (show 40 * p + 2 * j + 1 < 80 by omega), Option.bind_some, e1, e2, f_BlockCodeModel_made_121, rh]
    by_cases w1 : dv j = x
    · by_cases w2 : ds j = y
      · have go := ih (j + 1) k true (by omega) (by omega)
        simp only [if_true, Bool.true_or] at go
        simp [w1, w2]; exact go
      · have go := ih (j + 1) k g (by omega) (by omega)
        simp [w1, w2]; simpa using go
    · have go := ih (j + 1) k g (by omega) (by omega)
      simp [w1]; simpa using go
/-- the class's note of a risk, spoken of by the two symbols -/
def nrk (o x y : Int32) (xk xl dv ds : Nat → Int32) (q : Int32) : Option ((Nat → Int32) × (Nat → Int32) × Int32) :=
  if o = 6 then (f_Symbols_holdsInt y xk).bind fun rz6 => if rz6 = 0 then f_Walk_noteRisk_62 0 xk xl dv dv dv dv x y dv ds q else (f_Symbols_intOf y xl).bind fun rz7 => if rz7 = 0 then f_Walk_noteRisk_62 0 xk xl dv dv dv dv x y dv ds q else some (dv, ds, q) else some (dv, ds, q)
def RKeep (p : Nat) (risk risks risk' risks' : Nat → Int32) : Prop := (∀ x, (x < 40 * p ∨ 40 * p + 40 ≤ x) → risk' x = risk x) ∧ ∀ x, x ≠ p → risks' x = risks x
theorem RKeep.rfl' {p : Nat} {risk risks : Nat → Int32} : RKeep p risk risks risk risks := ⟨fun _ _ => rfl, fun _ _ => rfl⟩
theorem RKeep.tr {p : Nat} {a1 a2 b1 b2 c1 c2 : Nat → Int32} (h : RKeep p a1 a2 b1 b2) (h' : RKeep p b1 b2 c1 c2) : RKeep p a1 a2 c1 c2 := ⟨fun x hx => (h'.1 x hx).trans (h.1 x hx), fun x hx => (h'.2 x hx).trans (h.2 x hx)⟩
theorem r45 {f : Nat → Int32} {i : Nat} (h : i < 45) : rdI f 45 (nI i) = some (f i) := rdI_n h (by decide)
theorem r120 {f : Nat → Int32} {i : Nat} (h : i < 120) : rdI f 120 (nI i) = some (f i) := rdI_n h (by decide)
section MADET
variable {p q c sx sy : Nat} {o : Int32} {xk xl xr mk ml mr dv ds risk risks : Nat → Int32}
def MTwo (p q c sx sy : Nat) (o : Int32) (xk xl xr mk ml mr dv ds risk risks : Nat → Int32) : Prop :=
  ∃ s c' q' xk' xl' xr' mk' ml' mr' dv' ds' risk' risks', f_Symbols_ofOpFolded o (nI sx) (nI sy) xk xl xr (nI c) = some (nI s, xk', xl', xr', nI c') ∧ nrk o (nI sx) (nI sy) xk xl dv ds (nI q) = some (dv', ds', nI q') ∧
    f_BlockCodeModel_made (nI p) o (nI sx) (nI sy) mk ml mr (nI c) risk risks = some (nI s, mk', ml', mr', nI c', risk', risks') ∧
    s < c' ∧ c ≤ c' ∧ c' ≤ c + 1 ∧ SR c' xk' xl' xr' mk' ml' mr' ∧ Old c xk xl xr xk' xl' xr' ∧ q' ≤ q + 1 ∧ RK p q' dv' ds' risk' risks' ∧ RKeep p risk risks risk' risks'
theorem hold_int {s : Nat} (hs : s < 45) (k : Nat → Int32) : f_Symbols_holdsInt (nI s) k = some (if k s = 1 then 1 else 0) := by
  unfold f_Symbols_holdsInt; rw [r45 hs, Option.bind_some]; split <;> rfl
theorem int_of {s : Nat} (hs : s < 45) (l : Nat → Int32) : f_Symbols_intOf (nI s) l = some (l s) := by
  unfold f_Symbols_intOf; rw [r45 hs, Option.bind_some]
/-- the risk is noted alike -/
theorem risk_two (hp : p ≤ 1) (hq : q < 20) (x y : Int32) (hR : RK p q dv ds risk risks) (xk xl mk ml mr a1 a2 a3 a4 : Nat → Int32) (mc p2 : Int32) : ∃ q' dv' ds' risk' risks', f_Walk_noteRisk_62 p2 xk xl a1 a2 a3 a4 x y dv ds (nI q) = some (dv', ds', nI q') ∧
    f_BlockCodeModel_made_55 (nI p) 6 x y mk ml mr mc risk risks = f_BlockCodeModel_made_175 (nI p) 6 x y 0 mk ml mr mc risk' risks' ∧ q' ≤ q + 1 ∧ RK p q' dv' ds' risk' risks' ∧ RKeep p risk risks risk' risks' := by
  have h1 := c_rh (show q ≤ 20 by omega) x y dv ds q 0 fu (by omega) (fuN (by omega))
  have h2 := m_rh hp hq 6 x y hR mk ml mr mc q 0 fu false (by omega) (fuN (by omega))
  rw [nI0] at h1 h2
  simp only [Bool.false_or, Bool.false_eq_true, if_false] at h2
  have h3 : f_BlockCodeModel_made_55 (nI p) 6 x y mk ml mr mc risk risks = f_BlockCodeModel_made_72 (nI p) 6 x y fu 0 0 (nI q) 0 mk ml mr mc risk risks := by
    unfold f_BlockCodeModel_made_55; rw [r2 hp, Option.bind_some, hR.1]
  have h4 : f_Walk_hasRisk x y dv ds (nI q) = some (if rh x y dv ds q 0 then 1 else 0) := h1
  rw [h3, h2]
  unfold f_Walk_noteRisk_62
  rw [h4, Option.bind_some]
  by_cases w : rh x y dv ds q 0 = true
  · refine ⟨q, dv, ds, risk, risks, ?_, ?_, by omega, hR, RKeep.rfl'⟩
    · rw [if_pos w, if_neg n10]
    · rw [if_pos w]
  · refine ⟨q + 1, upd dv q x, upd ds q y, upd (upd risk (40 * p + 2 * q) x) (40 * p + 2 * q + 1) y, upd risks p (nI (q + 1)), ?_, ?_, by omega, ⟨upd_s, fun k hk => ?_⟩, ⟨fun z hz => ?_, fun z hz => upd_n hz⟩⟩
    · rw [if_neg w, if_pos rfl, w20 hq, Option.bind_some, w20 hq, Option.bind_some, p1']
    · rw [if_neg w]
    · by_cases e : k = q
      · subst e
        rw [upd_n (by omega), upd_s, upd_s, upd_s, upd_s]; exact ⟨rfl, rfl⟩
      · obtain ⟨g1, g2⟩ := hR.2 k (by omega)
        refine ⟨?_, ?_⟩
        · rw [upd_n (by omega), upd_n (by omega), upd_n e]; exact g1
        · rw [upd_n (by omega), upd_n (by omega), upd_n e]; exact g2
    · rw [upd_n (by omega), upd_n (by omega)]
theorem made_two (hp : p ≤ 1) (hq : q < 20) (hc : c < 45) (hS : SR c xk xl xr mk ml mr) (hx : sx < c) (hy : sy < c) (ho : o = 3 ∨ o = 4 ∨ o = 5 ∨ o = 6 ∨ o = 7) (hR : RK p q dv ds risk risks) : MTwo p q c sx sy o xk xl xr mk ml mr dv ds risk risks := by
  obtain ⟨kx, lx, -⟩ := hS sx hx
  obtain ⟨ky, ly, -⟩ := hS sy hy
  have hx' : sx < 45 := by omega
  have hy' : sy < 45 := by omega
  by_cases rk : o = 6 ∧ (¬ xk sy = 1 ∨ xl sy = 0)
  · obtain ⟨rfl, rk⟩ := rk
    obtain ⟨q', dv', ds', risk', risks', t1, t2, t3, t4, t5⟩ := risk_two hp hq (nI sx) (nI sy) hR xk xl mk ml mr dv dv dv dv (nI c) 0
    obtain ⟨s, c', xk', xl', xr', mk', ml', mr', s1, s2, s3, s4, s5, s6, s7, -, -⟩ := sym_ask hc hS 6 (nI sx) (nI sy)
    refine ⟨s, c', q', xk', xl', xr', mk', ml', mr', dv', ds', risk', risks', ?_, ?_, ?_, s3, s4, s5, s6, s7, t3, t4, t5⟩
    · have f28 : f_Symbols_ofOpFolded_28 6 (nI sx) (nI sy) xk xl xr (nI c) = some (nI s, xk', xl', xr', nI c') := by unfold f_Symbols_ofOpFolded_28; rw [s1]; rfl
      unfold f_Symbols_ofOpFolded
      rw [hold_int hx', Option.bind_some, hold_int hy', int_of hy']
      by_cases w : xk sx = 1
      · rw [if_pos w, if_neg n10, Option.bind_some]
        by_cases k1 : xk sy = 1
        · have l0 : xl sy = 0 := rk.resolve_left (fun w => w k1)
          rw [if_pos k1, if_neg n10, Option.bind_some, l0, show f_BlockCode_dividesByZero 6 0 = some 1 by decide, Option.bind_some, if_neg n10]
          exact f28
        · rw [if_neg k1, if_pos rfl]; exact f28
      · rw [if_neg w, if_pos rfl]; exact f28
    · unfold nrk
      rw [if_pos rfl, hold_int hy', int_of hy']
      simp only [Option.bind_some]
      by_cases w : xk sy = 1
      · rw [if_pos w, if_neg n10, if_pos (rk.resolve_left (fun z => z w)), t1]
      · rw [if_neg w, if_pos rfl, t1]
    · have m55 : f_BlockCodeModel_made_55 (nI p) 6 (nI sx) (nI sy) mk ml mr (nI c) risk risks = some (nI s, mk', ml', mr', nI c', risk', risks') := by
        rw [t2]; unfold f_BlockCodeModel_made_175; rw [if_pos rfl, s2]; rfl
      have m26 : ∀ z, f_BlockCodeModel_made_26 (nI p) 6 (nI sx) (nI sy) z mk ml mr (nI c) risk risks = some (nI s, mk', ml', mr', nI c', risk', risks') := by
        intro z
        unfold f_BlockCodeModel_made_26
        rw [if_pos rfl, r120 (by omega), r120 (by omega), ← ky, ← ly, Option.bind_some, Option.bind_some]
        by_cases w : xk sy = 1
        · rw [if_pos w, if_pos (rk.resolve_left (fun z => z w)), m55]
        · rw [if_neg w, m55]
      unfold f_BlockCodeModel_made f_BlockCodeModel_made_25
      rw [r120 (by omega), r120 (by omega), Option.bind_some, Option.bind_some]
      rw [m26, m26]
      (repeat' split) <;> rfl
  · have h6 : o = 6 → xk sy = 1 ∧ ¬ xl sy = 0 := fun w => by
      refine ⟨?_, fun z => rk ⟨w, Or.inr z⟩⟩
      apply Decidable.byContradiction; intro z; exact rk ⟨w, Or.inl z⟩
    have nr : nrk o (nI sx) (nI sy) xk xl dv ds (nI q) = some (dv, ds, nI q) := by
      unfold nrk
      by_cases w : o = 6
      · obtain ⟨z1, z2⟩ := h6 w
        rw [if_pos w, hold_int hy', int_of hy', z1]
        simp only [Option.bind_some, if_true]
        rw [if_neg n10, if_neg z2]
      · rw [if_neg w]
    have m26 : ∀ z, f_BlockCodeModel_made_26 (nI p) o (nI sx) (nI sy) z mk ml mr (nI c) risk risks = f_BlockCodeModel_made_175 (nI p) o (nI sx) (nI sy) z mk ml mr (nI c) risk risks := by
      intro z
      unfold f_BlockCodeModel_made_26
      by_cases w : o = 6
      · obtain ⟨z1, z2⟩ := h6 w
        rw [if_pos w, r120 (by omega), r120 (by omega), ← ky, ← ly, Option.bind_some, Option.bind_some, if_pos z1, if_neg z2]
      · rw [if_neg w]
    by_cases kn : xk sx = 1 ∧ xk sy = 1
    · obtain ⟨k1, k2⟩ := kn
      obtain ⟨v, v1, v2⟩ := val_eq (x := xl sx) (y := xl sy) ho (fun w => (h6 w).2)
      obtain ⟨s, c', xk', xl', xr', mk', ml', mr', s1, s2, s3, s4, s5, s6, s7, -, -⟩ := sym_ask hc hS 1 v 0
      have dz : f_BlockCode_dividesByZero o (xl sy) = some 0 := by
        unfold f_BlockCode_dividesByZero
        by_cases w : o = 6
        · rw [if_pos w, if_neg (h6 w).2]
        · rw [if_neg w]
      refine ⟨s, c', q, xk', xl', xr', mk', ml', mr', dv, ds, risk, risks, ?_, nr, ?_, s3, s4, s5, s6, s7, by omega, hR, RKeep.rfl'⟩
      · unfold f_Symbols_ofOpFolded
        rw [hold_int hx', hold_int hy', int_of hx', int_of hy']
        simp only [Option.bind_some, k1, k2, if_true, n10, if_false, dz, v1, s1]
      · unfold f_BlockCodeModel_made
        rw [r120 (by omega), r120 (by omega), ← kx, ← ky]
        simp only [Option.bind_some, k1, k2, if_true]
        rw [m26]
        unfold f_BlockCodeModel_made_175
        rw [if_neg n10, r120 (by omega), r120 (by omega), ← lx, ← ly]
        simp only [Option.bind_some, v2, s2]
    · obtain ⟨s, c', xk', xl', xr', mk', ml', mr', s1, s2, s3, s4, s5, s6, s7, -, -⟩ := sym_ask hc hS o (nI sx) (nI sy)
      refine ⟨s, c', q, xk', xl', xr', mk', ml', mr', dv, ds, risk, risks, ?_, nr, ?_, s3, s4, s5, s6, s7, by omega, hR, RKeep.rfl'⟩
      · have f28 : f_Symbols_ofOpFolded_28 o (nI sx) (nI sy) xk xl xr (nI c) = some (nI s, xk', xl', xr', nI c') := by unfold f_Symbols_ofOpFolded_28; rw [s1]; rfl
        unfold f_Symbols_ofOpFolded
        rw [hold_int hx', Option.bind_some, hold_int hy']
        by_cases w : xk sx = 1
        · have w2 : ¬ xk sy = 1 := fun z => kn ⟨w, z⟩
          rw [if_pos w, if_neg n10, Option.bind_some, if_neg w2, if_pos rfl, f28]
        · rw [if_neg w, if_pos rfl, f28]
      · have m175 : f_BlockCodeModel_made_175 (nI p) o (nI sx) (nI sy) 0 mk ml mr (nI c) risk risks = some (nI s, mk', ml', mr', nI c', risk, risks) := by
          unfold f_BlockCodeModel_made_175; rw [if_pos rfl, s2]; rfl
        unfold f_BlockCodeModel_made f_BlockCodeModel_made_25
        rw [r120 (by omega), r120 (by omega), ← kx, ← ky, Option.bind_some, Option.bind_some, m26, m26, m175]
        by_cases w : xk sx = 1
        · have w2 : ¬ xk sy = 1 := fun z => kn ⟨w, z⟩
          rw [if_pos w, if_neg w2]
        · rw [if_neg w]
end MADET
