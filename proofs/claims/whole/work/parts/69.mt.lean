/-! ===== compare: a whole walk; are two walks alike? ===== -/
section WALL
variable {n p e la f : Nat} {op d a b code I F : Nat → Int32} {B : Nat → Int64}
theorem walk_all (hn : n ≤ 20) (hp : p ≤ 1) (hC : CR n op d a b code (80 * p)) (hJ : JM n op a b) (hne : n ≤ e) (hEE : ∀ i, i < n → ¬ op i = 8 → ¬ op i = 10 → i + 1 < e) (hla : la < n) (hf : f ≤ la) {cm cb : Nat} (hcb : cb < 45) (hcm : cm ≤ 45) (hcc : cb + 20 ≤ cm)
    (hB : ∀ q, q < 5 → bz (I (5 * f + q)) ∧ B (5 * f + q) = enc (I (5 * f + q)) (F (5 * f + q))) {c : Nat} {xk xl xr mk ml mr : Nat → Int32} (hS : SR c xk xl xr mk ml mr) (hc : c ≤ cb) (hcq : c + 5 ≤ cb ∨ ∀ q, q < 5 → QH I F f c xk xl xr q) (held dv ds hold risk risks en to sy pl : Nat → Int32) (rk e0 e1 e2 e3 : Int32) :
    ∃ c1 xk1 xl1 xr1 held1, f_Walk_beginKnown (nI f) B xk xl xr (nI c) held rk = some (xk1, xl1, xr1, nI c1, held1, 0) ∧ (∀ q, q < 5 → QH I F f c1 xk1 xl1 xr1 q) ∧
      WE e n p cm c1 xk1 xl1 xr1 hold risk risks en to sy pl (f_Walk_goThrough (nI f) (nI la) op d a b xk1 xl1 xr1 (nI c1) held1 dv ds 0 e0 e1 e2 e3) (f_BlockCodeModel_walk (nI p) (nI f) (nI (la + 1)) code I F mk ml mr (nI c) hold risk risks en to sy pl) := by
  have kl := known_loop hp (show f < 20 by omega) hB hcb (nI (la + 1)) code risk (upd risks p 0) (upd en p 0) to sy pl 5 0 fu fu c xk xl xr mk ml mr held hold (by omega) (fuN (by omega)) (fuN (by omega)) hc hcq hS (fun q hq => absurd hq (by omega)) (fun q hq => absurd hq (by omega))
  obtain ⟨c1, xk1, xl1, xr1, held1, mk1, ml1, mr1, hold1, g1, g2, g3, g4, g5, g6, g7, g8, g9⟩ := kl
  rw [nI0] at g1 g2
  refine ⟨c1, xk1, xl1, xr1, held1, g1, g9, ?_⟩
  have wl := walk_loop (I := I) (F := F) hn hp hC hJ hne hEE hla hcm (nI f) (nI f) (la + 1 - f) f fu fu c1 0 xk1 xl1 xr1 held1 dv ds mk1 ml1 mr1 hold1 risk (upd risks p 0) (upd en p 0) to sy pl e0 e1 e2 e3 (by omega) (fuN (by omega)) (fuN (by omega)) (by omega) (by omega) upd_s (fun z => absurd z (by omega)) g5 g7 ⟨by rw [upd_s, nI0], fun k hk => absurd hk (by omega)⟩
  rw [nI0] at wl
  have hm : f_BlockCodeModel_walk (nI p) (nI f) (nI (la + 1)) code I F mk ml mr (nI c) hold risk risks en to sy pl = f_BlockCodeModel_walk_89 (nI p) (nI f) (nI (la + 1)) code I F fu (nI (5 * p)) (nI f) mk1 ml1 mr1 (nI c1) hold1 risk (upd risks p 0) (upd en p 0) to sy pl := by
    unfold f_BlockCodeModel_walk
    rw [w2 hp, Option.bind_some, w2 hp, Option.bind_some, m5']
    exact g2
  rw [hm]
  exact wl.back (Nat.le_refl _) Old.rfl' g8 ⟨fun _ _ => rfl, fun x hx => upd_n hx⟩ (fun x hx => ⟨upd_n hx, rfl, rfl, rfl⟩)
end WALL
section ALIKE
variable {q0 q1 : Nat} {dv0 ds0 dv1 ds1 : Nat → Int32}
def re (dv0 ds0 dv1 ds1 : Nat → Int32) : Nat → Nat → Bool
  | 0, _ => true
  | m + 1, j => decide (dv0 j = dv1 j) && (decide (ds0 j = ds1 j) && re dv0 ds0 dv1 ds1 m (j + 1))
theorem c_re (hq : q0 ≤ 20) (y : Int32) : ∀ (m j k : Nat), j + m = q0 → m < k → f_Walk_hasRisksOf_15 dv0 ds0 (nI q0) dv1 ds1 y k (nI j) = some (if re dv0 ds0 dv1 ds1 m j then 1 else 0) := by
  intro m
  induction m with
  | zero =>
    intro j k e hk
    obtain ⟨k, rfl⟩ : ∃ z, k = z + 1 := ⟨k - 1, by omega⟩
    have e' : j = q0 := by omega
    subst e'
    rw [f_Walk_hasRisksOf_15, if_pos (Int32.le_refl _)]; rfl
  | succ m ih =>
    intro j k e hk
    obtain ⟨k, rfl⟩ : ∃ z, k = z + 1 := ⟨k - 1, by omega⟩
    have go := ih (j + 1) k (by omega) (by omega)
    rw [f_Walk_hasRisksOf_15, if_neg (nI_ge (show j < q0 by omega) (by omega))]
    simp only [r20 (show j < 20 by omega), Option.bind_some, p1', re]
    by_cases w1 : dv0 j = dv1 j
    · by_cases w2 : ds0 j = ds1 j
      · simp [w1, w2, go]
      · simp [w1, w2]
    · simp [w1]
abbrev MA := Option (Int32 × (Nat → Int32) × (Nat → Int32) × (Nat → Int32) × Int32 × (Nat → Int32) × (Nat → Int32) × (Nat → Int32) × (Nat → Int32) × (Nat → Int32) × (Nat → Int32) × (Nat → Int32))
variable {code I F need mk ml mr hold risk risks en to sy pl : Nat → Int32} {f1 b1 size mc : Int32}
theorem m_re (hq : q0 ≤ 20) (h0 : RK 0 q0 dv0 ds0 risk risks) (h1 : RK 1 q0 dv1 ds1 risk risks) : ∀ (m j k : Nat), j + m = q0 → 2 * m < k →
    f_BlockCodeModel_alike_68 f1 b1 code size I F need k (nI (2 * j)) mk ml mr mc hold risk risks en to sy pl = (if re dv0 ds0 dv1 ds1 m j then f_BlockCodeModel_alike_68 f1 b1 code size I F need 1 (nI (2 * q0)) mk ml mr mc hold risk risks en to sy pl else some (0, mk, ml, mr, mc, hold, risk, risks, en, to, sy, pl)) := by
  have rr : rdI risks 2 0 = some (nI q0) := by
    have := r2 (f := risks) (i := 0) (by decide)
    rw [nI0, h0.1] at this; exact this
  intro m
  induction m with
  | zero =>
    intro j k e hk
    obtain ⟨k, rfl⟩ : ∃ z, k = z + 1 := ⟨k - 1, by omega⟩
    have e' : j = q0 := by omega
    subst e'
    rw [show re dv0 ds0 dv1 ds1 0 j = true from rfl, if_pos rfl, f_BlockCodeModel_alike_68, f_BlockCodeModel_alike_68, rr, Option.bind_some, Option.bind_some, m2', if_pos (Int32.le_refl _), if_pos (Int32.le_refl _)]
  | succ m ih =>
    intro j k e hk
    obtain ⟨k, rfl⟩ : ∃ z, k = z + 2 := ⟨k - 2, by omega⟩
    have go := ih (j + 1) k (by omega) (by omega)
    obtain ⟨u1, u2⟩ := h0.2 j (by omega)
    obtain ⟨v1, v2⟩ := h1.2 j (by omega)
    rw [show 40 * 0 + 2 * j = 2 * j by omega] at u1 u2
    rw [show 40 * 1 + 2 * j = 40 + 2 * j by omega] at v1 v2
    rw [f_BlockCodeModel_alike_68, rr, Option.bind_some, m2', if_neg (nI_ge (show 2 * j < 2 * q0 by omega) (by omega)), r80 (by omega), Option.bind_some, show (40 : Int32) = nI 40 by decide, nI_add, r80 (by omega), Option.bind_some, p1', u1, v1]
    simp only [re]
    by_cases w1 : dv0 j = dv1 j
    · rw [if_pos w1, f_BlockCodeModel_alike_68, rr, Option.bind_some, m2', if_neg (nI_ge (show 2 * j + 1 < 2 * q0 by omega) (by omega)), r80 (by omega), Option.bind_some, show (40 : Int32) = nI 40 by decide, nI_add, show 40 + (2 * j + 1) = 40 + 2 * j + 1 by omega, r80 (by omega), Option.bind_some, p1', u2, v2]
      by_cases w2 : ds0 j = ds1 j
      · rw [if_pos w2, show 2 * j + 1 + 1 = 2 * (j + 1) by omega, go]
        simp [w1, w2]
      · rw [if_neg w2]; simp [w2]
    · rw [if_neg w1]; simp [w1]
def hb (x : Int32) (g h : Nat → Int32) : Nat → Nat → Bool
  | 0, _ => true
  | m + 1, r => (decide (((x >>> (nI r &&& 31)) &&& 1) = 0) || decide (g r = h r)) && hb x g h m (r + 1)
theorem c_hb (x : Int32) (g h : Nat → Int32) : ∀ (m r k : Nat), r + m = 5 → m < k → f_Walk_holdsAlike_2 x g h k (nI r) = some (if hb x g h m r then 1 else 0) := by
  intro m
  induction m with
  | zero =>
    intro r k e hk
    obtain ⟨k, rfl⟩ : ∃ z, k = z + 1 := ⟨k - 1, by omega⟩
    have e' : r = 5 := by omega
    subst e'
    rw [f_Walk_holdsAlike_2, if_pos (by decide)]; rfl
  | succ m ih =>
    intro r k e hk
    obtain ⟨k, rfl⟩ : ∃ z, k = z + 1 := ⟨k - 1, by omega⟩
    have hr : r < 5 := by omega
    have go := ih (r + 1) k (by omega) (by omega)
    rw [f_Walk_holdsAlike_2, if_neg (ge5 hr)]
    simp only [f_BlockCode_isIn, f_Walk_holdsAlike_32, r5 hr, Option.bind_some, p1', hb]
    rcases and1 (x >>> (nI r &&& 31)) with w | w
    · simp [w, go]
    · by_cases w2 : g r = h r
      · simp [w, w2, go]
      · simp [w, w2]
theorem m_hb (x : Int32) {g h : Nat → Int32} (hg : ∀ r, r < 5 → hold r = g r) (hh : ∀ r, r < 5 → hold (5 + r) = h r) : ∀ (m r k : Nat), r + m = 5 → m < k →
    f_BlockCodeModel_alike_253 f1 b1 code size I F need k x (nI r) mk ml mr mc hold risk risks en to sy pl = some (if hb x g h m r then 1 else 0, mk, ml, mr, mc, hold, risk, risks, en, to, sy, pl) := by
  intro m
  induction m with
  | zero =>
    intro r k e hk
    obtain ⟨k, rfl⟩ : ∃ z, k = z + 1 := ⟨k - 1, by omega⟩
    have e' : r = 5 := by omega
    subst e'
    rw [f_BlockCodeModel_alike_253, if_pos (by decide)]; rfl
  | succ m ih =>
    intro r k e hk
    obtain ⟨k, rfl⟩ : ∃ z, k = z + 1 := ⟨k - 1, by omega⟩
    have hr : r < 5 := by omega
    have go := ih (r + 1) k (by omega) (by omega)
    rw [f_BlockCodeModel_alike_253, if_neg (ge5 hr), r10 (show r < 10 by omega), show (5 : Int32) = nI 5 by decide, nI_add, r10 (show 5 + r < 10 by omega), Option.bind_some, Option.bind_some, hg r hr, hh r hr]
    simp only [f_BlockCodeModel_alike_290, p1']
    have n01 : ¬ (0 : Int32) = 1 := by decide
    rcases and1 (x >>> (nI r &&& 31)) with w | w
    · have e1 : hb x g h (m + 1) r = hb x g h m (r + 1) := by simp [hb, w]
      rw [e1, w, if_neg n01, go]
    · rw [w, if_pos rfl]
      by_cases w2 : g r = h r
      · have e1 : hb x g h (m + 1) r = hb x g h m (r + 1) := by simp [hb, w2]
        rw [e1, if_pos w2, go]
      · have e1 : hb x g h (m + 1) r = false := by simp [hb, w, w2]
        rw [e1, if_neg w2]; rfl
theorem m_250 (x : Int32) {g h : Nat → Int32} (hg : ∀ r, r < 5 → hold r = g r) (hh : ∀ r, r < 5 → hold (5 + r) = h r) :
    f_BlockCodeModel_alike_250 f1 b1 code size I F need x mk ml mr mc hold risk risks en to sy pl = some (if hb x g h 5 0 then 1 else 0, mk, ml, mr, mc, hold, risk, risks, en, to, sy, pl) := by
  have := m_hb (f1 := f1) (b1 := b1) (code := code) (size := size) (I := I) (F := F) (need := need) (mk := mk) (ml := ml) (mr := mr) (mc := mc) (risk := risk) (risks := risks) (en := en) (to := to) (sy := sy) (pl := pl) x hg hh 5 0 fu (by omega) (fuN (by omega))
  rw [nI0] at this
  exact this
theorem c_holds (x : Int32) (g h : Nat → Int32) : f_Walk_holdsAlike x g h = some (if hb x g h 5 0 then 1 else 0) := by
  have := c_hb x g h 5 0 fu (by omega) (fuN (by omega))
  rw [nI0] at this
  exact this
theorem c_risks (hq : q0 ≤ 20) (hq1 : q1 ≤ 20) : f_Walk_hasRisksOf dv0 ds0 (nI q0) dv1 ds1 (nI q1) = some (if q0 = q1 ∧ re dv0 ds0 dv1 ds1 q0 0 = true then 1 else 0) := by
  have := c_re (dv0 := dv0) (ds0 := ds0) (dv1 := dv1) (ds1 := ds1) hq (nI q1) q0 0 fu (by omega) (fuN (by omega))
  rw [nI0] at this
  unfold f_Walk_hasRisksOf
  by_cases w : q0 = q1
  · rw [if_pos (by rw [w]), this]; simp [w]
  · rw [if_neg (fun z => w ((nI_eq (by omega) (by omega)).mp z)), if_neg (fun z => w z.1)]
end ALIKE
