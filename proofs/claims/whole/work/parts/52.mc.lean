/-! ===== facts: what flows, on the class's side ===== -/
abbrev fANY : Int64 := 4294967296
abbrev fNR : Int64 := 4294967297
theorem lg_eq0 {x y : Int64} : lg_cmp x y = 0 ↔ x = y := by
  unfold lg_cmp
  by_cases h : x > y
  · rw [if_pos h]
    constructor
    · intro q; exact absurd q (by decide)
    · intro q; subst q; exact absurd h (by simp)
  · rw [if_neg h]
    by_cases e : x = y
    · rw [if_pos e]; exact ⟨fun _ => e, fun _ => rfl⟩
    · rw [if_neg e]; exact ⟨fun q => absurd q (by decide), fun q => absurd q e⟩
theorem toL_lt (f : Int32) : f.toInt64 < fANY := by
  rw [Int64.lt_iff_toInt_lt, Int32.toInt_toInt64]
  have h := Int32.toInt_lt f
  have : (fANY).toInt = 4294967296 := by decide
  omega
theorem toL_ne (f : Int32) : ¬ f.toInt64 = fANY := fun e => by have h := toL_lt f; rw [e] at h; exact absurd h (by decide)
theorem toL_nr (f : Int32) : ¬ f.toInt64 = fNR := fun e => by have h := toL_lt f; rw [e] at h; exact absurd h (by decide)
theorem toL_inj {f g : Int32} (h : f.toInt64 = g.toInt64) : f = g := by
  have := congrArg Int64.toInt h
  rw [Int32.toInt_toInt64, Int32.toInt_toInt64] at this
  exact Int32.toInt_inj.mp this
theorem toL_i (f : Int32) : f.toInt64.toInt32 = f := Int32.toInt32_toInt64 f
theorem at_n {i r : Nat} (hi : i < 20) (hr : r < 5) (B : Nat → Int64) : f_Facts_at (nI i) (nI r) B = some (B (5 * i + r)) := by
  unfold f_Facts_at
  rw [show (5 : Int32) = nI 5 by decide, pk_mul, nI_add, rdL_n (show i * 5 + r < 100 by omega) (by decide), Nat.mul_comm]
  rfl
def jn (o w : Int64) : Int64 := if o = fNR then w else if o = w then w else fANY
def flt (t : Nat) (fl : Nat → Int64) (B : Nat → Int64) : Nat → Int64 := fun k => if 5 * t ≤ k ∧ k < 5 * t + 5 then jn (B k) (fl (k - 5 * t)) else B k
def fgr (t : Nat) (fl : Nat → Int64) (B : Nat → Int64) : Nat → Bool
  | 0 => false
  | r + 1 => fgr t fl B r || decide (¬ jn (B (5 * t + r)) (fl r) = B (5 * t + r))
/-- the first r registers have flowed -/
def ftp (t : Nat) (fl : Nat → Int64) (B : Nat → Int64) (r : Nat) : Nat → Int64 := fun k => if 5 * t ≤ k ∧ k < 5 * t + r then jn (B k) (fl (k - 5 * t)) else B k
theorem ftp_step {t : Nat} {fl B : Nat → Int64} {r : Nat} : vp_updL (ftp t fl B r) (5 * t + r) (jn (B (5 * t + r)) (fl r)) = ftp t fl B (r + 1) := by
  funext k
  unfold vp_updL ftp
  by_cases e : k = 5 * t + r
  · subst e
    rw [if_pos rfl, if_pos ⟨by omega, by omega⟩, show 5 * t + r - 5 * t = r by omega]
  · rw [if_neg e]
    by_cases q : 5 * t ≤ k ∧ k < 5 * t + r
    · rw [if_pos q, if_pos ⟨q.1, by omega⟩]
    · rw [if_neg q, if_neg (by omega)]
theorem ftp_at {t : Nat} {fl B : Nat → Int64} {r : Nat} : ftp t fl B r (5 * t + r) = B (5 * t + r) := by
  unfold ftp; rw [if_neg (by omega)]
theorem flow_loop {t : Nat} (ht : t < 20) (fl B : Nat → Int64) : ∀ (m r k : Nat), r + m = 5 → m < k →
    f_Facts_flowTo_13 (nI t) fl k (if fgr t fl B r then 1 else 0) (nI r) (ftp t fl B r) = some (if fgr t fl B 5 then 1 else 0, flt t fl B) := by
  intro m
  induction m with
  | zero =>
    intro r k e hk
    obtain ⟨k, rfl⟩ : ∃ x, k = x + 1 := ⟨k - 1, by omega⟩
    have e' : r = 5 := by omega
    subst e'
    rw [f_Facts_flowTo_13, if_pos (by decide)]
    cases fgr t fl B 5 <;> simp [gz0, gz1] <;> rfl
  | succ m ih =>
    intro r k e hk
    obtain ⟨k, rfl⟩ : ∃ x, k = x + 1 := ⟨k - 1, by omega⟩
    have hr : r < 5 := by omega
    have ix : nI t * 5 + nI r = nI (5 * t + r) := by rw [show (5 : Int32) = nI 5 by decide, pk_mul, nI_add, Nat.mul_comm]
    have go := ih (r + 1) k (by omega) (by omega)
    rw [f_Facts_flowTo_13, if_neg (by rw [show (5 : Int32) = nI 5 by decide]; exact nI_ge hr (by decide))]
    have rf : rdL fl 5 (nI r) = some (fl r) := rdL_n hr (by decide)
    have wr : ∀ x, wrL (ftp t fl B r) 100 (nI t * 5 + nI r) x = some (vp_updL (ftp t fl B r) (5 * t + r) x) := fun x => by rw [ix]; exact wrL_n (by omega) (by decide)
    have key : ∀ (v : Int64), v = jn (B (5 * t + r)) (fl r) → f_Facts_flowTo_59 (nI t) fl (f_Facts_flowTo_13 (nI t) fl k) (if fgr t fl B r then 1 else 0) (nI r) (B (5 * t + r)) v (ftp t fl B r) = some (if fgr t fl B 5 then 1 else 0, flt t fl B) := by
      intro v hv
      unfold f_Facts_flowTo_59 f_Facts_flowTo_73 f_Facts_flowTo_78
      simp only [wr, Option.bind_some, p1']
      subst hv
      rw [ftp_step]
      have G : fgr t fl B (r + 1) = (fgr t fl B r || decide (¬ jn (B (5 * t + r)) (fl r) = B (5 * t + r))) := rfl
      cases q : fgr t fl B r with
      | true =>
        have G' : fgr t fl B (r + 1) = true := by rw [G, q]; rfl
        rw [G'] at go
        simp only [if_true, n10, if_false] at go ⊢
        exact go
      | false =>
        by_cases z : jn (B (5 * t + r)) (fl r) = B (5 * t + r)
        · have G' : fgr t fl B (r + 1) = false := by rw [G, q]; simp [z]
          rw [G'] at go
          simp only [Bool.false_eq_true, if_false, if_true, lg_eq0.mpr z] at go ⊢
          exact go
        · have G' : fgr t fl B (r + 1) = true := by rw [G, q]; simp [z]
          rw [G'] at go
          have z' : ¬ lg_cmp (jn (B (5 * t + r)) (fl r)) (B (5 * t + r)) = 0 := fun w => z (lg_eq0.mp w)
          simp only [Bool.false_eq_true, if_false, if_true, z'] at go ⊢
          exact go
    rw [at_n ht hr, ftp_at]
    simp only [Option.bind_some, f_Facts_flowTo_47, rf]
    by_cases q1 : B (5 * t + r) = fNR
    · rw [if_pos (lg_eq0.mpr q1)]
      exact key _ (by unfold jn; rw [if_pos q1])
    · rw [if_neg (fun z => q1 (lg_eq0.mp z))]
      by_cases q2 : B (5 * t + r) = fl r
      · rw [if_pos (lg_eq0.mpr q2)]
        exact key _ (by unfold jn; rw [if_neg q1, if_pos q2])
      · rw [if_neg (fun z => q2 (lg_eq0.mp z))]
        exact key _ (by unfold jn; rw [if_neg q1, if_neg q2])
set_option maxRecDepth 100000 in
theorem flowTo_n {t : Nat} (ht : t < 20) (fl B : Nat → Int64) : f_Facts_flowTo (nI t) fl B = some (if fgr t fl B 5 then 1 else 0, flt t fl B) := by
  have pl : f_BlockCode_isPlace (nI t) = some 1 := by
    unfold f_BlockCode_isPlace
    rw [if_neg (nI_pos (by omega)), if_neg (by rw [show (20 : Int32) = nI 20 by decide]; exact nI_ge ht (by decide))]
  have := flow_loop ht fl B 5 0 fu (by omega) (fuN (by omega))
  have z : ftp t fl B 0 = B := by funext k; unfold ftp; rw [if_neg (by omega)]
  rw [z, show nI 0 = (0 : Int32) by decide] at this
  unfold f_Facts_flowTo
  simp only [pl, Option.bind_some, n10, if_false]
  exact this
theorem flt_comm {t u : Nat} (fl B : Nat → Int64) : flt t fl (flt u fl B) = flt u fl (flt t fl B) := by
  funext k
  unfold flt
  by_cases q1 : 5 * t ≤ k ∧ k < 5 * t + 5 <;> by_cases q2 : 5 * u ≤ k ∧ k < 5 * u + 5
  · have : t = u := by omega
    subst this; rfl
  · simp [q1, q2]
  · simp [q1, q2]
  · simp [q1, q2]
theorem jn_idem (o w : Int64) : jn (jn o w) w = jn o w := by
  unfold jn
  by_cases q1 : o = fNR
  · rw [if_pos q1]; by_cases q : w = fNR
    · rw [if_pos q]
    · rw [if_neg q, if_pos rfl]
  · rw [if_neg q1]
    by_cases q2 : o = w
    · rw [if_pos q2]
      by_cases q : w = fNR
      · rw [if_pos q]
      · rw [if_neg q, if_pos rfl]
    · rw [if_neg q2, if_neg (by decide)]
      by_cases q : fANY = w
      · rw [if_pos q, q]
      · rw [if_neg q]
theorem fgr_off {t u : Nat} (h : t ≠ u) (fl B : Nat → Int64) : ∀ r, r ≤ 5 → fgr t fl (flt u fl B) r = fgr t fl B r
  | 0, _ => rfl
  | r + 1, hr => by
    have e : flt u fl B (5 * t + r) = B (5 * t + r) := by unfold flt; rw [if_neg (by omega)]
    unfold fgr
    rw [fgr_off h fl B r (by omega), e]
theorem fgr_self (t : Nat) (fl B : Nat → Int64) : ∀ r, r ≤ 5 → fgr t fl (flt t fl B) r = false
  | 0, _ => rfl
  | r + 1, hr => by
    have e : flt t fl B (5 * t + r) = jn (B (5 * t + r)) (fl r) := by unfold flt; rw [if_pos ⟨by omega, by omega⟩, show 5 * t + r - 5 * t = r by omega]
    unfold fgr
    rw [fgr_self t fl B r (by omega), e, jn_idem]; simp
/-- two flows, in either order, tell alike whether something grew -/
theorem fgr_comm (t u : Nat) (fl B : Nat → Int64) : (fgr t fl B 5 || fgr u fl (flt t fl B) 5) = (fgr u fl B 5 || fgr t fl (flt u fl B) 5) := by
  by_cases e : t = u
  · subst e; rfl
  · rw [fgr_off (Ne.symm e) fl B 5 (by decide), fgr_off e fl B 5 (by decide), Bool.or_comm]
