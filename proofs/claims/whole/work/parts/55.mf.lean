/-! ===== facts: the class's step at an instruction ===== -/
theorem flt_congr {t : Nat} {fl fl' B : Nat → Int64} (h : ∀ q, q < 5 → fl q = fl' q) : flt t fl B = flt t fl' B := by
  funext k; unfold flt; split
  · rw [h _ (by omega)]
  · rfl
theorem fgr_congr {t : Nat} {fl fl' B : Nat → Int64} (h : ∀ q, q < 5 → fl q = fl' q) : ∀ r, r ≤ 5 → fgr t fl B r = fgr t fl' B r
  | 0, _ => rfl
  | r + 1, hr => by unfold fgr; rw [fgr_congr h r (by omega), h r (by omega)]
theorem flowTo_c {t : Nat} (ht : t < 20) {fl fl' B : Nat → Int64} (h : ∀ q, q < 5 → fl q = fl' q) : f_Facts_flowTo (nI t) fl B = some (if fgr t fl' B 5 then 1 else 0, flt t fl' B) := by
  rw [flowTo_n ht, flt_congr h, fgr_congr h 5 (by decide)]
theorem gzb (g : Bool) : gzI (if g then 1 else 0) = some (if g then 1 else 0) := by cases g <;> decide
theorem isInt_enc (z f : Int32) : f_BlockCode_isInt (enc z f) = some (if z = 0 then 0 else 1) := by
  unfold f_BlockCode_isInt enc
  by_cases q : z = 0
  · simp only [q, if_true]; decide
  · simp only [q, if_false]
    have h1 : ¬ f.toInt64 > (4294967296 : Int64) := by
      have := toL_lt f
      have e : (fANY).toInt = (4294967296 : Int64).toInt := rfl
      rw [gt_iff_lt, Int64.lt_iff_toInt_lt]
      rw [Int64.lt_iff_toInt_lt, e] at this
      omega
    have : lg_cmp f.toInt64 4294967296 = -1 := by unfold lg_cmp; rw [if_neg h1, if_neg (toL_ne f)]
    rw [this]; decide
section CSTEP
variable {i : Nat} {op d a b : Nat → Int32} {B : Nat → Int64}
theorem fill_loop (hi : i < 20) (o : Int32) : ∀ (m r k : Nat) (fl : Nat → Int64), r + m = 5 → m < k → (∀ q, q < r → fl q = B (5 * i + q)) →
    ∃ fl', f_Facts_flowFrom_40 (nI i) op d a b k o (nI r) B fl = f_Facts_flowFrom_40 (nI i) op d a b 1 o 5 B fl' ∧ ∀ q, q < 5 → fl' q = B (5 * i + q) := by
  intro m
  induction m with
  | zero =>
    intro r k fl e hk h
    obtain ⟨k, rfl⟩ : ∃ x, k = x + 1 := ⟨k - 1, by omega⟩
    have e' : r = 5 := by omega
    subst e'
    refine ⟨fl, ?_, h⟩
    rw [f_Facts_flowFrom_40, f_Facts_flowFrom_40, if_pos (by decide), if_pos (by decide)]
  | succ m ih =>
    intro r k fl e hk h
    obtain ⟨k, rfl⟩ : ∃ x, k = x + 1 := ⟨k - 1, by omega⟩
    have hr : r < 5 := by omega
    obtain ⟨fl', g1, g2⟩ := ih (r + 1) k (vp_updL fl r (B (5 * i + r))) (by omega) (by omega) (fun q hq => by
      by_cases w : q = r
      · subst w; exact pk_uLs
      · rw [pk_uLn w]; exact h q (by omega))
    refine ⟨fl', ?_, g2⟩
    rw [f_Facts_flowFrom_40, if_neg (by rw [show (5 : Int32) = nI 5 by decide]; exact nI_ge hr (by decide)), at_n hi hr]
    simp only [Option.bind_some, wrL_n hr (show 5 < 2 ^ 31 by decide), p1']
    exact g1
set_option maxRecDepth 100000 in
theorem fill (hi : i < 20) (o : Int32) (fl : Nat → Int64) : ∃ fl', f_Facts_flowFrom_37 (nI i) op d a b o B fl = f_Facts_flowFrom_40 (nI i) op d a b 1 o 5 B fl' ∧ ∀ q, q < 5 → fl' q = B (5 * i + q) := by
  have := fill_loop (op := op) (d := d) (a := a) (b := b) (B := B) hi o 5 0 fu fl (by omega) (fuN (by omega)) (fun q hq => absurd hq (by omega))
  rw [show nI 0 = (0 : Int32) by decide] at this
  exact this
/-- ops that make no register, in the class -/
theorem c_zero (hi : i < 19) (o : op i = 0) (fl : Nat → Int64) : ∃ fl', f_Facts_flowFrom (nI i) op d a b B fl = some (if fgr (i + 1) (fun q => B (5 * i + q)) B 5 then 1 else 0, flt (i + 1) (fun q => B (5 * i + q)) B, fl') := by
  obtain ⟨fl', g1, g2⟩ := fill (op := op) (d := d) (a := a) (b := b) (B := B) (show i < 20 by omega) 0 fl
  refine ⟨fl', ?_⟩
  have h : f_Facts_flowFrom (nI i) op d a b B fl = f_Facts_flowFrom_37 (nI i) op d a b 0 B fl := by
    simp [f_Facts_flowFrom, r20 (show i < 20 by omega), o]
  rw [h, g1, f_Facts_flowFrom_40, if_pos (by decide)]
  simp only [show f_BlockCode_makesRegister 0 = some 0 by decide, Option.bind_some, if_true, f_Facts_flowFrom_90, f_Facts_flowFrom_122, show ¬ (0 : Int32) = 9 by decide, show ¬ (0 : Int32) = 8 by decide, if_false, p1', flowTo_c (show i + 1 < 20 by omega) g2, gzb]
theorem c_go (hi : i < 20) (o : op i = 8) {j : Nat} (hj : j < 20) (ej : a i = nI j) (fl : Nat → Int64) : ∃ fl', f_Facts_flowFrom (nI i) op d a b B fl = some (if fgr j (fun q => B (5 * i + q)) B 5 then 1 else 0, flt j (fun q => B (5 * i + q)) B, fl') := by
  obtain ⟨fl', g1, g2⟩ := fill (op := op) (d := d) (a := a) (b := b) (B := B) hi 8 fl
  refine ⟨fl', ?_⟩
  have h : f_Facts_flowFrom (nI i) op d a b B fl = f_Facts_flowFrom_37 (nI i) op d a b 8 B fl := by
    simp [f_Facts_flowFrom, r20 hi, o]
  rw [h, g1, f_Facts_flowFrom_40, if_pos (by decide)]
  simp only [show f_BlockCode_makesRegister 8 = some 0 by decide, Option.bind_some, if_true, f_Facts_flowFrom_90, f_Facts_flowFrom_122, show ¬ (8 : Int32) = 9 by decide, if_false, r20 hi, ej, flowTo_c hj g2, gzb]
theorem c_branch (hi : i < 19) (o : op i = 9) {ja j : Nat} (ha : ja < 5) (ea : a i = nI ja) (hj : j < 20) (ej : b i = nI j) (fl : Nat → Int64) :
    ∃ fl', f_Facts_flowFrom (nI i) op d a b B fl = some (
      if B (5 * i + ja) = 0 then (if fgr (i + 1) (fun q => B (5 * i + q)) B 5 then 1 else 0, flt (i + 1) (fun q => B (5 * i + q)) B, fl')
      else if B (5 * i + ja) = fANY then (if (fgr (i + 1) (fun q => B (5 * i + q)) (flt j (fun q => B (5 * i + q)) B) 5 || fgr j (fun q => B (5 * i + q)) B 5) then 1 else 0, flt (i + 1) (fun q => B (5 * i + q)) (flt j (fun q => B (5 * i + q)) B), fl')
      else (if fgr j (fun q => B (5 * i + q)) B 5 then 1 else 0, flt j (fun q => B (5 * i + q)) B, fl')) := by
  have h20 : i < 20 := by omega
  obtain ⟨fl', g1, g2⟩ := fill (op := op) (d := d) (a := a) (b := b) (B := B) h20 9 fl
  refine ⟨fl', ?_⟩
  have h : f_Facts_flowFrom (nI i) op d a b B fl = f_Facts_flowFrom_37 (nI i) op d a b 9 B fl := by
    simp [f_Facts_flowFrom, r20 h20, o]
  rw [h, g1, f_Facts_flowFrom_40, if_pos (by decide)]
  simp only [show f_BlockCode_makesRegister 9 = some 0 by decide, Option.bind_some, if_true, f_Facts_flowFrom_90, f_Facts_flowFromBranch, r20 h20, ea, ej, at_n h20 ha]
  by_cases q0 : B (5 * i + ja) = 0
  · have q0' : lg_cmp (B (5 * i + ja)) 0 = 0 := lg_eq0.mpr q0
    rw [if_pos q0]
    simp only [q0', if_true, f_Facts_flowFromBranch_33, f_Facts_flowFromBranch_47, p1', flowTo_c (show i + 1 < 20 by omega) g2, Option.bind_some, f_Facts_flowFromBranch_62, f_Facts_flowFromBranch_67]
    cases fgr (i + 1) (fun q => B (5 * i + q)) B 5 <;> simp [gz0, gz1]
  · have q0' : ¬ lg_cmp (B (5 * i + ja)) 0 = 0 := fun z => q0 (lg_eq0.mp z)
    rw [if_neg q0]
    simp only [q0', if_false, flowTo_c hj g2, Option.bind_some, f_Facts_flowFromBranch_33]
    by_cases q1 : B (5 * i + ja) = fANY
    · have q1' : lg_cmp (B (5 * i + ja)) 4294967296 = 0 := lg_eq0.mpr q1
      rw [if_pos q1]
      simp only [q1', if_true, f_Facts_flowFromBranch_47, p1', flowTo_c (show i + 1 < 20 by omega) g2, Option.bind_some, f_Facts_flowFromBranch_62, f_Facts_flowFromBranch_67]
      cases fgr (i + 1) (fun q => B (5 * i + q)) (flt j (fun q => B (5 * i + q)) B) 5 <;> cases fgr j (fun q => B (5 * i + q)) B 5 <;> simp [gz0, gz1]
    · have q1' : ¬ lg_cmp (B (5 * i + ja)) 4294967296 = 0 := fun z => q1 (lg_eq0.mp z)
      rw [if_neg q1]
      simp only [q1', if_false, gzb, Option.bind_some]
end CSTEP
