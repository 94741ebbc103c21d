/-! ===== facts: what a 1 to 7 makes, on both sides; the reference's flow ===== -/
theorem enc0 {z f : Int32} : enc z f = 0 ↔ ¬ z = 0 ∧ f = 0 := by
  unfold enc
  by_cases q : z = 0
  · rw [if_pos q]; exact ⟨fun w => absurd w (by decide), fun w => absurd q w.1⟩
  · rw [if_neg q]
    constructor
    · intro w; exact ⟨q, toL_inj (w.trans (by decide : (0 : Int64) = (0 : Int32).toInt64))⟩
    · intro w; rw [w.2]; decide
theorem encA {z f : Int32} : enc z f = fANY ↔ z = 0 := by
  unfold enc
  by_cases q : z = 0
  · rw [if_pos q]; exact ⟨fun _ => q, fun _ => rfl⟩
  · rw [if_neg q]; exact ⟨fun w => absurd w (toL_ne f), fun w => absurd w q⟩
def mk7 (o : Int32) : Prop := o = 1 ∨ o = 2 ∨ o = 3 ∨ o = 4 ∨ o = 5 ∨ o = 6 ∨ o = 7
theorem encI {z f : Int32} (h : ¬ z = 0) : (enc z f).toInt32 = f := by unfold enc; rw [if_neg h]; exact toL_i f
section MADE
variable {i : Nat} {op d a b : Nat → Int32} {B : Nat → Int64} {I F : Nat → Int32}
theorem made_eq (hi : i < 20) (ho : mk7 (op i)) {ja jb : Nat} (ha : ja < 5) (hb : jb < 5) (ea : op i ≠ 1 → a i = nI ja) (eb : op i ≠ 1 → op i ≠ 2 → b i = nI jb)
    (hB : ∀ q, q < 5 → bz (I (5 * i + q)) ∧ B (5 * i + q) = enc (I (5 * i + q)) (F (5 * i + q))) (h6 : op i = 6 → ¬ B (5 * i + jb) = 0) :
    ∃ mv, f_Facts_madeBy (nI i) B op a b = some (enc (mkn (op i) (I (5 * i + ja)) (I (5 * i + jb))) mv) ∧ bz (mkn (op i) (I (5 * i + ja)) (I (5 * i + jb))) ∧
      (mkn (op i) (I (5 * i + ja)) (I (5 * i + jb)) = 1 → (op i = 1 → mv = a i) ∧ (op i = 2 → mv = F (5 * i + ja)) ∧ (op i ≠ 1 → op i ≠ 2 → f_BlockCodeModel_value (op i) (F (5 * i + ja)) (F (5 * i + jb)) = some mv)) ∧
      (mkn (op i) (I (5 * i + ja)) (I (5 * i + jb)) = 0 → mv = 0) := by
  have eA := (hB ja ha).2
  have eB := (hB jb hb).2
  by_cases o1 : op i = 1
  · refine ⟨a i, ?_, ?_, ?_, ?_⟩
    · simp only [f_Facts_madeBy, r20 hi, Option.bind_some, o1, if_true, mkn, enc, n10, if_false]
    · rw [o1]; exact Or.inr (by simp [mkn])
    · intro _; exact ⟨fun _ => rfl, fun w => absurd (o1.symm.trans w) (by decide), fun w => absurd o1 w⟩
    · intro w; rw [o1] at w; simp [mkn] at w
  · by_cases o2 : op i = 2
    · have c21 : ¬ (2 : Int32) = 1 := by decide
      have hm : mkn (op i) (I (5 * i + ja)) (I (5 * i + jb)) = if I (5 * i + ja) = 0 then 0 else 1 := by simp [mkn, o2]
      have hc : f_Facts_madeBy (nI i) B op a b = some (B (5 * i + ja)) := by
        simp only [f_Facts_madeBy, r20 hi, Option.bind_some, o2, c21, if_false, if_true, ea o1, at_n hi ha]
      by_cases za : I (5 * i + ja) = 0
      · rw [hm, if_pos za]
        refine ⟨0, ?_, Or.inl rfl, fun w => absurd w (by decide), fun _ => rfl⟩
        rw [hc, eA]; simp [enc, za]
      · rw [hm, if_neg za]
        refine ⟨F (5 * i + ja), ?_, Or.inr rfl, fun _ => ⟨fun w => absurd w o1, fun _ => rfl, fun _ w => absurd o2 w⟩, fun w => absurd w (by decide)⟩
        rw [hc, eA]; simp [enc, za]
    · have hm : mkn (op i) (I (5 * i + ja)) (I (5 * i + jb)) = if I (5 * i + ja) = 0 then 0 else if I (5 * i + jb) = 0 then 0 else 1 := by simp [mkn, o1, o2]
      have o37 : op i = 3 ∨ op i = 4 ∨ op i = 5 ∨ op i = 6 ∨ op i = 7 := by
        rcases ho with h | h | h | h | h | h | h
        · exact absurd h o1
        · exact absurd h o2
        · exact Or.inl h
        · exact Or.inr (Or.inl h)
        · exact Or.inr (Or.inr (Or.inl h))
        · exact Or.inr (Or.inr (Or.inr (Or.inl h)))
        · exact Or.inr (Or.inr (Or.inr (Or.inr h)))
      have hc : f_Facts_madeBy (nI i) B op a b = (if (if I (5 * i + ja) = 0 then (0 : Int32) else 1) = 0 then some 4294967296 else if (if I (5 * i + jb) = 0 then (0 : Int32) else 1) = 0 then some 4294967296 else
          (f_BlockCode_dividesByZero (op i) (B (5 * i + jb)).toInt32).bind fun rz8 => if rz8 = 0 then (f_BlockCode_combined (op i) (B (5 * i + ja)).toInt32 (B (5 * i + jb)).toInt32).bind fun rz9 => some rz9.toInt64 else some 4294967296) := by
        have ia : f_BlockCode_isInt (B (5 * i + ja)) = some (if I (5 * i + ja) = 0 then 0 else 1) := by rw [eA]; exact isInt_enc _ _
        have ib : f_BlockCode_isInt (B (5 * i + jb)) = some (if I (5 * i + jb) = 0 then 0 else 1) := by rw [eB]; exact isInt_enc _ _
        simp only [f_Facts_madeBy, r20 hi, Option.bind_some, o1, o2, if_false, ea o1, eb o1 o2, at_n hi ha, at_n hi hb, ia, ib]
      by_cases za : I (5 * i + ja) = 0
      · rw [hm, if_pos za]
        refine ⟨0, ?_, Or.inl rfl, fun w => absurd w (by decide), fun _ => rfl⟩
        rw [hc]; simp [enc, za]
      · by_cases zb : I (5 * i + jb) = 0
        · rw [hm, if_neg za, if_pos zb]
          refine ⟨0, ?_, Or.inl rfl, fun w => absurd w (by decide), fun _ => rfl⟩
          rw [hc]; simp [enc, za, zb]
        · rw [hm, if_neg za, if_neg zb]
          have h6' : op i = 6 → ¬ F (5 * i + jb) = 0 := fun w z => h6 w (by rw [eB]; exact enc0.mpr ⟨zb, z⟩)
          obtain ⟨v, v1, v2⟩ := val_eq (x := F (5 * i + ja)) (y := F (5 * i + jb)) o37 h6'
          refine ⟨v, ?_, Or.inr rfl, fun _ => ⟨fun w => absurd w o1, fun w => absurd w o2, fun _ _ => v2⟩, fun w => absurd w (by decide)⟩
          have dz : f_BlockCode_dividesByZero (op i) (F (5 * i + jb)) = some 0 := by
            unfold f_BlockCode_dividesByZero
            by_cases w : op i = 6
            · rw [if_pos w, if_neg (h6' w)]
            · rw [if_neg w]
          rw [hc, eA, eB, encI za, encI zb]
          simp only [za, zb, if_false, n10, dz, Option.bind_some, if_true, v1, enc]
theorem mk7_reg {o : Int32} (h : mk7 o) : f_BlockCode_makesRegister o = some 1 := by rcases h with rfl | rfl | rfl | rfl | rfl | rfl | rfl <;> decide
/-- ops that make a register, in the class -/
theorem c_make (hi : i < 19) (ho : mk7 (op i)) {jd jb : Nat} (hd : jd < 5) (ed : d i = nI jd) (hb : jb < 5) (eb : op i ≠ 1 → op i ≠ 2 → b i = nI jb) (h6 : op i = 6 → ¬ B (5 * i + jb) = 0) {mk : Int64} (hm : f_Facts_madeBy (nI i) B op a b = some mk) (fl : Nat → Int64) :
    ∃ fl', f_Facts_flowFrom (nI i) op d a b B fl = some (if fgr (i + 1) (fun q => if q = jd then mk else B (5 * i + q)) B 5 then 1 else 0, flt (i + 1) (fun q => if q = jd then mk else B (5 * i + q)) B, fl') := by
  have h20 : i < 20 := by omega
  obtain ⟨fl', g1, g2⟩ := fill (op := op) (d := d) (a := a) (b := b) (B := B) h20 (op i) fl
  have g3 : ∀ q, q < 5 → vp_updL fl' jd mk q = (fun q => if q = jd then mk else B (5 * i + q)) q := fun q hq => by
    by_cases w : q = jd
    · subst w; rw [pk_uLs]; simp
    · rw [pk_uLn w, g2 q hq]; simp [w]
  have n10' : ¬ op i = 10 := by rcases ho with h | h | h | h | h | h | h <;> rw [h] <;> decide
  have n8 : ¬ op i = 8 := by rcases ho with h | h | h | h | h | h | h <;> rw [h] <;> decide
  have n9 : ¬ op i = 9 := by rcases ho with h | h | h | h | h | h | h <;> rw [h] <;> decide
  refine ⟨vp_updL fl' jd mk, ?_⟩
  have h : f_Facts_flowFrom (nI i) op d a b B fl = f_Facts_flowFrom_37 (nI i) op d a b (op i) B fl := by
    simp only [f_Facts_flowFrom, r20 h20, Option.bind_some, n10', if_false]
    by_cases w : op i = 6
    · have z : ¬ lg_cmp (B (5 * i + jb)) 0 = 0 := fun z => h6 w (lg_eq0.mp z)
      rw [if_pos w, eb (by rw [w]; decide) (by rw [w]; decide), at_n h20 hb]
      simp only [Option.bind_some, z, if_false]
    · rw [if_neg w]
  rw [h, g1, f_Facts_flowFrom_40, if_pos (by decide)]
  simp only [mk7_reg ho, Option.bind_some, n10, if_false, r20 h20, ed, hm, wrL_n hd (show 5 < 2 ^ 31 by decide), f_Facts_flowFrom_90, n8, n9, f_Facts_flowFrom_122, p1', flowTo_c (show i + 1 < 20 by omega) g3, gzb]
theorem c_stop (hi : i < 20) (h : op i = 10 ∨ (op i = 6 ∧ ∃ jb, jb < 5 ∧ b i = nI jb ∧ B (5 * i + jb) = 0)) (fl : Nat → Int64) : f_Facts_flowFrom (nI i) op d a b B fl = some (0, B, fl) := by
  rcases h with o | ⟨o, jb, hb, eb, z⟩
  · simp only [f_Facts_flowFrom, r20 hi, Option.bind_some, o, if_true]
  · have c : ¬ (6 : Int32) = 10 := by decide
    simp only [f_Facts_flowFrom, r20 hi, Option.bind_some, o, if_true, c, if_false, eb, at_n hi hb, lg_eq0.mpr z]
end MADE
section MFLOW
variable {i t : Nat} {code : Nat → Int32} {R I F : Nat → Int32} {B : Nat → Int64} {o dv av bv : Int32}
def cd4 (code : Nat → Int32) (i : Nat) (o dv av bv : Int32) : Prop := code (4 * i) = o ∧ code (4 * i + 1) = dv ∧ code (4 * i + 2) = av ∧ code (4 * i + 3) = bv
theorem m_flow (hi : i < 20) (ht : t < 20) (hc : cd4 code i o dv av bv) (hF : FR B R I F) {kn va : Nat → Int32} (hk : ∀ r, r < 5 → bz (kn r))
    (hstep : ∀ (r : Nat) (k : Nat) (x7 : Int32) (I' F' : Nat → Int32), r < 5 → (∀ q, q < 5 → (r ≤ q ∨ t ≠ i) → I' (5 * i + q) = I (5 * i + q) ∧ F' (5 * i + q) = F (5 * i + q)) →
      f_BlockCodeModel_flow_59 (nI i) (nI t) code (k + 1) (nI (4 * i)) o (nI (5 * i) + av) (nI (5 * i) + bv) x7 (nI r) R I' F' = f_BlockCodeModel_flow_217 (nI i) (nI t) code (f_BlockCodeModel_flow_59 (nI i) (nI t) code k) (nI (4 * i)) o (nI (5 * i) + av) (nI (5 * i) + bv) x7 (nI r) (kn r) (va r) R I' F') :
    ∃ R' I2 F2, f_BlockCodeModel_flow (nI i) (nI t) code R I F = some (if fgr t (fun q => enc (kn q) (va q)) B 5 then 1 else 0, R', I2, F2) ∧ R' = upd R t 1 ∧ FR (flt t (fun q => enc (kn q) (va q)) B) R' I2 F2 := by
  obtain ⟨c0, c1, c2, c3⟩ := hc
  have core := fun (x7 : Int32) (h7 : x7 = if R t = 0 then 1 else 0) => flow_core (x3 := nI (4 * i)) (x4 := o) (x5 := nI (5 * i) + av) (x6 := nI (5 * i) + bv) hi ht hF hk x7 h7 hstep 5 0 fu x7 I F (by omega) (fuN (by omega)) (by rw [h7]; simp [fgr]) (fun _ _ => ⟨rfl, rfl⟩) (fun q hq => absurd hq (by omega))
  rw [show nI 0 = (0 : Int32) by decide] at core
  unfold f_BlockCodeModel_flow f_BlockCodeModel_flow_54
  simp only [m4', m5', p2', p3', r160 (show 4 * i < 160 by omega), r160 (show 4 * i + 2 < 160 by omega), r160 (show 4 * i + 3 < 160 by omega), Option.bind_some, c0, c2, c3, r21 (show t < 21 by omega)]
  by_cases q : R t = 0
  · rw [if_pos q]
    exact core 1 (by rw [if_pos q])
  · rw [if_neg q]
    exact core 0 (by rw [if_neg q])
theorem m_plain (hi : i < 20) (ht : t < 20) (hc : cd4 code i o dv av bv) (ho : o = 0 ∨ o = 8 ∨ o = 9) (hF : FR B R I F) (hR : R i = 1) :
    ∃ R' I2 F2, f_BlockCodeModel_flow (nI i) (nI t) code R I F = some (if fgr t (fun q => B (5 * i + q)) B 5 then 1 else 0, R', I2, F2) ∧ R' = upd R t 1 ∧ FR (flt t (fun q => B (5 * i + q)) B) R' I2 F2 := by
  have hB : ∀ q, q < 5 → bz (I (5 * i + q)) ∧ B (5 * i + q) = enc (I (5 * i + q)) (F (5 * i + q)) := by
    rcases hF i hi with h | h
    · exact absurd (h.1.symm.trans hR) (by decide)
    · exact h.2
  have := m_flow hi ht hc hF (kn := fun q => I (5 * i + q)) (va := fun q => F (5 * i + q)) (fun r hr => (hB r hr).1) (hs_plain hi ho _)
  have e : ∀ q, q < 5 → (fun q => enc (I (5 * i + q)) (F (5 * i + q))) q = (fun q => B (5 * i + q)) q := fun q hq => (hB q hq).2.symm
  rw [fgr_congr e 5 (by decide), flt_congr e] at this
  exact this
theorem m_make (hi : i < 19) (hc : cd4 code i o dv av bv) (ho : mk7 o) (hF : FR B R I F) (hR : R i = 1) {jd ja jb : Nat} (hd : jd < 5) (ed : dv = nI jd) (ha : ja < 5) (hb : jb < 5) (ea : o ≠ 1 → av = nI ja) (eb : o ≠ 1 → o ≠ 2 → bv = nI jb) {mv : Int32}
    (hz : bz (mkn o (I (5 * i + ja)) (I (5 * i + jb))))
    (hv : mkn o (I (5 * i + ja)) (I (5 * i + jb)) = 1 → (o = 1 → mv = av) ∧ (o = 2 → mv = F (5 * i + ja)) ∧ (o ≠ 1 → o ≠ 2 → f_BlockCodeModel_value o (F (5 * i + ja)) (F (5 * i + jb)) = some mv)) (hv0 : mkn o (I (5 * i + ja)) (I (5 * i + jb)) = 0 → mv = 0) :
    ∃ R' I2 F2, f_BlockCodeModel_flow (nI i) (nI (i + 1)) code R I F = some (if fgr (i + 1) (fun q => if q = jd then enc (mkn o (I (5 * i + ja)) (I (5 * i + jb))) mv else B (5 * i + q)) B 5 then 1 else 0, R', I2, F2) ∧ R' = upd R (i + 1) 1 ∧ FR (flt (i + 1) (fun q => if q = jd then enc (mkn o (I (5 * i + ja)) (I (5 * i + jb))) mv else B (5 * i + q)) B) R' I2 F2 := by
  have hB : ∀ q, q < 5 → bz (I (5 * i + q)) ∧ B (5 * i + q) = enc (I (5 * i + q)) (F (5 * i + q)) := by
    rcases hF i (by omega) with h | h
    · exact absurd (h.1.symm.trans hR) (by decide)
    · exact h.2
  have := m_flow (t := i + 1) (show i < 20 by omega) (by omega) hc hF (kn := fun r => if r = jd then mkn o (I (5 * i + ja)) (I (5 * i + jb)) else I (5 * i + r)) (va := fun r => if r = jd then mv else F (5 * i + r)) (fun r hr => by
      by_cases w : r = jd
      · simp only [w, if_true]; exact hz
      · simp only [w, if_false]; exact (hB r hr).1) (hs_make (show i < 20 by omega) (by omega) ho hd (fun _ => ha) (fun _ _ => hb) (by rw [hc.2.1, ed]) hc.2.2.1 (fun w => by rw [ea w, nI_add]) (fun w w' => by rw [eb w w', nI_add]) (fun q hq => (hB q hq).1) hv hv0)
  have e : ∀ q, q < 5 → (fun q => enc (if q = jd then mkn o (I (5 * i + ja)) (I (5 * i + jb)) else I (5 * i + q)) (if q = jd then mv else F (5 * i + q))) q = (fun q => if q = jd then enc (mkn o (I (5 * i + ja)) (I (5 * i + jb))) mv else B (5 * i + q)) q := fun q hq => by
    by_cases w : q = jd
    · simp only [w, if_true]
    · simp only [w, if_false]; exact (hB q hq).2.symm
  rw [fgr_congr e 5 (by decide), flt_congr e] at this
  exact this
end MFLOW
