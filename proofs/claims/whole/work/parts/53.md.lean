/-! ===== facts: what flows, on the reference's side ===== -/
def enc (z f : Int32) : Int64 := if z = 0 then fANY else f.toInt64
def bz (z : Int32) : Prop := z = 0 ∨ z = 1
def FP (B : Nat → Int64) (R I F : Nat → Int32) (i : Nat) : Prop :=
  (R i = 0 ∧ ∀ r, r < 5 → B (5 * i + r) = fNR) ∨ (R i = 1 ∧ ∀ r, r < 5 → bz (I (5 * i + r)) ∧ B (5 * i + r) = enc (I (5 * i + r)) (F (5 * i + r)))
def FR (B : Nat → Int64) (R I F : Nat → Int32) : Prop := ∀ i, i < 20 → FP B R I F i
theorem enc_nr (z f : Int32) : ¬ enc z f = fNR := by
  unfold enc; split
  · decide
  · exact toL_nr f
theorem wz {f : Nat → Int32} {N i : Nat} {x : Int32} (h : i < N) (hN : N < 2 ^ 31) (hx : bz x) : wrZ f N (nI i) x = some (upd f i x) := by
  unfold wrZ; rw [if_neg (nI_in h hN), nI_clamp (by omega)]
  rcases hx with rfl | rfl <;> rfl
theorem m5' (a : Nat) : (5 : Int32) * nI a = nI (5 * a) := by rw [show (5 : Int32) = nI 5 by decide, pk_mul]
section FLOW
variable {i t : Nat} {code : Nat → Int32} {R I F : Nat → Int32} {B : Nat → Int64} {x3 x4 x5 x6 : Int32} {kn va : Nat → Int32}
/-- a register's step at the target -/
theorem m217 (ht : t < 20) {r : Nat} (hr : r < 5) (k59 : Int32 → Int32 → Int32 → Int32 → Int32 → Int32 → (Nat → Int32) → (Nat → Int32) → (Nat → Int32) → Option (Int32 × (Nat → Int32) × (Nat → Int32) × (Nat → Int32))) (p1 x7 z v : Int32) (hz : bz z) (I' F' : Nat → Int32) (hR : bz (R t)) (hI : R t = 1 → bz (I' (5 * t + r))) :
    f_BlockCodeModel_flow_217 p1 (nI t) code k59 x3 x4 x5 x6 x7 (nI r) z v R I' F' =
      (if R t = 0 then k59 x3 x4 x5 x6 x7 (nI (r + 1)) R (upd I' (5 * t + r) z) (upd F' (5 * t + r) v)
       else if I' (5 * t + r) = 0 then k59 x3 x4 x5 x6 x7 (nI (r + 1)) R I' F'
       else if z = 1 ∧ F' (5 * t + r) = v then k59 x3 x4 x5 x6 x7 (nI (r + 1)) R I' F'
       else k59 x3 x4 x5 x6 1 (nI (r + 1)) R (upd I' (5 * t + r) 0) F') := by
  have ix : (5 : Int32) * nI t + nI r = nI (5 * t + r) := by rw [m5', nI_add]
  have hk : 5 * t + r < 105 := by omega
  unfold f_BlockCodeModel_flow_217 f_BlockCodeModel_flow_290 f_BlockCodeModel_flow_305
  simp only [ix, r21 (show t < 21 by omega), rdI_n hk (show 105 < 2 ^ 31 by decide), wrI_n hk (show 105 < 2 ^ 31 by decide), wz hk (show 105 < 2 ^ 31 by decide) hz, wz hk (show 105 < 2 ^ 31 by decide) (Or.inl rfl), Option.bind_some, p1']
  rcases hR with q | q
  · simp only [q, if_true]
  · simp only [q, n10, if_false]
    by_cases q1 : I' (5 * t + r) = 0
    · simp only [q1, if_true]
    · simp only [q1, if_false]
      rcases hz with rfl | rfl
      · have : ¬ ((0 : Int32) = 1 ∧ F' (5 * t + r) = v) := fun w => absurd w.1 (by decide)
        simp only [if_true, this, if_false]
      · simp only [n10, if_false, true_and]
theorem flow_core (hi : i < 20) (ht : t < 20) (hF : FR B R I F) (hk : ∀ r, r < 5 → bz (kn r)) (x7 : Int32) (h7 : x7 = if R t = 0 then 1 else 0)
    (hstep : ∀ (r : Nat) (k : Nat) (x7 : Int32) (I' F' : Nat → Int32), r < 5 → (∀ q, q < 5 → (r ≤ q ∨ t ≠ i) → I' (5 * i + q) = I (5 * i + q) ∧ F' (5 * i + q) = F (5 * i + q)) →
      f_BlockCodeModel_flow_59 (nI i) (nI t) code (k + 1) x3 x4 x5 x6 x7 (nI r) R I' F' = f_BlockCodeModel_flow_217 (nI i) (nI t) code (f_BlockCodeModel_flow_59 (nI i) (nI t) code k) x3 x4 x5 x6 x7 (nI r) (kn r) (va r) R I' F') :
    ∀ (m r k : Nat) (y7 : Int32) (I' F' : Nat → Int32), r + m = 5 → m < k → y7 = (if R t = 0 then 1 else if fgr t (fun q => enc (kn q) (va q)) B r then 1 else 0) →
      (∀ x, ¬ (5 * t ≤ x ∧ x < 5 * t + r) → I' x = I x ∧ F' x = F x) → (∀ q, q < r → bz (I' (5 * t + q)) ∧ jn (B (5 * t + q)) (enc (kn q) (va q)) = enc (I' (5 * t + q)) (F' (5 * t + q))) →
      ∃ R' I2 F2, f_BlockCodeModel_flow_59 (nI i) (nI t) code k x3 x4 x5 x6 y7 (nI r) R I' F' = some (if fgr t (fun q => enc (kn q) (va q)) B 5 then 1 else 0, R', I2, F2) ∧ R' = upd R t 1 ∧ FR (flt t (fun q => enc (kn q) (va q)) B) R' I2 F2 := by
  intro m
  have hRt : bz (R t) := by rcases hF t ht with h | h; exact Or.inl h.1; exact Or.inr h.1
  induction m with
  | zero =>
    intro r k y7 I' F' e hk' hy ho hd
    obtain ⟨k, rfl⟩ : ∃ x, k = x + 1 := ⟨k - 1, by omega⟩
    have e' : r = 5 := by omega
    subst e'
    have flag : y7 = if fgr t (fun q => enc (kn q) (va q)) B 5 then 1 else 0 := by
      by_cases q : R t = 0
      · have g : fgr t (fun q => enc (kn q) (va q)) B 5 = true := by
          have nr : B (5 * t + 0) = fNR := by
            rcases hF t ht with h | h
            · exact h.2 0 (by decide)
            · exact absurd (h.1.symm.trans q) (by decide)
          have g1 : fgr t (fun q => enc (kn q) (va q)) B 1 = true := by
            unfold fgr
            have : ¬ jn (B (5 * t + 0)) (enc (kn 0) (va 0)) = B (5 * t + 0) := by
              unfold jn; rw [if_pos nr, nr]; exact enc_nr _ _
            exact (Bool.or_eq_true _ _).mpr (Or.inr (decide_eq_true this))
          have up : ∀ m, fgr t (fun q => enc (kn q) (va q)) B (1 + m) = true := fun m => by
            induction m with
            | zero => exact g1
            | succ m ih => rw [← Nat.add_assoc]; unfold fgr; rw [ih]; rfl
          exact up 4
        rw [hy, if_pos q, g]; rfl
      · rw [hy, if_neg q]
    refine ⟨upd R t 1, I', F', ?_, rfl, fun j hj => ?_⟩
    · rw [f_BlockCodeModel_flow_59, if_pos (by decide)]
      simp only [wz1 (show t < 21 by omega), Option.bind_some]
      rw [flag]
      cases fgr t (fun q => enc (kn q) (va q)) B 5 <;> simp [gz0, gz1]
    · by_cases q : j = t
      · subst q
        refine Or.inr ⟨upd_s, fun r hr => ?_⟩
        obtain ⟨d1, d2⟩ := hd r hr
        refine ⟨d1, ?_⟩
        unfold flt
        rw [if_pos ⟨by omega, by omega⟩, show 5 * j + r - 5 * j = r by omega]
        exact d2
      · have fx : ∀ r, r < 5 → flt t (fun q => enc (kn q) (va q)) B (5 * j + r) = B (5 * j + r) := fun r hr => by unfold flt; rw [if_neg (by omega)]
        rcases hF j hj with h | h
        · exact Or.inl ⟨by rw [upd_n q]; exact h.1, fun r hr => by rw [fx r hr]; exact h.2 r hr⟩
        · refine Or.inr ⟨by rw [upd_n q]; exact h.1, fun r hr => ?_⟩
          obtain ⟨o1, o2⟩ := ho (5 * j + r) (by omega)
          rw [fx r hr, o1, o2]; exact h.2 r hr
  | succ m ih =>
    intro r k y7 I' F' e hk' hy ho hd
    obtain ⟨k, rfl⟩ : ∃ x, k = x + 1 := ⟨k - 1, by omega⟩
    have hr : r < 5 := by omega
    have oI := ho (5 * t + r) (by omega)
    have stay : ∀ (hj : jn (B (5 * t + r)) (enc (kn r) (va r)) = enc (I' (5 * t + r)) (F' (5 * t + r))) (hb : bz (I' (5 * t + r))), ∀ q, q < r + 1 → bz (I' (5 * t + q)) ∧ jn (B (5 * t + q)) (enc (kn q) (va q)) = enc (I' (5 * t + q)) (F' (5 * t + q)) := by
      intro hj hb q hq
      by_cases w : q = r
      · subst w; exact ⟨hb, hj⟩
      · exact hd q (by omega)
    have G : fgr t (fun q => enc (kn q) (va q)) B (r + 1) = (fgr t (fun q => enc (kn q) (va q)) B r || decide (¬ jn (B (5 * t + r)) (enc (kn r) (va r)) = B (5 * t + r))) := rfl
    rw [hstep r k y7 I' F' hr (fun q hq hw => ho (5 * i + q) (by omega)), m217 ht hr _ _ _ _ _ (hk r hr) _ _ hRt (fun w => by
      rw [oI.1]
      rcases hF t ht with h | h
      · exact absurd (h.1.symm.trans w) (by decide)
      · exact (h.2 r hr).1)]
    rcases hF t ht with ⟨z, hB⟩ | ⟨z, hB⟩
    · rw [if_pos z]
      refine ih (r + 1) k y7 _ _ (by omega) (by omega) (by rw [hy, if_pos z, if_pos z]) (fun x hx => ?_) (fun q hq => ?_)
      · rw [upd_n (by omega), upd_n (by omega)]; exact ho x (by omega)
      · by_cases w : q = r
        · subst w
          rw [upd_s, upd_s]
          exact ⟨hk q hr, by unfold jn; rw [if_pos (hB q hr)]⟩
        · rw [upd_n (by omega), upd_n (by omega)]; exact hd q (by omega)
    · have z' : ¬ R t = 0 := by rw [z]; decide
      obtain ⟨b1, b2⟩ := hB r hr
      rw [if_neg z', oI.1, oI.2]
      have nnr : ¬ B (5 * t + r) = fNR := by rw [b2]; exact enc_nr _ _
      by_cases q1 : I (5 * t + r) = 0
      · rw [if_pos q1]
        have ba : B (5 * t + r) = fANY := by rw [b2]; unfold enc; rw [if_pos q1]
        have j0 : jn (B (5 * t + r)) (enc (kn r) (va r)) = B (5 * t + r) := by
          unfold jn; rw [if_neg nnr]
          by_cases w : B (5 * t + r) = enc (kn r) (va r)
          · rw [if_pos w, ← w]
          · rw [if_neg w, ba]
        refine ih (r + 1) k y7 I' F' (by omega) (by omega) (by rw [hy, if_neg z', if_neg z', G]; simp [j0]) (fun x hx => ho x (by omega)) (stay (by rw [j0, b2, oI.1, oI.2]) (by rw [oI.1]; exact b1))
      · rw [if_neg q1]
        have i1 : I (5 * t + r) = 1 := b1.resolve_left q1
        have bv : B (5 * t + r) = (F (5 * t + r)).toInt64 := by rw [b2]; unfold enc; rw [if_neg q1]
        by_cases q2 : kn r = 1 ∧ F (5 * t + r) = va r
        · rw [if_pos q2]
          have j0 : jn (B (5 * t + r)) (enc (kn r) (va r)) = B (5 * t + r) := by
            have : enc (kn r) (va r) = B (5 * t + r) := by unfold enc; rw [if_neg (by rw [q2.1]; decide), ← q2.2, bv]
            unfold jn; rw [if_neg nnr, if_pos this.symm, this]
          refine ih (r + 1) k y7 I' F' (by omega) (by omega) (by rw [hy, if_neg z', if_neg z', G]; simp [j0]) (fun x hx => ho x (by omega)) (stay (by rw [j0, b2, oI.1, oI.2]) (by rw [oI.1]; exact b1))
        · rw [if_neg q2]
          have ne : ¬ B (5 * t + r) = enc (kn r) (va r) := fun w => by
            rw [bv] at w
            unfold enc at w
            rcases hk r hr with kz | kz
            · rw [if_pos kz] at w; exact toL_ne _ w
            · rw [if_neg (by rw [kz]; decide)] at w
              exact q2 ⟨kz, toL_inj w⟩
          have j1 : jn (B (5 * t + r)) (enc (kn r) (va r)) = fANY := by unfold jn; rw [if_neg nnr, if_neg ne]
          have j2 : ¬ jn (B (5 * t + r)) (enc (kn r) (va r)) = B (5 * t + r) := by rw [j1, bv]; exact fun w => toL_ne _ w.symm
          refine ih (r + 1) k 1 _ _ (by omega) (by omega) (by rw [if_neg z', G]; simp [j2]) (fun x hx => ?_) (fun q hq => ?_)
          · rw [upd_n (by omega)]; exact ho x (by omega)
          · by_cases w : q = r
            · subst w
              rw [upd_s]
              exact ⟨Or.inl rfl, by rw [j1]; unfold enc; rw [if_pos rfl]⟩
            · rw [upd_n (by omega)]; exact hd q (by omega)
end FLOW
