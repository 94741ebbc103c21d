/-! ===== Int32 by its bits: bt x i ===== -/
def bt (x : Int32) (i : Nat) : Bool := x.toBitVec.getLsbD i
theorem b_ext {x y : Int32} (h : ∀ i, i < 32 → bt x i = bt y i) : x = y := Int32.toBitVec_inj.mp (BitVec.eq_of_getLsbD_eq (fun i hi => h i hi))
theorem b_or (x y : Int32) (i : Nat) : bt (x ||| y) i = (bt x i || bt y i) := by unfold bt; rw [Int32.toBitVec_or, BitVec.getLsbD_or]
theorem b_and (x y : Int32) (i : Nat) : bt (x &&& y) i = (bt x i && bt y i) := by unfold bt; rw [Int32.toBitVec_and, BitVec.getLsbD_and]
theorem b_xor (x y : Int32) (i : Nat) : bt (x ^^^ y) i = (bt x i ^^ bt y i) := by unfold bt; rw [Int32.toBitVec_xor, BitVec.getLsbD_xor]
theorem b_big {x : Int32} {i : Nat} (h : 32 ≤ i) : bt x i = false := BitVec.getLsbD_of_ge _ _ h
theorem b_255 (i : Nat) : bt 255 i = decide (i < 8) := by
  rcases Nat.lt_or_ge i 32 with h | h
  · exact (by decide +kernel : ∀ i, i < 32 → bt 255 i = decide (i < 8)) i h
  · rw [b_big h, decide_eq_false (by omega)]
theorem b_65535 (i : Nat) : bt 65535 i = decide (i < 16) := by
  rcases Nat.lt_or_ge i 32 with h | h
  · exact (by decide +kernel : ∀ i, i < 32 → bt 65535 i = decide (i < 16)) i h
  · rw [b_big h, decide_eq_false (by omega)]
theorem b_m1 : ∀ i, i < 32 → bt (-1) i = true := by decide +kernel
theorem b_0 (i : Nat) : bt 0 i = false := BitVec.getLsbD_zero
theorem s_l : ∀ n, n < 32 → ((nI n &&& 31).toBitVec.smod 32).toNat = n := by decide +kernel
theorem s_u : ∀ n, n < 32 → (((nI n).toUInt32 &&& Int32.toUInt32 31).toBitVec % 32).toNat = n := by decide +kernel
theorem b_shl (n : Nat) (hn : n < 32) (x : Int32) {i : Nat} (hi : i < 32) : bt (x <<< (nI n &&& 31)) i = (decide (n ≤ i) && bt x (i - n)) := by
  unfold bt
  rw [Int32.toBitVec_shiftLeft]
  show (x.toBitVec <<< ((nI n &&& 31).toBitVec.smod 32).toNat).getLsbD i = _
  rw [s_l n hn, BitVec.getLsbD_shiftLeft]
  rcases Nat.lt_or_ge i n with h | h
  · simp [h, Nat.not_le.mpr h]
  · simp [hi, h, Nat.not_lt.mpr h]
theorem b_ushr (n : Nat) (hn : n < 32) (x : Int32) (i : Nat) : bt ((x.toUInt32 >>> ((nI n).toUInt32 &&& Int32.toUInt32 31)).toInt32) i = bt x (n + i) := by
  show (x.toUInt32 >>> ((nI n).toUInt32 &&& Int32.toUInt32 31)).toBitVec.getLsbD i = x.toUInt32.toBitVec.getLsbD (n + i)
  rw [UInt32.toBitVec_shiftRight]
  show (x.toUInt32.toBitVec >>> (((nI n).toUInt32 &&& Int32.toUInt32 31).toBitVec % 32).toNat).getLsbD i = _
  rw [s_u n hn, BitVec.getLsbD_ushiftRight]
theorem b_sshr (n : Nat) (hn : n < 32) (x : Int32) {i : Nat} (hi : i < 32) : bt (x >>> (nI n &&& 31)) i = if n + i < 32 then bt x (n + i) else bt x 31 := by
  unfold bt
  rw [Int32.toBitVec_shiftRight]
  show (x.toBitVec.sshiftRight ((nI n &&& 31).toBitVec.smod 32).toNat).getLsbD i = _
  rw [s_l n hn, BitVec.getLsbD_sshiftRight, BitVec.msb_eq_getLsbD_last]
  simp [hi]
theorem b_1 (k : Nat) : bt 1 k = decide (k = 0) := by
  rcases Nat.lt_or_ge k 32 with h | h
  · exact (by decide +kernel : ∀ k, k < 32 → bt 1 k = decide (k = 0)) k h
  · rw [b_big h, decide_eq_false (by omega)]
theorem b_one {q j : Nat} (hq : q < 32) (hj : j < 32) : bt ((1 : Int32) <<< (nI q &&& 31)) j = decide (j = q) := by
  rw [b_shl q hq 1 hj, b_1]
  by_cases h : j = q
  · subst h; simp
  · by_cases h' : q ≤ j
    · simp [h, h']; omega
    · simp [h, h']
theorem b_low (y : Int32) : (y &&& 1 = 0) ↔ bt y 0 = false := by
  constructor
  · intro h
    have h1 : bt (y &&& 1) 0 = false := by rw [h, b_0]
    rw [b_and, b_1] at h1
    simpa using h1
  · intro h
    apply b_ext
    intro i hi
    rw [b_and, b_1, b_0]
    by_cases e : i = 0
    · subst e; simp [h]
    · simp [e]
theorem isIn_bt {j : Nat} (hj : j < 32) (x : Int32) : f_BlockCode_isIn (nI j) x = some (if bt x j then 1 else 0) := by
  unfold f_BlockCode_isIn
  have h := b_low (x >>> (nI j &&& 31))
  rw [b_sshr j hj x (i := 0) (by decide), if_pos (by omega)] at h
  by_cases q : bt x j = true
  · rw [if_neg (fun z => by have := h.mp z; rw [Nat.add_zero, q] at this; cases this), if_pos q]
  · have q' : bt x j = false := by simpa using q
    rw [if_pos (h.mpr (by rw [Nat.add_zero]; exact q')), if_neg q]
/-! ===== leaders ===== -/
theorem wz1 {f : Nat → Int32} {i : Nat} (h : i < 21) : wrZ f 21 (nI i) 1 = some (upd f i 1) := by
  unfold wrZ; rw [if_neg (nI_in h (by decide)), nI_clamp (by omega)]; rfl
theorem wz0 {f : Nat → Int32} {i : Nat} (h : i < 21) : wrZ f 21 (nI i) 0 = some (upd f i 0) := by
  unfold wrZ; rw [if_neg (nI_in h (by decide)), nI_clamp (by omega)]; rfl
/-- the class's bits and the reference's booleans -/
def LB (n : Nat) (L : Int32) (lm : Nat → Int32) : Prop := (∀ j, j < n → lm j = if bt L j then 1 else 0) ∧ ∀ j, n ≤ j → j < 32 → bt L j = false
theorem LB.set {n : Nat} (hn : n ≤ 20) {L : Int32} {lm : Nat → Int32} (h : LB n L lm) {q : Nat} (hq : q < n) : LB n (L ||| ((1 : Int32) <<< (nI q &&& 31))) (upd lm q 1) := by
  refine ⟨fun j hj => ?_, fun j h1 h2 => ?_⟩
  · rw [b_or, b_one (by omega) (by omega)]
    by_cases e : j = q
    · subst e; rw [upd_s]; simp
    · rw [upd_n e, h.1 j hj]; simp [e]
  · rw [b_or, b_one (by omega) h2, h.2 j h1 h2, decide_eq_false (by omega)]; rfl
theorem LB.off {n : Nat} {L : Int32} {lm : Nat → Int32} (h : LB n L lm) {q : Nat} (hq : n ≤ q) (x : Int32) : LB n L (upd lm q x) := ⟨fun j hj => by rw [upd_n (by omega)]; exact h.1 j hj, h.2⟩
theorem lead_loop {n : Nat} (hn : n ≤ 20) {op d a b code : Nat → Int32} (hC : CR n op d a b code 0) (hJ : JM n op a b) : ∀ (m i k k' : Nat) (L : Int32) (lm : Nat → Int32), i + m = n → m < k → m < k' → LB n L lm →
    ∃ L' lm', f_Code_findLeaders_7 op a b (nI n) k (nI i) L = some L' ∧ f_BlockCodeModel_findLeaders_31 code (nI n) k' (nI i) lm = some lm' ∧ LB n L' lm' := by
  intro m
  induction m with
  | zero =>
    intro i k k' L lm e hk hk' h
    obtain ⟨k, rfl⟩ : ∃ x, k = x + 1 := ⟨k - 1, by omega⟩
    obtain ⟨k', rfl⟩ : ∃ x, k' = x + 1 := ⟨k' - 1, by omega⟩
    have e' : i = n := by omega
    subst e'
    exact ⟨L, lm, by rw [f_Code_findLeaders_7, if_pos (Int32.le_refl _)], by rw [f_BlockCodeModel_findLeaders_31, if_pos (Int32.le_refl _)], h⟩
  | succ m ih =>
    intro i k k' L lm e hk hk' h
    obtain ⟨k, rfl⟩ : ∃ x, k = x + 1 := ⟨k - 1, by omega⟩
    obtain ⟨k', rfl⟩ : ∃ x, k' = x + 1 := ⟨k' - 1, by omega⟩
    have hi : i < n := by omega
    have h20 : i < 20 := by omega
    obtain ⟨⟨e0, e1, e2, e3⟩, hN⟩ := hC i hi
    simp only [Nat.zero_add] at e0 e1 e2 e3
    have x0 : rdI code 160 (4 * nI i) = some (op i) := by rw [m4', r160 (by omega), e0]
    have x2 : rdI code 160 (4 * nI i + 2) = some (a i) := by rw [m4', p2', r160 (by omega), e2]
    have x3 : rdI code 160 (4 * nI i + 3) = some (b i) := by rw [m4', p3', r160 (by omega), e3]
    have J := hJ i hi
    have go : ∀ (L : Int32) (lm : Nat → Int32), LB n L lm → ∃ L' lm', f_Code_findLeaders_7 op a b (nI n) k (nI (i + 1)) L = some L' ∧ f_BlockCodeModel_findLeaders_31 code (nI n) k' (nI (i + 1)) lm = some lm' ∧ LB n L' lm' :=
      fun L lm h => ih (i + 1) k k' L lm (by omega) (by omega) (by omega) h
    -- behind an 8, 9 or 10
    have behind : ∀ (L : Int32) (lm : Nat → Int32), LB n L lm → ∃ L' lm', (if nI n ≤ nI (i + 1) then f_Code_findLeaders_7 op a b (nI n) k (nI (i + 1)) L else f_Code_findLeaders_7 op a b (nI n) k (nI (i + 1)) (L ||| ((1 : Int32) <<< (nI (i + 1) &&& 31)))) = some L' ∧ f_BlockCodeModel_findLeaders_31 code (nI n) k' (nI (i + 1)) (upd lm (i + 1) 1) = some lm' ∧ LB n L' lm' := by
      intro L lm h
      by_cases q : i + 1 < n
      · rw [if_neg (nI_ge q (by omega))]
        exact go _ _ (h.set hn q)
      · rw [if_pos (nI_le (by omega) (by omega))]
        exact go _ _ (h.off (by omega) 1)
    have neg : (-1 : Int32) < 0 := by decide
    rw [f_Code_findLeaders_7, if_neg (nI_ge hi (by omega)), f_BlockCodeModel_findLeaders_31, if_neg (nI_ge hi (by omega))]
    simp only [r20 h20, x0, x2, x3, Option.bind_some]
    have quiet : ∀ (hq : op i < 8), ∃ L' lm', ((f_BlockCode_namedBy (op i) (a i) (b i)).bind fun rz4 => if rz4 < (0 : Int32) then f_Code_findLeaders_53 op a b (nI n) (f_Code_findLeaders_7 op a b (nI n) k) (nI i) L else f_Code_findLeaders_53 op a b (nI n) (f_Code_findLeaders_7 op a b (nI n) k) (nI i) (L ||| ((1 : Int32) <<< (rz4 &&& 31)))) = some L' ∧
        (if op i = 8 then (wrZ lm 21 (a i) 1).bind fun w3 => f_BlockCodeModel_findLeaders_70 code (nI n) (f_BlockCodeModel_findLeaders_31 code (nI n) k') (nI i) (op i) w3 else f_BlockCodeModel_findLeaders_70 code (nI n) (f_BlockCodeModel_findLeaders_31 code (nI n) k') (nI i) (op i) lm) = some lm' ∧ LB n L' lm' := by
      intro hq
      have n8 : ¬ op i = 8 := fun z => by rw [z] at hq; exact absurd hq (by decide)
      have n9 : ¬ op i = 9 := fun z => by rw [z] at hq; exact absurd hq (by decide)
      simp only [f_BlockCode_namedBy, n8, n9, if_false, Option.bind_some, neg, if_true, f_Code_findLeaders_53, r20 h20, hq, f_Code_findLeaders_88, f_BlockCodeModel_findLeaders_70, f_BlockCodeModel_findLeaders_92, f_BlockCodeModel_findLeaders_107, p1']
      exact go L lm h
    rcases hN with ⟨o, -⟩ | ⟨o, -⟩ | ⟨o, -⟩ | ⟨o, -⟩ | ⟨o, -⟩ | ⟨o, -⟩ | ⟨o, -⟩ | ⟨o, -⟩ | ⟨o, -⟩ | ⟨o, -⟩ | ⟨o, -⟩
    · exact quiet (by rw [o]; decide)
    · exact quiet (by rw [o]; decide)
    · exact quiet (by rw [o]; decide)
    · exact quiet (by rw [o]; decide)
    · exact quiet (by rw [o]; decide)
    · exact quiet (by rw [o]; decide)
    · exact quiet (by rw [o]; decide)
    · exact quiet (by rw [o]; decide)
    · obtain ⟨j, hj, ej⟩ := J.1 o
      have q0 : ¬ nI j < 0 := nI_pos (by omega)
      have c8 : ¬ (8 : Int32) < 8 := by decide
      have c9 : ¬ (8 : Int32) = 9 := by decide
      simp only [o, ej, f_BlockCode_namedBy, if_true, Option.bind_some, q0, if_false, f_Code_findLeaders_53, r20 h20, c8, c9, f_Code_findLeaders_88, wz1 (show j < 21 by omega), f_BlockCodeModel_findLeaders_70, f_BlockCodeModel_findLeaders_92, f_BlockCodeModel_findLeaders_107, p1', wz1 (show i + 1 < 21 by omega)]
      exact behind _ _ (h.set hn hj)
    · obtain ⟨j, hj, ej⟩ := J.2 o
      have q0 : ¬ nI j < 0 := nI_pos (by omega)
      have c8 : ¬ (9 : Int32) < 8 := by decide
      have c9 : ¬ (9 : Int32) = 8 := by decide
      simp only [o, ej, f_BlockCode_namedBy, if_true, Option.bind_some, q0, if_false, f_Code_findLeaders_53, r20 h20, c8, c9, f_Code_findLeaders_88, x3, wz1 (show j < 21 by omega), f_BlockCodeModel_findLeaders_70, f_BlockCodeModel_findLeaders_92, f_BlockCodeModel_findLeaders_107, p1', wz1 (show i + 1 < 21 by omega)]
      exact behind _ _ (h.set hn hj)
    · have c8 : ¬ (10 : Int32) < 8 := by decide
      have c9 : ¬ (10 : Int32) = 8 := by decide
      have c10 : ¬ (10 : Int32) = 9 := by decide
      simp only [o, f_BlockCode_namedBy, if_true, Option.bind_some, neg, if_false, f_Code_findLeaders_53, r20 h20, c8, c9, c10, f_Code_findLeaders_88, f_BlockCodeModel_findLeaders_70, f_BlockCodeModel_findLeaders_92, f_BlockCodeModel_findLeaders_107, p1', wz1 (show i + 1 < 21 by omega)]
      exact behind _ _ h
theorem lead_init (code : Nat → Int32) (size : Int32) : ∀ (m i k : Nat) (lm : Nat → Int32), i + m = 21 → m < k → (∀ j, j < i → lm j = if j = 0 then 1 else 0) →
    ∃ lm', f_BlockCodeModel_findLeaders_2 code size k (nI i) lm = f_BlockCodeModel_findLeaders_31 code size fu 0 lm' ∧ ∀ j, j < 21 → lm' j = if j = 0 then 1 else 0 := by
  intro m
  induction m with
  | zero =>
    intro i k lm e hk h
    obtain ⟨k, rfl⟩ : ∃ x, k = x + 1 := ⟨k - 1, by omega⟩
    have e' : i = 21 := by omega
    subst e'
    exact ⟨lm, by rw [f_BlockCodeModel_findLeaders_2, if_pos (by decide)], h⟩
  | succ m ih =>
    intro i k lm e hk h
    obtain ⟨k, rfl⟩ : ∃ x, k = x + 1 := ⟨k - 1, by omega⟩
    have c : ¬ (20 : Int32) < nI i := by rw [show (20 : Int32) = nI 20 by decide]; exact nI_nlt (by omega) (by decide)
    by_cases z : i = 0
    · subst z
      obtain ⟨lm', g1, g2⟩ := ih 1 k (upd lm 0 1) (by omega) (by omega) (fun j hj => by
        have : j = 0 := by omega
        subst this; rw [upd_s]; rfl)
      refine ⟨lm', ?_, g2⟩
      rw [f_BlockCodeModel_findLeaders_2, if_neg c, if_pos (by decide)]
      simp only [f_BlockCodeModel_findLeaders_22, wz1 (show 0 < 21 by decide), Option.bind_some, p1']
      exact g1
    · obtain ⟨lm', g1, g2⟩ := ih (i + 1) k (upd lm i 0) (by omega) (by omega) (fun j hj => by
        by_cases q : j = i
        · subst q; rw [upd_s, if_neg z]
        · rw [upd_n q]; exact h j (by omega))
      refine ⟨lm', ?_, g2⟩
      rw [f_BlockCodeModel_findLeaders_2, if_neg c, if_neg (nI_ne0 (by omega) (by omega))]
      simp only [f_BlockCodeModel_findLeaders_22, wz0 (show i < 21 by omega), Option.bind_some, p1']
      exact g1
set_option maxRecDepth 100000 in
theorem leaders_eq {n : Nat} (hn : n ≤ 20) (h0 : 0 < n) {op d a b code : Nat → Int32} (hC : CR n op d a b code 0) (hJ : JM n op a b) (l0 : Int32) (lm : Nat → Int32) :
    ∃ L lm', f_Code_findLeaders op a b (nI n) l0 = some L ∧ f_BlockCodeModel_findLeaders code (nI n) lm = some lm' ∧ LB n L lm' := by
  obtain ⟨lm1, g1, g2⟩ := lead_init code (nI n) 21 0 fu lm (by omega) (fuN (by omega)) (fun j hj => absurd hj (by omega))
  have hL : LB n 1 lm1 := ⟨fun j hj => by rw [g2 j (by omega), b_1]; by_cases e : j = 0 <;> simp [e], fun j h1 h2 => by rw [b_1, decide_eq_false (by omega)]⟩
  obtain ⟨L, lm', a1, a2, a3⟩ := lead_loop hn hC hJ n 0 fu fu 1 lm1 (by omega) (fuN (by omega)) (fuN (by omega)) hL
  rw [show nI 0 = (0 : Int32) by decide] at g1 a1 a2
  exact ⟨L, lm', a1, by unfold f_BlockCodeModel_findLeaders; rw [g1]; exact a2, a3⟩
