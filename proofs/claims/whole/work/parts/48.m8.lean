/-! ===== needs: a round, backwards and in place; both sides do it till nothing changes ===== -/
def vv (n : Nat) (v : Nat → Int32) (j : Nat) : Int32 := if j < n then v j else 0
def oz (o a b : Int32) : Int32 := if o = 10 then a else if o = 9 then (1 : Int32) <<< (a &&& 31) else if o = 2 then (1 : Int32) <<< (a &&& 31) else if o < 3 then 0 else if 7 < o then 0 else ((1 : Int32) <<< (a &&& 31)) ||| ((1 : Int32) <<< (b &&& 31))
def mz (o d : Int32) : Int32 := if o < 1 then 0 else if 7 < o then 0 else (1 : Int32) <<< (d &&& 31)
def bh (n : Nat) (op a b : Nat → Int32) (i : Nat) (v : Nat → Int32) : Int32 :=
  if op i = 8 then vv n v (a i).toNatClampNeg else if op i = 9 then vv n v (b i).toNatClampNeg ||| vv n v (i + 1) else if op i = 10 then 0 else vv n v (i + 1)
def ng (n : Nat) (op d a b : Nat → Int32) (i : Nat) (v : Nat → Int32) : Int32 := oz (op i) (a i) (b i) ||| (bh n op a b i v &&& (mz (op i) (d i) ^^^ -1))
theorem needAt_n {n : Nat} (hn : n ≤ 20) (v : Nat → Int32) {j : Nat} (hj : j ≤ 20) : f_Code_needAt (nI j) v (nI n) = some (vv n v j) := by
  unfold f_Code_needAt vv
  by_cases h : j < n
  · simp [has_i hn h, r20 (show j < 20 by omega), h]
  · have q : f_Code_has (nI j) (nI n) = some 0 := by
      unfold f_Code_has; rw [if_neg (nI_pos (by omega)), if_pos (nI_le (by omega) (by omega))]
    simp [q, h]
section NEED
variable {n p : Nat} {op d a b code : Nat → Int32}
theorem c_opd (hn : n ≤ 20) (hC : CR n op d a b code (80 * p)) {i : Nat} (hi : i < n) : f_Code_operandsOf (nI i) op a b = some (oz (op i) (a i) (b i)) := by
  have h20 : i < 20 := by omega
  obtain ⟨-, hN⟩ := hC i hi
  rcases hN with ⟨o, -⟩ | ⟨o, -⟩ | ⟨o, -⟩ | ⟨o, -⟩ | ⟨o, -⟩ | ⟨o, -⟩ | ⟨o, -⟩ | ⟨o, -⟩ | ⟨o, -⟩ | ⟨o, -⟩ | ⟨o, -⟩ <;>
  simp [f_Code_operandsOf, f_Code_operandsOf_42, f_BlockCode_readsA, f_BlockCode_readsA_11, f_BlockCode_readsA_17, f_BlockCode_combines, r20 h20, o, oz]
theorem c_mdb (hn : n ≤ 20) (hC : CR n op d a b code (80 * p)) {i : Nat} (hi : i < n) : f_Code_madeBy (nI i) op d = some (mz (op i) (d i)) := by
  have h20 : i < 20 := by omega
  obtain ⟨-, hN⟩ := hC i hi
  rcases hN with ⟨o, -⟩ | ⟨o, -⟩ | ⟨o, -⟩ | ⟨o, -⟩ | ⟨o, -⟩ | ⟨o, -⟩ | ⟨o, -⟩ | ⟨o, -⟩ | ⟨o, -⟩ | ⟨o, -⟩ | ⟨o, -⟩ <;>
  simp [f_Code_madeBy, f_BlockCode_makesRegister, r20 h20, o, mz]
theorem c_bh (hn : n ≤ 20) (hC : CR n op d a b code (80 * p)) (hJ : JM n op a b) {i : Nat} (hi : i < n) (v : Nat → Int32) : f_Code_needBehind (nI i) op a b v (nI n) = some (bh n op a b i v) := by
  have h20 : i < 20 := by omega
  have q := needAt_n hn v (show i + 1 ≤ 20 by omega)
  obtain ⟨-, hN⟩ := hC i hi
  rcases hN with ⟨o, -⟩ | ⟨o, -⟩ | ⟨o, -⟩ | ⟨o, -⟩ | ⟨o, -⟩ | ⟨o, -⟩ | ⟨o, -⟩ | ⟨o, -⟩ | ⟨o, -⟩ | ⟨o, -⟩ | ⟨o, -⟩
  iterate 8 simp [f_Code_needBehind, r20 h20, o, bh, p1', q]
  · obtain ⟨j, hj, e⟩ := (hJ i hi).1 o
    simp [f_Code_needBehind, r20 h20, o, bh, e, needAt_n hn v (show j ≤ 20 by omega), nI_clamp (show j < 2 ^ 31 by omega)]
  · obtain ⟨j, hj, e⟩ := (hJ i hi).2 o
    simp [f_Code_needBehind, r20 h20, o, bh, e, needAt_n hn v (show j ≤ 20 by omega), nI_clamp (show j < 2 ^ 31 by omega), p1', q]
  · simp [f_Code_needBehind, r20 h20, o, bh]
/-- the reference's need behind the program is 0 -/
def Zb (n : Nat) (w : Nat → Int32) : Prop := ∀ j, n ≤ j → j < 21 → w j = 0
theorem r21 {f : Nat → Int32} {i : Nat} (h : i < 21) : rdI f 21 (nI i) = some (f i) := rdI_n h (by decide)
theorem w21 {f : Nat → Int32} {i : Nat} {x : Int32} (h : i < 21) : wrI f 21 (nI i) x = some (upd f i x) := wrI_n h (by decide)
theorem rneed {w : Nat → Int32} (hw : Zb n w) {j : Nat} (hj : j < 21) : rdI w 21 (nI j) = some (vv n w j) := by
  rw [r21 hj]; unfold vv
  by_cases h : j < n
  · rw [if_pos h]
  · rw [if_neg h, hw j (by omega) hj]
theorem bx (x y : Int32) (h : ∀ i, i < 32 → bt x i = bt y i) : x = y := b_ext h
set_option maxHeartbeats 4000000 in
theorem m_step (hn : n ≤ 20) (hp : p ≤ 1) (hC : CR n op d a b code (80 * p)) (hJ : JM n op a b) {i : Nat} (hi : i < n) {w : Nat → Int32} (hw : Zb n w) (k23 : Int32 → (Nat → Int32) → Option (Nat → Int32)) (k : Nat) (x2 : Int32) :
    f_BlockCodeModel_findNeeded_36 (nI p) code (nI n) k23 (k + 1) x2 (nI i) w = f_BlockCodeModel_findNeeded_36 (nI p) code (nI n) k23 k x2 (nI i + -1) (upd w i (ng n op d a b i w)) := by
  obtain ⟨⟨e0, e1, e2, e3⟩, hN⟩ := hC i hi
  have x0 : rdI code 160 (80 * nI p + 4 * nI i) = some (op i) := by rw [m80', m4', nI_add, r160 (by omega), e0]
  have x1 : rdI code 160 (80 * nI p + 4 * nI i + 1) = some (d i) := by rw [m80', m4', nI_add, p1', r160 (by omega), e1]
  have x2' : rdI code 160 (80 * nI p + 4 * nI i + 2) = some (a i) := by rw [m80', m4', nI_add, p2', r160 (by omega), e2]
  have x3 : rdI code 160 (80 * nI p + 4 * nI i + 3) = some (b i) := by rw [m80', m4', nI_add, p3', r160 (by omega), e3]
  have nx : rdI w 21 (nI i + 1) = some (vv n w (i + 1)) := by rw [p1']; exact rneed hw (by omega)
  have wi : ∀ x, wrI w 21 (nI i) x = some (upd w i x) := fun x => w21 (by omega)
  rw [f_BlockCodeModel_findNeeded_36, if_neg (nI_pos (by omega))]
  have fin : ∀ x y : Int32, x = y → f_BlockCodeModel_findNeeded_36 (nI p) code (nI n) k23 k x2 (nI i + -1) (upd w i x) = f_BlockCodeModel_findNeeded_36 (nI p) code (nI n) k23 k x2 (nI i + -1) (upd w i y) := fun x y e => by rw [e]
  rcases hN with ⟨o, -⟩ | ⟨o, -⟩ | ⟨o, -⟩ | ⟨o, -⟩ | ⟨o, -⟩ | ⟨o, -⟩ | ⟨o, -⟩ | ⟨o, -⟩ | ⟨o, -⟩ | ⟨o, -⟩ | ⟨o, -⟩
  iterate 8
    · simp [x0, x1, x2', x3, nx, wi, o, f_BlockCodeModel_findNeeded_110, f_BlockCodeModel_findNeeded_138, f_BlockCodeModel_findNeeded_167, f_BlockCodeModel_findNeeded_185, f_BlockCodeModel_findNeeded_201, f_BlockCodeModel_findNeeded_228, f_BlockCodeModel_within]
      refine fin _ _ (bx _ _ fun r hr => ?_)
      simp [ng, bh, oz, mz, o, b_or, b_and, b_xor, b_0, b_m1 r hr]
      try cases bt (vv n w (i + 1)) r <;> simp
      try (cases bt (~~~((1 : Int32) <<< (d i &&& 31))) r <;> cases bt ((1 : Int32) <<< (a i &&& 31)) r <;> cases bt ((1 : Int32) <<< (b i &&& 31)) r <;> rfl)
  · obtain ⟨j, hj, e⟩ := (hJ i hi).1 o
    simp [x0, x1, x2', x3, nx, wi, o, e, rneed hw (show j < 21 by omega), f_BlockCodeModel_findNeeded_110, f_BlockCodeModel_findNeeded_138, f_BlockCodeModel_findNeeded_167, f_BlockCodeModel_findNeeded_185, f_BlockCodeModel_findNeeded_201, f_BlockCodeModel_findNeeded_228, f_BlockCodeModel_within]
    refine fin _ _ (bx _ _ fun r hr => ?_)
    simp [ng, bh, oz, mz, o, e, nI_clamp (show j < 2 ^ 31 by omega), b_or, b_and, b_xor, b_0, b_m1 r hr]
  · obtain ⟨j, hj, e⟩ := (hJ i hi).2 o
    simp [x0, x1, x2', x3, nx, wi, o, e, rneed hw (show j < 21 by omega), f_BlockCodeModel_findNeeded_110, f_BlockCodeModel_findNeeded_138, f_BlockCodeModel_findNeeded_167, f_BlockCodeModel_findNeeded_185, f_BlockCodeModel_findNeeded_201, f_BlockCodeModel_findNeeded_228, f_BlockCodeModel_within]
    refine fin _ _ (bx _ _ fun r hr => ?_)
    simp [ng, bh, oz, mz, o, e, nI_clamp (show j < 2 ^ 31 by omega), b_or, b_and, b_xor, b_0, b_m1 r hr]
    cases bt (vv n w (i + 1)) r <;> cases bt (vv n w j) r <;> simp
  · simp [x0, x1, x2', x3, nx, wi, o, f_BlockCodeModel_findNeeded_110, f_BlockCodeModel_findNeeded_138, f_BlockCodeModel_findNeeded_167, f_BlockCodeModel_findNeeded_185, f_BlockCodeModel_findNeeded_201, f_BlockCodeModel_findNeeded_228, f_BlockCodeModel_within]
    refine fin _ _ (bx _ _ fun r hr => ?_)
    simp [ng, bh, oz, mz, o, b_or, b_and, b_xor, b_0, b_m1 r hr]
/-- the round itself -/
def rn (G : Nat → (Nat → Int32) → Int32) : Nat → (Nat → Int32) → (Nat → Int32)
  | 0, v => v
  | i + 1, v => rn G i (upd v i (G i v))
def ch (G : Nat → (Nat → Int32) → Int32) : Nat → (Nat → Int32) → Bool
  | 0, _ => false
  | i + 1, v => decide (¬ G i v = v i) || ch G i (upd v i (G i v))
theorem m1' (i : Nat) : nI (i + 1) + -1 = nI i := pk_m1 i
theorem neg0 : nI 0 + -1 < 0 := by decide
theorem Zb.upd {w : Nat → Int32} (h : Zb n w) {i : Nat} (hi : i < n) (x : Int32) : Zb n (upd w i x) := fun j h1 h2 => by rw [upd_n (by omega)]; exact h j h1 h2
theorem Zb.rn {G : Nat → (Nat → Int32) → Int32} : ∀ (i : Nat) {w : Nat → Int32}, i ≤ n → Zb n w → Zb n (rn G i w)
  | 0, _, _, h => h
  | i + 1, w, hi, h => Zb.rn i (by omega) (h.upd (by omega) _)
theorem m_round (hn : n ≤ 20) (hp : p ≤ 1) (hC : CR n op d a b code (80 * p)) (hJ : JM n op a b) (k23 : Int32 → (Nat → Int32) → Option (Nat → Int32)) (x2 : Int32) : ∀ (i k : Nat) (w : Nat → Int32), i ≤ n → i < k → Zb n w →
    f_BlockCodeModel_findNeeded_36 (nI p) code (nI n) k23 k x2 (nI i + -1) w = k23 (x2 + 1) (rn (ng n op d a b) i w) := by
  intro i
  induction i with
  | zero =>
    intro k w h1 h2 h3
    obtain ⟨k, rfl⟩ : ∃ x, k = x + 1 := ⟨k - 1, by omega⟩
    rw [f_BlockCodeModel_findNeeded_36, if_pos neg0]; rfl
  | succ i ih =>
    intro k w h1 h2 h3
    obtain ⟨k, rfl⟩ : ∃ x, k = x + 1 := ⟨k - 1, by omega⟩
    rw [m1', m_step hn hp hC hJ (by omega) h3, ih k _ (by omega) (by omega) (h3.upd (by omega) _)]
    rfl
theorem c_round (hn : n ≤ 20) (hC : CR n op d a b code (80 * p)) (hJ : JM n op a b) (k27 : Int32 → Int32 → (Nat → Int32) → Option (Nat → Int32)) (x2 : Int32) : ∀ (i k : Nat) (g : Bool) (v : Nat → Int32), i ≤ n → i < k →
    f_Code_findNeeds_46 op d a b (nI n) k27 k (if g then 1 else 0) x2 (nI i + -1) v = k27 (if g || ch (ng n op d a b) i v then 1 else 0) (x2 + 1) (rn (ng n op d a b) i v) := by
  intro i
  induction i with
  | zero =>
    intro k g v h1 h2
    obtain ⟨k, rfl⟩ : ∃ x, k = x + 1 := ⟨k - 1, by omega⟩
    rw [f_Code_findNeeds_46, if_pos neg0]
    simp [ch, rn]
  | succ i ih =>
    intro k g v h1 h2
    obtain ⟨k, rfl⟩ : ∃ x, k = x + 1 := ⟨k - 1, by omega⟩
    have h20 : i < 20 := by omega
    rw [m1', f_Code_findNeeds_46, if_neg (nI_pos (by omega))]
    simp only [c_opd hn hC (show i < n by omega), c_bh hn hC hJ (show i < n by omega) v, c_mdb hn hC (show i < n by omega), Option.bind_some, f_Code_findNeeds_86, f_Code_findNeeds_91, r20 h20, w20 h20]
    have E : oz (op i) (a i) (b i) ||| (bh n op a b i v &&& (mz (op i) (d i) ^^^ -1)) = ng n op d a b i v := rfl
    rw [E]
    cases g with
    | true =>
      have q : ¬ (if (true = true) then (1 : Int32) else 0) = 0 := by decide
      rw [if_neg q]
      have := ih k true (upd v i (ng n op d a b i v)) (by omega) (by omega)
      simpa [ch, rn] using this
    | false =>
      have q : (if (false = true) then (1 : Int32) else 0) = 0 := by decide
      rw [if_pos q]
      by_cases e : ng n op d a b i v = v i
      · rw [if_pos e]
        have := ih k false (upd v i (ng n op d a b i v)) (by omega) (by omega)
        simpa [ch, rn, e] using this
      · rw [if_neg e]
        have := ih k true (upd v i (ng n op d a b i v)) (by omega) (by omega)
        simpa [ch, rn, e] using this
end NEED
