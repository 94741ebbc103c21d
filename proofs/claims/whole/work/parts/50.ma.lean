/-! ===== needs: both sides find the same ===== -/
def Ag (n : Nat) (v w : Nat → Int32) : Prop := ∀ j, j < n → v j = w j
section NEQ
variable {n p : Nat} {op d a b code : Nat → Int32}
theorem vv_ag {v w : Nat → Int32} (h : Ag n v w) (j : Nat) : vv n v j = vv n w j := by
  unfold vv; split
  · exact h j (by assumption)
  · rfl
theorem ng_ag {v w : Nat → Int32} (h : Ag n v w) (i : Nat) : ng n op d a b i v = ng n op d a b i w := by
  unfold ng bh; simp only [vv_ag h]
theorem Ag.upd {v w : Nat → Int32} (h : Ag n v w) (i : Nat) {x y : Int32} (e : x = y) : Ag n (upd v i x) (upd w i y) := fun j hj => by
  by_cases q : j = i
  · subst q; rw [upd_s, upd_s, e]
  · rw [upd_n q, upd_n q]; exact h j hj
theorem rn_ag : ∀ (i : Nat) {v w : Nat → Int32}, Ag n v w → Ag n (rn (ng n op d a b) i v) (rn (ng n op d a b) i w)
  | 0, _, _, h => h
  | i + 1, _, _, h => rn_ag i (h.upd i (ng_ag h i))
theorem ch_ag : ∀ (i : Nat), i ≤ n → ∀ {v w : Nat → Int32}, Ag n v w → ch (ng n op d a b) i v = ch (ng n op d a b) i w
  | 0, _, _, _, _ => rfl
  | i + 1, hi, v, w, h => by
    unfold ch
    rw [ch_ag i (by omega) (h.upd i (ng_ag h i)), ng_ag h i, h i (by omega)]
theorem itr_ag {v w : Nat → Int32} (h : Ag n v w) : ∀ k, Ag n (itr (ng n op d a b) n v k) (itr (ng n op d a b) n w k)
  | 0 => h
  | k + 1 => rn_ag n (itr_ag h k)
theorem itr_stay {G : Nat → (Nat → Int32) → Int32} {v : Nat → Int32} {K : Nat} (h : ch G n (itr G n v K) = false) : ∀ m, itr G n v (K + m) = itr G n v K
  | 0 => rfl
  | m + 1 => by
    show rn G n (itr G n v (K + m)) = _
    rw [itr_stay h m]; exact ch_no n h
theorem sub1 (x : Int32) : x - 1 = x + -1 := Int32.sub_eq_add_neg x 1
set_option maxRecDepth 100000 in
theorem c_outer (hn : n ≤ 20) (hC : CR n op d a b code (80 * p)) (hJ : JM n op a b) {v : Nat → Int32} {K : Nat} (hK : K ≤ 100) (h0 : ch (ng n op d a b) n (itr (ng n op d a b) n v K) = false) (h1 : ∀ k, k < K → ch (ng n op d a b) n (itr (ng n op d a b) n v k) = true) :
    ∀ (m x f : Nat), x + m = K → m + 1 < f → f_Code_findNeeds_27 op d a b (nI n) f 1 (nI x) (itr (ng n op d a b) n v x) = some (itr (ng n op d a b) n v K) := by
  intro m
  induction m with
  | zero =>
    intro x f e hf
    obtain ⟨f, rfl⟩ : ∃ y, f = y + 2 := ⟨f - 2, by omega⟩
    have e' : x = K := by omega
    subst e'
    have q : ¬ (101 : Int32) ≤ nI x := by rw [show (101 : Int32) = nI 101 by decide]; exact nI_ge (by omega) (by decide)
    rw [f_Code_findNeeds_27, if_neg n10, if_neg q, sub1]
    have := c_round hn hC hJ (f_Code_findNeeds_27 op d a b (nI n) (f + 1)) (nI x) n fu false (itr (ng n op d a b) n v x) (Nat.le_refl n) (fuN (by omega))
    simp only [Bool.false_or, h0, Bool.false_eq_true, if_false] at this
    rw [this, f_Code_findNeeds_27, if_pos rfl, ch_no n h0]
  | succ m ih =>
    intro x f e hf
    obtain ⟨f, rfl⟩ : ∃ y, f = y + 1 := ⟨f - 1, by omega⟩
    have q : ¬ (101 : Int32) ≤ nI x := by rw [show (101 : Int32) = nI 101 by decide]; exact nI_ge (by omega) (by decide)
    rw [f_Code_findNeeds_27, if_neg n10, if_neg q, sub1]
    have := c_round hn hC hJ (f_Code_findNeeds_27 op d a b (nI n) f) (nI x) n fu false (itr (ng n op d a b) n v x) (Nat.le_refl n) (fuN (by omega))
    simp only [Bool.false_or, h1 x (by omega), Bool.false_eq_true, if_false, if_true] at this
    rw [this, p1']
    exact ih (x + 1) f (by omega) (by omega)
theorem Zb.itr {w : Nat → Int32} (h : Zb n w) : ∀ k, Zb n (itr (ng n op d a b) n w k)
  | 0 => h
  | k + 1 => Zb.rn n (Nat.le_refl n) (Zb.itr h k)
set_option maxRecDepth 100000 in
theorem m_outer (hn : n ≤ 20) (hp : p ≤ 1) (hC : CR n op d a b code (80 * p)) (hJ : JM n op a b) {w : Nat → Int32} (hw : Zb n w) :
    ∀ (m x f : Nat), x + m = 120 → m < f → f_BlockCodeModel_findNeeded_23 (nI p) code (nI n) f (nI x) (itr (ng n op d a b) n w x) = some (itr (ng n op d a b) n w 120) := by
  intro m
  induction m with
  | zero =>
    intro x f e hf
    obtain ⟨f, rfl⟩ : ∃ y, f = y + 1 := ⟨f - 1, by omega⟩
    have e' : x = 120 := by omega
    subst e'
    rw [f_BlockCodeModel_findNeeded_23, if_pos (by decide)]
  | succ m ih =>
    intro x f e hf
    obtain ⟨f, rfl⟩ : ∃ y, f = y + 1 := ⟨f - 1, by omega⟩
    have q : ¬ (120 : Int32) ≤ nI x := by rw [show (120 : Int32) = nI 120 by decide]; exact nI_ge (by omega) (by decide)
    rw [f_BlockCodeModel_findNeeded_23, if_neg q, sub1, m_round hn hp hC hJ _ _ n fu _ (Nat.le_refl n) (fuN (by omega)) (hw.itr x), p1']
    exact ih (x + 1) f (by omega) (by omega)
theorem c_init (hn : n ≤ 20) : ∀ (m i f : Nat) (v : Nat → Int32), i + m = n → m < f → (∀ j, j < i → v j = 0) →
    ∃ v', f_Code_findNeeds_2 op d a b (nI n) f (nI i) v = f_Code_findNeeds_27 op d a b (nI n) fu 1 0 v' ∧ ∀ j, j < n → v' j = 0 := by
  intro m
  induction m with
  | zero =>
    intro i f v e hf h
    obtain ⟨f, rfl⟩ : ∃ y, f = y + 1 := ⟨f - 1, by omega⟩
    have e' : i = n := by omega
    subst e'
    exact ⟨v, by rw [f_Code_findNeeds_2, if_pos (Int32.le_refl _)], h⟩
  | succ m ih =>
    intro i f v e hf h
    obtain ⟨f, rfl⟩ : ∃ y, f = y + 1 := ⟨f - 1, by omega⟩
    obtain ⟨v', g1, g2⟩ := ih (i + 1) f (upd v i 0) (by omega) (by omega) (fun j hj => by
      by_cases q : j = i
      · subst q; rw [upd_s]
      · rw [upd_n q]; exact h j (by omega))
    refine ⟨v', ?_, g2⟩
    rw [f_Code_findNeeds_2, if_neg (nI_ge (by omega) (by omega))]
    simp only [w20 (show i < 20 by omega), Option.bind_some, p1']
    exact g1
theorem m_init (p' : Int32) (size : Int32) : ∀ (m i f : Nat) (w : Nat → Int32), i + m = 21 → m < f → (∀ j, j < i → w j = 0) →
    ∃ w', f_BlockCodeModel_findNeeded_2 p' code size f (nI i) w = f_BlockCodeModel_findNeeded_23 p' code size fu 0 w' ∧ ∀ j, j < 21 → w' j = 0 := by
  intro m
  induction m with
  | zero =>
    intro i f w e hf h
    obtain ⟨f, rfl⟩ : ∃ y, f = y + 1 := ⟨f - 1, by omega⟩
    have e' : i = 21 := by omega
    subst e'
    exact ⟨w, by rw [f_BlockCodeModel_findNeeded_2, if_pos (by decide)], h⟩
  | succ m ih =>
    intro i f w e hf h
    obtain ⟨f, rfl⟩ : ∃ y, f = y + 1 := ⟨f - 1, by omega⟩
    have c : ¬ (20 : Int32) < nI i := by rw [show (20 : Int32) = nI 20 by decide]; exact nI_nlt (by omega) (by decide)
    obtain ⟨w', g1, g2⟩ := ih (i + 1) f (upd w i 0) (by omega) (by omega) (fun j hj => by
      by_cases q : j = i
      · subst q; rw [upd_s]
      · rw [upd_n q]; exact h j (by omega))
    refine ⟨w', ?_, g2⟩
    rw [f_BlockCodeModel_findNeeded_2, if_neg c]
    simp only [w21 (show i < 21 by omega), Option.bind_some, p1']
    exact g1
set_option maxRecDepth 100000 in
/-- what both sides find to be needed -/
theorem need_eq (hn : n ≤ 20) (hp : p ≤ 1) (hC : CR n op d a b code (80 * p)) (hJ : JM n op a b) (v0 w0 : Nat → Int32) :
    ∃ v w, f_Code_findNeeds op d a b (nI n) v0 = some v ∧ f_BlockCodeModel_findNeeded (nI p) code (nI n) w0 = some w ∧ Ag n v w ∧ Zb n w ∧ S5 n v := by
  obtain ⟨v, g1, g2⟩ := c_init (op := op) (d := d) (a := a) (b := b) hn n 0 fu v0 (by omega) (fuN (by omega)) (fun j hj => absurd hj (by omega))
  obtain ⟨w, k1, k2⟩ := m_init (code := code) (nI p) (nI n) 21 0 fu w0 (by omega) (fuN (by omega)) (fun j hj => absurd hj (by omega))
  have hP : Pf n op d a b v := fun i hi r hr q => by rw [g2 i hi, b_0] at q; cases q
  have hS : S5 n v := fun j hj => by rw [g2 j hj]; exact s5_0
  have hZ : Zb n w := fun j _ h2 => k2 j h2
  have hA : Ag n v w := fun j hj => by rw [g2 j hj, k2 j (by omega)]
  obtain ⟨K, hK, e0, e1⟩ := ends100 hn hC hP hS
  have c := c_outer hn hC hJ hK e0 e1 K 0 fu (by omega) (fuN (by omega))
  have m := m_outer hn hp hC hJ hZ 120 0 fu (by omega) (fuN (by omega))
  rw [show nI 0 = (0 : Int32) by decide] at g1 k1 c m
  refine ⟨_, _, g1.trans c, k1.trans m, ?_, hZ.itr 120, (itr_ok hC hP hS K).2⟩
  have e0' : ch (ng n op d a b) n (itr (ng n op d a b) n w K) = false := by rw [← ch_ag n (Nat.le_refl n) (itr_ag hA K)]; exact e0
  have := itr_stay e0' (120 - K)
  rw [show K + (120 - K) = 120 by omega] at this
  rw [this]
  exact itr_ag hA K
end NEQ
