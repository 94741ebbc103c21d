/-! ===== needs: the rounds end ===== -/
def sb (x y : Int32) : Prop := ∀ r, r < 32 → bt x r = true → bt y r = true
def Le (n : Nat) (v w : Nat → Int32) : Prop := ∀ j, j < n → sb (v j) (w j)
theorem sb.rfl' {x : Int32} : sb x x := fun _ _ h => h
theorem sb.tr {x y z : Int32} (h1 : sb x y) (h2 : sb y z) : sb x z := fun r hr h => h2 r hr (h1 r hr h)
def c1' (x : Int32) (r : Nat) : Nat := if bt x r then 1 else 0
def cnt (x : Int32) : Nat := c1' x 0 + c1' x 1 + c1' x 2 + c1' x 3 + c1' x 4
theorem c1_le (x : Int32) (r : Nat) : c1' x r ≤ 1 := by unfold c1'; split <;> omega
theorem c1_sb {x y : Int32} (h : sb x y) {r : Nat} (hr : r < 32) : c1' x r ≤ c1' y r := by
  unfold c1'
  by_cases q : bt x r = true
  · rw [if_pos q, if_pos (h r hr q)]; exact Nat.le_refl 1
  · rw [if_neg q]; omega
theorem c1_eq {x y : Int32} {r : Nat} (h : c1' x r = c1' y r) : bt x r = bt y r := by
  unfold c1' at h
  cases q : bt x r <;> cases q' : bt y r <;> simp [q, q'] at h <;> rfl
theorem cnt5 (x : Int32) : cnt x ≤ 5 := by
  have := c1_le x 0; have := c1_le x 1; have := c1_le x 2; have := c1_le x 3; have := c1_le x 4
  unfold cnt; omega
theorem cnt_sb {x y : Int32} (h : sb x y) : cnt x ≤ cnt y := by
  have := c1_sb h (r := 0) (by decide); have := c1_sb h (r := 1) (by decide); have := c1_sb h (r := 2) (by decide); have := c1_sb h (r := 3) (by decide); have := c1_sb h (r := 4) (by decide)
  unfold cnt; omega
def s5 (x : Int32) : Prop := ∀ r, 5 ≤ r → r < 32 → bt x r = false
theorem cnt_lt {x y : Int32} (h : sb x y) (hx : s5 x) (hy : s5 y) (ne : ¬ y = x) : cnt x < cnt y := by
  apply Decidable.byContradiction
  intro q
  have a0 := c1_sb h (r := 0) (by decide); have a1 := c1_sb h (r := 1) (by decide); have a2 := c1_sb h (r := 2) (by decide); have a3 := c1_sb h (r := 3) (by decide); have a4 := c1_sb h (r := 4) (by decide)
  unfold cnt at q
  have e0 := c1_eq (x := x) (y := y) (r := 0) (by omega); have e1 := c1_eq (x := x) (y := y) (r := 1) (by omega); have e2 := c1_eq (x := x) (y := y) (r := 2) (by omega); have e3 := c1_eq (x := x) (y := y) (r := 3) (by omega); have e4 := c1_eq (x := x) (y := y) (r := 4) (by omega)
  apply ne
  apply b_ext
  intro r hr
  by_cases h5 : 5 ≤ r
  · rw [hx r h5 hr, hy r h5 hr]
  · have : r = 0 ∨ r = 1 ∨ r = 2 ∨ r = 3 ∨ r = 4 := by omega
    rcases this with rfl | rfl | rfl | rfl | rfl
    · exact e0.symm
    · exact e1.symm
    · exact e2.symm
    · exact e3.symm
    · exact e4.symm
def mu : Nat → (Nat → Int32) → Nat
  | 0, _ => 0
  | n + 1, v => mu n v + cnt (v n)
theorem mu_le : ∀ (n : Nat) (v : Nat → Int32), mu n v ≤ 5 * n
  | 0, _ => by simp [mu]
  | n + 1, v => by have := mu_le n v; have := cnt5 (v n); unfold mu; omega
theorem mu_mono : ∀ (n : Nat) {v w : Nat → Int32}, Le n v w → mu n v ≤ mu n w
  | 0, _, _, _ => Nat.le_refl _
  | n + 1, v, w, h => by
    have := mu_mono n (v := v) (w := w) (fun j hj => h j (by omega)); have := cnt_sb (h n (by omega)); unfold mu; omega
theorem mu_lt : ∀ (n : Nat) {v w : Nat → Int32}, Le n v w → ∀ i, i < n → cnt (v i) < cnt (w i) → mu n v < mu n w
  | 0, _, _, _, i, hi, _ => absurd hi (by omega)
  | n + 1, v, w, h, i, hi, hc => by
    by_cases e : i = n
    · subst e
      have := mu_mono i (v := v) (w := w) (fun j hj => h j (by omega)); unfold mu; omega
    · have := mu_lt n (v := v) (w := w) (fun j hj => h j (by omega)) i (by omega) hc; have := cnt_sb (h n (by omega)); unfold mu; omega
theorem vv_mono {n : Nat} {v w : Nat → Int32} (h : Le n v w) (j : Nat) : sb (vv n v j) (vv n w j) := by
  unfold vv
  by_cases q : j < n
  · rw [if_pos q, if_pos q]; exact h j q
  · rw [if_neg q, if_neg q]; exact sb.rfl'
section NFIX
variable {n p : Nat} {op d a b code : Nat → Int32}
theorem bh_mono {v w : Nat → Int32} (h : Le n v w) (i : Nat) : sb (bh n op a b i v) (bh n op a b i w) := by
  unfold bh
  split
  · exact vv_mono h _
  · split
    · intro r hr q
      rw [b_or] at q ⊢
      simp only [Bool.or_eq_true] at q ⊢
      exact q.elim (fun q => Or.inl (vv_mono h _ r hr q)) (fun q => Or.inr (vv_mono h _ r hr q))
    · split
      · exact sb.rfl'
      · exact vv_mono h _
theorem ng_mono {v w : Nat → Int32} (h : Le n v w) (i : Nat) : sb (ng n op d a b i v) (ng n op d a b i w) := by
  intro r hr q
  unfold ng at q ⊢
  rw [b_or, b_and] at q ⊢
  simp only [Bool.or_eq_true, Bool.and_eq_true] at q ⊢
  exact q.elim Or.inl (fun q => Or.inr ⟨bh_mono h i r hr q.1, q.2⟩)
def Pf (n : Nat) (op d a b : Nat → Int32) (v : Nat → Int32) : Prop := ∀ i, i < n → sb (v i) (ng n op d a b i v)
theorem Pf.step {v : Nat → Int32} (h : Pf n op d a b v) {i : Nat} (hi : i < n) : Le n v (upd v i (ng n op d a b i v)) ∧ Pf n op d a b (upd v i (ng n op d a b i v)) := by
  have hl : Le n v (upd v i (ng n op d a b i v)) := fun j hj => by
    by_cases e : j = i
    · subst e; rw [upd_s]; exact h j hj
    · rw [upd_n e]; exact sb.rfl'
  refine ⟨hl, fun j hj => ?_⟩
  by_cases e : j = i
  · subst e; rw [upd_s]; exact ng_mono hl j
  · rw [upd_n e]; exact (h j hj).tr (ng_mono hl j)
theorem Pf.rn : ∀ (i : Nat) {v : Nat → Int32}, i ≤ n → Pf n op d a b v → Le n v (rn (ng n op d a b) i v) ∧ Pf n op d a b (rn (ng n op d a b) i v)
  | 0, v, _, h => ⟨fun _ _ => sb.rfl', h⟩
  | i + 1, v, hi, h => by
    obtain ⟨h1, h2⟩ := h.step (show i < n by omega)
    obtain ⟨h3, h4⟩ := Pf.rn i (by omega) h2
    exact ⟨fun j hj => (h1 j hj).tr (h3 j hj), h4⟩
def S5 (n : Nat) (v : Nat → Int32) : Prop := ∀ j, j < n → s5 (v j)
theorem s5_one {q : Nat} (hq : q < 5) : s5 ((1 : Int32) <<< (nI q &&& 31)) := fun r h1 h2 => by rw [b_one (by omega) h2, decide_eq_false (by omega)]
theorem s5_set {j : Nat} (hj : j < 32) : s5 (nI j) := fun r h1 h2 => by
  have : ∀ j, j < 32 → ∀ r, r < 32 → 5 ≤ r → bt (nI j) r = false := by decide +kernel
  exact this j hj r h2 h1
theorem s5_0 : s5 0 := fun r _ _ => b_0 r
theorem s5_or {x y : Int32} (hx : s5 x) (hy : s5 y) : s5 (x ||| y) := fun r h1 h2 => by rw [b_or, hx r h1 h2, hy r h1 h2]; rfl
theorem s5_oz {o d a b : Int32} (h : Nm o d a b) : s5 (oz o a b) := by
  rcases h with ⟨rfl, -⟩ | ⟨rfl, -⟩ | ⟨rfl, -, ⟨j, hj, rfl⟩, -⟩ | ⟨rfl, -, ⟨j, hj, rfl⟩, ⟨k, hk, rfl⟩⟩ | ⟨rfl, -, ⟨j, hj, rfl⟩, ⟨k, hk, rfl⟩⟩ | ⟨rfl, -, ⟨j, hj, rfl⟩, ⟨k, hk, rfl⟩⟩ | ⟨rfl, -, ⟨j, hj, rfl⟩, ⟨k, hk, rfl⟩⟩ | ⟨rfl, -, ⟨j, hj, rfl⟩, ⟨k, hk, rfl⟩⟩ | ⟨rfl, -⟩ | ⟨rfl, -, ⟨j, hj, rfl⟩, -⟩ | ⟨rfl, -, ⟨j, hj, rfl⟩, -⟩
  · simp [oz]; exact s5_0
  · simp [oz]; exact s5_0
  · simp [oz]; exact s5_one hj
  · simp [oz]; exact s5_or (s5_one hj) (s5_one hk)
  · simp [oz]; exact s5_or (s5_one hj) (s5_one hk)
  · simp [oz]; exact s5_or (s5_one hj) (s5_one hk)
  · simp [oz]; exact s5_or (s5_one hj) (s5_one hk)
  · simp [oz]; exact s5_or (s5_one hj) (s5_one hk)
  · simp [oz]; exact s5_0
  · simp [oz]; exact s5_one hj
  · simp [oz]; exact s5_set hj
theorem s5_vv {v : Nat → Int32} (h : S5 n v) (j : Nat) : s5 (vv n v j) := by
  unfold vv; split
  · exact h j (by assumption)
  · exact s5_0
theorem s5_ng (hC : CR n op d a b code (80 * p)) {v : Nat → Int32} (h : S5 n v) {i : Nat} (hi : i < n) : s5 (ng n op d a b i v) := by
  have hb : s5 (bh n op a b i v) := by
    unfold bh; split
    · exact s5_vv h _
    · split
      · exact s5_or (s5_vv h _) (s5_vv h _)
      · split
        · exact s5_0
        · exact s5_vv h _
  refine s5_or (s5_oz (hC i hi).2) (fun r h1 h2 => ?_)
  rw [b_and, hb r h1 h2]; rfl
theorem S5.upd {v : Nat → Int32} (h : S5 n v) {i : Nat} {x : Int32} (hx : s5 x) : S5 n (upd v i x) := fun j hj => by
  by_cases e : j = i
  · subst e; rw [upd_s]; exact hx
  · rw [upd_n e]; exact h j hj
theorem S5.rn (hC : CR n op d a b code (80 * p)) : ∀ (i : Nat) {v : Nat → Int32}, i ≤ n → S5 n v → S5 n (rn (ng n op d a b) i v)
  | 0, _, _, h => h
  | i + 1, v, hi, h => S5.rn hC i (by omega) (h.upd (s5_ng hC h (by omega)))
theorem ch_lt (hC : CR n op d a b code (80 * p)) : ∀ (i : Nat) {v : Nat → Int32}, i ≤ n → Pf n op d a b v → S5 n v → ch (ng n op d a b) i v = true → mu n v < mu n (rn (ng n op d a b) i v)
  | 0, _, _, _, _, h => by cases h
  | i + 1, v, hi, hP, hS, h => by
    obtain ⟨h1, h2⟩ := hP.step (show i < n by omega)
    have hS' : S5 n (upd v i (ng n op d a b i v)) := hS.upd (s5_ng hC hS (by omega))
    simp only [ch, Bool.or_eq_true, decide_eq_true_eq] at h
    show mu n v < mu n (rn (ng n op d a b) i (upd v i (ng n op d a b i v)))
    rcases h with h | h
    · have hl := (Pf.rn i (show i ≤ n by omega) h2).1
      refine Nat.lt_of_lt_of_le (mu_lt n h1 i (by omega) ?_) (mu_mono n hl)
      rw [upd_s]
      exact cnt_lt (hP i (by omega)) (hS i (by omega)) (s5_ng hC hS (by omega)) h
    · exact Nat.lt_of_le_of_lt (mu_mono n h1) (ch_lt hC i (by omega) h2 hS' h)
theorem upd_id (v : Nat → Int32) (i : Nat) : upd v i (v i) = v := by
  funext j
  by_cases e : j = i
  · subst e; rw [upd_s]
  · rw [upd_n e]
theorem ch_no {G : Nat → (Nat → Int32) → Int32} : ∀ (i : Nat) {v : Nat → Int32}, ch G i v = false → rn G i v = v
  | 0, _, _ => rfl
  | i + 1, v, h => by
    simp only [ch, Bool.or_eq_false_iff, decide_eq_false_iff_not, Decidable.not_not] at h
    show rn G i (upd v i (G i v)) = v
    rw [h.1, upd_id]
    rw [h.1, upd_id] at h
    exact ch_no i h.2
def itr (G : Nat → (Nat → Int32) → Int32) (n : Nat) (v : Nat → Int32) : Nat → (Nat → Int32)
  | 0 => v
  | k + 1 => rn G n (itr G n v k)
theorem itr_ok (hC : CR n op d a b code (80 * p)) {v : Nat → Int32} (hP : Pf n op d a b v) (hS : S5 n v) : ∀ k, Pf n op d a b (itr (ng n op d a b) n v k) ∧ S5 n (itr (ng n op d a b) n v k)
  | 0 => ⟨hP, hS⟩
  | k + 1 => ⟨(Pf.rn n (Nat.le_refl n) (itr_ok hC hP hS k).1).2, S5.rn hC n (Nat.le_refl n) (itr_ok hC hP hS k).2⟩
theorem itr_mu (hC : CR n op d a b code (80 * p)) {v : Nat → Int32} (hP : Pf n op d a b v) (hS : S5 n v) : ∀ m, (∀ k, k < m → ch (ng n op d a b) n (itr (ng n op d a b) n v k) = true) → m ≤ mu n (itr (ng n op d a b) n v m)
  | 0, _ => Nat.zero_le _
  | m + 1, h => by
    have h1 := itr_mu hC hP hS m (fun k hk => h k (by omega))
    have h2 := ch_lt hC n (Nat.le_refl n) (itr_ok hC hP hS m).1 (itr_ok hC hP hS m).2 (h m (by omega))
    show m + 1 ≤ mu n (rn (ng n op d a b) n (itr (ng n op d a b) n v m))
    omega
theorem first_no (f : Nat → Bool) : ∀ m, (∃ K, K ≤ m ∧ f K = false ∧ ∀ k, k < K → f k = true) ∨ ∀ k, k ≤ m → f k = true
  | 0 => by
    cases h : f 0 with
    | false => exact Or.inl ⟨0, Nat.le_refl 0, h, fun k hk => absurd hk (by omega)⟩
    | true => exact Or.inr (fun k hk => by have : k = 0 := by omega
                                           subst this; exact h)
  | m + 1 => by
    rcases first_no f m with ⟨K, h1, h2, h3⟩ | h1
    · exact Or.inl ⟨K, by omega, h2, h3⟩
    · cases h : f (m + 1) with
      | false => exact Or.inl ⟨m + 1, Nat.le_refl _, h, fun k hk => h1 k (by omega)⟩
      | true => exact Or.inr (fun k hk => by
          by_cases e : k = m + 1
          · subst e; exact h
          · exact h1 k (by omega))
/-- the rounds end within a hundred -/
theorem ends100 (hn : n ≤ 20) (hC : CR n op d a b code (80 * p)) {v : Nat → Int32} (hP : Pf n op d a b v) (hS : S5 n v) : ∃ K, K ≤ 100 ∧ ch (ng n op d a b) n (itr (ng n op d a b) n v K) = false ∧ ∀ k, k < K → ch (ng n op d a b) n (itr (ng n op d a b) n v k) = true := by
  rcases first_no (fun k => ch (ng n op d a b) n (itr (ng n op d a b) n v k)) 100 with h | h
  · exact h
  · have h1 := itr_mu hC hP hS 101 (fun k hk => h k (by omega))
    have h2 := mu_le n (itr (ng n op d a b) n v 101)
    omega
end NFIX
