/-! ===== run ===== -/
theorem run_end {n : Nat} (hn : n ≤ 20) (F : Int32) (inp op d a b : Nat → Int32) (k : Nat) (c : Int32) (xr : Nat → Int32) (told dn : Int32) : f_Machine_run_9 F inp op d a b (nI n) (k + 1) (nI n) c xr told dn = some (1, xr, told, dn) := by
  rw [f_Machine_run_9]
  simp only [has_n hn, Option.bind_some, if_true, ite_self]
theorem val_eq {o x y : Int32} (h : o = 3 ∨ o = 4 ∨ o = 5 ∨ o = 6 ∨ o = 7) (hz : o = 6 → ¬ y = 0) : ∃ v, f_BlockCode_combined o x y = some v ∧ f_BlockCodeModel_value o x y = some v := by
  rcases h with rfl | rfl | rfl | rfl | rfl
  · exact ⟨x + y, by simp [f_BlockCode_combined], by simp [f_BlockCodeModel_value]⟩
  · exact ⟨x - y, by simp [f_BlockCode_combined], by simp [f_BlockCodeModel_value]⟩
  · exact ⟨x * y, by simp [f_BlockCode_combined], by simp [f_BlockCodeModel_value]⟩
  · have q := hz rfl
    exact ⟨x / y, by simp [f_BlockCode_combined, q, dvI], by simp [f_BlockCodeModel_value, q, dvI]⟩
  · by_cases q : y ≤ x
    · exact ⟨0, by simp [f_BlockCode_combined, q], by simp [f_BlockCodeModel_value, q]⟩
    · exact ⟨1, by simp [f_BlockCode_combined, q], by simp [f_BlockCodeModel_value, q]⟩
def RunEq (X : Option (Int32 × (Nat → Int32) × Int32 × Int32)) (Y : Option (Int32 × Int32 × (Nat → Int32) × Int32 × Int32 × Int32)) (th : Int32) : Prop :=
  ∃ r xr' told' done' mr' set' steps' ended', X = some (r, xr', told', done') ∧ Y = some (r, th, mr', set', steps', ended') ∧ RT xr' told' done' mr' set' steps' ended'
set_option maxHeartbeats 4000000 in
theorem run_loop {n p : Nat} (hn : n ≤ 20) (hp : p ≤ 1) {op d a b code : Nat → Int32} (hC : CR n op d a b code (80 * p)) (hJ : JM n op a b) (inp inp' : Nat → Int32) (ms th set : Int32) {F : Nat} (hF : F ≤ 1000) : ∀ (m i k k' st : Nat) (xr mr : Nat → Int32), st + m = F → m + 1 < k → m < k' → i < n → RI xr mr →
    RunEq (f_Machine_run_9 (nI F) inp op d a b (nI n) k (nI i) (nI (st + 1)) xr 0 (nI st)) (f_BlockCodeModel_run_62 (nI p) (nI F) code (nI n) ms inp' k' (nI i) th mr set (nI st) 0) th := by
  intro m
  induction m with
  | zero =>
    intro i k k' st xr mr e hk hk' hi hR
    obtain ⟨k, rfl⟩ : ∃ x, k = x + 1 := ⟨k - 1, by omega⟩
    obtain ⟨k', rfl⟩ : ∃ x, k' = x + 1 := ⟨k' - 1, by omega⟩
    have e' : st = F := by omega
    subst e'
    refine ⟨2, xr, 0, nI st, mr, set, nI st, 0, ?_, ?_, rfl, Or.inl ⟨rfl, rfl⟩⟩
    · rw [f_Machine_run_9, if_pos (nI_lt (by omega) (by omega))]
      simp [has_i hn hi]
    · rw [f_BlockCodeModel_run_62, if_pos (Int32.le_refl _)]
  | succ m ih =>
    intro i k k' st xr mr e hk hk' hi hR
    obtain ⟨k, rfl⟩ : ∃ x, k = x + 1 := ⟨k - 1, by omega⟩
    obtain ⟨k', rfl⟩ : ∃ x, k' = x + 1 := ⟨k' - 1, by omega⟩
    have h20 : i < 20 := by omega
    obtain ⟨⟨e0, e1, e2, e3⟩, hN⟩ := hC i hi
    have x0 : rdI code 160 (80 * nI p + 4 * nI i) = some (op i) := by rw [m80', m4', nI_add, r160 (by omega), e0]
    have x1 : rdI code 160 (80 * nI p + 4 * nI i + 1) = some (d i) := by rw [m80', m4', nI_add, p1', r160 (by omega), e1]
    have x2 : rdI code 160 (80 * nI p + 4 * nI i + 2) = some (a i) := by rw [m80', m4', nI_add, p2', r160 (by omega), e2]
    have x3 : rdI code 160 (80 * nI p + 4 * nI i + 3) = some (b i) := by rw [m80', m4', nI_add, p3', r160 (by omega), e3]
    have c1 : ¬ nI F < nI (st + 1) := nI_nlt (by omega) (by omega)
    have c2 : ¬ nI F ≤ nI st := nI_ge (by omega) (by omega)
    have cont : ∀ (i' : Nat) (xr' mr' : Nat → Int32), i' ≤ n → RI xr' mr' → RunEq (f_Machine_run_9 (nI F) inp op d a b (nI n) k (nI i') (nI (st + 1 + 1)) xr' 0 (nI (st + 1)))
        (f_BlockCodeModel_run_276 (nI p) (nI F) code (nI n) ms inp' (f_BlockCodeModel_run_62 (nI p) (nI F) code (nI n) ms inp' k') (nI i') th mr' set (nI (st + 1)) 0) th := by
      intro i' xr' mr' hi' hR'
      by_cases q : i' = n
      · subst q
        obtain ⟨k, rfl⟩ : ∃ x, k = x + 1 := ⟨k - 1, by omega⟩
        exact ⟨1, xr', 0, nI (st + 1), mr', set, nI (st + 1), 0, run_end hn _ _ _ _ _ _ _ _ _ _ _, by unfold f_BlockCodeModel_run_276; rw [if_pos rfl], rfl, Or.inl ⟨rfl, rfl⟩⟩
      · obtain ⟨r, a1, a2, a3, a4, a5, a6, a7, g1, g2, g3⟩ := ih i' k k' (st + 1) xr' mr' (by omega) (by omega) (by omega) (by omega) hR'
        refine ⟨r, a1, a2, a3, a4, a5, a6, a7, g1, ?_, g3⟩
        unfold f_BlockCodeModel_run_276
        rw [if_neg (fun z => q ((nI_eq (by omega) (by omega)).mp z))]
        exact g2
    rw [f_Machine_run_9, if_neg c1, f_BlockCodeModel_run_62, if_neg c2]
    simp only [has_i hn hi, Option.bind_some, n10, if_false, r20 h20, x0, x1, x2, x3, p1']
    have J := hJ i hi
    rcases hN with ⟨o, -, -, -⟩ | ⟨o, ⟨jd, hd, ed⟩, -⟩ | ⟨o, ⟨jd, hd, ed⟩, ⟨ja, ha, ea⟩, -⟩ | ⟨o, ⟨jd, hd, ed⟩, ⟨ja, ha, ea⟩, ⟨jb, hb, eb⟩⟩ | ⟨o, ⟨jd, hd, ed⟩, ⟨ja, ha, ea⟩, ⟨jb, hb, eb⟩⟩ | ⟨o, ⟨jd, hd, ed⟩, ⟨ja, ha, ea⟩, ⟨jb, hb, eb⟩⟩ | ⟨o, ⟨jd, hd, ed⟩, ⟨ja, ha, ea⟩, ⟨jb, hb, eb⟩⟩ | ⟨o, ⟨jd, hd, ed⟩, ⟨ja, ha, ea⟩, ⟨jb, hb, eb⟩⟩ | ⟨o, -, -, -⟩ | ⟨o, -, ⟨ja, ha, ea⟩, -⟩ | ⟨o, -, -, -⟩
    · simp [o, f_Machine_breaksOff, f_Machine_perform, f_Machine_placeAfter, f_Machine_placeAfter_47, f_BlockCode_combines, f_BlockCodeModel_run_154, f_BlockCodeModel_run_189, f_BlockCodeModel_run_209, f_BlockCodeModel_run_246, f_BlockCodeModel_run_256, f_BlockCodeModel_within, r20 h20, p1']
      exact cont (i + 1) xr mr (by omega) hR
    · simp [o, ed, f_Machine_breaksOff, f_Machine_perform, f_Machine_placeAfter, f_Machine_placeAfter_47, f_BlockCode_combines, f_BlockCodeModel_run_154, f_BlockCodeModel_run_189, f_BlockCodeModel_run_209, f_BlockCodeModel_run_246, f_BlockCodeModel_run_256, f_BlockCodeModel_within, r20 h20, w5 hd, p1']
      exact cont (i + 1) _ _ (by omega) (hR.upd jd (a i))
    · simp [o, ed, ea, f_Machine_breaksOff, f_Machine_perform, f_Machine_placeAfter, f_Machine_placeAfter_47, f_BlockCode_combines, f_BlockCodeModel_run_154, f_BlockCodeModel_run_189, f_BlockCodeModel_run_209, f_BlockCodeModel_run_246, f_BlockCodeModel_run_256, f_BlockCodeModel_within, r20 h20, r5 ha, w5 hd, p1']
      rw [hR ja ha]
      exact cont (i + 1) _ _ (by omega) (hR.upd jd (mr ja))
    · obtain ⟨v, v1, v2⟩ := val_eq (o := 3) (x := mr ja) (y := mr jb) (by simp) (by simp)
      simp [o, ed, ea, eb, f_Machine_breaksOff, f_Machine_perform, f_Machine_placeAfter, f_Machine_placeAfter_47, f_BlockCode_combines, f_BlockCodeModel_run_154, f_BlockCodeModel_run_189, f_BlockCodeModel_run_209, f_BlockCodeModel_run_246, f_BlockCodeModel_run_256, f_BlockCodeModel_within, r20 h20, r5 ha, r5 hb, w5 hd, p1', hR ja ha, hR jb hb, v1, v2]
      exact cont (i + 1) _ _ (by omega) (hR.upd jd v)
    · obtain ⟨v, v1, v2⟩ := val_eq (o := 4) (x := mr ja) (y := mr jb) (by simp) (by simp)
      simp [o, ed, ea, eb, f_Machine_breaksOff, f_Machine_perform, f_Machine_placeAfter, f_Machine_placeAfter_47, f_BlockCode_combines, f_BlockCodeModel_run_154, f_BlockCodeModel_run_189, f_BlockCodeModel_run_209, f_BlockCodeModel_run_246, f_BlockCodeModel_run_256, f_BlockCodeModel_within, r20 h20, r5 ha, r5 hb, w5 hd, p1', hR ja ha, hR jb hb, v1, v2]
      exact cont (i + 1) _ _ (by omega) (hR.upd jd v)
    · obtain ⟨v, v1, v2⟩ := val_eq (o := 5) (x := mr ja) (y := mr jb) (by simp) (by simp)
      simp [o, ed, ea, eb, f_Machine_breaksOff, f_Machine_perform, f_Machine_placeAfter, f_Machine_placeAfter_47, f_BlockCode_combines, f_BlockCodeModel_run_154, f_BlockCodeModel_run_189, f_BlockCodeModel_run_209, f_BlockCodeModel_run_246, f_BlockCodeModel_run_256, f_BlockCodeModel_within, r20 h20, r5 ha, r5 hb, w5 hd, p1', hR ja ha, hR jb hb, v1, v2]
      exact cont (i + 1) _ _ (by omega) (hR.upd jd v)
    · by_cases z : mr jb = 0
      · simp [o, ed, ea, eb, f_Machine_breaksOff, f_Machine_perform, f_Machine_placeAfter, f_Machine_placeAfter_47, f_BlockCode_combines, f_BlockCodeModel_run_154, f_BlockCodeModel_run_189, f_BlockCodeModel_run_209, f_BlockCodeModel_run_246, f_BlockCodeModel_run_256, f_BlockCodeModel_within, r20 h20, r5 ha, r5 hb, w5 hd, p1', hR ja ha, hR jb hb, z]
        exact ⟨_, _, _, _, _, _, _, _, rfl, rfl, rfl, Or.inl ⟨rfl, rfl⟩⟩
      · obtain ⟨v, v1, v2⟩ := val_eq (o := 6) (x := mr ja) (y := mr jb) (by simp) (fun _ => z)
        simp [o, ed, ea, eb, f_Machine_breaksOff, f_Machine_perform, f_Machine_placeAfter, f_Machine_placeAfter_47, f_BlockCode_combines, f_BlockCodeModel_run_154, f_BlockCodeModel_run_189, f_BlockCodeModel_run_209, f_BlockCodeModel_run_246, f_BlockCodeModel_run_256, f_BlockCodeModel_within, r20 h20, r5 ha, r5 hb, w5 hd, p1', hR ja ha, hR jb hb, v1, v2, z]
        exact cont (i + 1) _ _ (by omega) (hR.upd jd v)
    · obtain ⟨v, v1, v2⟩ := val_eq (o := 7) (x := mr ja) (y := mr jb) (by simp) (by simp)
      simp [o, ed, ea, eb, f_Machine_breaksOff, f_Machine_perform, f_Machine_placeAfter, f_Machine_placeAfter_47, f_BlockCode_combines, f_BlockCodeModel_run_154, f_BlockCodeModel_run_189, f_BlockCodeModel_run_209, f_BlockCodeModel_run_246, f_BlockCodeModel_run_256, f_BlockCodeModel_within, r20 h20, r5 ha, r5 hb, w5 hd, p1', hR ja ha, hR jb hb, v1, v2]
      exact cont (i + 1) _ _ (by omega) (hR.upd jd v)
    · obtain ⟨j, hj, ej⟩ := J.1 o
      simp [o, ej, f_Machine_breaksOff, f_Machine_perform, f_Machine_placeAfter, f_Machine_placeAfter_47, f_BlockCode_combines, f_BlockCodeModel_run_154, f_BlockCodeModel_run_189, f_BlockCodeModel_run_209, f_BlockCodeModel_run_246, f_BlockCodeModel_run_256, f_BlockCodeModel_within, r20 h20, p1']
      exact cont j xr mr (by omega) hR
    · obtain ⟨j, hj, ej⟩ := J.2 o
      by_cases z : mr ja = 0
      · simp [o, ea, ej, f_Machine_breaksOff, f_Machine_perform, f_Machine_placeAfter, f_Machine_placeAfter_47, f_BlockCode_combines, f_BlockCodeModel_run_154, f_BlockCodeModel_run_189, f_BlockCodeModel_run_209, f_BlockCodeModel_run_246, f_BlockCodeModel_run_256, f_BlockCodeModel_within, r20 h20, r5 ha, p1', hR ja ha, z]
        exact cont (i + 1) xr mr (by omega) hR
      · simp [o, ea, ej, f_Machine_breaksOff, f_Machine_perform, f_Machine_placeAfter, f_Machine_placeAfter_47, f_BlockCode_combines, f_BlockCodeModel_run_154, f_BlockCodeModel_run_189, f_BlockCodeModel_run_209, f_BlockCodeModel_run_246, f_BlockCodeModel_run_256, f_BlockCodeModel_within, r20 h20, r5 ha, p1', hR ja ha, z]
        exact cont j xr mr (by omega) hR
    · simp [o, f_Machine_breaksOff, f_Machine_perform, f_Machine_placeAfter, f_Machine_placeAfter_47, f_BlockCode_combines, f_BlockCodeModel_run_154, f_BlockCodeModel_run_189, f_BlockCodeModel_run_209, f_BlockCodeModel_run_246, f_BlockCodeModel_run_256, f_BlockCodeModel_within]
      exact ⟨_, _, _, _, _, _, _, _, rfl, rfl, rfl, Or.inr ⟨rfl, rfl, hR⟩⟩

theorem begin_loop (inp : Nat → Int32) (told dn : Int32) : ∀ (m i k : Nat) (xr : Nat → Int32), i + m = 5 → m < k → (∀ j, j < i → xr j = inp j) → ∃ xr', f_Machine_begin_12 inp k (nI i) xr told dn = some (xr', told, dn) ∧ ∀ j, j < 5 → xr' j = inp j := by
  intro m
  induction m with
  | zero =>
    intro i k xr e hk h
    obtain ⟨k, rfl⟩ : ∃ x, k = x + 1 := ⟨k - 1, by omega⟩
    have e' : i = 5 := by omega
    subst e'
    exact ⟨xr, by rw [f_Machine_begin_12, if_pos (by decide)], h⟩
  | succ m ih =>
    intro i k xr e hk h
    obtain ⟨k, rfl⟩ : ∃ x, k = x + 1 := ⟨k - 1, by omega⟩
    obtain ⟨xr', g1, g2⟩ := ih (i + 1) k (upd xr i (inp i)) (by omega) (by omega) (fun j hj => by
      by_cases q : j = i
      · rw [q, upd_s]
      · rw [upd_n q]; exact h j (by omega))
    refine ⟨xr', ?_, g2⟩
    rw [f_Machine_begin_12, if_neg (by rw [show (5 : Int32) = nI 5 by decide]; exact nI_ge (by omega) (by decide))]
    simp only [r5 (show i < 5 by omega), w5 (show i < 5 by omega), Option.bind_some, p1']
    exact g1
theorem mbegin_loop (p F : Int32) (code : Nat → Int32) (size ms : Int32) (inp : Nat → Int32) (th set steps ended : Int32) : ∀ (m i k : Nat) (mr : Nat → Int32), i + m = 5 → m < k → (∀ j, j < i → mr j = inp j) →
    ∃ mr', f_BlockCodeModel_run_27 p F code size ms inp k (nI i) th mr set steps ended = f_BlockCodeModel_run_62 p F code size ms inp fu 0 th mr' set 0 0 ∧ ∀ j, j < 5 → mr' j = inp j := by
  intro m
  induction m with
  | zero =>
    intro i k mr e hk h
    obtain ⟨k, rfl⟩ : ∃ x, k = x + 1 := ⟨k - 1, by omega⟩
    have e' : i = 5 := by omega
    subst e'
    exact ⟨mr, by rw [f_BlockCodeModel_run_27, if_pos (by decide)], h⟩
  | succ m ih =>
    intro i k mr e hk h
    obtain ⟨k, rfl⟩ : ∃ x, k = x + 1 := ⟨k - 1, by omega⟩
    obtain ⟨mr', g1, g2⟩ := ih (i + 1) k (upd mr i (inp i)) (by omega) (by omega) (fun j hj => by
      by_cases q : j = i
      · rw [q, upd_s]
      · rw [upd_n q]; exact h j (by omega))
    refine ⟨mr', ?_, g2⟩
    rw [f_BlockCodeModel_run_27, if_neg (by rw [show (5 : Int32) = nI 5 by decide]; exact nI_ge (by omega) (by decide))]
    simp only [r5 (show i < 5 by omega), w5 (show i < 5 by omega), Option.bind_some, p1']
    exact g1
set_option maxRecDepth 100000 in
/-- a run of either program, in a sealed state -/
theorem run_eq {n p : Nat} (hn : n ≤ 20) (h0 : 0 < n) (hp : p ≤ 1) {op d a b code : Nat → Int32} (hC : CR n op d a b code (80 * p)) (hJ : JM n op a b) {xi mi : Nat → Int32} (hI : RI xi mi) (fuel th : Int32) {xr : Nat → Int32} {told done : Int32} {mr : Nat → Int32} {set steps ended : Int32} (hT : RT xr told done mr set steps ended) :
    RunEq (f_BlockCode_runCode fuel xi 1 op d a b (nI n) xr told done) (f_BlockCodeModel_run (nI p) fuel code (nI n) 1 mi th mr set steps ended) 0 := by
  have keep : RunEq (some (-1, xr, told, done)) (some (-1, 0, mr, set, steps, ended)) 0 := ⟨_, _, _, _, _, _, _, _, rfl, rfl, hT⟩
  unfold f_BlockCode_runCode f_BlockCodeModel_run
  simp only [n10, if_false]
  by_cases q0 : fuel < 0
  · have w : f_BlockCodeModel_within fuel 0 1000 = some 0 := by unfold f_BlockCodeModel_within; rw [if_pos q0]
    simp only [q0, w, Option.bind_some, if_true]
    exact keep
  · by_cases q1 : fuel ≤ 1000
    · have q1' : ¬ (1000 : Int32) < fuel := by rw [Int32.lt_iff_toInt_lt]; rw [Int32.le_iff_toInt_le] at q1; omega
      have w : f_BlockCodeModel_within fuel 0 1000 = some 1 := within_of q0 q1'
      obtain ⟨F, hF, rfl⟩ := nI_of2 (n := 1000) (by decide) q0 q1
      obtain ⟨xr1, b1, b2⟩ := begin_loop xi 0 0 5 0 fu xr (by omega) (fuN (by omega)) (fun j hj => absurd hj (by omega))
      obtain ⟨mr1, c1, c2⟩ := mbegin_loop (nI p) (nI F) code (nI n) 1 mi 0 set steps ended 5 0 fu mr (by omega) (fuN (by omega)) (fun j hj => absurd hj (by omega))
      rw [show nI 0 = (0 : Int32) by decide] at b1 c1
      have L := run_loop hn hp hC hJ xi mi 1 0 set hF F 0 fu fu 0 xr1 mr1 (by omega) (fuN (by omega)) (fuN (by omega)) h0 (fun r hr => by rw [b2 r hr, c2 r hr]; exact hI r hr)
      rw [show nI 0 = (0 : Int32) by decide, show nI (0 + 1) = (1 : Int32) by decide] at L
      obtain ⟨r, a1, a2, a3, a4, a5, a6, a7, g1, g2, g3⟩ := L
      simp only [q0, q1, if_false, if_true, w, Option.bind_some, n10, f_Machine_run, f_Machine_begin, b1, c1, g1, g2]
      exact ⟨_, _, _, _, _, _, _, _, rfl, rfl, g3⟩
    · have q1' : (1000 : Int32) < fuel := inle.mp q1
      have w : f_BlockCodeModel_within fuel 0 1000 = some 0 := by unfold f_BlockCodeModel_within; rw [if_neg q0, if_pos q1']
      simp only [q0, q1, w, Option.bind_some, if_true, if_false]
      exact keep
