/-! ===== compare: a block ===== -/
theorem ER.keep {e n p : Nat} {ek nu ep es : Int32} {en to sy pl en' to' sy' pl' : Nat → Int32} (h : ER e n p ek nu ep es en to sy pl) (he : en' p = en p) (ht : to' p = to p) (hs : sy' p = sy p) (hl : pl' p = pl p) : ER e n p ek nu ep es en' to' sy' pl' := by
  unfold ER
  rw [he, ht, hs, hl]
  exact h
theorem RK.keep {q : Nat} (hq : q ≤ 20) {dv ds risk risks risk' risks' : Nat → Int32} (h : RK 0 q dv ds risk risks) (hk : RKeep 1 risk risks risk' risks') : RK 0 q dv ds risk' risks' := by
  refine ⟨(hk.2 0 (by decide)).trans h.1, fun k hk' => ?_⟩
  obtain ⟨h1, h2⟩ := h.2 k hk'
  exact ⟨(hk.1 _ (Or.inl (by omega))).trans h1, (hk.1 _ (Or.inl (by omega))).trans h2⟩
section BLOCK
variable {n la f : Nat} {op d a b rop rd ra rb code I F nd w : Nat → Int32} {B : Nat → Int64} {L : Int32}
def AlikeTwo {α β : Type} (X : Option (Int32 × α)) (M : Option (Int32 × β)) : Prop := ∃ (v : Int32) (y : α) (z : β), (v = 0 ∨ v = 1) ∧ X = some (v, y) ∧ M = some (v, z)
theorem alike_two (hn : n ≤ 20) (hC : CR n op d a b code 0) (hR : CR n rop rd ra rb code 80) (hJ : JM n rop ra rb) (hS : SD n op a b) (hla : la < n) (hf : f ≤ la) (hB : ∀ q, q < 5 → bz (I (5 * f + q)) ∧ B (5 * f + q) = enc (I (5 * f + q)) (F (5 * f + q))) (hA : Ag n nd w) (hZ : Zb n w)
    (hl : f_Code_lastOfBlock (nI f) (nI n) L = some (nI la)) (xk xl xr : Nat → Int32) (xc : Int32) (held0 dv0 ds0 : Nat → Int32) (rk0 ek0 nu0 ep0 es0 : Int32) (held1 dv1 ds1 : Nat → Int32) (rk1 ek1 nu1 ep1 es1 : Int32) (mk ml mr : Nat → Int32) (mc : Int32) (hold risk risks en to sy pl : Nat → Int32) :
    AlikeTwo (f_BlockCode_isBlockAlike (nI f) op d a b (nI n) L rop rd ra rb nd (nI n) B xk xl xr xc held0 dv0 ds0 rk0 ek0 nu0 ep0 es0 held1 dv1 ds1 rk1 ek1 nu1 ep1 es1) (f_BlockCodeModel_alike (nI f) (nI (la + 1)) code (nI n) I F w mk ml mr mc hold risk risks en to sy pl) := by
  have hEE : ∀ i, i < n → ¬ op i = 8 → ¬ op i = 10 → i + 1 < n := fun i hi h8 h10 => by
    apply Decidable.byContradiction
    intro z
    have e : i = n - 1 := by omega
    rw [e] at h8 h10
    exact hS.2.1.elim h8 h10
  obtain ⟨c1, xk1, xl1, xr1, hd1, s1, s2, c2, q2, xk2, xl2, xr2, hd2, dv2, ds2, ek2, nu2, ep2, es2, mk2, ml2, mr2, hold2, risk2, risks2, en2, to2, sy2, pl2, s3, s4, s5, s6, s7, s8, s9, s10, s11, s12, s13, s14, s15⟩ :=
    walk_all (p := 0) (e := n) (cm := 25) (cb := 5) hn (by decide) hC hS.2.2 (Nat.le_refl _) hEE hla hf (by decide) (by decide) (by decide) hB (c := 0) (xk := xk) (xl := xl) (xr := xr) (mk := mk) (ml := ml) (mr := mr) (fun s hs => absurd hs (by omega)) (by decide) (Or.inl (by decide)) held0 dv0 ds0 hold risk risks en to sy pl rk0 ek0 nu0 ep0 es0
  obtain ⟨c3, xk3, xl3, xr3, hd3, t1, t2, c4, q4, xk4, xl4, xr4, hd4, dv4, ds4, ek4, nu4, ep4, es4, mk4, ml4, mr4, hold4, risk4, risks4, en4, to4, sy4, pl4, t3, t4, t5, t6, t7, t8, t9, t10, t11, t12, t13, t14, t15⟩ :=
    walk_all (p := 1) (e := n + 1) (cm := 45) (cb := 25) hn (by decide) hR hJ (by omega) (fun i hi _ _ => by omega) hla hf (by decide) (by decide) (by decide) hB s7 s6 (Or.inr (fun q hq => (s2 q hq).mono s5 s8)) held1 dv1 ds1 hold2 risk2 risks2 en2 to2 sy2 pl2 rk1 ek1 nu1 ep1 es1
  rw [nI0] at s1 s4
  rw [show nI 1 = (1 : Int32) by decide] at t4
  have hk := t15 0 (by decide)
  have hg : ∀ r, r < 5 → hold4 r = hd2 r := fun r hr => by
    obtain ⟨u, -, u2, u3⟩ := s9 r hr
    rw [t13 r (Or.inl (by omega)), u2]
    simpa using u3
  have hh : ∀ r, r < 5 → hold4 (5 + r) = hd4 r := fun r hr => by
    obtain ⟨u, -, u2, u3⟩ := t9 r hr
    rw [u2]; exact u3
  have fin := fun FF hF => fin_two (f1 := nI f) (b1 := nI (la + 1)) (code := code) (I := I) (F := F) (mk := mk4) (ml := ml4) (mr := mr4) (mc := nI c4) hn s10 t10 (s11.keep s10 t14) t11 (s12.keep hk.1 hk.2.1 hk.2.2.1 hk.2.2.2) t12 hg hh hA hZ (xk4, xl4, xr4, nI c4, hd2, dv2, ds2, nI q2, ek2, nu2, ep2, es2, hd4, dv4, ds4, nI q4, ek4, nu4, ep4, es4) FF hF
  have mm : ∀ v, (∀ FF, 40 < FF → (if risks4 0 = risks4 1 then (if en4 0 = en4 1 then (if to4 0 = to4 1 then f_BlockCodeModel_alike_68 (nI f) (nI (la + 1)) code (nI n) I F w FF 0 mk4 ml4 mr4 (nI c4) hold4 risk4 risks4 en4 to4 sy4 pl4 else some (0, mk4, ml4, mr4, nI c4, hold4, risk4, risks4, en4, to4, sy4, pl4)) else some (0, mk4, ml4, mr4, nI c4, hold4, risk4, risks4, en4, to4, sy4, pl4)) else some (0, mk4, ml4, mr4, nI c4, hold4, risk4, risks4, en4, to4, sy4, pl4)) = some (v, mk4, ml4, mr4, nI c4, hold4, risk4, risks4, en4, to4, sy4, pl4)) →
      f_BlockCodeModel_alike (nI f) (nI (la + 1)) code (nI n) I F w mk ml mr mc hold risk risks en to sy pl = some (v, mk4, ml4, mr4, nI c4, hold4, risk4, risks4, en4, to4, sy4, pl4) := by
    intro v hv
    unfold f_BlockCodeModel_alike
    have hF : 40 < fu := fuN (by omega)
    generalize fu = FF at hF ⊢
    rw [s4, Option.bind_some]
    dsimp only
    rw [t4, Option.bind_some]
    dsimp only
    rw [z2, Option.bind_some, o2, Option.bind_some, z2, Option.bind_some, o2, Option.bind_some, z2, Option.bind_some, o2, Option.bind_some]
    exact hv FF hF
  have cc : f_BlockCode_isBlockAlike (nI f) op d a b (nI n) L rop rd ra rb nd (nI n) B xk xl xr xc held0 dv0 ds0 rk0 ek0 nu0 ep0 es0 held1 dv1 ds1 rk1 ek1 nu1 ep1 es1 = CFin n q2 q4 dv2 ds2 dv4 ds4 hd2 hd4 nd ek2 nu2 ep2 es2 ek4 nu4 ep4 es4 (xk4, xl4, xr4, nI c4, hd2, dv2, ds2, nI q2, ek2, nu2, ep2, es2, hd4, dv4, ds4, nI q4, ek4, nu4, ep4, es4) := by
    unfold f_BlockCode_isBlockAlike f_Symbols_forget CFin
    rw [hl, Option.bind_some, Option.bind_some, s1, Option.bind_some]
    dsimp only
    rw [s3, Option.bind_some]
    dsimp only
    rw [t1, Option.bind_some]
    dsimp only
    rw [t3, Option.bind_some]
  rw [cc]
  obtain ⟨v, v1, v2, v3⟩ := fin 41 (by decide)
  refine ⟨v, _, _, v1, v2, mm v (fun FF hF => ?_)⟩
  obtain ⟨v', -, u2, u3⟩ := fin FF hF
  have ev : v' = v := by
    rw [v2] at u2
    injection u2 with u2
    injection u2 with u2 _
    exact u2.symm
  rw [← ev]
  exact u3
theorem last_loop (hn : n ≤ 20) {lm : Nat → Int32} (hL : LB n L lm) (p1 : Int32) : ∀ (m x k : Nat), x + 1 + m = n → m < k →
    ∃ la, x ≤ la ∧ la < n ∧ f_Code_lastOfBlock_2 p1 (nI n) L k (nI x) = some (nI la) ∧ ∀ (k40) (k' : Nat) (x1 th good : Int32) (R I F w mk ml mr : Nat → Int32) (mc : Int32) (hold risk risks en to sy pl : Nat → Int32), m < k' →
      f_BlockCodeModel_compare_73 code (nI n) 1 k40 k' x1 (nI (x + 1)) th good R I F w lm mk ml mr mc hold risk risks en to sy pl = f_BlockCodeModel_compare_96 code (nI n) 1 k40 x1 (nI (la + 1)) th good R I F w lm mk ml mr mc hold risk risks en to sy pl := by
  intro m
  induction m with
  | zero =>
    intro x k e hk
    obtain ⟨k, rfl⟩ : ∃ z, k = z + 1 := ⟨k - 1, by omega⟩
    have le : nI n ≤ nI (x + 1) := nI_le (by omega) (by omega)
    refine ⟨x, Nat.le_refl _, by omega, by rw [f_Code_lastOfBlock_2, p1', if_pos le], ?_⟩
    intro k40 k' x1 th good R I F w mk ml mr mc hold risk risks en to sy pl hk'
    obtain ⟨k', rfl⟩ : ∃ z, k' = z + 1 := ⟨k' - 1, by omega⟩
    rw [f_BlockCodeModel_compare_73, if_pos le]
  | succ m ih =>
    intro x k e hk
    obtain ⟨k, rfl⟩ : ∃ z, k = z + 1 := ⟨k - 1, by omega⟩
    have lt : ¬ nI n ≤ nI (x + 1) := nI_ge (by omega) (by omega)
    by_cases w1 : bt L (x + 1) = true
    · refine ⟨x, Nat.le_refl _, by omega, by rw [f_Code_lastOfBlock_2, p1', if_neg lt, isLead (by omega), Option.bind_some, if_pos w1, if_neg n10], ?_⟩
      intro k40 k' x1 th good R I F w mk ml mr mc hold risk risks en to sy pl hk'
      obtain ⟨k', rfl⟩ : ∃ z, k' = z + 1 := ⟨k' - 1, by omega⟩
      rw [f_BlockCodeModel_compare_73, if_neg lt, r21 (by omega), hL.1 (x + 1) (by omega), Option.bind_some, if_pos w1, if_neg n10]
    · obtain ⟨la, l1, l2, l3, l4⟩ := ih (x + 1) k (by omega) (by omega)
      refine ⟨la, by omega, l2, by rw [f_Code_lastOfBlock_2, p1', if_neg lt, isLead (by omega), Option.bind_some, if_neg w1, if_pos rfl]; exact l3, ?_⟩
      intro k40 k' x1 th good R I F w mk ml mr mc hold risk risks en to sy pl hk'
      obtain ⟨k', rfl⟩ : ∃ z, k' = z + 1 := ⟨k' - 1, by omega⟩
      rw [f_BlockCodeModel_compare_73, if_neg lt, r21 (by omega), hL.1 (x + 1) (by omega), Option.bind_some, if_neg w1, if_pos rfl, p1']
      exact l4 k40 k' x1 th good R I F w mk ml mr mc hold risk risks en to sy pl (by omega)
end BLOCK
