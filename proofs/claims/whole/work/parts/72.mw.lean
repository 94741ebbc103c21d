/-! ===== compare ===== -/
section CMP
variable {n : Nat} {op d a b rop rd ra rb code I F nd w R lm : Nat → Int32} {B : Nat → Int64} {L : Int32}
def CmpEnd {β : Type} (X : Option (Int32 × (Nat → Int32) × (Nat → Int32) × (Nat → Int32) × (Nat → Int32) × Int32 × (Nat → Int32) × (Nat → Int32) × (Nat → Int32) × Int32 × Int32 × Int32 × Int32 × Int32 × (Nat → Int32) × (Nat → Int32) × (Nat → Int32) × Int32 × Int32 × Int32 × Int32 × Int32 × Int32)) (M : Option (Int32 × Int32 × Int32 × β)) : Prop :=
  ∃ v g x1 x2 x3 x4 x5 x6 x7 x8 x9 x10 x11 x12 x13 x14 x15 x16 x17 x18 x19 x20 x21 z, (g = 0 ∨ g = 1) ∧ X = some (v, x1, x2, x3, x4, x5, x6, x7, x8, x9, x10, x11, x12, x13, x14, x15, x16, x17, x18, x19, x20, x21, g) ∧ M = some (v, 0, g, z)
theorem cmp_loop (hn : n ≤ 20) (hC : CR n op d a b code 0) (hR : CR n rop rd ra rb code 80) (hJ : JM n rop ra rb) (hS : SD n op a b) (hF : FR B R I F) (hL : LB n L lm) (hA : Ag n nd w) (hZ : Zb n w) : ∀ (m i k k' : Nat) (xk xl xr : Nat → Int32) (xc : Int32) (held0 dv0 ds0 : Nat → Int32) (rk0 ek0 nu0 ep0 es0 : Int32) (held1 dv1 ds1 : Nat → Int32) (rk1 ek1 nu1 ep1 es1 : Int32) (mk ml mr : Nat → Int32) (mc : Int32) (hold risk risks en to sy pl : Nat → Int32) (g : Int32), i + m = n → m < k → m < k' → (g = 0 ∨ g = 1) →
    CmpEnd (f_BlockCode_compare_13 op d a b (nI n) L rop rd ra rb (nI n) B 1 k (nI i) nd xk xl xr xc held0 dv0 ds0 rk0 ek0 nu0 ep0 es0 held1 dv1 ds1 rk1 ek1 nu1 ep1 es1 g) (f_BlockCodeModel_compare_40 code (nI n) 1 k' (nI i) 0 g R I F w lm mk ml mr mc hold risk risks en to sy pl) := by
  intro m
  induction m with
  | zero =>
    intro i k k' xk xl xr xc held0 dv0 ds0 rk0 ek0 nu0 ep0 es0 held1 dv1 ds1 rk1 ek1 nu1 ep1 es1 mk ml mr mc hold risk risks en to sy pl g e h1 h2 hg
    obtain ⟨k, rfl⟩ : ∃ x, k = x + 1 := ⟨k - 1, by omega⟩
    obtain ⟨k', rfl⟩ : ∃ x, k' = x + 1 := ⟨k' - 1, by omega⟩
    have e' : i = n := by omega
    subst e'
    rw [f_BlockCode_compare_13, if_pos (Int32.le_refl _), f_BlockCodeModel_compare_40, if_pos (Int32.le_refl _)]
    exact ⟨0, 1, _, _, _, _, _, _, _, _, _, _, _, _, _, _, _, _, _, _, _, _, _, _, Or.inr rfl, rfl, rfl⟩
  | succ m ih =>
    intro i k k' xk xl xr xc held0 dv0 ds0 rk0 ek0 nu0 ep0 es0 held1 dv1 ds1 rk1 ek1 nu1 ep1 es1 mk ml mr mc hold risk risks en to sy pl g e h1 h2 hg
    obtain ⟨k, rfl⟩ : ∃ x, k = x + 1 := ⟨k - 1, by omega⟩
    obtain ⟨k', rfl⟩ : ∃ x, k' = x + 1 := ⟨k' - 1, by omega⟩
    have hi : i < n := by omega
    have h20 : i < 20 := by omega
    have go := fun xk xl xr xc held0 dv0 ds0 rk0 ek0 nu0 ep0 es0 held1 dv1 ds1 rk1 ek1 nu1 ep1 es1 mk ml mr mc hold risk risks en to sy pl => ih (i + 1) k k' xk xl xr xc held0 dv0 ds0 rk0 ek0 nu0 ep0 es0 held1 dv1 ds1 rk1 ek1 nu1 ep1 es1 mk ml mr mc hold risk risks en to sy pl g (by omega) (by omega) (by omega) hg
    have hr := reached_n h20 (hF i h20)
    rw [f_BlockCode_compare_13, if_neg (nI_ge hi (by omega)), isLead (by omega), Option.bind_some, f_BlockCodeModel_compare_40, if_neg (nI_ge hi (by omega)), r21 (by omega), hL.1 i hi, Option.bind_some]
    by_cases w1 : bt L i = true
    · rw [if_pos w1, if_neg n10, if_neg n10, hr, Option.bind_some, r21 (by omega), Option.bind_some]
      rcases hF i h20 with ⟨e1, -⟩ | ⟨e1, e2⟩
      · rw [if_pos e1, if_pos e1, f_BlockCode_compare_58, f_BlockCodeModel_compare_109, p1']
        exact go xk xl xr xc held0 dv0 ds0 rk0 ek0 nu0 ep0 es0 held1 dv1 ds1 rk1 ek1 nu1 ep1 es1 mk ml mr mc hold risk risks en to sy pl
      · have ne : ¬ R i = 0 := by rw [e1]; exact n10
        obtain ⟨la, l1, l2, l3, l4⟩ := last_loop (code := code) hn hL (nI i) (n - (i + 1)) i fu (by omega) (fuN (by omega))
        rw [if_neg ne, if_neg ne, p1', l4 _ fu _ _ _ _ _ _ _ _ _ _ _ _ _ _ _ _ _ _ (fuN (by omega))]
        obtain ⟨v, y, z, v1, v2, v3⟩ := alike_two (L := L) hn hC hR hJ hS l2 l1 e2 hA hZ l3 xk xl xr xc held0 dv0 ds0 rk0 ek0 nu0 ep0 es0 held1 dv1 ds1 rk1 ek1 nu1 ep1 es1 mk ml mr mc hold risk risks en to sy pl
        obtain ⟨y1, y2, y3, y4, y5, y6, y7, y8, y9, y10, y11, y12, y13, y14, y15, y16, y17, y18, y19, y20⟩ := y
        obtain ⟨u1, u2, u3, u4, u5, u6, u7, u8, u9, u10, u11⟩ := z
        rw [v2, Option.bind_some, f_BlockCodeModel_compare_96, v3, Option.bind_some]
        dsimp only
        rcases v1 with rfl | rfl
        · rw [if_pos rfl, if_pos rfl]
          exact ⟨_, g, _, _, _, _, _, _, _, _, _, _, _, _, _, _, _, _, _, _, _, _, _, _, hg, rfl, rfl⟩
        · rw [if_neg n10, if_neg n10, f_BlockCode_compare_58, f_BlockCodeModel_compare_109, p1']
          exact go y1 y2 y3 y4 y5 y6 y7 y8 y9 y10 y11 y12 y13 y14 y15 y16 y17 y18 y19 y20 u1 u2 u3 u4 u5 u6 u7 u8 u9 u10 u11
    · rw [if_neg w1, if_pos rfl, if_pos rfl, f_BlockCode_compare_58, f_BlockCodeModel_compare_109, p1']
      exact go xk xl xr xc held0 dv0 ds0 rk0 ek0 nu0 ep0 es0 held1 dv1 ds1 rk1 ek1 nu1 ep1 es1 mk ml mr mc hold risk risks en to sy pl
end CMP
