/-! ===== compare, the call ===== -/
section STCMP
variable {op d a b need : Nat → Int32} {len leaders : Int32} {rop rd ra rb : Nat → Int32} {rlen : Int32} {before : Nat → Int64} {sealed found : Int32} {code : Nat → Int32} {size ms mg : Int32}
theorem st_compare (h : RC ZZ op d a b need len leaders rop rd ra rb rlen before sealed found code size ms mg) (out : Nat → Int64) (th : Int32) (x1 x2 x3 x4 : Nat → Int32) (x5 : Int32) (x6 x7 x8 : Nat → Int32) (x9 x10 x11 x12 x13 : Int32) (x14 x15 x16 : Nat → Int32) (x17 x18 x19 x20 x21 : Int32) (R I F w lm mk ml mr : Nat → Int32) (mc : Int32) (hold risk risks en to sy pl : Nat → Int32) :
    ∃ k r y1 y2 y3 y4 y5 y6 y7 y8 y9 y10 y11 y12 y13 y14 y15 y16 y17 y18 y19 y20 y21 found' out' mg' z1 z2 z3 z4 z5 z6 z7 z8 z9 z10 z11 z12 z13 z14 z15 z16, g_BlockCodeLaw_compare op d a b len leaders rop rd ra rb rlen before sealed x1 x2 x3 x4 x5 x6 x7 x8 x9 x10 x11 x12 x13 x14 x15 x16 x17 x18 x19 x20 x21 found out = some (k, y1, y2, y3, y4, y5, y6, y7, y8, y9, y10, y11, y12, y13, y14, y15, y16, y17, y18, y19, y20, y21, found', out') ∧
      f_BlockCodeModel_compare code size ms th mg R I F w lm mk ml mr mc hold risk risks en to sy pl = some (r, k, mg', z1, z2, z3, z4, z5, z6, z7, z8, z9, z10, z11, z12, z13, z14, z15, z16) ∧ (k = 0 → rdL out' 1 0 = some r.toInt64) ∧ RC ZZ op d a b need len leaders rop rd ra rb rlen before sealed found' code size ms mg' := by
  have h0 := h
  obtain ⟨n, hn, rfl, rfl, hC, h⟩ := id h
  rcases h with ⟨rfl, rfl, rfl⟩ | ⟨rfl, rfl, rfl, rfl, hg, hR, hJ, hS, hZ⟩
  · refine ⟨1, 0, x1, x2, x3, x4, x5, x6, x7, x8, x9, x10, x11, x12, x13, x14, x15, x16, x17, x18, x19, x20, x21, found, out, mg, R, I, F, w, lm, mk, ml, mr, mc, hold, risk, risks, en, to, sy, pl, ?_, ?_, fun q => absurd q (by decide), h0⟩
    · unfold g_BlockCodeLaw_compare; rw [if_pos rfl]
    · unfold f_BlockCodeModel_compare f_BlockCodeModel_compare_13; rw [if_pos rfl, if_pos rfl]
  · obtain ⟨lm', l1, l2⟩ := hZ.lead hn hC hS lm
    obtain ⟨R', I', F', g1, g2⟩ := hZ.facts hn hC hS R I F
    obtain ⟨v, w', n1, n2, n3, n4, -⟩ := need_eq (p := 1) hn (by decide) hR hJ x1 w
    rw [show nI 1 = (1 : Int32) by decide] at n2
    have hl := cmp_loop hn hC hR hJ hS g2 l2 n3 n4 n 0 fu fu x2 x3 x4 x5 x6 x7 x8 x9 x10 x11 x12 x13 x14 x15 x16 x17 x18 x19 x20 x21 mk ml mr mc hold risk risks en to sy pl found (by omega) (fuN (by omega)) (fuN (by omega)) hg
    rw [nI0] at hl
    obtain ⟨r, g, y1, y2, y3, y4, y5, y6, y7, y8, y9, y10, y11, y12, y13, y14, y15, y16, y17, y18, y19, y20, y21, z, c1, c2, c3⟩ := hl
    obtain ⟨z1, z2, z3, z4, z5, z6, z7, z8, z9, z10, z11, z12, z13, z14, z15, z16⟩ := z
    refine ⟨0, r, y1, y2, y3, y4, y5, y6, y7, y8, y9, y10, y11, y12, y13, y14, y15, y16, y17, y18, y19, y20, y21, g, vp_updL out 0 r.toInt64, g, z1, z2, z3, z4, z5, z6, z7, z8, z9, z10, z11, z12, z13, z14, z15, z16, ?_, ?_, fun _ => rout _ _, n, hn, rfl, rfl, hC, Or.inr ⟨rfl, rfl, rfl, rfl, c1, hR, hJ, hS, hZ⟩⟩
    · unfold g_BlockCodeLaw_compare f_BlockCodeLaw_compare f_BlockCode_compare f_BlockCode_requireSealed
      rw [if_neg n10, if_neg n10, Option.bind_some, n1, Option.bind_some, c2, Option.bind_some]
      dsimp only
      rw [wout, Option.bind_some]
    · unfold f_BlockCodeModel_compare f_BlockCodeModel_compare_13
      rw [if_neg n10, if_neg n10, l1, Option.bind_some, g1, Option.bind_some]
      dsimp only
      rw [n2, Option.bind_some]
      exact c3
end STCMP
