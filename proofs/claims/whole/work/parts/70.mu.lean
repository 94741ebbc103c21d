/-! ===== compare: alike ===== -/
theorem or_0 (x : Int32) : x ||| 0 = x := b_ext (fun i _ => by rw [b_or, b_0, Bool.or_false])
theorem z2 {f : Nat → Int32} : rdI f 2 0 = some (f 0) := by
  have := r2 (f := f) (i := 0) (by decide)
  rw [nI0] at this; exact this
theorem o2 {f : Nat → Int32} : rdI f 2 1 = some (f 1) := by
  have := r2 (f := f) (i := 1) (by decide)
  rw [show nI 1 = (1 : Int32) by decide] at this; exact this
section FINTWO
variable {n q0 q1 : Nat} {dv0 ds0 dv1 ds1 held0 held1 nd : Nat → Int32} {ek0 nu0 ep0 es0 ek1 nu1 ep1 es1 : Int32} {code I F w mk ml mr hold risk risks en to sy pl : Nat → Int32} {f1 b1 mc : Int32}
def CFin {α : Type} (n q0 q1 : Nat) (dv0 ds0 dv1 ds1 held0 held1 nd : Nat → Int32) (ek0 nu0 ep0 es0 ek1 nu1 ep1 es1 : Int32) (T : α) : Option (Int32 × α) :=
  (f_Walk_hasRisksOf dv0 ds0 (nI q0) dv1 ds1 (nI q1)).bind fun rz39 =>
  if rz39 = (0 : Int32) then some ((0 : Int32), T) else
    (f_Walk_hasEndOf ek0 nu0 ep0 es0 ek1 nu1 ep1 es1).bind fun rz40 =>
    if rz40 = (0 : Int32) then some ((0 : Int32), T) else
      (f_Walk_countingRegisters ek1 nu1 ep1 nd (nI n)).bind fun rz41 =>
      (f_Walk_holdsAlike rz41 held0 held1).bind fun rz42 =>
      if rz42 = (0 : Int32) then some ((0 : Int32), T) else some ((1 : Int32), T)
theorem fin_two (hn : n ≤ 20) (hq0 : q0 ≤ 20) (hq1 : q1 ≤ 20) (h0 : RK 0 q0 dv0 ds0 risk risks) (h1 : RK 1 q1 dv1 ds1 risk risks) (E0 : ER n n 0 ek0 nu0 ep0 es0 en to sy pl) (E1 : ER (n + 1) n 1 ek1 nu1 ep1 es1 en to sy pl)
    (hg : ∀ r, r < 5 → hold r = held0 r) (hh : ∀ r, r < 5 → hold (5 + r) = held1 r) (hA : Ag n nd w) (hZ : Zb n w) {α : Type} (T : α) (FF : Nat) (hF : 40 < FF) :
    ∃ v : Int32, (v = 0 ∨ v = 1) ∧ CFin n q0 q1 dv0 ds0 dv1 ds1 held0 held1 nd ek0 nu0 ep0 es0 ek1 nu1 ep1 es1 T = some (v, T) ∧
      (if risks 0 = risks 1 then (if en 0 = en 1 then (if to 0 = to 1 then f_BlockCodeModel_alike_68 f1 b1 code (nI n) I F w FF 0 mk ml mr mc hold risk risks en to sy pl else some (0, mk, ml, mr, mc, hold, risk, risks, en, to, sy, pl)) else some (0, mk, ml, mr, mc, hold, risk, risks, en, to, sy, pl)) else some (0, mk, ml, mr, mc, hold, risk, risks, en, to, sy, pl)) = some (v, mk, ml, mr, mc, hold, risk, risks, en, to, sy, pl) := by
  unfold CFin
  rw [c_risks hq0 hq1, Option.bind_some, h0.1, h1.1]
  by_cases eq : q0 = q1
  · subst eq
    have mre := m_re (f1 := f1) (b1 := b1) (code := code) (size := nI n) (I := I) (F := F) (need := w) (mk := mk) (ml := ml) (mr := mr) (mc := mc) (hold := hold) (en := en) (to := to) (sy := sy) (pl := pl) hq0 h0 h1 q0 0 FF (by omega) (by omega)
    rw [show 2 * 0 = 0 from rfl, nI0] at mre
    rw [if_pos rfl, mre]
    by_cases hre : re dv0 ds0 dv1 ds1 q0 0 = true
    · rw [if_pos (show q0 = q0 ∧ re dv0 ds0 dv1 ds1 q0 0 = true from ⟨rfl, hre⟩), if_neg n10, if_pos hre]
      have fin0 : f_BlockCodeModel_alike_68 f1 b1 code (nI n) I F w 1 (nI (2 * q0)) mk ml mr mc hold risk risks en to sy pl = (if en 0 = 3 then f_BlockCodeModel_alike_250 f1 b1 code (nI n) I F w (to 0) mk ml mr mc hold risk risks en to sy pl else
          if to 1 = nI n then some (0, mk, ml, mr, mc, hold, risk, risks, en, to, sy, pl) else if en 1 = 2 then (if pl 1 + 1 = nI n then some (0, mk, ml, mr, mc, hold, risk, risks, en, to, sy, pl) else f_BlockCodeModel_alike_168 f1 b1 code (nI n) I F w mk ml mr mc hold risk risks en to sy pl) else f_BlockCodeModel_alike_168 f1 b1 code (nI n) I F w mk ml mr mc hold risk risks en to sy pl) := by
        rw [f_BlockCodeModel_alike_68, z2, Option.bind_some, h0.1, m2', if_pos (Int32.le_refl _)]
        simp only [z2, o2, Option.bind_some]
      rw [fin0]
      have m250 := fun x => m_250 (f1 := f1) (b1 := b1) (code := code) (size := nI n) (I := I) (F := F) (need := w) (mk := mk) (ml := ml) (mr := mr) (mc := mc) (risk := risk) (risks := risks) (en := en) (to := to) (sy := sy) (pl := pl) x hg hh
      have bool : ∀ x : Bool, ((if x = true then (1 : Int32) else 0) = 0 ∨ (if x = true then (1 : Int32) else 0) = 1) := fun x => by cases x <;> simp
      have fin1 : ∀ x : Bool, (if (if x = true then (1 : Int32) else 0) = 0 then some ((0 : Int32), T) else some (1, T)) = some (if x = true then 1 else 0, T) := fun x => by cases x <;> simp
      rcases E0 with ⟨t0, t1, rfl, rfl, rfl, rfl, a1, a2, a3⟩ | ⟨t0, i0, t1, t2, rfl, rfl, rfl, rfl, a1, a2, a3⟩ | ⟨t0, t1, rfl, rfl, rfl, rfl, a1, a2, a3⟩
      · rcases E1 with ⟨u0, u1, rfl, rfl, rfl, rfl, b1, b2, b3⟩ | ⟨u0, j0, u1, u2, rfl, rfl, rfl, rfl, b1, b2, b3⟩ | ⟨u0, u1, rfl, rfl, rfl, rfl, b1, b2, b3⟩
        · rw [a1, b1, a2, b2, if_pos rfl]
          by_cases e : t0 = u0
          · subst e
            refine ⟨if hb (vv n nd t0) held0 held1 5 0 then 1 else 0, bool _, ?_, ?_⟩
            · simp only [f_Walk_hasEndOf, if_true, Option.bind_some, n10, if_false, f_Walk_countingRegisters, show ¬ (8 : Int32) = 10 by decide, show ¬ (8 : Int32) = 9 by decide, needAt_n hn nd (show t0 ≤ 20 by omega), c_holds, fin1]
            · rw [if_pos rfl, if_neg (by decide), if_neg (fun z => absurd ((nI_eq (by omega) (by omega)).mp z) (by omega)), if_neg (by decide)]
              unfold f_BlockCodeModel_alike_168 f_BlockCodeModel_alike_210 f_BlockCodeModel_alike_248
              rw [z2, Option.bind_some, a1, if_neg (by decide), o2, Option.bind_some, b2, rneed hZ (by omega), Option.bind_some, o2, Option.bind_some, b1, if_neg (by decide), or_0, m250, vv_ag hA]
          · have ne : ¬ nI t0 = nI u0 := fun z => e ((nI_eq (by omega) (by omega)).mp z)
            refine ⟨0, Or.inl rfl, ?_, by rw [if_neg ne]⟩
            simp only [f_Walk_hasEndOf, if_true, ne, if_false, Option.bind_some]
        · refine ⟨0, Or.inl rfl, ?_, by rw [a1, b1, if_neg (by decide)]⟩
          simp only [f_Walk_hasEndOf, show ¬ (8 : Int32) = 9 by decide, if_false, Option.bind_some, if_true]
        · refine ⟨0, Or.inl rfl, ?_, by rw [a1, b1, if_neg (by decide)]⟩
          simp only [f_Walk_hasEndOf, show ¬ (8 : Int32) = 10 by decide, if_false, Option.bind_some, if_true]
      · rcases E1 with ⟨u0, u1, rfl, rfl, rfl, rfl, b1, b2, b3⟩ | ⟨u0, j0, u1, u2, rfl, rfl, rfl, rfl, b1, b2, b3⟩ | ⟨u0, u1, rfl, rfl, rfl, rfl, b1, b2, b3⟩
        · refine ⟨0, Or.inl rfl, ?_, by rw [a1, b1, if_neg (by decide)]⟩
          simp only [f_Walk_hasEndOf, show ¬ (9 : Int32) = 8 by decide, if_false, Option.bind_some, if_true]
        · rw [a1, b1, a2, b2, b3, if_pos rfl]
          by_cases e : t0 = u0
          · subst e
            rw [if_pos rfl, if_neg (by decide), if_neg (fun z => absurd ((nI_eq (by omega) (by omega)).mp z) (by omega)), if_pos rfl, p1']
            by_cases ej : j0 + 1 = n
            · have ne : ¬ nI i0 = nI j0 := fun z => absurd ((nI_eq (by omega) (by omega)).mp z) (by omega)
              refine ⟨0, Or.inl rfl, ?_, by rw [if_pos (by rw [ej])]⟩
              simp only [f_Walk_hasEndOf, if_true, ne, if_false, Option.bind_some]
            · rw [if_neg (fun z => ej ((nI_eq (by omega) (by omega)).mp z))]
              unfold f_BlockCodeModel_alike_168 f_BlockCodeModel_alike_210 f_BlockCodeModel_alike_248
              rw [z2, Option.bind_some, a1, if_pos rfl, z2, Option.bind_some, o2, Option.bind_some]
              by_cases es : sy 0 = sy 1
              · rw [if_pos es, z2, Option.bind_some, o2, Option.bind_some, a3, b3]
                by_cases ep : nI i0 = nI j0
                · refine ⟨if hb (vv n nd t0 ||| vv n nd (j0 + 1)) held0 held1 5 0 then 1 else 0, bool _, ?_, ?_⟩
                  · simp only [f_Walk_hasEndOf, if_true, ep, es, Option.bind_some, n10, if_false, f_Walk_countingRegisters, show ¬ (9 : Int32) = 10 by decide, needAt_n hn nd (show t0 ≤ 20 by omega), p1', needAt_n hn nd (show j0 + 1 ≤ 20 by omega), c_holds, fin1]
                  · rw [if_pos ep, o2, Option.bind_some, b2, rneed hZ (by omega), Option.bind_some, o2, Option.bind_some, b1, if_pos rfl, Option.bind_some, p1', rneed hZ (by omega), Option.bind_some, m250, vv_ag hA, vv_ag hA]
                · refine ⟨0, Or.inl rfl, ?_, by rw [if_neg ep]⟩
                  simp only [f_Walk_hasEndOf, if_true, ep, if_false, Option.bind_some]
              · refine ⟨0, Or.inl rfl, ?_, by rw [if_neg es]⟩
                simp only [f_Walk_hasEndOf, if_true, es, if_false, Option.bind_some]
                split <;> rfl
          · have ne : ¬ nI t0 = nI u0 := fun z => e ((nI_eq (by omega) (by omega)).mp z)
            refine ⟨0, Or.inl rfl, ?_, by rw [if_neg ne]⟩
            simp only [f_Walk_hasEndOf, if_true, ne, if_false, Option.bind_some]
        · refine ⟨0, Or.inl rfl, ?_, by rw [a1, b1, if_neg (by decide)]⟩
          simp only [f_Walk_hasEndOf, show ¬ (9 : Int32) = 10 by decide, if_false, Option.bind_some, if_true]
      · rcases E1 with ⟨u0, u1, rfl, rfl, rfl, rfl, b1, b2, b3⟩ | ⟨u0, j0, u1, u2, rfl, rfl, rfl, rfl, b1, b2, b3⟩ | ⟨u0, u1, rfl, rfl, rfl, rfl, b1, b2, b3⟩
        · refine ⟨0, Or.inl rfl, ?_, by rw [a1, b1, if_neg (by decide)]⟩
          simp only [f_Walk_hasEndOf, show ¬ (10 : Int32) = 8 by decide, if_false, Option.bind_some, if_true]
        · refine ⟨0, Or.inl rfl, ?_, by rw [a1, b1, if_neg (by decide)]⟩
          simp only [f_Walk_hasEndOf, show ¬ (10 : Int32) = 9 by decide, if_false, Option.bind_some, if_true]
        · rw [a1, b1, a2, b2, if_pos rfl]
          by_cases e : nI t0 = nI u0
          · refine ⟨if hb (nI u0) held0 held1 5 0 then 1 else 0, bool _, ?_, ?_⟩
            · simp only [f_Walk_hasEndOf, e, if_true, Option.bind_some, n10, if_false, f_Walk_countingRegisters, c_holds, fin1]
            · rw [if_pos e, if_pos rfl, e, m250]
          · refine ⟨0, Or.inl rfl, ?_, by rw [if_neg e]⟩
            simp only [f_Walk_hasEndOf, if_true, e, if_false, Option.bind_some]
    · refine ⟨0, Or.inl rfl, ?_, ?_⟩
      · rw [if_neg (show ¬ (q0 = q0 ∧ re dv0 ds0 dv1 ds1 q0 0 = true) from fun z => hre z.2), if_pos rfl]
      · rw [if_neg hre]; (repeat' split) <;> rfl
  · refine ⟨0, Or.inl rfl, ?_, ?_⟩
    · rw [if_neg (show ¬ (q0 = q1 ∧ re dv0 ds0 dv1 ds1 q0 0 = true) from fun z => eq z.1), if_pos rfl]
    · rw [if_neg (fun z => eq ((nI_eq (by omega) (by omega)).mp z))]
end FINTWO
