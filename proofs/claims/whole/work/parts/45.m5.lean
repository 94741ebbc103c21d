/-! ===== poke, run ===== -/
theorem r5 {f : Nat → Int32} {i : Nat} (h : i < 5) : rdI f 5 (nI i) = some (f i) := rdI_n h (by decide)
theorem w5 {f : Nat → Int32} {i : Nat} {x : Int32} (h : i < 5) : wrI f 5 (nI i) x = some (upd f i x) := wrI_n h (by decide)
theorem RI.upd {xi mi : Nat → Int32} (h : RI xi mi) (j : Nat) (v : Int32) : RI (upd xi j v) (upd mi j v) := fun q hq => by
  by_cases e : q = j
  · rw [e, upd_s, upd_s]
  · rw [upd_n e, upd_n e]; exact h q hq
theorem has_n {n : Nat} (hn : n ≤ 20) : f_Code_has (nI n) (nI n) = some 0 := by
  unfold f_Code_has; rw [if_neg (nI_pos (by omega)), if_pos (Int32.le_refl _)]
theorem has_i {i n : Nat} (hn : n ≤ 20) (hi : i < n) : f_Code_has (nI i) (nI n) = some 1 := by
  unfold f_Code_has; rw [if_neg (nI_pos (by omega)), if_neg (nI_ge hi (by omega))]
section POKE
variable {Z : Nat → (Nat → Int32) → (Nat → Int32) → (Nat → Int32) → (Nat → Int32) → (Nat → Int32) → Int32 → (Nat → Int64) → Prop} {op d a b need : Nat → Int32} {len leaders : Int32} {rop rd ra rb : Nat → Int32} {rlen : Int32} {before : Nat → Int64} {sealed found : Int32} {code : Nat → Int32} {size ms mg : Int32}
theorem st_poke (h : RC Z op d a b need len leaders rop rd ra rb rlen before sealed found code size ms mg) (v1 v2 v3 v4 v5 th : Int32) :
    ∃ r rop' rd' ra' rb' found' code' mg', f_BlockCode_poke v1 v2 v3 v4 v5 len rlen rop rd ra rb found = some (r, rop', rd', ra', rb', found') ∧ f_BlockCodeModel_poke v1 v2 v3 v4 v5 size ms code th mg = some (r, code', 0, mg') ∧
      RC Z op d a b need len leaders rop' rd' ra' rb' rlen before sealed found' code' size ms mg' := by
  obtain ⟨n, hn, rfl, rfl, hC, h⟩ := id h
  rcases h with ⟨rfl, rfl, rfl⟩ | ⟨rfl, rfl, rfl, rfl, hg, hR, hJ, hS, hZ⟩
  · refine ⟨0, rop, rd, ra, rb, found, code, mg, ?_, by simp [f_BlockCodeModel_poke], n, hn, rfl, rfl, hC, Or.inl ⟨rfl, rfl, rfl⟩⟩
    have := (hw v1 (n := 0) (by omega))
    rw [show nI 0 = (0 : Int32) by decide] at this
    rcases this with ⟨q, -⟩ | ⟨i, hi, -⟩
    · simp [f_BlockCode_poke, q]
    · omega
  · have no : ∀ (hx : f_BlockCode_poke v1 v2 v3 v4 v5 (nI n) (nI n) rop rd ra rb found = some (0, rop, rd, ra, rb, found)) (hy : f_BlockCodeModel_poke v1 v2 v3 v4 v5 (nI n) 1 code th found = some (0, code, 0, found)),
        ∃ r rop' rd' ra' rb' found' code' mg', f_BlockCode_poke v1 v2 v3 v4 v5 (nI n) (nI n) rop rd ra rb found = some (r, rop', rd', ra', rb', found') ∧ f_BlockCodeModel_poke v1 v2 v3 v4 v5 (nI n) 1 code th found = some (r, code', 0, mg') ∧
          RC Z op d a b need (nI n) leaders rop' rd' ra' rb' (nI n) before 1 found' code' (nI n) 1 mg' :=
      fun hx hy => ⟨0, rop, rd, ra, rb, found, code, found, hx, hy, n, hn, rfl, rfl, hC, Or.inr ⟨rfl, rfl, rfl, rfl, hg, hR, hJ, hS, hZ⟩⟩
    rcases hw v1 hn with ⟨q1, q2⟩ | ⟨i, hi, rfl, q1, q2⟩
    · exact no (by simp [f_BlockCode_poke, q1]) (by simp [f_BlockCodeModel_poke, q2])
    · rcases hf_some v2 v3 v4 v5 with hf | hf
      · exact no (by simp [f_BlockCode_poke, q1, hf_eq, hf]) (by simp [f_BlockCodeModel_poke, q2, hf])
      · obtain ⟨o0, o1⟩ := hf_op hf
        have hN := hf_Nm hf
        have big : ¬ (nI n ≤ -1) := by
          rw [Int32.le_iff_toInt_le, nI_toInt (by omega)]
          have : (-1 : Int32).toInt = -1 := by decide
          omega
        have hneg : (-1 : Int32) < nI n := inle.mp big
        have yes : ∀ (j1 : v2 = 8 → isR v4 n) (j2 : v2 = 9 → isR v5 n), ∃ r rop' rd' ra' rb' found' code' mg', f_BlockCode_poke (nI i) v2 v3 v4 v5 (nI n) (nI n) rop rd ra rb found = some (r, rop', rd', ra', rb', found') ∧ f_BlockCodeModel_poke (nI i) v2 v3 v4 v5 (nI n) 1 code th found = some (r, code', 0, mg') ∧
          RC Z op d a b need (nI n) leaders rop' rd' ra' rb' (nI n) before 1 found' code' (nI n) 1 mg' := by
          intro j1 j2
          refine ⟨1, _, _, _, _, 0, _, 0, ?_, ?_, n, hn, rfl, rfl, CR.off (q := 80 + 4 * i) hC (fun j hj => by omega), Or.inr ⟨rfl, rfl, rfl, rfl, Or.inl rfl, CR.put (i := i) hR hN n (fun j hj => Or.inr hj), ?_, hS, hZ⟩⟩
          · have hnm : ∃ z, f_BlockCode_namedBy v2 v4 v5 = some z ∧ z < nI n := by
              unfold f_BlockCode_namedBy
              by_cases e8 : v2 = 8
              · obtain ⟨j, hj, e⟩ := j1 e8
                exact ⟨v4, by rw [if_pos e8], by rw [e]; exact nI_lt hj (by omega)⟩
              · by_cases e9 : v2 = 9
                · obtain ⟨j, hj, e⟩ := j2 e9
                  exact ⟨v5, by rw [if_neg e8, if_pos e9], by rw [e]; exact nI_lt hj (by omega)⟩
                · exact ⟨-1, by rw [if_neg e8, if_neg e9], hneg⟩
            obtain ⟨z, z1, z2⟩ := hnm
            simp only [f_BlockCode_poke, q1, hf_eq, hf, Option.bind_some, n10, if_false, z1, z2, if_true, cput (show i < 20 by omega)]
          · have e8 : v2 = 8 → ¬ nI n ≤ v4 := fun e => by
              obtain ⟨j, hj, e'⟩ := j1 e
              rw [e']; exact nI_ge hj (by omega)
            have e9 : v2 = 9 → v5 < nI n := fun e => by
              obtain ⟨j, hj, e'⟩ := j2 e
              rw [e']; exact nI_lt hj (by omega)
            have p55 : f_BlockCodeModel_poke_55 (nI i) v2 v3 v4 v5 (nI n) 1 code 0 found = f_BlockCodeModel_poke_72 (nI i) v2 v3 v4 v5 (nI n) 1 code 0 found := by
              unfold f_BlockCodeModel_poke_55
              by_cases e : v2 = 9
              · rw [if_pos e, if_pos (e9 e)]
              · rw [if_neg e]
            have p72 : f_BlockCodeModel_poke_72 (nI i) v2 v3 v4 v5 (nI n) 1 code 0 found = some (1, upd (upd (upd (upd code (80 + 4 * i) v2) (80 + 4 * i + 1) (nd v2 v3)) (80 + 4 * i + 2) (na v2 v4)) (80 + 4 * i + 3) (nb v2 v5), 0, 0) := by
              unfold f_BlockCodeModel_poke_72
              rw [m4', show (80 : Int32) = nI 80 by decide, nI_add, mput (show 80 + 4 * i + 3 < 160 by omega) o0 o1]
              rfl
            simp only [f_BlockCodeModel_poke, q2, hf, Option.bind_some, n10, if_false, p55]
            by_cases e : v2 = 8
            · rw [if_pos e, if_neg (e8 e)]; exact p72
            · rw [if_neg e]; exact p72
          · intro j hj
            by_cases w : j = i
            · subst w
              simp only [upd_s]
              refine ⟨fun e => ?_, fun e => ?_⟩
              · have := j1 e
                subst e
                exact this
              · have := j2 e
                subst e
                exact this
            · simp only [upd_n w]; exact hJ j hj
        by_cases e8 : v2 = 8
        · by_cases l : v4 < nI n
          · refine yes (fun _ => ?_) (fun e => absurd (e8.symm.trans e) (by decide))
            subst e8
            have r : isR v4 20 := by simpa [Nm, na, nd, nb] using hN
            obtain ⟨j, hj, rfl⟩ := r
            exact ⟨j, (nI_ltI (by omega) (by omega)).mp l, rfl⟩
          · have l' : nI n ≤ v4 := by
              rw [Int32.lt_iff_toInt_lt] at l; rw [Int32.le_iff_toInt_le]; omega
            refine no ?_ ?_
            · simp [f_BlockCode_poke, q1, hf_eq, hf, f_BlockCode_namedBy, e8, l]
              subst e8
              simp [hf_eq, hf, l]
            · subst e8
              simp [f_BlockCodeModel_poke, q2, hf, l']
        · by_cases e9 : v2 = 9
          · by_cases l : v5 < nI n
            · refine yes (fun e => absurd e e8) (fun _ => ?_)
              subst e9
              have r : isR v4 5 ∧ isR v5 20 := by simpa [Nm, na, nd, nb] using hN
              obtain ⟨-, j, hj, rfl⟩ := r
              exact ⟨j, (nI_ltI (by omega) (by omega)).mp l, rfl⟩
            · refine no ?_ ?_
              · subst e9
                simp [f_BlockCode_poke, q1, hf_eq, hf, f_BlockCode_namedBy, l]
              · subst e9
                simp [f_BlockCodeModel_poke, f_BlockCodeModel_poke_55, q2, hf, l]
          · exact yes (fun e => absurd e e8) (fun e => absurd e e9)
end POKE
