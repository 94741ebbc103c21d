/-! ===== source, result, runs: the calls ===== -/
section STREST
variable {op d a b need : Nat → Int32} {len leaders : Int32} {rop rd ra rb : Nat → Int32} {rlen : Int32} {before : Nat → Int64} {sealed found : Int32} {code : Nat → Int32} {size ms mg : Int32}
theorem st_source (h : RC ZZ op d a b need len leaders rop rd ra rb rlen before sealed found code size ms mg) (x f th : Int32) : ∃ v, f_BlockCode_source x f op d a b len = some v ∧ f_BlockCodeModel_source x f code size th = some (v, 0) := by
  obtain ⟨n, hn, rfl, rfl, hC, -⟩ := id h
  obtain ⟨v, v1, v2⟩ := num_eq (p := 0) hn (by decide) hC x f
  rw [nI0] at v2
  exact ⟨v, by unfold f_BlockCode_source; rw [v1]; rfl, by unfold f_BlockCodeModel_source; rw [v2]; rfl⟩
theorem st_result (h : RC ZZ op d a b need len leaders rop rd ra rb rlen before sealed found code size ms mg) (x f th : Int32) : ∃ v, f_BlockCode_result x f rop rd ra rb rlen = some v ∧ f_BlockCodeModel_result x f code size ms th = some (v, 0) := by
  obtain ⟨n, hn, rfl, rfl, hC, h⟩ := id h
  rcases h with ⟨rfl, rfl, rfl⟩ | ⟨rfl, rfl, rfl, rfl, hg, hR, hJ, hS, hZ⟩
  · have := hw x (n := 0) (by omega)
    rw [nI0] at this
    rcases this with ⟨q, -⟩ | ⟨i, hi, -⟩
    · refine ⟨-9, ?_, by unfold f_BlockCodeModel_result; rw [if_pos rfl]⟩
      unfold f_BlockCode_result f_Code_number
      rw [q]; rfl
    · omega
  · obtain ⟨v, v1, v2⟩ := num_eq (p := 1) hn (by decide) hR x f
    rw [show nI 1 = (1 : Int32) by decide] at v2
    exact ⟨v, by unfold f_BlockCode_result; rw [v1]; rfl, by unfold f_BlockCodeModel_result; rw [if_neg n10, v2]; rfl⟩
variable {xi mi : Nat → Int32} {xr : Nat → Int32} {told done : Int32} {mr : Nat → Int32} {set steps ended : Int32}
theorem st_runSource (h : RC ZZ op d a b need len leaders rop rd ra rb rlen before sealed found code size ms mg) (hI : RI xi mi) (hT : RT xr told done mr set steps ended) (fuel th : Int32) :
    ∃ r xr' told' done' mr' set' steps' ended', f_BlockCode_runSource fuel op d a b len xi sealed xr told done = some (r, xr', told', done') ∧ f_BlockCodeModel_runSource fuel code size ms mi th mr set steps ended = some (r, 0, mr', set', steps', ended') ∧ RT xr' told' done' mr' set' steps' ended' := by
  obtain ⟨n, hn, rfl, rfl, hC, h⟩ := id h
  rcases h with ⟨rfl, rfl, rfl⟩ | ⟨rfl, rfl, rfl, rfl, hg, hR, hJ, hS, hZ⟩
  · exact ⟨-1, xr, told, done, mr, set, steps, ended, by simp only [f_BlockCode_runSource, f_BlockCode_runCode, if_true, Option.bind_some], by simp only [f_BlockCodeModel_runSource, f_BlockCodeModel_run, if_true, Option.bind_some], hT⟩
  · obtain ⟨r, xr', told', done', mr', set', steps', ended', e1, e2, e3⟩ := run_eq (p := 0) hn hS.1 (by decide) hC hS.2.2 hI fuel th hT
    rw [nI0] at e2
    exact ⟨r, xr', told', done', mr', set', steps', ended', by unfold f_BlockCode_runSource; rw [e1]; rfl, by unfold f_BlockCodeModel_runSource; rw [e2]; rfl, e3⟩
theorem st_runResult (h : RC ZZ op d a b need len leaders rop rd ra rb rlen before sealed found code size ms mg) (hI : RI xi mi) (hT : RT xr told done mr set steps ended) (fuel th : Int32) :
    ∃ r xr' told' done' mr' set' steps' ended', f_BlockCode_runResult fuel rop rd ra rb rlen xi sealed xr told done = some (r, xr', told', done') ∧ f_BlockCodeModel_runResult fuel code size ms mi th mr set steps ended = some (r, 0, mr', set', steps', ended') ∧ RT xr' told' done' mr' set' steps' ended' := by
  obtain ⟨n, hn, rfl, rfl, hC, h⟩ := id h
  rcases h with ⟨rfl, rfl, rfl⟩ | ⟨rfl, rfl, rfl, rfl, hg, hR, hJ, hS, hZ⟩
  · exact ⟨-1, xr, told, done, mr, set, steps, ended, by simp only [f_BlockCode_runResult, f_BlockCode_runCode, if_true, Option.bind_some], by simp only [f_BlockCodeModel_runResult, f_BlockCodeModel_run, if_true, Option.bind_some], hT⟩
  · obtain ⟨r, xr', told', done', mr', set', steps', ended', e1, e2, e3⟩ := run_eq (p := 1) hn hS.1 (by decide) hR hJ hI fuel th hT
    rw [show nI 1 = (1 : Int32) by decide] at e2
    exact ⟨r, xr', told', done', mr', set', steps', ended', by unfold f_BlockCode_runResult; rw [e1]; rfl, by unfold f_BlockCodeModel_runResult; rw [e2]; rfl, e3⟩
end STREST
