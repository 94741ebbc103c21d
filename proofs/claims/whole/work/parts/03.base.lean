/-! ===== my base rows: shared words, the standard contracts, calls, reads and writes in the mirrors' words ===== -/
/-- the words that every method may use: those of the tables that stay as the tables warm -/
def tbg : List Cond := lw_tbl.filter goodWord
theorem tb_at {w : Cond} (i : Nat) (h : tables_1[i]? = some w) (hg : goodWord w = true) : w ∈ tbg :=
  List.mem_filter.mpr ⟨List.mem_append_right _ (List.mem_of_getElem? h), hg⟩
theorem tb_pr {w : Cond} (i : Nat) (h : (k2_sels lw_privs)[i]? = some w) (hg : goodWord w = true) : w ∈ tbg :=
  List.mem_filter.mpr ⟨List.mem_append_left _ (List.mem_of_getElem? h), hg⟩
theorem tb_good : ∀ w ∈ tbg, (w.onTables && w.keeps) = true ∨ ∃ ty, w = .arrayClass ty := fun w h => good_of_word (List.mem_filter.mp h).2
theorem tb_gi {ws : List Cond} (h : ∀ w ∈ ws, w ∈ tbg) : GoodIn tbg ws := fun w hw => ⟨h w hw, tb_good w (h w hw)⟩
theorem tb_cons {c : Cond} (h : c ∈ tbg) : ∀ w ∈ c :: tbg, w ∈ tbg := fun w hw => (List.mem_cons.mp hw).elim (fun e => by rw [e]; exact h) id

