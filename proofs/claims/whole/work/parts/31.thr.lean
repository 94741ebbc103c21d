set_option maxHeartbeats 4000000 in
set_option maxRecDepth 100000 in
theorem ct_add (l : Launch) (htr : l.stackTraces = false) (D : va_G) (cI cJ cZ : ClassId) (qt q1 q2 q3 q4 q5 q6 q7 : Nat) (sd fa : Int32) (p1 : Int32) (p2 : Int32) (p3 : Int32) (p4 : Int32) (hc : ¬ sd = 0) : MetT l y_BlockCode_add (.code y_BlockCode_add b_BlockCode_add 6 (some .int) :: tbg) rm_T (sPcT D cI cJ cZ [.ref qt, .int p1, .int p2, .int p3, .int p4] [(qt, .inr (5, [.ref q1, .ref q2, .ref q3, .ref q4, .ref q5, .ref q6, .ref q7, .int sd, .int fa]))]) xISE 1 6 := by
  refine MetT.ofW (cc := b_BlockCode_add) (maxL := 6) (ret := (some .int)) (by decide) rfl ?_
  intro p e s m args below meth c s₁ B hml hv
  obtain ⟨rfl, hP, hK, hp⟩ := hv
  have hts0 := atoms_spec (ws := Cond.code y_BlockCode_add b_BlockCode_add 6 (some .int) :: tbg) B.pre
  have he := B.noHandlers (hts0 _ List.mem_cons_self)
  have hlk := B.notSynchronized
  have S : CallFix p m c b_BlockCode_add 6 s ([.ref qt, .int p1, .int p2, .int p3, .int p4] : List Value).toArray tbg R_BlockCode := ⟨B.exec, B.bytes, hml, findClass_of_methodNamed B.named, fun w hw => hts0 w (List.mem_cons_of_mem _ hw)⟩
  obtain ⟨hx, hb, hml, hown, hts⟩ := id S
  have hl := lv_entry ([.ref qt, .int p1, .int p2, .int p3, .int p4] : List Value) (n := 6) (Nat.le_of_ble_eq_true rfl)
  rw [lg_entry_eq]
  generalize (lg_sl ([.ref qt, .int p1, .int p2, .int p3, .int p4] : List Value) ++ List.replicate (6 - (lg_sl ([.ref qt, .int p1, .int p2, .int p3, .int p4] : List Value)).length) Slot.unset).toArray = ls at hl ⊢
  have hl : lv_has ls 6 [(0, .ref qt), (1, .int p1), (2, .int p2), (3, .int p3), (4, .int p4)] := hl
  refine lv_aload_n hx hb d_BlockCode_add_0 rfl (lv_at hl 0 rfl) ?_
  refine va_get (D := D) (ci := 5) (v := .int sd) (C := R_BlockCode) (T := T_BlockCode) (N := 9) hx hb hts in_BlockCode hown hK.1 hP 0 rfl rfl 7 (by decide) (hts _ a_166) (fun _ h9 => h9) rfl d_BlockCode_add_1 ?_
  refine lv_if_eq (tgt := 17) hx hb d_BlockCode_add_4 (by decide) (fun h => absurd h hc) (fun _ => ?_)
  exact vt_throw hx hb hml hown hlk he htr (hts _ a_397) (hts _ a_11) (str_vm rfl (hp.2.2.1 (Cond.stringRef R_BlockCode 61 "the source is sealed") (by decide))) (own_ok hp) d_BlockCode_add_7 d_BlockCode_add_10 d_BlockCode_add_11 d_BlockCode_add_13 d_BlockCode_add_16 hl.1 ⟨Nat.le_of_ble_eq_true rfl, Nat.le_of_ble_eq_true rfl, Nat.le_of_ble_eq_true rfl, Nat.le_of_ble_eq_true rfl⟩
set_option maxHeartbeats 4000000 in
set_option maxRecDepth 100000 in
theorem ct_seal (l : Launch) (htr : l.stackTraces = false) (D : va_G) (cI cJ cZ : ClassId) (qt q1 q2 q3 q4 q5 q6 q7 : Nat) (sd fa : Int32) (hc : ¬ sd = 0) : MetT l y_BlockCode_seal (.code y_BlockCode_seal b_BlockCode_seal 1 (some .int) :: tbg) rm_T (sPcT D cI cJ cZ [.ref qt] [(qt, .inr (5, [.ref q1, .ref q2, .ref q3, .ref q4, .ref q5, .ref q6, .ref q7, .int sd, .int fa]))]) xISE 1 6 := by
  refine MetT.ofW (cc := b_BlockCode_seal) (maxL := 1) (ret := (some .int)) (by decide) rfl ?_
  intro p e s m args below meth c s₁ B hml hv
  obtain ⟨rfl, hP, hK, hp⟩ := hv
  have hts0 := atoms_spec (ws := Cond.code y_BlockCode_seal b_BlockCode_seal 1 (some .int) :: tbg) B.pre
  have he := B.noHandlers (hts0 _ List.mem_cons_self)
  have hlk := B.notSynchronized
  have S : CallFix p m c b_BlockCode_seal 1 s ([.ref qt] : List Value).toArray tbg R_BlockCode := ⟨B.exec, B.bytes, hml, findClass_of_methodNamed B.named, fun w hw => hts0 w (List.mem_cons_of_mem _ hw)⟩
  obtain ⟨hx, hb, hml, hown, hts⟩ := id S
  have hl := lv_entry ([.ref qt] : List Value) (n := 1) (Nat.le_of_ble_eq_true rfl)
  rw [lg_entry_eq]
  generalize (lg_sl ([.ref qt] : List Value) ++ List.replicate (1 - (lg_sl ([.ref qt] : List Value)).length) Slot.unset).toArray = ls at hl ⊢
  have hl : lv_has ls 1 [(0, .ref qt)] := hl
  refine lv_aload_n hx hb d_BlockCode_seal_0 rfl (lv_at hl 0 rfl) ?_
  refine va_get (D := D) (ci := 5) (v := .int sd) (C := R_BlockCode) (T := T_BlockCode) (N := 9) hx hb hts in_BlockCode hown hK.1 hP 0 rfl rfl 7 (by decide) (hts _ a_166) (fun _ h9 => h9) rfl d_BlockCode_seal_1 ?_
  refine lv_if_eq (tgt := 17) hx hb d_BlockCode_seal_4 (by decide) (fun h => absurd h hc) (fun _ => ?_)
  exact vt_throw hx hb hml hown hlk he htr (hts _ a_397) (hts _ a_11) (str_vm rfl (hp.2.2.1 (Cond.stringRef R_BlockCode 78 "the source is sealed already") (by decide))) (own_ok hp) d_BlockCode_seal_7 d_BlockCode_seal_10 d_BlockCode_seal_11 d_BlockCode_seal_13 d_BlockCode_seal_16 hl.1 ⟨Nat.le_of_ble_eq_true rfl, Nat.le_of_ble_eq_true rfl, Nat.le_of_ble_eq_true rfl, Nat.le_of_ble_eq_true rfl⟩
set_option maxHeartbeats 4000000 in
set_option maxRecDepth 100000 in
theorem ct_requireSealed (l : Launch) (htr : l.stackTraces = false) (D : va_G) (cI cJ cZ : ClassId) (qt q1 q2 q3 q4 q5 q6 q7 : Nat) (sd fa : Int32) (hc : sd = 0) : MetT l y_BlockCode_requireSealed (.code y_BlockCode_requireSealed b_BlockCode_requireSealed 1 none :: tbg) rm_T (sPcT D cI cJ cZ [.ref qt] [(qt, .inr (5, [.ref q1, .ref q2, .ref q3, .ref q4, .ref q5, .ref q6, .ref q7, .int sd, .int fa]))]) xISE 1 6 := by
  refine MetT.ofW (cc := b_BlockCode_requireSealed) (maxL := 1) (ret := none) (by decide) rfl ?_
  intro p e s m args below meth c s₁ B hml hv
  obtain ⟨rfl, hP, hK, hp⟩ := hv
  have hts0 := atoms_spec (ws := Cond.code y_BlockCode_requireSealed b_BlockCode_requireSealed 1 none :: tbg) B.pre
  have he := B.noHandlers (hts0 _ List.mem_cons_self)
  have hlk := B.notSynchronized
  have S : CallFix p m c b_BlockCode_requireSealed 1 s ([.ref qt] : List Value).toArray tbg R_BlockCode := ⟨B.exec, B.bytes, hml, findClass_of_methodNamed B.named, fun w hw => hts0 w (List.mem_cons_of_mem _ hw)⟩
  obtain ⟨hx, hb, hml, hown, hts⟩ := id S
  have hl := lv_entry ([.ref qt] : List Value) (n := 1) (Nat.le_of_ble_eq_true rfl)
  rw [lg_entry_eq]
  generalize (lg_sl ([.ref qt] : List Value) ++ List.replicate (1 - (lg_sl ([.ref qt] : List Value)).length) Slot.unset).toArray = ls at hl ⊢
  have hl : lv_has ls 1 [(0, .ref qt)] := hl
  refine lv_aload_n hx hb d_BlockCode_requireSealed_0 rfl (lv_at hl 0 rfl) ?_
  refine va_get (D := D) (ci := 5) (v := .int sd) (C := R_BlockCode) (T := T_BlockCode) (N := 9) hx hb hts in_BlockCode hown hK.1 hP 0 rfl rfl 7 (by decide) (hts _ a_166) (fun _ h9 => h9) rfl d_BlockCode_requireSealed_1 ?_
  refine lv_if_ne (tgt := 17) hx hb d_BlockCode_requireSealed_4 (by decide) (fun h => absurd hc h) (fun _ => ?_)
  exact vt_throw hx hb hml hown hlk he htr (hts _ a_397) (hts _ a_11) (str_vm rfl (hp.2.2.1 (Cond.stringRef R_BlockCode 196 "the source is not sealed") (by decide))) (own_ok hp) d_BlockCode_requireSealed_7 d_BlockCode_requireSealed_10 d_BlockCode_requireSealed_11 d_BlockCode_requireSealed_13 d_BlockCode_requireSealed_16 hl.1 ⟨Nat.le_of_ble_eq_true rfl, Nat.le_of_ble_eq_true rfl, Nat.le_of_ble_eq_true rfl, Nat.le_of_ble_eq_true rfl⟩
theorem ct_cw {R : Room} {s : State} {args : Array Value} (hts : ∀ w ∈ tbg, w.before args s = true) (hR : rm_T.frames + 1 ≤ R.frames ∧ 8 + (1 + 11) + rm_T.locals ≤ R.locals) :
    CallW R s args R_BlockCode R_BlockCode 119 y_BlockCode_requireSealed b_BlockCode_requireSealed 1 none (.code y_BlockCode_requireSealed b_BlockCode_requireSealed 1 none :: tbg) rm_T 1 6 0 := by
  refine cwV 0 hts (tb_gi fun w hw => ?_) rfl rfl rfl (by decide +kernel) hR
  rcases List.mem_append.mp hw with h | h
  · simp only [List.mem_cons, List.not_mem_nil, or_false] at h
    rcases h with rfl | rfl | rfl | rfl
    · exact a_493
    · exact a_495
    · exact ap_14
    · exact a_1
  · exact tb_cons a_496 w h
set_option maxHeartbeats 4000000 in
set_option maxRecDepth 100000 in
theorem ct_constants (l : Launch) (htr : l.stackTraces = false) (D : va_G) (cI cJ cZ : ClassId) (qt q1 q2 q3 q4 q5 q6 q7 : Nat) (sd fa : Int32) (hc : sd = 0) : MetT l y_BlockCode_constants (.code y_BlockCode_constants b_BlockCode_constants 2 (some .int) :: tbg) rm_T2 (sPcT D cI cJ cZ [.ref qt] [(qt, .inr (5, [.ref q1, .ref q2, .ref q3, .ref q4, .ref q5, .ref q6, .ref q7, .int sd, .int fa]))]) xISE 1 6 := by
  refine MetT.ofW (cc := b_BlockCode_constants) (maxL := 2) (ret := (some .int)) (by decide) rfl ?_
  intro p e s m args below meth c s₁ B hml hv
  obtain ⟨rfl, hP, hK, hp⟩ := hv
  have hts0 := atoms_spec (ws := Cond.code y_BlockCode_constants b_BlockCode_constants 2 (some .int) :: tbg) B.pre
  have he := B.noHandlers (hts0 _ List.mem_cons_self)
  have hlk := B.notSynchronized
  have S : CallFix p m c b_BlockCode_constants 2 s ([.ref qt] : List Value).toArray tbg R_BlockCode := ⟨B.exec, B.bytes, hml, findClass_of_methodNamed B.named, fun w hw => hts0 w (List.mem_cons_of_mem _ hw)⟩
  obtain ⟨hx, hb, hml, hown, hts⟩ := id S
  have hl := lv_entry ([.ref qt] : List Value) (n := 2) (Nat.le_of_ble_eq_true rfl)
  rw [lg_entry_eq]
  generalize (lg_sl ([.ref qt] : List Value) ++ List.replicate (2 - (lg_sl ([.ref qt] : List Value)).length) Slot.unset).toArray = ls at hl ⊢
  have hl : lv_has ls 2 [(0, .ref qt)] := hl
  refine lv_aload_n hx hb d_BlockCode_constants_0 rfl (lv_at hl 0 rfl) ?_
  exact vt_pass (n := 0) (As := []) (rest := []) S hlk he (ct_requireSealed l htr D cI cJ cZ qt q1 q2 q3 q4 q5 q6 q7 sd fa hc) (ct_cw hts ⟨Nat.le_of_ble_eq_true rfl, Nat.le_of_ble_eq_true rfl⟩) ⟨sPcT_blind, va_recv hK.1 hP (ci := 5) (q0 := 0) rfl rfl, sPcT_start (is := [0]) hP rfl hK (fun _ _ => rfl) hp⟩ rfl hl.1 rfl (Nat.le_of_ble_eq_true rfl) d_BlockCode_constants_1 ⟨Nat.le_of_ble_eq_true rfl, Nat.le_of_ble_eq_true rfl⟩
set_option maxHeartbeats 4000000 in
set_option maxRecDepth 100000 in
theorem ct_repeats (l : Launch) (htr : l.stackTraces = false) (D : va_G) (cI cJ cZ : ClassId) (qt q1 q2 q3 q4 q5 q6 q7 : Nat) (sd fa : Int32) (hc : sd = 0) : MetT l y_BlockCode_repeats (.code y_BlockCode_repeats b_BlockCode_repeats 2 (some .int) :: tbg) rm_T2 (sPcT D cI cJ cZ [.ref qt] [(qt, .inr (5, [.ref q1, .ref q2, .ref q3, .ref q4, .ref q5, .ref q6, .ref q7, .int sd, .int fa]))]) xISE 1 6 := by
  refine MetT.ofW (cc := b_BlockCode_repeats) (maxL := 2) (ret := (some .int)) (by decide) rfl ?_
  intro p e s m args below meth c s₁ B hml hv
  obtain ⟨rfl, hP, hK, hp⟩ := hv
  have hts0 := atoms_spec (ws := Cond.code y_BlockCode_repeats b_BlockCode_repeats 2 (some .int) :: tbg) B.pre
  have he := B.noHandlers (hts0 _ List.mem_cons_self)
  have hlk := B.notSynchronized
  have S : CallFix p m c b_BlockCode_repeats 2 s ([.ref qt] : List Value).toArray tbg R_BlockCode := ⟨B.exec, B.bytes, hml, findClass_of_methodNamed B.named, fun w hw => hts0 w (List.mem_cons_of_mem _ hw)⟩
  obtain ⟨hx, hb, hml, hown, hts⟩ := id S
  have hl := lv_entry ([.ref qt] : List Value) (n := 2) (Nat.le_of_ble_eq_true rfl)
  rw [lg_entry_eq]
  generalize (lg_sl ([.ref qt] : List Value) ++ List.replicate (2 - (lg_sl ([.ref qt] : List Value)).length) Slot.unset).toArray = ls at hl ⊢
  have hl : lv_has ls 2 [(0, .ref qt)] := hl
  refine lv_aload_n hx hb d_BlockCode_repeats_0 rfl (lv_at hl 0 rfl) ?_
  exact vt_pass (n := 0) (As := []) (rest := []) S hlk he (ct_requireSealed l htr D cI cJ cZ qt q1 q2 q3 q4 q5 q6 q7 sd fa hc) (ct_cw hts ⟨Nat.le_of_ble_eq_true rfl, Nat.le_of_ble_eq_true rfl⟩) ⟨sPcT_blind, va_recv hK.1 hP (ci := 5) (q0 := 0) rfl rfl, sPcT_start (is := [0]) hP rfl hK (fun _ _ => rfl) hp⟩ rfl hl.1 rfl (Nat.le_of_ble_eq_true rfl) d_BlockCode_repeats_1 ⟨Nat.le_of_ble_eq_true rfl, Nat.le_of_ble_eq_true rfl⟩
set_option maxHeartbeats 4000000 in
set_option maxRecDepth 100000 in
theorem ct_unneeded (l : Launch) (htr : l.stackTraces = false) (D : va_G) (cI cJ cZ : ClassId) (qt q1 q2 q3 q4 q5 q6 q7 : Nat) (sd fa : Int32) (hc : sd = 0) : MetT l y_BlockCode_unneeded (.code y_BlockCode_unneeded b_BlockCode_unneeded 4 (some .int) :: tbg) rm_T2 (sPcT D cI cJ cZ [.ref qt] [(qt, .inr (5, [.ref q1, .ref q2, .ref q3, .ref q4, .ref q5, .ref q6, .ref q7, .int sd, .int fa]))]) xISE 1 6 := by
  refine MetT.ofW (cc := b_BlockCode_unneeded) (maxL := 4) (ret := (some .int)) (by decide) rfl ?_
  intro p e s m args below meth c s₁ B hml hv
  obtain ⟨rfl, hP, hK, hp⟩ := hv
  have hts0 := atoms_spec (ws := Cond.code y_BlockCode_unneeded b_BlockCode_unneeded 4 (some .int) :: tbg) B.pre
  have he := B.noHandlers (hts0 _ List.mem_cons_self)
  have hlk := B.notSynchronized
  have S : CallFix p m c b_BlockCode_unneeded 4 s ([.ref qt] : List Value).toArray tbg R_BlockCode := ⟨B.exec, B.bytes, hml, findClass_of_methodNamed B.named, fun w hw => hts0 w (List.mem_cons_of_mem _ hw)⟩
  obtain ⟨hx, hb, hml, hown, hts⟩ := id S
  have hl := lv_entry ([.ref qt] : List Value) (n := 4) (Nat.le_of_ble_eq_true rfl)
  rw [lg_entry_eq]
  generalize (lg_sl ([.ref qt] : List Value) ++ List.replicate (4 - (lg_sl ([.ref qt] : List Value)).length) Slot.unset).toArray = ls at hl ⊢
  have hl : lv_has ls 4 [(0, .ref qt)] := hl
  refine lv_aload_n hx hb d_BlockCode_unneeded_0 rfl (lv_at hl 0 rfl) ?_
  exact vt_pass (n := 0) (As := []) (rest := []) S hlk he (ct_requireSealed l htr D cI cJ cZ qt q1 q2 q3 q4 q5 q6 q7 sd fa hc) (ct_cw hts ⟨Nat.le_of_ble_eq_true rfl, Nat.le_of_ble_eq_true rfl⟩) ⟨sPcT_blind, va_recv hK.1 hP (ci := 5) (q0 := 0) rfl rfl, sPcT_start (is := [0]) hP rfl hK (fun _ _ => rfl) hp⟩ rfl hl.1 rfl (Nat.le_of_ble_eq_true rfl) d_BlockCode_unneeded_1 ⟨Nat.le_of_ble_eq_true rfl, Nat.le_of_ble_eq_true rfl⟩
set_option maxHeartbeats 4000000 in
set_option maxRecDepth 100000 in
theorem ct_compare (l : Launch) (htr : l.stackTraces = false) (D : va_G) (cI cJ cZ : ClassId) (qt q1 q2 q3 q4 q5 q6 q7 : Nat) (sd fa : Int32) (hc : sd = 0) : MetT l y_BlockCode_compare (.code y_BlockCode_compare b_BlockCode_compare 2 (some .int) :: tbg) rm_T2 (sPcT D cI cJ cZ [.ref qt] [(qt, .inr (5, [.ref q1, .ref q2, .ref q3, .ref q4, .ref q5, .ref q6, .ref q7, .int sd, .int fa]))]) xISE 1 6 := by
  refine MetT.ofW (cc := b_BlockCode_compare) (maxL := 2) (ret := (some .int)) (by decide) rfl ?_
  intro p e s m args below meth c s₁ B hml hv
  obtain ⟨rfl, hP, hK, hp⟩ := hv
  have hts0 := atoms_spec (ws := Cond.code y_BlockCode_compare b_BlockCode_compare 2 (some .int) :: tbg) B.pre
  have he := B.noHandlers (hts0 _ List.mem_cons_self)
  have hlk := B.notSynchronized
  have S : CallFix p m c b_BlockCode_compare 2 s ([.ref qt] : List Value).toArray tbg R_BlockCode := ⟨B.exec, B.bytes, hml, findClass_of_methodNamed B.named, fun w hw => hts0 w (List.mem_cons_of_mem _ hw)⟩
  obtain ⟨hx, hb, hml, hown, hts⟩ := id S
  have hl := lv_entry ([.ref qt] : List Value) (n := 2) (Nat.le_of_ble_eq_true rfl)
  rw [lg_entry_eq]
  generalize (lg_sl ([.ref qt] : List Value) ++ List.replicate (2 - (lg_sl ([.ref qt] : List Value)).length) Slot.unset).toArray = ls at hl ⊢
  have hl : lv_has ls 2 [(0, .ref qt)] := hl
  refine lv_aload_n hx hb d_BlockCode_compare_0 rfl (lv_at hl 0 rfl) ?_
  exact vt_pass (n := 0) (As := []) (rest := []) S hlk he (ct_requireSealed l htr D cI cJ cZ qt q1 q2 q3 q4 q5 q6 q7 sd fa hc) (ct_cw hts ⟨Nat.le_of_ble_eq_true rfl, Nat.le_of_ble_eq_true rfl⟩) ⟨sPcT_blind, va_recv hK.1 hP (ci := 5) (q0 := 0) rfl rfl, sPcT_start (is := [0]) hP rfl hK (fun _ _ => rfl) hp⟩ rfl hl.1 rfl (Nat.le_of_ble_eq_true rfl) d_BlockCode_compare_1 ⟨Nat.le_of_ble_eq_true rfl, Nat.le_of_ble_eq_true rfl⟩
