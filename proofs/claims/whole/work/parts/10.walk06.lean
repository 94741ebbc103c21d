set_option maxHeartbeats 4000000 in
set_option maxRecDepth 100000 in
theorem w_BlockCode_runCode {p : Program} {l : Launch} {e : Env} {s : State} {m : MethodId} {args : Array Value} {below : List Frame} {meth : Method} {c : Code} {D : va_G} {cI cJ cZ : ClassId} {A : Nat → Prop} {Qc : Array Value → State → Outcome → State → Prop} (S : CallFix p m c b_BlockCode_runCode 3 s args tbg R_BlockCode) (hr : meth.sig.returnType = (some .int)) (hlk : meth.locks = false) (hK : kx D cI cJ cZ s) (hA : ∀ q, s.heap.size ≤ q → A q) (qt : Nat) (qt_sourceCode : Nat) (qt_resultCode : Nat) (qt_facts : Nat) (qt_symbols : Nat) (qt_sourceWalk : Nat) (qt_resultWalk : Nat) (qt_machine : Nat) (qt_machine_inputs : Nat) (qt_machine_registers : Nat) (qr1 : Nat) (qr1_op : Nat) (qr1_d : Nat) (qr1_a : Nat) (qr1_b : Nat) (qr1_need : Nat) (p2 : Int32) (t_machine_inputs : Nat → Int32) (t_sealed : Int32) (r1_op : Nat → Int32) (r1_d : Nat → Int32) (r1_a : Nat → Int32) (r1_b : Nat → Int32) (r1_length : Int32) (t_foundAlike : Int32) (r1_leaders : Int32) (o_r : Int32) (o_t_machine_registers : Nat → Int32) (o_t_machine_toldSet : Int32) (o_t_machine_done : Int32) (hQ : ∀ (t : State) (H : Heap) (locs : List Loc), t.heap = H → s.WarmedH t.vm → va_P D classes (ww_BlockCode_runCode cI cJ cZ qt qt_sourceCode qt_resultCode qt_facts qt_symbols qt_sourceWalk qt_resultWalk qt_machine qt_machine_inputs qt_machine_registers qr1 qr1_op qr1_d qr1_a qr1_b qr1_need t_sealed t_foundAlike o_t_machine_toldSet o_t_machine_done t_machine_inputs o_t_machine_registers r1_length r1_leaders r1_op r1_d r1_a r1_b) H → va_S A s.heap H locs → Qc args s (.returned (some (.int o_r))) t) (t_machine_registers : Nat → Int32) (t_machine_toldSet : Int32) (t_machine_done : Int32) (H : Heap) (locs : List Loc) (ls : Array Slot) (hl : lv_has ls 3 [(0, .ref qt), (1, .ref qr1), (2, .int p2)]) (hP : va_P D classes (ww_BlockCode_runCode cI cJ cZ qt qt_sourceCode qt_resultCode qt_facts qt_symbols qt_sourceWalk qt_resultWalk qt_machine qt_machine_inputs qt_machine_registers qr1 qr1_op qr1_d qr1_a qr1_b qr1_need t_sealed t_foundAlike t_machine_toldSet t_machine_done t_machine_inputs t_machine_registers r1_length r1_leaders r1_op r1_d r1_a r1_b) H) (hD : va_D A (ww_BlockCode_runCode cI cJ cZ qt qt_sourceCode qt_resultCode qt_facts qt_symbols qt_sourceWalk qt_resultWalk qt_machine qt_machine_inputs qt_machine_registers qr1 qr1_op qr1_d qr1_a qr1_b qr1_need t_sealed t_foundAlike t_machine_toldSet t_machine_done t_machine_inputs t_machine_registers r1_length r1_leaders r1_op r1_d r1_a r1_b)) (hS : va_S A s.heap H locs) (hm : f_BlockCode_runCode p2 t_machine_inputs t_sealed r1_op r1_d r1_a r1_b r1_length t_machine_registers t_machine_toldSet t_machine_done = some (o_r, o_t_machine_registers, o_t_machine_toldSet, o_t_machine_done)) : W p l e rm_BlockCode_runCode s m args below meth c H locs 0 0 (MQ below Qc args s 0 0 A) (F0 m 0 ls []) := by
  obtain ⟨hx, hb, hml, hown, hts⟩ := id S
  unfold f_BlockCode_runCode at hm
  refine lv_aload_n hx hb d_BlockCode_runCode_0 rfl (lv_at hl 0 rfl) ?_
  refine va_get (D := D) (ci := 5) (v := .int t_sealed) (C := R_BlockCode) (T := T_BlockCode) (N := 9) hx hb hts in_BlockCode hown hK.1 hP 0 rfl rfl 7 (by decide) (hts _ a_166) (fun _ h9 => h9) rfl d_BlockCode_runCode_1 ?_
  refine lv_if_eq (tgt := 18) hx hb d_BlockCode_runCode_4 (by decide) (fun hc => ?_) (fun hc => ?_)
  · have hm := ift hc hm
    refine lv_iconst (v := (-1 : Int32)) hx hb d_BlockCode_runCode_18 (by decide) ?_
    cases hm
    exact W.iret hx hb hr (fun t ht hW => hQ t _ _ ht hW hP hS) hS.2.2 d_BlockCode_runCode_19 hlk
  · have hm := iff_ hc hm
    refine lv_iload_n hx hb d_BlockCode_runCode_7 rfl (lv_at hl 2 rfl) ?_
    refine lv_if_lt (tgt := 18) hx hb d_BlockCode_runCode_8 (by decide) (fun hc => ?_) (fun hc => ?_)
    · have hm := ift hc hm
      refine lv_iconst (v := (-1 : Int32)) hx hb d_BlockCode_runCode_18 (by decide) ?_
      cases hm
      exact W.iret hx hb hr (fun t ht hW => hQ t _ _ ht hW hP hS) hS.2.2 d_BlockCode_runCode_19 hlk
    · have hm := iff_ hc hm
      refine lv_iload_n hx hb d_BlockCode_runCode_11 rfl (lv_at hl 2 rfl) ?_
      refine lv_sipush (v := (1000 : Int32)) hx hb d_BlockCode_runCode_12 (by decide) ?_
      refine lv_icmp_le (tgt := 20) hx hb d_BlockCode_runCode_15 (by decide) (fun hc => ?_) (fun hc => ?_)
      · have hm := ift hc hm
        refine lv_aload_n hx hb d_BlockCode_runCode_20 rfl (lv_at hl 0 rfl) ?_
        refine va_get (D := D) (ci := 5) (v := .ref qt_machine) (C := R_BlockCode) (T := T_BlockCode) (N := 9) hx hb hts in_BlockCode hown hK.1 hP 0 rfl rfl 6 (by decide) (hts _ a_165) (fun _ h9 => h9) rfl d_BlockCode_runCode_21 ?_
        refine lv_aload_n hx hb d_BlockCode_runCode_24 rfl (lv_at hl 1 rfl) ?_
        refine lv_iload_n hx hb d_BlockCode_runCode_25 rfl (lv_at hl 2 rfl) ?_
        obtain ⟨⟨rz1, u2, u3, u4⟩, e_rz1, hm⟩ := ob hm
        dsimp only at hm
        have hC : ([1, 2, 3, 4, 5, 6, 7, 8] : List Nat).map (fun i => (ww_BlockCode_runCode cI cJ cZ qt qt_sourceCode qt_resultCode qt_facts qt_symbols qt_sourceWalk qt_resultWalk qt_machine qt_machine_inputs qt_machine_registers qr1 qr1_op qr1_d qr1_a qr1_b qr1_need t_sealed t_foundAlike t_machine_toldSet t_machine_done t_machine_inputs t_machine_registers r1_length r1_leaders r1_op r1_d r1_a r1_b)[i]?) = (ww_Machine_run cI cJ cZ qt_machine qt_machine_inputs qt_machine_registers qr1 qr1_op qr1_d qr1_a qr1_b qr1_need t_machine_toldSet t_machine_done t_machine_inputs t_machine_registers r1_length r1_leaders r1_op r1_d r1_a r1_b).map some := rfl
        refine vj_i (w1 := (ww_Machine_run cI cJ cZ qt_machine qt_machine_inputs qt_machine_registers qr1 qr1_op qr1_d qr1_a qr1_b qr1_need u3 u4 t_machine_inputs u2 r1_length r1_leaders r1_op r1_d r1_a r1_b)) (wn := (ww_BlockCode_runCode cI cJ cZ qt qt_sourceCode qt_resultCode qt_facts qt_symbols qt_sourceWalk qt_resultWalk qt_machine qt_machine_inputs qt_machine_registers qr1 qr1_op qr1_d qr1_a qr1_b qr1_need t_sealed t_foundAlike u3 u4 t_machine_inputs u2 r1_length r1_leaders r1_op r1_d r1_a r1_b)) (isR := [0]) (nw := 9) (vr_V (C := R_Machine) (n := 2) (As := [.ref qr1, .int p2]) S ((c_Machine_run l D cI cJ cZ qt_machine qt_machine_inputs qt_machine_registers qr1 qr1_op qr1_d qr1_a qr1_b qr1_need t_machine_toldSet t_machine_done t_machine_inputs t_machine_registers r1_length r1_leaders r1_op r1_d r1_a r1_b p2 rz1 u2 u3 u4 e_rz1) H.size) a_351 a_352 a_353 a_6 a_354 (by decide +kernel) ⟨rfl, rfl⟩ ⟨Nat.le_of_ble_eq_true rfl, Nat.le_of_ble_eq_true rfl⟩ (ci := 4) (q0 := 1) rfl rfl hK hP hD (by decide) hC rfl hl.1 (Nat.le_of_ble_eq_true rfl) d_BlockCode_runCode_26 ⟨Nat.zero_le _, Nat.zero_le _⟩ rfl) hP hD hS hA hC rfl rfl (vx_c rfl rfl vx_n) rfl (by decide) (fun H locs hP hD hS => ?_)
        cases hm
        exact W.iret hx hb hr (fun t ht hW => hQ t _ _ ht hW hP hS) hS.2.2 d_BlockCode_runCode_29 hlk
      · have hm := iff_ hc hm
        refine lv_iconst (v := (-1 : Int32)) hx hb d_BlockCode_runCode_18 (by decide) ?_
        cases hm
        exact W.iret hx hb hr (fun t ht hW => hQ t _ _ ht hW hP hS) hS.2.2 d_BlockCode_runCode_19 hlk
set_option maxHeartbeats 4000000 in
set_option maxRecDepth 100000 in
theorem c_BlockCode_runCode (l : Launch) (D : va_G) (cI cJ cZ : ClassId) (qt : Nat) (qt_sourceCode : Nat) (qt_resultCode : Nat) (qt_facts : Nat) (qt_symbols : Nat) (qt_sourceWalk : Nat) (qt_resultWalk : Nat) (qt_machine : Nat) (qt_machine_inputs : Nat) (qt_machine_registers : Nat) (qr1 : Nat) (qr1_op : Nat) (qr1_d : Nat) (qr1_a : Nat) (qr1_b : Nat) (qr1_need : Nat) (t_sealed : Int32) (t_foundAlike : Int32) (t_machine_toldSet : Int32) (t_machine_done : Int32) (t_machine_inputs : Nat → Int32) (t_machine_registers : Nat → Int32) (r1_length : Int32) (r1_leaders : Int32) (r1_op : Nat → Int32) (r1_d : Nat → Int32) (r1_a : Nat → Int32) (r1_b : Nat → Int32) (p2 : Int32) (o_r : Int32) (o_t_machine_registers : Nat → Int32) (o_t_machine_toldSet : Int32) (o_t_machine_done : Int32) (hm : f_BlockCode_runCode p2 t_machine_inputs t_sealed r1_op r1_d r1_a r1_b r1_length t_machine_registers t_machine_toldSet t_machine_done = some (o_r, o_t_machine_registers, o_t_machine_toldSet, o_t_machine_done)) : MI l y_BlockCode_runCode b_BlockCode_runCode 3 .int rm_BlockCode_runCode D cI cJ cZ [.ref qt, .ref qr1, .int p2] (ww_BlockCode_runCode cI cJ cZ qt qt_sourceCode qt_resultCode qt_facts qt_symbols qt_sourceWalk qt_resultWalk qt_machine qt_machine_inputs qt_machine_registers qr1 qr1_op qr1_d qr1_a qr1_b qr1_need t_sealed t_foundAlike t_machine_toldSet t_machine_done t_machine_inputs t_machine_registers r1_length r1_leaders r1_op r1_d r1_a r1_b) (ww_BlockCode_runCode cI cJ cZ qt qt_sourceCode qt_resultCode qt_facts qt_symbols qt_sourceWalk qt_resultWalk qt_machine qt_machine_inputs qt_machine_registers qr1 qr1_op qr1_d qr1_a qr1_b qr1_need t_sealed t_foundAlike o_t_machine_toldSet o_t_machine_done t_machine_inputs o_t_machine_registers r1_length r1_leaders r1_op r1_d r1_a r1_b) o_r := by
  intro sz
  refine Met.ofW (cc := b_BlockCode_runCode) (maxL := 3) (ret := (some .int)) (by decide) rfl ?_
  intro p e s m args below meth c s₁ B hml hv
  obtain ⟨rfl, hsz, hP, hK, hD0⟩ := hv
  have hts := atoms_spec (ws := Cond.code y_BlockCode_runCode b_BlockCode_runCode 3 (some .int) :: tbg) B.pre
  have S : CallFix p m c b_BlockCode_runCode 3 s ([.ref qt, .ref qr1, .int p2] : List Value).toArray tbg R_BlockCode := ⟨B.exec, B.bytes, hml, findClass_of_methodNamed B.named, fun w hw => hts w (List.mem_cons_of_mem _ hw)⟩
  subst hsz
  have hD := hD0.self (sz := s.heap.size)
  have hl := lv_entry ([.ref qt, .ref qr1, .int p2] : List Value) (n := 3) (Nat.le_of_ble_eq_true rfl)
  rw [lg_entry_eq]
  generalize (lg_sl ([.ref qt, .ref qr1, .int p2] : List Value) ++ List.replicate (3 - (lg_sl ([.ref qt, .ref qr1, .int p2] : List Value)).length) Slot.unset).toArray = ls at hl ⊢
  have hl : lv_has ls 3 [(0, .ref qt), (1, .ref qr1), (2, .int p2)] := hl
  exact w_BlockCode_runCode S B.returns B.notSynchronized hK (fun q h => Or.inr h) qt qt_sourceCode qt_resultCode qt_facts qt_symbols qt_sourceWalk qt_resultWalk qt_machine qt_machine_inputs qt_machine_registers qr1 qr1_op qr1_d qr1_a qr1_b qr1_need p2 t_machine_inputs t_sealed r1_op r1_d r1_a r1_b r1_length t_foundAlike r1_leaders o_r o_t_machine_registers o_t_machine_toldSet o_t_machine_done (fun t H locs ht hW hP hS => ⟨⟨_, (), rfl, rfl, sB_of ht hP⟩, hS.F ht⟩) t_machine_registers t_machine_toldSet t_machine_done s.heap [] ls hl hP hD va_S.rf hm
set_option maxHeartbeats 4000000 in
set_option maxRecDepth 100000 in
theorem w_BlockCode_runSource {p : Program} {l : Launch} {e : Env} {s : State} {m : MethodId} {args : Array Value} {below : List Frame} {meth : Method} {c : Code} {D : va_G} {cI cJ cZ : ClassId} {A : Nat → Prop} {Qc : Array Value → State → Outcome → State → Prop} (S : CallFix p m c b_BlockCode_runSource 2 s args tbg R_BlockCode) (hr : meth.sig.returnType = (some .int)) (hlk : meth.locks = false) (hK : kx D cI cJ cZ s) (hA : ∀ q, s.heap.size ≤ q → A q) (qt : Nat) (qt_sourceCode : Nat) (qt_resultCode : Nat) (qt_facts : Nat) (qt_symbols : Nat) (qt_sourceWalk : Nat) (qt_resultWalk : Nat) (qt_machine : Nat) (qt_sourceCode_op : Nat) (qt_sourceCode_d : Nat) (qt_sourceCode_a : Nat) (qt_sourceCode_b : Nat) (qt_sourceCode_need : Nat) (qt_machine_inputs : Nat) (qt_machine_registers : Nat) (p1 : Int32) (t_sourceCode_op : Nat → Int32) (t_sourceCode_d : Nat → Int32) (t_sourceCode_a : Nat → Int32) (t_sourceCode_b : Nat → Int32) (t_sourceCode_length : Int32) (t_machine_inputs : Nat → Int32) (t_sealed : Int32) (t_foundAlike : Int32) (t_sourceCode_leaders : Int32) (o_r : Int32) (o_t_machine_registers : Nat → Int32) (o_t_machine_toldSet : Int32) (o_t_machine_done : Int32) (hQ : ∀ (t : State) (H : Heap) (locs : List Loc), t.heap = H → s.WarmedH t.vm → va_P D classes (ww_BlockCode_runSource cI cJ cZ qt qt_sourceCode qt_resultCode qt_facts qt_symbols qt_sourceWalk qt_resultWalk qt_machine qt_sourceCode_op qt_sourceCode_d qt_sourceCode_a qt_sourceCode_b qt_sourceCode_need qt_machine_inputs qt_machine_registers t_sealed t_foundAlike t_sourceCode_length t_sourceCode_leaders t_sourceCode_op t_sourceCode_d t_sourceCode_a t_sourceCode_b o_t_machine_toldSet o_t_machine_done t_machine_inputs o_t_machine_registers) H → va_S A s.heap H locs → Qc args s (.returned (some (.int o_r))) t) (t_machine_registers : Nat → Int32) (t_machine_toldSet : Int32) (t_machine_done : Int32) (H : Heap) (locs : List Loc) (ls : Array Slot) (hl : lv_has ls 2 [(0, .ref qt), (1, .int p1)]) (hP : va_P D classes (ww_BlockCode_runSource cI cJ cZ qt qt_sourceCode qt_resultCode qt_facts qt_symbols qt_sourceWalk qt_resultWalk qt_machine qt_sourceCode_op qt_sourceCode_d qt_sourceCode_a qt_sourceCode_b qt_sourceCode_need qt_machine_inputs qt_machine_registers t_sealed t_foundAlike t_sourceCode_length t_sourceCode_leaders t_sourceCode_op t_sourceCode_d t_sourceCode_a t_sourceCode_b t_machine_toldSet t_machine_done t_machine_inputs t_machine_registers) H) (hD : va_D A (ww_BlockCode_runSource cI cJ cZ qt qt_sourceCode qt_resultCode qt_facts qt_symbols qt_sourceWalk qt_resultWalk qt_machine qt_sourceCode_op qt_sourceCode_d qt_sourceCode_a qt_sourceCode_b qt_sourceCode_need qt_machine_inputs qt_machine_registers t_sealed t_foundAlike t_sourceCode_length t_sourceCode_leaders t_sourceCode_op t_sourceCode_d t_sourceCode_a t_sourceCode_b t_machine_toldSet t_machine_done t_machine_inputs t_machine_registers)) (hS : va_S A s.heap H locs) (hm : f_BlockCode_runSource p1 t_sourceCode_op t_sourceCode_d t_sourceCode_a t_sourceCode_b t_sourceCode_length t_machine_inputs t_sealed t_machine_registers t_machine_toldSet t_machine_done = some (o_r, o_t_machine_registers, o_t_machine_toldSet, o_t_machine_done)) : W p l e rm_BlockCode_runSource s m args below meth c H locs 0 0 (MQ below Qc args s 0 0 A) (F0 m 0 ls []) := by
  obtain ⟨hx, hb, hml, hown, hts⟩ := id S
  unfold f_BlockCode_runSource at hm
  refine lv_aload_n hx hb d_BlockCode_runSource_0 rfl (lv_at hl 0 rfl) ?_
  refine lv_aload_n hx hb d_BlockCode_runSource_1 rfl (lv_at hl 0 rfl) ?_
  refine va_get (D := D) (ci := 5) (v := .ref qt_sourceCode) (C := R_BlockCode) (T := T_BlockCode) (N := 9) hx hb hts in_BlockCode hown hK.1 hP 0 rfl rfl 0 (by decide) (hts _ a_159) (fun _ h9 => h9) rfl d_BlockCode_runSource_2 ?_
  refine lv_iload_n hx hb d_BlockCode_runSource_5 rfl (lv_at hl 1 rfl) ?_
  obtain ⟨⟨rz1, u2, u3, u4⟩, e_rz1, hm⟩ := ob hm
  dsimp only at hm
  have hC : ([0, 6, 7, 8, 1, 2, 3, 4, 5] : List Nat).map (fun i => (ww_BlockCode_runSource cI cJ cZ qt qt_sourceCode qt_resultCode qt_facts qt_symbols qt_sourceWalk qt_resultWalk qt_machine qt_sourceCode_op qt_sourceCode_d qt_sourceCode_a qt_sourceCode_b qt_sourceCode_need qt_machine_inputs qt_machine_registers t_sealed t_foundAlike t_sourceCode_length t_sourceCode_leaders t_sourceCode_op t_sourceCode_d t_sourceCode_a t_sourceCode_b t_machine_toldSet t_machine_done t_machine_inputs t_machine_registers)[i]?) = (ww_BlockCode_runCode cI cJ cZ qt qt_sourceCode qt_resultCode qt_facts qt_symbols qt_sourceWalk qt_resultWalk qt_machine qt_machine_inputs qt_machine_registers qt_sourceCode qt_sourceCode_op qt_sourceCode_d qt_sourceCode_a qt_sourceCode_b qt_sourceCode_need t_sealed t_foundAlike t_machine_toldSet t_machine_done t_machine_inputs t_machine_registers t_sourceCode_length t_sourceCode_leaders t_sourceCode_op t_sourceCode_d t_sourceCode_a t_sourceCode_b).map some := rfl
  refine vj_i (w1 := (ww_BlockCode_runCode cI cJ cZ qt qt_sourceCode qt_resultCode qt_facts qt_symbols qt_sourceWalk qt_resultWalk qt_machine qt_machine_inputs qt_machine_registers qt_sourceCode qt_sourceCode_op qt_sourceCode_d qt_sourceCode_a qt_sourceCode_b qt_sourceCode_need t_sealed t_foundAlike u3 u4 t_machine_inputs u2 t_sourceCode_length t_sourceCode_leaders t_sourceCode_op t_sourceCode_d t_sourceCode_a t_sourceCode_b)) (wn := (ww_BlockCode_runSource cI cJ cZ qt qt_sourceCode qt_resultCode qt_facts qt_symbols qt_sourceWalk qt_resultWalk qt_machine qt_sourceCode_op qt_sourceCode_d qt_sourceCode_a qt_sourceCode_b qt_sourceCode_need qt_machine_inputs qt_machine_registers t_sealed t_foundAlike t_sourceCode_length t_sourceCode_leaders t_sourceCode_op t_sourceCode_d t_sourceCode_a t_sourceCode_b u3 u4 t_machine_inputs u2)) (isR := []) (nw := 9) (vr_V (C := R_BlockCode) (n := 2) (As := [.ref qt_sourceCode, .int p1]) S ((c_BlockCode_runCode l D cI cJ cZ qt qt_sourceCode qt_resultCode qt_facts qt_symbols qt_sourceWalk qt_resultWalk qt_machine qt_machine_inputs qt_machine_registers qt_sourceCode qt_sourceCode_op qt_sourceCode_d qt_sourceCode_a qt_sourceCode_b qt_sourceCode_need t_sealed t_foundAlike t_machine_toldSet t_machine_done t_machine_inputs t_machine_registers t_sourceCode_length t_sourceCode_leaders t_sourceCode_op t_sourceCode_d t_sourceCode_a t_sourceCode_b p1 rz1 u2 u3 u4 e_rz1) H.size) a_347 a_349 ap_7 a_1 a_350 (by decide +kernel) ⟨rfl, rfl⟩ ⟨Nat.le_of_ble_eq_true rfl, Nat.le_of_ble_eq_true rfl⟩ (ci := 5) (q0 := 0) rfl rfl hK hP hD (by decide) hC rfl hl.1 (Nat.le_of_ble_eq_true rfl) d_BlockCode_runSource_6 ⟨Nat.zero_le _, Nat.zero_le _⟩ rfl) hP hD hS hA hC rfl rfl vx_n rfl (by decide) (fun H locs hP hD hS => ?_)
  cases hm
  exact W.iret hx hb hr (fun t ht hW => hQ t _ _ ht hW hP hS) hS.2.2 d_BlockCode_runSource_9 hlk
set_option maxHeartbeats 4000000 in
set_option maxRecDepth 100000 in
theorem c_BlockCode_runSource (l : Launch) (D : va_G) (cI cJ cZ : ClassId) (qt : Nat) (qt_sourceCode : Nat) (qt_resultCode : Nat) (qt_facts : Nat) (qt_symbols : Nat) (qt_sourceWalk : Nat) (qt_resultWalk : Nat) (qt_machine : Nat) (qt_sourceCode_op : Nat) (qt_sourceCode_d : Nat) (qt_sourceCode_a : Nat) (qt_sourceCode_b : Nat) (qt_sourceCode_need : Nat) (qt_machine_inputs : Nat) (qt_machine_registers : Nat) (t_sealed : Int32) (t_foundAlike : Int32) (t_sourceCode_length : Int32) (t_sourceCode_leaders : Int32) (t_sourceCode_op : Nat → Int32) (t_sourceCode_d : Nat → Int32) (t_sourceCode_a : Nat → Int32) (t_sourceCode_b : Nat → Int32) (t_machine_toldSet : Int32) (t_machine_done : Int32) (t_machine_inputs : Nat → Int32) (t_machine_registers : Nat → Int32) (p1 : Int32) (o_r : Int32) (o_t_machine_registers : Nat → Int32) (o_t_machine_toldSet : Int32) (o_t_machine_done : Int32) (hm : f_BlockCode_runSource p1 t_sourceCode_op t_sourceCode_d t_sourceCode_a t_sourceCode_b t_sourceCode_length t_machine_inputs t_sealed t_machine_registers t_machine_toldSet t_machine_done = some (o_r, o_t_machine_registers, o_t_machine_toldSet, o_t_machine_done)) : MI l y_BlockCode_runSource b_BlockCode_runSource 2 .int rm_BlockCode_runSource D cI cJ cZ [.ref qt, .int p1] (ww_BlockCode_runSource cI cJ cZ qt qt_sourceCode qt_resultCode qt_facts qt_symbols qt_sourceWalk qt_resultWalk qt_machine qt_sourceCode_op qt_sourceCode_d qt_sourceCode_a qt_sourceCode_b qt_sourceCode_need qt_machine_inputs qt_machine_registers t_sealed t_foundAlike t_sourceCode_length t_sourceCode_leaders t_sourceCode_op t_sourceCode_d t_sourceCode_a t_sourceCode_b t_machine_toldSet t_machine_done t_machine_inputs t_machine_registers) (ww_BlockCode_runSource cI cJ cZ qt qt_sourceCode qt_resultCode qt_facts qt_symbols qt_sourceWalk qt_resultWalk qt_machine qt_sourceCode_op qt_sourceCode_d qt_sourceCode_a qt_sourceCode_b qt_sourceCode_need qt_machine_inputs qt_machine_registers t_sealed t_foundAlike t_sourceCode_length t_sourceCode_leaders t_sourceCode_op t_sourceCode_d t_sourceCode_a t_sourceCode_b o_t_machine_toldSet o_t_machine_done t_machine_inputs o_t_machine_registers) o_r := by
  intro sz
  refine Met.ofW (cc := b_BlockCode_runSource) (maxL := 2) (ret := (some .int)) (by decide) rfl ?_
  intro p e s m args below meth c s₁ B hml hv
  obtain ⟨rfl, hsz, hP, hK, hD0⟩ := hv
  have hts := atoms_spec (ws := Cond.code y_BlockCode_runSource b_BlockCode_runSource 2 (some .int) :: tbg) B.pre
  have S : CallFix p m c b_BlockCode_runSource 2 s ([.ref qt, .int p1] : List Value).toArray tbg R_BlockCode := ⟨B.exec, B.bytes, hml, findClass_of_methodNamed B.named, fun w hw => hts w (List.mem_cons_of_mem _ hw)⟩
  subst hsz
  have hD := hD0.self (sz := s.heap.size)
  have hl := lv_entry ([.ref qt, .int p1] : List Value) (n := 2) (Nat.le_of_ble_eq_true rfl)
  rw [lg_entry_eq]
  generalize (lg_sl ([.ref qt, .int p1] : List Value) ++ List.replicate (2 - (lg_sl ([.ref qt, .int p1] : List Value)).length) Slot.unset).toArray = ls at hl ⊢
  have hl : lv_has ls 2 [(0, .ref qt), (1, .int p1)] := hl
  exact w_BlockCode_runSource S B.returns B.notSynchronized hK (fun q h => Or.inr h) qt qt_sourceCode qt_resultCode qt_facts qt_symbols qt_sourceWalk qt_resultWalk qt_machine qt_sourceCode_op qt_sourceCode_d qt_sourceCode_a qt_sourceCode_b qt_sourceCode_need qt_machine_inputs qt_machine_registers p1 t_sourceCode_op t_sourceCode_d t_sourceCode_a t_sourceCode_b t_sourceCode_length t_machine_inputs t_sealed t_foundAlike t_sourceCode_leaders o_r o_t_machine_registers o_t_machine_toldSet o_t_machine_done (fun t H locs ht hW hP hS => ⟨⟨_, (), rfl, rfl, sB_of ht hP⟩, hS.F ht⟩) t_machine_registers t_machine_toldSet t_machine_done s.heap [] ls hl hP hD va_S.rf hm
set_option maxHeartbeats 4000000 in
set_option maxRecDepth 100000 in
theorem w_BlockCode_runResult {p : Program} {l : Launch} {e : Env} {s : State} {m : MethodId} {args : Array Value} {below : List Frame} {meth : Method} {c : Code} {D : va_G} {cI cJ cZ : ClassId} {A : Nat → Prop} {Qc : Array Value → State → Outcome → State → Prop} (S : CallFix p m c b_BlockCode_runResult 2 s args tbg R_BlockCode) (hr : meth.sig.returnType = (some .int)) (hlk : meth.locks = false) (hK : kx D cI cJ cZ s) (hA : ∀ q, s.heap.size ≤ q → A q) (qt : Nat) (qt_sourceCode : Nat) (qt_resultCode : Nat) (qt_facts : Nat) (qt_symbols : Nat) (qt_sourceWalk : Nat) (qt_resultWalk : Nat) (qt_machine : Nat) (qt_resultCode_op : Nat) (qt_resultCode_d : Nat) (qt_resultCode_a : Nat) (qt_resultCode_b : Nat) (qt_resultCode_need : Nat) (qt_machine_inputs : Nat) (qt_machine_registers : Nat) (p1 : Int32) (t_resultCode_op : Nat → Int32) (t_resultCode_d : Nat → Int32) (t_resultCode_a : Nat → Int32) (t_resultCode_b : Nat → Int32) (t_resultCode_length : Int32) (t_machine_inputs : Nat → Int32) (t_sealed : Int32) (t_foundAlike : Int32) (t_resultCode_leaders : Int32) (o_r : Int32) (o_t_machine_registers : Nat → Int32) (o_t_machine_toldSet : Int32) (o_t_machine_done : Int32) (hQ : ∀ (t : State) (H : Heap) (locs : List Loc), t.heap = H → s.WarmedH t.vm → va_P D classes (ww_BlockCode_runResult cI cJ cZ qt qt_sourceCode qt_resultCode qt_facts qt_symbols qt_sourceWalk qt_resultWalk qt_machine qt_resultCode_op qt_resultCode_d qt_resultCode_a qt_resultCode_b qt_resultCode_need qt_machine_inputs qt_machine_registers t_sealed t_foundAlike t_resultCode_length t_resultCode_leaders t_resultCode_op t_resultCode_d t_resultCode_a t_resultCode_b o_t_machine_toldSet o_t_machine_done t_machine_inputs o_t_machine_registers) H → va_S A s.heap H locs → Qc args s (.returned (some (.int o_r))) t) (t_machine_registers : Nat → Int32) (t_machine_toldSet : Int32) (t_machine_done : Int32) (H : Heap) (locs : List Loc) (ls : Array Slot) (hl : lv_has ls 2 [(0, .ref qt), (1, .int p1)]) (hP : va_P D classes (ww_BlockCode_runResult cI cJ cZ qt qt_sourceCode qt_resultCode qt_facts qt_symbols qt_sourceWalk qt_resultWalk qt_machine qt_resultCode_op qt_resultCode_d qt_resultCode_a qt_resultCode_b qt_resultCode_need qt_machine_inputs qt_machine_registers t_sealed t_foundAlike t_resultCode_length t_resultCode_leaders t_resultCode_op t_resultCode_d t_resultCode_a t_resultCode_b t_machine_toldSet t_machine_done t_machine_inputs t_machine_registers) H) (hD : va_D A (ww_BlockCode_runResult cI cJ cZ qt qt_sourceCode qt_resultCode qt_facts qt_symbols qt_sourceWalk qt_resultWalk qt_machine qt_resultCode_op qt_resultCode_d qt_resultCode_a qt_resultCode_b qt_resultCode_need qt_machine_inputs qt_machine_registers t_sealed t_foundAlike t_resultCode_length t_resultCode_leaders t_resultCode_op t_resultCode_d t_resultCode_a t_resultCode_b t_machine_toldSet t_machine_done t_machine_inputs t_machine_registers)) (hS : va_S A s.heap H locs) (hm : f_BlockCode_runResult p1 t_resultCode_op t_resultCode_d t_resultCode_a t_resultCode_b t_resultCode_length t_machine_inputs t_sealed t_machine_registers t_machine_toldSet t_machine_done = some (o_r, o_t_machine_registers, o_t_machine_toldSet, o_t_machine_done)) : W p l e rm_BlockCode_runResult s m args below meth c H locs 0 0 (MQ below Qc args s 0 0 A) (F0 m 0 ls []) := by
  obtain ⟨hx, hb, hml, hown, hts⟩ := id S
  unfold f_BlockCode_runResult at hm
  refine lv_aload_n hx hb d_BlockCode_runResult_0 rfl (lv_at hl 0 rfl) ?_
  refine lv_aload_n hx hb d_BlockCode_runResult_1 rfl (lv_at hl 0 rfl) ?_
  refine va_get (D := D) (ci := 5) (v := .ref qt_resultCode) (C := R_BlockCode) (T := T_BlockCode) (N := 9) hx hb hts in_BlockCode hown hK.1 hP 0 rfl rfl 1 (by decide) (hts _ a_160) (fun _ h9 => h9) rfl d_BlockCode_runResult_2 ?_
  refine lv_iload_n hx hb d_BlockCode_runResult_5 rfl (lv_at hl 1 rfl) ?_
  obtain ⟨⟨rz1, u2, u3, u4⟩, e_rz1, hm⟩ := ob hm
  dsimp only at hm
  have hC : ([0, 6, 7, 8, 1, 2, 3, 4, 5] : List Nat).map (fun i => (ww_BlockCode_runResult cI cJ cZ qt qt_sourceCode qt_resultCode qt_facts qt_symbols qt_sourceWalk qt_resultWalk qt_machine qt_resultCode_op qt_resultCode_d qt_resultCode_a qt_resultCode_b qt_resultCode_need qt_machine_inputs qt_machine_registers t_sealed t_foundAlike t_resultCode_length t_resultCode_leaders t_resultCode_op t_resultCode_d t_resultCode_a t_resultCode_b t_machine_toldSet t_machine_done t_machine_inputs t_machine_registers)[i]?) = (ww_BlockCode_runCode cI cJ cZ qt qt_sourceCode qt_resultCode qt_facts qt_symbols qt_sourceWalk qt_resultWalk qt_machine qt_machine_inputs qt_machine_registers qt_resultCode qt_resultCode_op qt_resultCode_d qt_resultCode_a qt_resultCode_b qt_resultCode_need t_sealed t_foundAlike t_machine_toldSet t_machine_done t_machine_inputs t_machine_registers t_resultCode_length t_resultCode_leaders t_resultCode_op t_resultCode_d t_resultCode_a t_resultCode_b).map some := rfl
  refine vj_i (w1 := (ww_BlockCode_runCode cI cJ cZ qt qt_sourceCode qt_resultCode qt_facts qt_symbols qt_sourceWalk qt_resultWalk qt_machine qt_machine_inputs qt_machine_registers qt_resultCode qt_resultCode_op qt_resultCode_d qt_resultCode_a qt_resultCode_b qt_resultCode_need t_sealed t_foundAlike u3 u4 t_machine_inputs u2 t_resultCode_length t_resultCode_leaders t_resultCode_op t_resultCode_d t_resultCode_a t_resultCode_b)) (wn := (ww_BlockCode_runResult cI cJ cZ qt qt_sourceCode qt_resultCode qt_facts qt_symbols qt_sourceWalk qt_resultWalk qt_machine qt_resultCode_op qt_resultCode_d qt_resultCode_a qt_resultCode_b qt_resultCode_need qt_machine_inputs qt_machine_registers t_sealed t_foundAlike t_resultCode_length t_resultCode_leaders t_resultCode_op t_resultCode_d t_resultCode_a t_resultCode_b u3 u4 t_machine_inputs u2)) (isR := []) (nw := 9) (vr_V (C := R_BlockCode) (n := 2) (As := [.ref qt_resultCode, .int p1]) S ((c_BlockCode_runCode l D cI cJ cZ qt qt_sourceCode qt_resultCode qt_facts qt_symbols qt_sourceWalk qt_resultWalk qt_machine qt_machine_inputs qt_machine_registers qt_resultCode qt_resultCode_op qt_resultCode_d qt_resultCode_a qt_resultCode_b qt_resultCode_need t_sealed t_foundAlike t_machine_toldSet t_machine_done t_machine_inputs t_machine_registers t_resultCode_length t_resultCode_leaders t_resultCode_op t_resultCode_d t_resultCode_a t_resultCode_b p1 rz1 u2 u3 u4 e_rz1) H.size) a_347 a_349 ap_7 a_1 a_350 (by decide +kernel) ⟨rfl, rfl⟩ ⟨Nat.le_of_ble_eq_true rfl, Nat.le_of_ble_eq_true rfl⟩ (ci := 5) (q0 := 0) rfl rfl hK hP hD (by decide) hC rfl hl.1 (Nat.le_of_ble_eq_true rfl) d_BlockCode_runResult_6 ⟨Nat.zero_le _, Nat.zero_le _⟩ rfl) hP hD hS hA hC rfl rfl vx_n rfl (by decide) (fun H locs hP hD hS => ?_)
  cases hm
  exact W.iret hx hb hr (fun t ht hW => hQ t _ _ ht hW hP hS) hS.2.2 d_BlockCode_runResult_9 hlk
set_option maxHeartbeats 4000000 in
set_option maxRecDepth 100000 in
theorem c_BlockCode_runResult (l : Launch) (D : va_G) (cI cJ cZ : ClassId) (qt : Nat) (qt_sourceCode : Nat) (qt_resultCode : Nat) (qt_facts : Nat) (qt_symbols : Nat) (qt_sourceWalk : Nat) (qt_resultWalk : Nat) (qt_machine : Nat) (qt_resultCode_op : Nat) (qt_resultCode_d : Nat) (qt_resultCode_a : Nat) (qt_resultCode_b : Nat) (qt_resultCode_need : Nat) (qt_machine_inputs : Nat) (qt_machine_registers : Nat) (t_sealed : Int32) (t_foundAlike : Int32) (t_resultCode_length : Int32) (t_resultCode_leaders : Int32) (t_resultCode_op : Nat → Int32) (t_resultCode_d : Nat → Int32) (t_resultCode_a : Nat → Int32) (t_resultCode_b : Nat → Int32) (t_machine_toldSet : Int32) (t_machine_done : Int32) (t_machine_inputs : Nat → Int32) (t_machine_registers : Nat → Int32) (p1 : Int32) (o_r : Int32) (o_t_machine_registers : Nat → Int32) (o_t_machine_toldSet : Int32) (o_t_machine_done : Int32) (hm : f_BlockCode_runResult p1 t_resultCode_op t_resultCode_d t_resultCode_a t_resultCode_b t_resultCode_length t_machine_inputs t_sealed t_machine_registers t_machine_toldSet t_machine_done = some (o_r, o_t_machine_registers, o_t_machine_toldSet, o_t_machine_done)) : MI l y_BlockCode_runResult b_BlockCode_runResult 2 .int rm_BlockCode_runResult D cI cJ cZ [.ref qt, .int p1] (ww_BlockCode_runResult cI cJ cZ qt qt_sourceCode qt_resultCode qt_facts qt_symbols qt_sourceWalk qt_resultWalk qt_machine qt_resultCode_op qt_resultCode_d qt_resultCode_a qt_resultCode_b qt_resultCode_need qt_machine_inputs qt_machine_registers t_sealed t_foundAlike t_resultCode_length t_resultCode_leaders t_resultCode_op t_resultCode_d t_resultCode_a t_resultCode_b t_machine_toldSet t_machine_done t_machine_inputs t_machine_registers) (ww_BlockCode_runResult cI cJ cZ qt qt_sourceCode qt_resultCode qt_facts qt_symbols qt_sourceWalk qt_resultWalk qt_machine qt_resultCode_op qt_resultCode_d qt_resultCode_a qt_resultCode_b qt_resultCode_need qt_machine_inputs qt_machine_registers t_sealed t_foundAlike t_resultCode_length t_resultCode_leaders t_resultCode_op t_resultCode_d t_resultCode_a t_resultCode_b o_t_machine_toldSet o_t_machine_done t_machine_inputs o_t_machine_registers) o_r := by
  intro sz
  refine Met.ofW (cc := b_BlockCode_runResult) (maxL := 2) (ret := (some .int)) (by decide) rfl ?_
  intro p e s m args below meth c s₁ B hml hv
  obtain ⟨rfl, hsz, hP, hK, hD0⟩ := hv
  have hts := atoms_spec (ws := Cond.code y_BlockCode_runResult b_BlockCode_runResult 2 (some .int) :: tbg) B.pre
  have S : CallFix p m c b_BlockCode_runResult 2 s ([.ref qt, .int p1] : List Value).toArray tbg R_BlockCode := ⟨B.exec, B.bytes, hml, findClass_of_methodNamed B.named, fun w hw => hts w (List.mem_cons_of_mem _ hw)⟩
  subst hsz
  have hD := hD0.self (sz := s.heap.size)
  have hl := lv_entry ([.ref qt, .int p1] : List Value) (n := 2) (Nat.le_of_ble_eq_true rfl)
  rw [lg_entry_eq]
  generalize (lg_sl ([.ref qt, .int p1] : List Value) ++ List.replicate (2 - (lg_sl ([.ref qt, .int p1] : List Value)).length) Slot.unset).toArray = ls at hl ⊢
  have hl : lv_has ls 2 [(0, .ref qt), (1, .int p1)] := hl
  exact w_BlockCode_runResult S B.returns B.notSynchronized hK (fun q h => Or.inr h) qt qt_sourceCode qt_resultCode qt_facts qt_symbols qt_sourceWalk qt_resultWalk qt_machine qt_resultCode_op qt_resultCode_d qt_resultCode_a qt_resultCode_b qt_resultCode_need qt_machine_inputs qt_machine_registers p1 t_resultCode_op t_resultCode_d t_resultCode_a t_resultCode_b t_resultCode_length t_machine_inputs t_sealed t_foundAlike t_resultCode_leaders o_r o_t_machine_registers o_t_machine_toldSet o_t_machine_done (fun t H locs ht hW hP hS => ⟨⟨_, (), rfl, rfl, sB_of ht hP⟩, hS.F ht⟩) t_machine_registers t_machine_toldSet t_machine_done s.heap [] ls hl hP hD va_S.rf hm
set_option maxHeartbeats 4000000 in
set_option maxRecDepth 100000 in
theorem w_BlockCode_told {p : Program} {l : Launch} {e : Env} {s : State} {m : MethodId} {args : Array Value} {below : List Frame} {meth : Method} {c : Code} {D : va_G} {cI cJ cZ : ClassId} {A : Nat → Prop} {Qc : Array Value → State → Outcome → State → Prop} (S : CallFix p m c b_BlockCode_told 2 s args tbg R_BlockCode) (hr : meth.sig.returnType = (some .int)) (hlk : meth.locks = false) (hK : kx D cI cJ cZ s) (hA : ∀ q, s.heap.size ≤ q → A q) (qt : Nat) (qt_sourceCode : Nat) (qt_resultCode : Nat) (qt_facts : Nat) (qt_symbols : Nat) (qt_sourceWalk : Nat) (qt_resultWalk : Nat) (qt_machine : Nat) (qt_machine_inputs : Nat) (qt_machine_registers : Nat) (p1 : Int32) (t_machine_registers : Nat → Int32) (t_machine_toldSet : Int32) (t_sealed : Int32) (t_foundAlike : Int32) (t_machine_done : Int32) (o_r : Int32) (hQ : ∀ (t : State) (H : Heap) (locs : List Loc), t.heap = H → s.WarmedH t.vm → va_P D classes (ww_BlockCode_told cI cJ cZ qt qt_sourceCode qt_resultCode qt_facts qt_symbols qt_sourceWalk qt_resultWalk qt_machine qt_machine_inputs qt_machine_registers t_sealed t_foundAlike t_machine_toldSet t_machine_done t_machine_registers) H → va_S A s.heap H locs → Qc args s (.returned (some (.int o_r))) t) (H : Heap) (locs : List Loc) (ls : Array Slot) (hl : lv_has ls 2 [(0, .ref qt), (1, .int p1)]) (hP : va_P D classes (ww_BlockCode_told cI cJ cZ qt qt_sourceCode qt_resultCode qt_facts qt_symbols qt_sourceWalk qt_resultWalk qt_machine qt_machine_inputs qt_machine_registers t_sealed t_foundAlike t_machine_toldSet t_machine_done t_machine_registers) H) (hD : va_D A (ww_BlockCode_told cI cJ cZ qt qt_sourceCode qt_resultCode qt_facts qt_symbols qt_sourceWalk qt_resultWalk qt_machine qt_machine_inputs qt_machine_registers t_sealed t_foundAlike t_machine_toldSet t_machine_done t_machine_registers)) (hS : va_S A s.heap H locs) (hm : f_BlockCode_told p1 t_machine_registers t_machine_toldSet = some o_r) : W p l e rm_BlockCode_told s m args below meth c H locs 0 0 (MQ below Qc args s 0 0 A) (F0 m 0 ls []) := by
  obtain ⟨hx, hb, hml, hown, hts⟩ := id S
  unfold f_BlockCode_told at hm
  refine lv_iload_n hx hb d_BlockCode_told_0 rfl (lv_at hl 1 rfl) ?_
  obtain ⟨rz1, e_rz1, hm⟩ := ob hm
  have hC : ([] : List Nat).map (fun i => (ww_BlockCode_told cI cJ cZ qt qt_sourceCode qt_resultCode qt_facts qt_symbols qt_sourceWalk qt_resultWalk qt_machine qt_machine_inputs qt_machine_registers t_sealed t_foundAlike t_machine_toldSet t_machine_done t_machine_registers)[i]?) = (ww_BlockCode_isRegister cI cJ cZ).map some := rfl
  refine vj_i (w1 := (ww_BlockCode_isRegister cI cJ cZ)) (wn := (ww_BlockCode_told cI cJ cZ qt qt_sourceCode qt_resultCode qt_facts qt_symbols qt_sourceWalk qt_resultWalk qt_machine qt_machine_inputs qt_machine_registers t_sealed t_foundAlike t_machine_toldSet t_machine_done t_machine_registers)) (isR := [0, 1, 2]) (nw := 3) (vr_S (n := 1) (As := [.int p1]) S ((c_BlockCode_isRegister l D cI cJ cZ p1 rz1 e_rz1) H.size) a_216 a_217 a_1 a_218 (by decide +kernel) ⟨rfl, rfl⟩ ⟨Nat.le_of_ble_eq_true rfl, Nat.le_of_ble_eq_true rfl⟩ hK hP hD (by decide) hC rfl hl.1 (Nat.le_of_ble_eq_true rfl) d_BlockCode_told_1 ⟨Nat.zero_le _, Nat.zero_le _⟩ rfl) hP hD hS hA hC rfl rfl (vx_c rfl rfl (vx_c rfl rfl (vx_c rfl rfl vx_n))) rfl (by decide) (fun H locs hP hD hS => ?_)
  refine lv_if_eq (tgt := 21) hx hb d_BlockCode_told_4 (by decide) (fun hc => ?_) (fun hc => ?_)
  · have hm := ift hc hm
    refine lv_iconst (v := (0 : Int32)) hx hb d_BlockCode_told_21 (by decide) ?_
    cases hm
    exact W.iret hx hb hr (fun t ht hW => hQ t _ _ ht hW hP hS) hS.2.2 d_BlockCode_told_22 hlk
  · have hm := iff_ hc hm
    refine lv_iload_n hx hb d_BlockCode_told_7 rfl (lv_at hl 1 rfl) ?_
    refine lv_aload_n hx hb d_BlockCode_told_8 rfl (lv_at hl 0 rfl) ?_
    refine va_get (D := D) (ci := 5) (v := .ref qt_machine) (C := R_BlockCode) (T := T_BlockCode) (N := 9) hx hb hts in_BlockCode hown hK.1 hP 0 rfl rfl 6 (by decide) (hts _ a_165) (fun _ h9 => h9) rfl d_BlockCode_told_9 ?_
    refine va_get (D := D) (ci := 4) (v := .int t_machine_toldSet) (C := R_Machine) (T := T_Machine) (N := 4) hx hb hts in_Machine hown hK.1 hP 1 rfl rfl 2 (by decide) (hts _ a_147) (fun _ h9 => h9) rfl d_BlockCode_told_12 ?_
    obtain ⟨rz2, e_rz2, hm⟩ := ob hm
    have hC : ([] : List Nat).map (fun i => (ww_BlockCode_told cI cJ cZ qt qt_sourceCode qt_resultCode qt_facts qt_symbols qt_sourceWalk qt_resultWalk qt_machine qt_machine_inputs qt_machine_registers t_sealed t_foundAlike t_machine_toldSet t_machine_done t_machine_registers)[i]?) = (ww_BlockCode_isIn cI cJ cZ).map some := rfl
    refine vj_i (w1 := (ww_BlockCode_isIn cI cJ cZ)) (wn := (ww_BlockCode_told cI cJ cZ qt qt_sourceCode qt_resultCode qt_facts qt_symbols qt_sourceWalk qt_resultWalk qt_machine qt_machine_inputs qt_machine_registers t_sealed t_foundAlike t_machine_toldSet t_machine_done t_machine_registers)) (isR := [0, 1, 2]) (nw := 3) (vr_S (n := 2) (As := [.int p1, .int t_machine_toldSet]) S ((c_BlockCode_isIn l D cI cJ cZ p1 t_machine_toldSet rz2 e_rz2) H.size) a_382 a_383 a_1 a_384 (by decide +kernel) ⟨rfl, rfl⟩ ⟨Nat.le_of_ble_eq_true rfl, Nat.le_of_ble_eq_true rfl⟩ hK hP hD (by decide) hC rfl hl.1 (Nat.le_of_ble_eq_true rfl) d_BlockCode_told_15 ⟨Nat.zero_le _, Nat.zero_le _⟩ rfl) hP hD hS hA hC rfl rfl (vx_c rfl rfl (vx_c rfl rfl (vx_c rfl rfl vx_n))) rfl (by decide) (fun H locs hP hD hS => ?_)
    refine lv_if_ne (tgt := 23) hx hb d_BlockCode_told_18 (by decide) (fun hc => ?_) (fun hc => ?_)
    · have hm := iff_ hc hm
      refine lv_aload_n hx hb d_BlockCode_told_23 rfl (lv_at hl 0 rfl) ?_
      refine va_get (D := D) (ci := 5) (v := .ref qt_machine) (C := R_BlockCode) (T := T_BlockCode) (N := 9) hx hb hts in_BlockCode hown hK.1 hP 0 rfl rfl 6 (by decide) (hts _ a_165) (fun _ h9 => h9) rfl d_BlockCode_told_24 ?_
      refine va_get (D := D) (ci := 4) (v := .ref qt_machine_registers) (C := R_Machine) (T := T_Machine) (N := 4) hx hb hts in_Machine hown hK.1 hP 1 rfl rfl 1 (by decide) (hts _ a_145) (fun _ h9 => h9) rfl d_BlockCode_told_27 ?_
      refine lv_iload_n hx hb d_BlockCode_told_30 rfl (lv_at hl 1 rfl) ?_
      obtain ⟨v3, e_v3, hm⟩ := ob hm
      refine vx_iald hx hb hK hP 2 rfl e_v3 d_BlockCode_told_31 ?_
      cases hm
      exact W.iret hx hb hr (fun t ht hW => hQ t _ _ ht hW hP hS) hS.2.2 d_BlockCode_told_32 hlk
    · have hm := ift hc hm
      refine lv_iconst (v := (0 : Int32)) hx hb d_BlockCode_told_21 (by decide) ?_
      cases hm
      exact W.iret hx hb hr (fun t ht hW => hQ t _ _ ht hW hP hS) hS.2.2 d_BlockCode_told_22 hlk
set_option maxHeartbeats 4000000 in
set_option maxRecDepth 100000 in
theorem c_BlockCode_told (l : Launch) (D : va_G) (cI cJ cZ : ClassId) (qt : Nat) (qt_sourceCode : Nat) (qt_resultCode : Nat) (qt_facts : Nat) (qt_symbols : Nat) (qt_sourceWalk : Nat) (qt_resultWalk : Nat) (qt_machine : Nat) (qt_machine_inputs : Nat) (qt_machine_registers : Nat) (t_sealed : Int32) (t_foundAlike : Int32) (t_machine_toldSet : Int32) (t_machine_done : Int32) (t_machine_registers : Nat → Int32) (p1 : Int32) (o_r : Int32) (hm : f_BlockCode_told p1 t_machine_registers t_machine_toldSet = some o_r) : MI l y_BlockCode_told b_BlockCode_told 2 .int rm_BlockCode_told D cI cJ cZ [.ref qt, .int p1] (ww_BlockCode_told cI cJ cZ qt qt_sourceCode qt_resultCode qt_facts qt_symbols qt_sourceWalk qt_resultWalk qt_machine qt_machine_inputs qt_machine_registers t_sealed t_foundAlike t_machine_toldSet t_machine_done t_machine_registers) (ww_BlockCode_told cI cJ cZ qt qt_sourceCode qt_resultCode qt_facts qt_symbols qt_sourceWalk qt_resultWalk qt_machine qt_machine_inputs qt_machine_registers t_sealed t_foundAlike t_machine_toldSet t_machine_done t_machine_registers) o_r := by
  intro sz
  refine Met.ofW (cc := b_BlockCode_told) (maxL := 2) (ret := (some .int)) (by decide) rfl ?_
  intro p e s m args below meth c s₁ B hml hv
  obtain ⟨rfl, hsz, hP, hK, hD0⟩ := hv
  have hts := atoms_spec (ws := Cond.code y_BlockCode_told b_BlockCode_told 2 (some .int) :: tbg) B.pre
  have S : CallFix p m c b_BlockCode_told 2 s ([.ref qt, .int p1] : List Value).toArray tbg R_BlockCode := ⟨B.exec, B.bytes, hml, findClass_of_methodNamed B.named, fun w hw => hts w (List.mem_cons_of_mem _ hw)⟩
  subst hsz
  have hD := hD0.self (sz := s.heap.size)
  have hl := lv_entry ([.ref qt, .int p1] : List Value) (n := 2) (Nat.le_of_ble_eq_true rfl)
  rw [lg_entry_eq]
  generalize (lg_sl ([.ref qt, .int p1] : List Value) ++ List.replicate (2 - (lg_sl ([.ref qt, .int p1] : List Value)).length) Slot.unset).toArray = ls at hl ⊢
  have hl : lv_has ls 2 [(0, .ref qt), (1, .int p1)] := hl
  exact w_BlockCode_told S B.returns B.notSynchronized hK (fun q h => Or.inr h) qt qt_sourceCode qt_resultCode qt_facts qt_symbols qt_sourceWalk qt_resultWalk qt_machine qt_machine_inputs qt_machine_registers p1 t_machine_registers t_machine_toldSet t_sealed t_foundAlike t_machine_done o_r (fun t H locs ht hW hP hS => ⟨⟨_, (), rfl, rfl, sB_of ht hP⟩, hS.F ht⟩) s.heap [] ls hl hP hD va_S.rf hm
set_option maxHeartbeats 4000000 in
set_option maxRecDepth 100000 in
theorem w_BlockCode_steps {p : Program} {l : Launch} {e : Env} {s : State} {m : MethodId} {args : Array Value} {below : List Frame} {meth : Method} {c : Code} {D : va_G} {cI cJ cZ : ClassId} {A : Nat → Prop} {Qc : Array Value → State → Outcome → State → Prop} (S : CallFix p m c b_BlockCode_steps 1 s args tbg R_BlockCode) (hr : meth.sig.returnType = (some .int)) (hlk : meth.locks = false) (hK : kx D cI cJ cZ s) (hA : ∀ q, s.heap.size ≤ q → A q) (qt : Nat) (qt_sourceCode : Nat) (qt_resultCode : Nat) (qt_facts : Nat) (qt_symbols : Nat) (qt_sourceWalk : Nat) (qt_resultWalk : Nat) (qt_machine : Nat) (qt_machine_inputs : Nat) (qt_machine_registers : Nat) (t_machine_done : Int32) (t_sealed : Int32) (t_foundAlike : Int32) (t_machine_toldSet : Int32) (o_r : Int32) (hQ : ∀ (t : State) (H : Heap) (locs : List Loc), t.heap = H → s.WarmedH t.vm → va_P D classes (ww_BlockCode_steps cI cJ cZ qt qt_sourceCode qt_resultCode qt_facts qt_symbols qt_sourceWalk qt_resultWalk qt_machine qt_machine_inputs qt_machine_registers t_sealed t_foundAlike t_machine_toldSet t_machine_done) H → va_S A s.heap H locs → Qc args s (.returned (some (.int o_r))) t) (H : Heap) (locs : List Loc) (ls : Array Slot) (hl : lv_has ls 1 [(0, .ref qt)]) (hP : va_P D classes (ww_BlockCode_steps cI cJ cZ qt qt_sourceCode qt_resultCode qt_facts qt_symbols qt_sourceWalk qt_resultWalk qt_machine qt_machine_inputs qt_machine_registers t_sealed t_foundAlike t_machine_toldSet t_machine_done) H) (hD : va_D A (ww_BlockCode_steps cI cJ cZ qt qt_sourceCode qt_resultCode qt_facts qt_symbols qt_sourceWalk qt_resultWalk qt_machine qt_machine_inputs qt_machine_registers t_sealed t_foundAlike t_machine_toldSet t_machine_done)) (hS : va_S A s.heap H locs) (hm : f_BlockCode_steps t_machine_done = some o_r) : W p l e rm_BlockCode_steps s m args below meth c H locs 0 0 (MQ below Qc args s 0 0 A) (F0 m 0 ls []) := by
  obtain ⟨hx, hb, hml, hown, hts⟩ := id S
  unfold f_BlockCode_steps at hm
  refine lv_aload_n hx hb d_BlockCode_steps_0 rfl (lv_at hl 0 rfl) ?_
  refine va_get (D := D) (ci := 5) (v := .ref qt_machine) (C := R_BlockCode) (T := T_BlockCode) (N := 9) hx hb hts in_BlockCode hown hK.1 hP 0 rfl rfl 6 (by decide) (hts _ a_165) (fun _ h9 => h9) rfl d_BlockCode_steps_1 ?_
  refine va_get (D := D) (ci := 4) (v := .int t_machine_done) (C := R_Machine) (T := T_Machine) (N := 4) hx hb hts in_Machine hown hK.1 hP 1 rfl rfl 3 (by decide) (hts _ a_149) (fun _ h9 => h9) rfl d_BlockCode_steps_4 ?_
  cases hm
  exact W.iret hx hb hr (fun t ht hW => hQ t _ _ ht hW hP hS) hS.2.2 d_BlockCode_steps_7 hlk
set_option maxHeartbeats 4000000 in
set_option maxRecDepth 100000 in
theorem c_BlockCode_steps (l : Launch) (D : va_G) (cI cJ cZ : ClassId) (qt : Nat) (qt_sourceCode : Nat) (qt_resultCode : Nat) (qt_facts : Nat) (qt_symbols : Nat) (qt_sourceWalk : Nat) (qt_resultWalk : Nat) (qt_machine : Nat) (qt_machine_inputs : Nat) (qt_machine_registers : Nat) (t_sealed : Int32) (t_foundAlike : Int32) (t_machine_toldSet : Int32) (t_machine_done : Int32) (o_r : Int32) (hm : f_BlockCode_steps t_machine_done = some o_r) : MI l y_BlockCode_steps b_BlockCode_steps 1 .int rm_BlockCode_steps D cI cJ cZ [.ref qt] (ww_BlockCode_steps cI cJ cZ qt qt_sourceCode qt_resultCode qt_facts qt_symbols qt_sourceWalk qt_resultWalk qt_machine qt_machine_inputs qt_machine_registers t_sealed t_foundAlike t_machine_toldSet t_machine_done) (ww_BlockCode_steps cI cJ cZ qt qt_sourceCode qt_resultCode qt_facts qt_symbols qt_sourceWalk qt_resultWalk qt_machine qt_machine_inputs qt_machine_registers t_sealed t_foundAlike t_machine_toldSet t_machine_done) o_r := by
  intro sz
  refine Met.ofW (cc := b_BlockCode_steps) (maxL := 1) (ret := (some .int)) (by decide) rfl ?_
  intro p e s m args below meth c s₁ B hml hv
  obtain ⟨rfl, hsz, hP, hK, hD0⟩ := hv
  have hts := atoms_spec (ws := Cond.code y_BlockCode_steps b_BlockCode_steps 1 (some .int) :: tbg) B.pre
  have S : CallFix p m c b_BlockCode_steps 1 s ([.ref qt] : List Value).toArray tbg R_BlockCode := ⟨B.exec, B.bytes, hml, findClass_of_methodNamed B.named, fun w hw => hts w (List.mem_cons_of_mem _ hw)⟩
  subst hsz
  have hD := hD0.self (sz := s.heap.size)
  have hl := lv_entry ([.ref qt] : List Value) (n := 1) (Nat.le_of_ble_eq_true rfl)
  rw [lg_entry_eq]
  generalize (lg_sl ([.ref qt] : List Value) ++ List.replicate (1 - (lg_sl ([.ref qt] : List Value)).length) Slot.unset).toArray = ls at hl ⊢
  have hl : lv_has ls 1 [(0, .ref qt)] := hl
  exact w_BlockCode_steps S B.returns B.notSynchronized hK (fun q h => Or.inr h) qt qt_sourceCode qt_resultCode qt_facts qt_symbols qt_sourceWalk qt_resultWalk qt_machine qt_machine_inputs qt_machine_registers t_machine_done t_sealed t_foundAlike t_machine_toldSet o_r (fun t H locs ht hW hP hS => ⟨⟨_, (), rfl, rfl, sB_of ht hP⟩, hS.F ht⟩) s.heap [] ls hl hP hD va_S.rf hm
set_option maxHeartbeats 4000000 in
set_option maxRecDepth 100000 in
theorem w_BlockCodeModel_thrown {p : Program} {l : Launch} {e : Env} {s : State} {m : MethodId} {args : Array Value} {below : List Frame} {meth : Method} {c : Code} {D : va_G} {cI cJ cZ : ClassId} {A : Nat → Prop} {Qc : Array Value → State → Outcome → State → Prop} (S : CallFix p m c b_BlockCodeModel_thrown 1 s args tbg R_BlockCodeModel) (hr : meth.sig.returnType = (some .int)) (hlk : meth.locks = false) (hK : kx D cI cJ cZ s) (hA : ∀ q, s.heap.size ≤ q → A q) (qt : Nat) (qt_code : Nat) (qt_inputs : Nat) (qt_reached : Nat) (qt_isInt : Nat) (qt_fact : Nat) (qt_need : Nat) (qt_leader : Nat) (qt_kind : Nat) (qt_left : Nat) (qt_right : Nat) (qt_hold : Nat) (qt_risk : Nat) (qt_risks : Nat) (qt_end : Nat) (qt_to : Nat) (qt_symbol : Nat) (qt_place : Nat) (qt_register : Nat) (t_thrown : Int32) (t_size : Int32) (t_sealed : Int32) (t_good : Int32) (t_symbols : Int32) (t_set : Int32) (t_steps : Int32) (t_ended : Int32) (o_r : Int32) (hQ : ∀ (t : State) (H : Heap) (locs : List Loc), t.heap = H → s.WarmedH t.vm → va_P D classes (ww_BlockCodeModel_thrown cI cJ cZ qt qt_code qt_inputs qt_reached qt_isInt qt_fact qt_need qt_leader qt_kind qt_left qt_right qt_hold qt_risk qt_risks qt_end qt_to qt_symbol qt_place qt_register t_size t_thrown t_sealed t_good t_symbols t_set t_steps t_ended) H → va_S A s.heap H locs → Qc args s (.returned (some (.int o_r))) t) (H : Heap) (locs : List Loc) (ls : Array Slot) (hl : lv_has ls 1 [(0, .ref qt)]) (hP : va_P D classes (ww_BlockCodeModel_thrown cI cJ cZ qt qt_code qt_inputs qt_reached qt_isInt qt_fact qt_need qt_leader qt_kind qt_left qt_right qt_hold qt_risk qt_risks qt_end qt_to qt_symbol qt_place qt_register t_size t_thrown t_sealed t_good t_symbols t_set t_steps t_ended) H) (hD : va_D A (ww_BlockCodeModel_thrown cI cJ cZ qt qt_code qt_inputs qt_reached qt_isInt qt_fact qt_need qt_leader qt_kind qt_left qt_right qt_hold qt_risk qt_risks qt_end qt_to qt_symbol qt_place qt_register t_size t_thrown t_sealed t_good t_symbols t_set t_steps t_ended)) (hS : va_S A s.heap H locs) (hm : f_BlockCodeModel_thrown t_thrown = some o_r) : W p l e rm_BlockCodeModel_thrown s m args below meth c H locs 0 0 (MQ below Qc args s 0 0 A) (F0 m 0 ls []) := by
  obtain ⟨hx, hb, hml, hown, hts⟩ := id S
  unfold f_BlockCodeModel_thrown at hm
  refine lv_aload_n hx hb d_BlockCodeModel_thrown_0 rfl (lv_at hl 0 rfl) ?_
  refine va_get (D := D) (ci := 6) (v := .int t_thrown) (C := R_BlockCodeModel) (T := T_BlockCodeModel) (N := 26) hx hb hts in_BlockCodeModel hown hK.1 hP 0 rfl rfl 2 (by decide) (hts _ a_663) (fun _ h9 => h9) rfl d_BlockCodeModel_thrown_1 ?_
  cases hm
  exact W.iret hx hb hr (fun t ht hW => hQ t _ _ ht hW hP hS) hS.2.2 d_BlockCodeModel_thrown_4 hlk
set_option maxHeartbeats 4000000 in
set_option maxRecDepth 100000 in
theorem c_BlockCodeModel_thrown (l : Launch) (D : va_G) (cI cJ cZ : ClassId) (qt : Nat) (qt_code : Nat) (qt_inputs : Nat) (qt_reached : Nat) (qt_isInt : Nat) (qt_fact : Nat) (qt_need : Nat) (qt_leader : Nat) (qt_kind : Nat) (qt_left : Nat) (qt_right : Nat) (qt_hold : Nat) (qt_risk : Nat) (qt_risks : Nat) (qt_end : Nat) (qt_to : Nat) (qt_symbol : Nat) (qt_place : Nat) (qt_register : Nat) (t_size : Int32) (t_thrown : Int32) (t_sealed : Int32) (t_good : Int32) (t_symbols : Int32) (t_set : Int32) (t_steps : Int32) (t_ended : Int32) (o_r : Int32) (hm : f_BlockCodeModel_thrown t_thrown = some o_r) : MI l y_BlockCodeModel_thrown b_BlockCodeModel_thrown 1 .int rm_BlockCodeModel_thrown D cI cJ cZ [.ref qt] (ww_BlockCodeModel_thrown cI cJ cZ qt qt_code qt_inputs qt_reached qt_isInt qt_fact qt_need qt_leader qt_kind qt_left qt_right qt_hold qt_risk qt_risks qt_end qt_to qt_symbol qt_place qt_register t_size t_thrown t_sealed t_good t_symbols t_set t_steps t_ended) (ww_BlockCodeModel_thrown cI cJ cZ qt qt_code qt_inputs qt_reached qt_isInt qt_fact qt_need qt_leader qt_kind qt_left qt_right qt_hold qt_risk qt_risks qt_end qt_to qt_symbol qt_place qt_register t_size t_thrown t_sealed t_good t_symbols t_set t_steps t_ended) o_r := by
  intro sz
  refine Met.ofW (cc := b_BlockCodeModel_thrown) (maxL := 1) (ret := (some .int)) (by decide) rfl ?_
  intro p e s m args below meth c s₁ B hml hv
  obtain ⟨rfl, hsz, hP, hK, hD0⟩ := hv
  have hts := atoms_spec (ws := Cond.code y_BlockCodeModel_thrown b_BlockCodeModel_thrown 1 (some .int) :: tbg) B.pre
  have S : CallFix p m c b_BlockCodeModel_thrown 1 s ([.ref qt] : List Value).toArray tbg R_BlockCodeModel := ⟨B.exec, B.bytes, hml, findClass_of_methodNamed B.named, fun w hw => hts w (List.mem_cons_of_mem _ hw)⟩
  subst hsz
  have hD := hD0.self (sz := s.heap.size)
  have hl := lv_entry ([.ref qt] : List Value) (n := 1) (Nat.le_of_ble_eq_true rfl)
  rw [lg_entry_eq]
  generalize (lg_sl ([.ref qt] : List Value) ++ List.replicate (1 - (lg_sl ([.ref qt] : List Value)).length) Slot.unset).toArray = ls at hl ⊢
  have hl : lv_has ls 1 [(0, .ref qt)] := hl
  exact w_BlockCodeModel_thrown S B.returns B.notSynchronized hK (fun q h => Or.inr h) qt qt_code qt_inputs qt_reached qt_isInt qt_fact qt_need qt_leader qt_kind qt_left qt_right qt_hold qt_risk qt_risks qt_end qt_to qt_symbol qt_place qt_register t_thrown t_size t_sealed t_good t_symbols t_set t_steps t_ended o_r (fun t H locs ht hW hP hS => ⟨⟨_, (), rfl, rfl, sB_of ht hP⟩, hS.F ht⟩) s.heap [] ls hl hP hD va_S.rf hm
set_option maxHeartbeats 4000000 in
set_option maxRecDepth 100000 in
theorem w_BlockCodeModel_within {p : Program} {l : Launch} {e : Env} {s : State} {m : MethodId} {args : Array Value} {below : List Frame} {meth : Method} {c : Code} {D : va_G} {cI cJ cZ : ClassId} {A : Nat → Prop} {Qc : Array Value → State → Outcome → State → Prop} (S : CallFix p m c b_BlockCodeModel_within 3 s args tbg R_BlockCodeModel) (hr : meth.sig.returnType = (some .boolean)) (hlk : meth.locks = false) (hK : kx D cI cJ cZ s) (hA : ∀ q, s.heap.size ≤ q → A q) (p0 : Int32) (p1 : Int32) (p2 : Int32) (o_r : Int32) (hQ : ∀ (t : State) (H : Heap) (locs : List Loc), t.heap = H → s.WarmedH t.vm → va_P D classes (ww_BlockCodeModel_within cI cJ cZ) H → va_S A s.heap H locs → Qc args s (.returned (some (.int o_r))) t) (H : Heap) (locs : List Loc) (ls : Array Slot) (hl : lv_has ls 3 [(0, .int p0), (1, .int p1), (2, .int p2)]) (hP : va_P D classes (ww_BlockCodeModel_within cI cJ cZ) H) (hD : va_D A (ww_BlockCodeModel_within cI cJ cZ)) (hS : va_S A s.heap H locs) (hm : f_BlockCodeModel_within p0 p1 p2 = some o_r) : W p l e rm_BlockCodeModel_within s m args below meth c H locs 0 0 (MQ below Qc args s 0 0 A) (F0 m 0 ls []) := by
  obtain ⟨hx, hb, hml, hown, hts⟩ := id S
  unfold f_BlockCodeModel_within at hm
  refine lv_iload_n hx hb d_BlockCodeModel_within_0 rfl (lv_at hl 0 rfl) ?_
  refine lv_iload_n hx hb d_BlockCodeModel_within_1 rfl (lv_at hl 1 rfl) ?_
  refine lv_icmp_lt (tgt := 14) hx hb d_BlockCodeModel_within_2 (by decide) (fun hc => ?_) (fun hc => ?_)
  · have hm := ift hc hm
    refine lv_iconst (v := (0 : Int32)) hx hb d_BlockCodeModel_within_14 (by decide) ?_
    cases hm
    exact W.zret hx hb hr rfl (fun t ht hW => hQ t _ _ ht hW hP hS) hS.2.2 d_BlockCodeModel_within_15 hlk
  · have hm := iff_ hc hm
    refine lv_iload_n hx hb d_BlockCodeModel_within_5 rfl (lv_at hl 0 rfl) ?_
    refine lv_iload_n hx hb d_BlockCodeModel_within_6 rfl (lv_at hl 2 rfl) ?_
    refine lv_icmp_gt (tgt := 14) hx hb d_BlockCodeModel_within_7 (by decide) (fun hc => ?_) (fun hc => ?_)
    · have hm := ift hc hm
      refine lv_iconst (v := (0 : Int32)) hx hb d_BlockCodeModel_within_14 (by decide) ?_
      cases hm
      exact W.zret hx hb hr rfl (fun t ht hW => hQ t _ _ ht hW hP hS) hS.2.2 d_BlockCodeModel_within_15 hlk
    · have hm := iff_ hc hm
      refine lv_iconst (v := (1 : Int32)) hx hb d_BlockCodeModel_within_10 (by decide) ?_
      refine lv_goto (tgt := 15) hx hb d_BlockCodeModel_within_11 (by decide) ?_
      cases hm
      exact W.zret hx hb hr rfl (fun t ht hW => hQ t _ _ ht hW hP hS) hS.2.2 d_BlockCodeModel_within_15 hlk
set_option maxHeartbeats 4000000 in
set_option maxRecDepth 100000 in
theorem c_BlockCodeModel_within (l : Launch) (D : va_G) (cI cJ cZ : ClassId) (p0 : Int32) (p1 : Int32) (p2 : Int32) (o_r : Int32) (hm : f_BlockCodeModel_within p0 p1 p2 = some o_r) : MI l y_BlockCodeModel_within b_BlockCodeModel_within 3 .boolean rm_BlockCodeModel_within D cI cJ cZ [.int p0, .int p1, .int p2] (ww_BlockCodeModel_within cI cJ cZ) (ww_BlockCodeModel_within cI cJ cZ) o_r := by
  intro sz
  refine Met.ofW (cc := b_BlockCodeModel_within) (maxL := 3) (ret := (some .boolean)) (by decide) rfl ?_
  intro p e s m args below meth c s₁ B hml hv
  obtain ⟨rfl, hsz, hP, hK, hD0⟩ := hv
  have hts := atoms_spec (ws := Cond.code y_BlockCodeModel_within b_BlockCodeModel_within 3 (some .boolean) :: tbg) B.pre
  have S : CallFix p m c b_BlockCodeModel_within 3 s ([.int p0, .int p1, .int p2] : List Value).toArray tbg R_BlockCodeModel := ⟨B.exec, B.bytes, hml, findClass_of_methodNamed B.named, fun w hw => hts w (List.mem_cons_of_mem _ hw)⟩
  subst hsz
  have hD := hD0.self (sz := s.heap.size)
  have hl := lv_entry ([.int p0, .int p1, .int p2] : List Value) (n := 3) (Nat.le_of_ble_eq_true rfl)
  rw [lg_entry_eq]
  generalize (lg_sl ([.int p0, .int p1, .int p2] : List Value) ++ List.replicate (3 - (lg_sl ([.int p0, .int p1, .int p2] : List Value)).length) Slot.unset).toArray = ls at hl ⊢
  have hl : lv_has ls 3 [(0, .int p0), (1, .int p1), (2, .int p2)] := hl
  exact w_BlockCodeModel_within S B.returns B.notSynchronized hK (fun q h => Or.inr h) p0 p1 p2 o_r (fun t H locs ht hW hP hS => ⟨⟨_, (), rfl, rfl, sB_of ht hP⟩, hS.F ht⟩) s.heap [] ls hl hP hD va_S.rf hm
set_option maxHeartbeats 4000000 in
set_option maxRecDepth 100000 in
theorem w_BlockCodeModel_says_42 {p : Program} {l : Launch} {e : Env} {s : State} {m : MethodId} {args : Array Value} {below : List Frame} {meth : Method} {c : Code} {D : va_G} {cI cJ cZ : ClassId} {A : Nat → Prop} {Qc : Array Value → State → Outcome → State → Prop} (S : CallFix p m c b_BlockCodeModel_says 2 s args tbg R_BlockCodeModel) (hr : meth.sig.returnType = (some .boolean)) (hlk : meth.locks = false) (hK : kx D cI cJ cZ s) (hA : ∀ q, s.heap.size ≤ q → A q) (p0 : Int32) (p1 : Int32) (o_r : Int32) (hQ : ∀ (t : State) (H : Heap) (locs : List Loc), t.heap = H → s.WarmedH t.vm → va_P D classes (ww_BlockCodeModel_says cI cJ cZ) H → va_S A s.heap H locs → Qc args s (.returned (some (.int o_r))) t) : ∀ (H : Heap) (locs : List Loc) (ls : Array Slot), lv_has ls 2 [] → va_P D classes (ww_BlockCodeModel_says cI cJ cZ) H → va_D A (ww_BlockCodeModel_says cI cJ cZ) → va_S A s.heap H locs → f_BlockCodeModel_says_42 p0 p1 = some o_r → W p l e rm_BlockCodeModel_says s m args below meth c H locs 0 0 (MQ below Qc args s 0 0 A) (F0 m 42 ls []) := by
  obtain ⟨hx, hb, hml, hown, hts⟩ := id S
  intro H locs ls hl hP hD hS hm
  unfold f_BlockCodeModel_says_42 at hm
  refine lv_iconst (v := (1 : Int32)) hx hb d_BlockCodeModel_says_42 (by decide) ?_
  refine lv_goto (tgt := 47) hx hb d_BlockCodeModel_says_43 (by decide) ?_
  cases hm
  exact W.zret hx hb hr rfl (fun t ht hW => hQ t _ _ ht hW hP hS) hS.2.2 d_BlockCodeModel_says_47 hlk
set_option maxHeartbeats 4000000 in
set_option maxRecDepth 100000 in
theorem w_BlockCodeModel_says {p : Program} {l : Launch} {e : Env} {s : State} {m : MethodId} {args : Array Value} {below : List Frame} {meth : Method} {c : Code} {D : va_G} {cI cJ cZ : ClassId} {A : Nat → Prop} {Qc : Array Value → State → Outcome → State → Prop} (S : CallFix p m c b_BlockCodeModel_says 2 s args tbg R_BlockCodeModel) (hr : meth.sig.returnType = (some .boolean)) (hlk : meth.locks = false) (hK : kx D cI cJ cZ s) (hA : ∀ q, s.heap.size ≤ q → A q) (p0 : Int32) (p1 : Int32) (o_r : Int32) (hQ : ∀ (t : State) (H : Heap) (locs : List Loc), t.heap = H → s.WarmedH t.vm → va_P D classes (ww_BlockCodeModel_says cI cJ cZ) H → va_S A s.heap H locs → Qc args s (.returned (some (.int o_r))) t) (H : Heap) (locs : List Loc) (ls : Array Slot) (hl : lv_has ls 2 [(0, .int p0), (1, .int p1)]) (hP : va_P D classes (ww_BlockCodeModel_says cI cJ cZ) H) (hD : va_D A (ww_BlockCodeModel_says cI cJ cZ)) (hS : va_S A s.heap H locs) (hm : f_BlockCodeModel_says p0 p1 = some o_r) : W p l e rm_BlockCodeModel_says s m args below meth c H locs 0 0 (MQ below Qc args s 0 0 A) (F0 m 0 ls []) := by
  obtain ⟨hx, hb, hml, hown, hts⟩ := id S
  unfold f_BlockCodeModel_says at hm
  refine lv_iload_n hx hb d_BlockCodeModel_says_0 rfl (lv_at hl 1 rfl) ?_
  refine lv_iconst (v := (1 : Int32)) hx hb d_BlockCodeModel_says_1 (by decide) ?_
  refine lv_icmp_ne (tgt := 13) hx hb d_BlockCodeModel_says_2 (by decide) (fun hc => ?_) (fun hc => ?_)
  · have hm := iff_ hc hm
    refine lv_iload_n hx hb d_BlockCodeModel_says_13 rfl (lv_at hl 1 rfl) ?_
    refine lv_iconst (v := (2 : Int32)) hx hb d_BlockCodeModel_says_14 (by decide) ?_
    refine lv_icmp_ne (tgt := 26) hx hb d_BlockCodeModel_says_15 (by decide) (fun hc => ?_) (fun hc => ?_)
    · have hm := iff_ hc hm
      refine lv_iload_n hx hb d_BlockCodeModel_says_26 rfl (lv_at hl 0 rfl) ?_
      refine lv_iconst (v := (3 : Int32)) hx hb d_BlockCodeModel_says_27 (by decide) ?_
      refine lv_bipush (v := (7 : Int32)) hx hb d_BlockCodeModel_says_28 (by decide) ?_
      obtain ⟨rz1, e_rz1, hm⟩ := ob hm
      have hC : ([] : List Nat).map (fun i => (ww_BlockCodeModel_says cI cJ cZ)[i]?) = (ww_BlockCodeModel_within cI cJ cZ).map some := rfl
      refine vj_i (w1 := (ww_BlockCodeModel_within cI cJ cZ)) (wn := (ww_BlockCodeModel_says cI cJ cZ)) (isR := []) (nw := 0) (vr_S (n := 3) (As := [.int p0, .int (3 : Int32), .int (7 : Int32)]) S ((c_BlockCodeModel_within l D cI cJ cZ p0 (3 : Int32) (7 : Int32) rz1 e_rz1) H.size) a_752 a_753 a_7 a_754 (by decide +kernel) ⟨rfl, rfl⟩ ⟨Nat.le_of_ble_eq_true rfl, Nat.le_of_ble_eq_true rfl⟩ hK hP hD (by decide) hC rfl hl.1 (Nat.le_of_ble_eq_true rfl) d_BlockCodeModel_says_30 ⟨Nat.zero_le _, Nat.zero_le _⟩ rfl) hP hD hS hA hC rfl rfl vx_n rfl (by decide) (fun H locs hP hD hS => ?_)
      refine lv_if_ne (tgt := 42) hx hb d_BlockCodeModel_says_33 (by decide) (fun hc => ?_) (fun hc => ?_)
      · have hm := iff_ hc hm
        exact w_BlockCodeModel_says_42 S hr hlk hK hA p0 p1 o_r hQ H locs ls (lv_sub hl [] rfl) hP hD hS hm
      · have hm := ift hc hm
        refine lv_iload_n hx hb d_BlockCodeModel_says_36 rfl (lv_at hl 0 rfl) ?_
        refine lv_bipush (v := (9 : Int32)) hx hb d_BlockCodeModel_says_37 (by decide) ?_
        refine lv_icmp_ne (tgt := 46) hx hb d_BlockCodeModel_says_39 (by decide) (fun hc => ?_) (fun hc => ?_)
        · have hm := iff_ hc hm
          refine lv_iconst (v := (0 : Int32)) hx hb d_BlockCodeModel_says_46 (by decide) ?_
          cases hm
          exact W.zret hx hb hr rfl (fun t ht hW => hQ t _ _ ht hW hP hS) hS.2.2 d_BlockCodeModel_says_47 hlk
        · have hm := ift hc hm
          exact w_BlockCodeModel_says_42 S hr hlk hK hA p0 p1 o_r hQ H locs ls (lv_sub hl [] rfl) hP hD hS hm
    · have hm := ift hc hm
      refine lv_iload_n hx hb d_BlockCodeModel_says_18 rfl (lv_at hl 0 rfl) ?_
      refine lv_iconst (v := (1 : Int32)) hx hb d_BlockCodeModel_says_19 (by decide) ?_
      refine lv_bipush (v := (10 : Int32)) hx hb d_BlockCodeModel_says_20 (by decide) ?_
      obtain ⟨rz2, e_rz2, hm⟩ := ob hm
      have hC : ([] : List Nat).map (fun i => (ww_BlockCodeModel_says cI cJ cZ)[i]?) = (ww_BlockCodeModel_within cI cJ cZ).map some := rfl
      refine vj_i (w1 := (ww_BlockCodeModel_within cI cJ cZ)) (wn := (ww_BlockCodeModel_says cI cJ cZ)) (isR := []) (nw := 0) (vr_S (n := 3) (As := [.int p0, .int (1 : Int32), .int (10 : Int32)]) S ((c_BlockCodeModel_within l D cI cJ cZ p0 (1 : Int32) (10 : Int32) rz2 e_rz2) H.size) a_752 a_753 a_7 a_754 (by decide +kernel) ⟨rfl, rfl⟩ ⟨Nat.le_of_ble_eq_true rfl, Nat.le_of_ble_eq_true rfl⟩ hK hP hD (by decide) hC rfl hl.1 (Nat.le_of_ble_eq_true rfl) d_BlockCodeModel_says_22 ⟨Nat.zero_le _, Nat.zero_le _⟩ rfl) hP hD hS hA hC rfl rfl vx_n rfl (by decide) (fun H locs hP hD hS => ?_)
      obtain ⟨z0, e0, hm⟩ := ob hm
      obtain ⟨⟨n1, n2⟩, rfl⟩ := gzI_of e0
      cases hm
      exact W.zret hx hb hr n1 (fun t ht hW => hQ t _ _ ht hW hP hS) hS.2.2 d_BlockCodeModel_says_25 hlk
  · have hm := ift hc hm
    refine lv_iload_n hx hb d_BlockCodeModel_says_5 rfl (lv_at hl 0 rfl) ?_
    refine lv_iconst (v := (1 : Int32)) hx hb d_BlockCodeModel_says_6 (by decide) ?_
    refine lv_bipush (v := (7 : Int32)) hx hb d_BlockCodeModel_says_7 (by decide) ?_
    obtain ⟨rz3, e_rz3, hm⟩ := ob hm
    have hC : ([] : List Nat).map (fun i => (ww_BlockCodeModel_says cI cJ cZ)[i]?) = (ww_BlockCodeModel_within cI cJ cZ).map some := rfl
    refine vj_i (w1 := (ww_BlockCodeModel_within cI cJ cZ)) (wn := (ww_BlockCodeModel_says cI cJ cZ)) (isR := []) (nw := 0) (vr_S (n := 3) (As := [.int p0, .int (1 : Int32), .int (7 : Int32)]) S ((c_BlockCodeModel_within l D cI cJ cZ p0 (1 : Int32) (7 : Int32) rz3 e_rz3) H.size) a_752 a_753 a_7 a_754 (by decide +kernel) ⟨rfl, rfl⟩ ⟨Nat.le_of_ble_eq_true rfl, Nat.le_of_ble_eq_true rfl⟩ hK hP hD (by decide) hC rfl hl.1 (Nat.le_of_ble_eq_true rfl) d_BlockCodeModel_says_9 ⟨Nat.zero_le _, Nat.zero_le _⟩ rfl) hP hD hS hA hC rfl rfl vx_n rfl (by decide) (fun H locs hP hD hS => ?_)
    obtain ⟨z0, e0, hm⟩ := ob hm
    obtain ⟨⟨n1, n2⟩, rfl⟩ := gzI_of e0
    cases hm
    exact W.zret hx hb hr n1 (fun t ht hW => hQ t _ _ ht hW hP hS) hS.2.2 d_BlockCodeModel_says_12 hlk
set_option maxHeartbeats 4000000 in
set_option maxRecDepth 100000 in
theorem c_BlockCodeModel_says (l : Launch) (D : va_G) (cI cJ cZ : ClassId) (p0 : Int32) (p1 : Int32) (o_r : Int32) (hm : f_BlockCodeModel_says p0 p1 = some o_r) : MI l y_BlockCodeModel_says b_BlockCodeModel_says 2 .boolean rm_BlockCodeModel_says D cI cJ cZ [.int p0, .int p1] (ww_BlockCodeModel_says cI cJ cZ) (ww_BlockCodeModel_says cI cJ cZ) o_r := by
  intro sz
  refine Met.ofW (cc := b_BlockCodeModel_says) (maxL := 2) (ret := (some .boolean)) (by decide) rfl ?_
  intro p e s m args below meth c s₁ B hml hv
  obtain ⟨rfl, hsz, hP, hK, hD0⟩ := hv
  have hts := atoms_spec (ws := Cond.code y_BlockCodeModel_says b_BlockCodeModel_says 2 (some .boolean) :: tbg) B.pre
  have S : CallFix p m c b_BlockCodeModel_says 2 s ([.int p0, .int p1] : List Value).toArray tbg R_BlockCodeModel := ⟨B.exec, B.bytes, hml, findClass_of_methodNamed B.named, fun w hw => hts w (List.mem_cons_of_mem _ hw)⟩
  subst hsz
  have hD := hD0.self (sz := s.heap.size)
  have hl := lv_entry ([.int p0, .int p1] : List Value) (n := 2) (Nat.le_of_ble_eq_true rfl)
  rw [lg_entry_eq]
  generalize (lg_sl ([.int p0, .int p1] : List Value) ++ List.replicate (2 - (lg_sl ([.int p0, .int p1] : List Value)).length) Slot.unset).toArray = ls at hl ⊢
  have hl : lv_has ls 2 [(0, .int p0), (1, .int p1)] := hl
  exact w_BlockCodeModel_says S B.returns B.notSynchronized hK (fun q h => Or.inr h) p0 p1 o_r (fun t H locs ht hW hP hS => ⟨⟨_, (), rfl, rfl, sB_of ht hP⟩, hS.F ht⟩) s.heap [] ls hl hP hD va_S.rf hm
set_option maxHeartbeats 4000000 in
set_option maxRecDepth 100000 in
theorem w_BlockCodeModel_hasForm_131 {p : Program} {l : Launch} {e : Env} {s : State} {m : MethodId} {args : Array Value} {below : List Frame} {meth : Method} {c : Code} {D : va_G} {cI cJ cZ : ClassId} {A : Nat → Prop} {Qc : Array Value → State → Outcome → State → Prop} (S : CallFix p m c b_BlockCodeModel_hasForm 4 s args tbg R_BlockCodeModel) (hr : meth.sig.returnType = (some .boolean)) (hlk : meth.locks = false) (hK : kx D cI cJ cZ s) (hA : ∀ q, s.heap.size ≤ q → A q) (p0 : Int32) (p1 : Int32) (p2 : Int32) (p3 : Int32) (o_r : Int32) (hQ : ∀ (t : State) (H : Heap) (locs : List Loc), t.heap = H → s.WarmedH t.vm → va_P D classes (ww_BlockCodeModel_hasForm cI cJ cZ) H → va_S A s.heap H locs → Qc args s (.returned (some (.int o_r))) t) : ∀ (H : Heap) (locs : List Loc) (ls : Array Slot), lv_has ls 4 [] → va_P D classes (ww_BlockCodeModel_hasForm cI cJ cZ) H → va_D A (ww_BlockCodeModel_hasForm cI cJ cZ) → va_S A s.heap H locs → f_BlockCodeModel_hasForm_131 p0 p1 p2 p3 = some o_r → W p l e rm_BlockCodeModel_hasForm s m args below meth c H locs 0 0 (MQ below Qc args s 0 0 A) (F0 m 131 ls []) := by
  obtain ⟨hx, hb, hml, hown, hts⟩ := id S
  intro H locs ls hl hP hD hS hm
  unfold f_BlockCodeModel_hasForm_131 at hm
  refine lv_iconst (v := (1 : Int32)) hx hb d_BlockCodeModel_hasForm_131 (by decide) ?_
  refine lv_goto (tgt := 136) hx hb d_BlockCodeModel_hasForm_132 (by decide) ?_
  cases hm
  exact W.zret hx hb hr rfl (fun t ht hW => hQ t _ _ ht hW hP hS) hS.2.2 d_BlockCodeModel_hasForm_136 hlk
set_option maxHeartbeats 4000000 in
set_option maxRecDepth 100000 in
theorem w_BlockCodeModel_hasForm_115 {p : Program} {l : Launch} {e : Env} {s : State} {m : MethodId} {args : Array Value} {below : List Frame} {meth : Method} {c : Code} {D : va_G} {cI cJ cZ : ClassId} {A : Nat → Prop} {Qc : Array Value → State → Outcome → State → Prop} (S : CallFix p m c b_BlockCodeModel_hasForm 4 s args tbg R_BlockCodeModel) (hr : meth.sig.returnType = (some .boolean)) (hlk : meth.locks = false) (hK : kx D cI cJ cZ s) (hA : ∀ q, s.heap.size ≤ q → A q) (p0 : Int32) (p1 : Int32) (p2 : Int32) (p3 : Int32) (o_r : Int32) (hQ : ∀ (t : State) (H : Heap) (locs : List Loc), t.heap = H → s.WarmedH t.vm → va_P D classes (ww_BlockCodeModel_hasForm cI cJ cZ) H → va_S A s.heap H locs → Qc args s (.returned (some (.int o_r))) t) : ∀ (H : Heap) (locs : List Loc) (ls : Array Slot), lv_has ls 4 [(0, .int p0), (2, .int p2)] → va_P D classes (ww_BlockCodeModel_hasForm cI cJ cZ) H → va_D A (ww_BlockCodeModel_hasForm cI cJ cZ) → va_S A s.heap H locs → f_BlockCodeModel_hasForm_115 p0 p1 p2 p3 = some o_r → W p l e rm_BlockCodeModel_hasForm s m args below meth c H locs 0 0 (MQ below Qc args s 0 0 A) (F0 m 115 ls []) := by
  obtain ⟨hx, hb, hml, hown, hts⟩ := id S
  intro H locs ls hl hP hD hS hm
  unfold f_BlockCodeModel_hasForm_115 at hm
  refine lv_iload_n hx hb d_BlockCodeModel_hasForm_115 rfl (lv_at hl 0 rfl) ?_
  refine lv_bipush (v := (10 : Int32)) hx hb d_BlockCodeModel_hasForm_116 (by decide) ?_
  refine lv_icmp_ne (tgt := 131) hx hb d_BlockCodeModel_hasForm_118 (by decide) (fun hc => ?_) (fun hc => ?_)
  · have hm := iff_ hc hm
    exact w_BlockCodeModel_hasForm_131 S hr hlk hK hA p0 p1 p2 p3 o_r hQ H locs ls (lv_sub hl [] rfl) hP hD hS hm
  · have hm := ift hc hm
    refine lv_iload_n hx hb d_BlockCodeModel_hasForm_121 rfl (lv_at hl 1 rfl) ?_
    refine lv_iconst (v := (0 : Int32)) hx hb d_BlockCodeModel_hasForm_122 (by decide) ?_
    refine lv_bipush (v := (31 : Int32)) hx hb d_BlockCodeModel_hasForm_123 (by decide) ?_
    obtain ⟨rz1, e_rz1, hm⟩ := ob hm
    have hC : ([] : List Nat).map (fun i => (ww_BlockCodeModel_hasForm cI cJ cZ)[i]?) = (ww_BlockCodeModel_within cI cJ cZ).map some := rfl
    refine vj_i (w1 := (ww_BlockCodeModel_within cI cJ cZ)) (wn := (ww_BlockCodeModel_hasForm cI cJ cZ)) (isR := []) (nw := 0) (vr_S (n := 3) (As := [.int p2, .int (0 : Int32), .int (31 : Int32)]) S ((c_BlockCodeModel_within l D cI cJ cZ p2 (0 : Int32) (31 : Int32) rz1 e_rz1) H.size) a_752 a_753 a_7 a_754 (by decide +kernel) ⟨rfl, rfl⟩ ⟨Nat.le_of_ble_eq_true rfl, Nat.le_of_ble_eq_true rfl⟩ hK hP hD (by decide) hC rfl hl.1 (Nat.le_of_ble_eq_true rfl) d_BlockCodeModel_hasForm_125 ⟨Nat.zero_le _, Nat.zero_le _⟩ rfl) hP hD hS hA hC rfl rfl vx_n rfl (by decide) (fun H locs hP hD hS => ?_)
    refine lv_if_eq (tgt := 135) hx hb d_BlockCodeModel_hasForm_128 (by decide) (fun hc => ?_) (fun hc => ?_)
    · have hm := ift hc hm
      refine lv_iconst (v := (0 : Int32)) hx hb d_BlockCodeModel_hasForm_135 (by decide) ?_
      cases hm
      exact W.zret hx hb hr rfl (fun t ht hW => hQ t _ _ ht hW hP hS) hS.2.2 d_BlockCodeModel_hasForm_136 hlk
    · have hm := iff_ hc hm
      exact w_BlockCodeModel_hasForm_131 S hr hlk hK hA p0 p1 p2 p3 o_r hQ H locs ls (lv_sub hl [] rfl) hP hD hS hm
set_option maxHeartbeats 4000000 in
set_option maxRecDepth 100000 in
theorem w_BlockCodeModel_hasForm_97 {p : Program} {l : Launch} {e : Env} {s : State} {m : MethodId} {args : Array Value} {below : List Frame} {meth : Method} {c : Code} {D : va_G} {cI cJ cZ : ClassId} {A : Nat → Prop} {Qc : Array Value → State → Outcome → State → Prop} (S : CallFix p m c b_BlockCodeModel_hasForm 4 s args tbg R_BlockCodeModel) (hr : meth.sig.returnType = (some .boolean)) (hlk : meth.locks = false) (hK : kx D cI cJ cZ s) (hA : ∀ q, s.heap.size ≤ q → A q) (p0 : Int32) (p1 : Int32) (p2 : Int32) (p3 : Int32) (o_r : Int32) (hQ : ∀ (t : State) (H : Heap) (locs : List Loc), t.heap = H → s.WarmedH t.vm → va_P D classes (ww_BlockCodeModel_hasForm cI cJ cZ) H → va_S A s.heap H locs → Qc args s (.returned (some (.int o_r))) t) : ∀ (H : Heap) (locs : List Loc) (ls : Array Slot), lv_has ls 4 [(0, .int p0), (2, .int p2), (3, .int p3)] → va_P D classes (ww_BlockCodeModel_hasForm cI cJ cZ) H → va_D A (ww_BlockCodeModel_hasForm cI cJ cZ) → va_S A s.heap H locs → f_BlockCodeModel_hasForm_97 p0 p1 p2 p3 = some o_r → W p l e rm_BlockCodeModel_hasForm s m args below meth c H locs 0 0 (MQ below Qc args s 0 0 A) (F0 m 97 ls []) := by
  obtain ⟨hx, hb, hml, hown, hts⟩ := id S
  intro H locs ls hl hP hD hS hm
  unfold f_BlockCodeModel_hasForm_97 at hm
  refine lv_iload_n hx hb d_BlockCodeModel_hasForm_97 rfl (lv_at hl 0 rfl) ?_
  refine lv_bipush (v := (9 : Int32)) hx hb d_BlockCodeModel_hasForm_98 (by decide) ?_
  refine lv_icmp_ne (tgt := 115) hx hb d_BlockCodeModel_hasForm_100 (by decide) (fun hc => ?_) (fun hc => ?_)
  · have hm := iff_ hc hm
    exact w_BlockCodeModel_hasForm_115 S hr hlk hK hA p0 p1 p2 p3 o_r hQ H locs ls (lv_sub hl [0, 1] rfl) hP hD hS hm
  · have hm := ift hc hm
    refine lv_iload_n hx hb d_BlockCodeModel_hasForm_103 rfl (lv_at hl 2 rfl) ?_
    refine lv_iconst (v := (0 : Int32)) hx hb d_BlockCodeModel_hasForm_104 (by decide) ?_
    refine lv_bipush (v := (19 : Int32)) hx hb d_BlockCodeModel_hasForm_105 (by decide) ?_
    obtain ⟨rz1, e_rz1, hm⟩ := ob hm
    have hC : ([] : List Nat).map (fun i => (ww_BlockCodeModel_hasForm cI cJ cZ)[i]?) = (ww_BlockCodeModel_within cI cJ cZ).map some := rfl
    refine vj_i (w1 := (ww_BlockCodeModel_within cI cJ cZ)) (wn := (ww_BlockCodeModel_hasForm cI cJ cZ)) (isR := []) (nw := 0) (vr_S (n := 3) (As := [.int p3, .int (0 : Int32), .int (19 : Int32)]) S ((c_BlockCodeModel_within l D cI cJ cZ p3 (0 : Int32) (19 : Int32) rz1 e_rz1) H.size) a_752 a_753 a_7 a_754 (by decide +kernel) ⟨rfl, rfl⟩ ⟨Nat.le_of_ble_eq_true rfl, Nat.le_of_ble_eq_true rfl⟩ hK hP hD (by decide) hC rfl hl.1 (Nat.le_of_ble_eq_true rfl) d_BlockCodeModel_hasForm_107 ⟨Nat.zero_le _, Nat.zero_le _⟩ rfl) hP hD hS hA hC rfl rfl vx_n rfl (by decide) (fun H locs hP hD hS => ?_)
    refine lv_if_ne (tgt := 115) hx hb d_BlockCodeModel_hasForm_110 (by decide) (fun hc => ?_) (fun hc => ?_)
    · have hm := iff_ hc hm
      exact w_BlockCodeModel_hasForm_115 S hr hlk hK hA p0 p1 p2 p3 o_r hQ H locs ls (lv_sub hl [0, 1] rfl) hP hD hS hm
    · have hm := ift hc hm
      refine lv_iconst (v := (0 : Int32)) hx hb d_BlockCodeModel_hasForm_113 (by decide) ?_
      cases hm
      exact W.zret hx hb hr rfl (fun t ht hW => hQ t _ _ ht hW hP hS) hS.2.2 d_BlockCodeModel_hasForm_114 hlk
set_option maxHeartbeats 4000000 in
set_option maxRecDepth 100000 in
theorem w_BlockCodeModel_hasForm_81 {p : Program} {l : Launch} {e : Env} {s : State} {m : MethodId} {args : Array Value} {below : List Frame} {meth : Method} {c : Code} {D : va_G} {cI cJ cZ : ClassId} {A : Nat → Prop} {Qc : Array Value → State → Outcome → State → Prop} (S : CallFix p m c b_BlockCodeModel_hasForm 4 s args tbg R_BlockCodeModel) (hr : meth.sig.returnType = (some .boolean)) (hlk : meth.locks = false) (hK : kx D cI cJ cZ s) (hA : ∀ q, s.heap.size ≤ q → A q) (p0 : Int32) (p1 : Int32) (p2 : Int32) (p3 : Int32) (o_r : Int32) (hQ : ∀ (t : State) (H : Heap) (locs : List Loc), t.heap = H → s.WarmedH t.vm → va_P D classes (ww_BlockCodeModel_hasForm cI cJ cZ) H → va_S A s.heap H locs → Qc args s (.returned (some (.int o_r))) t) : ∀ (H : Heap) (locs : List Loc) (ls : Array Slot), lv_has ls 4 [(0, .int p0), (2, .int p2), (3, .int p3)] → va_P D classes (ww_BlockCodeModel_hasForm cI cJ cZ) H → va_D A (ww_BlockCodeModel_hasForm cI cJ cZ) → va_S A s.heap H locs → f_BlockCodeModel_hasForm_81 p0 p1 p2 p3 = some o_r → W p l e rm_BlockCodeModel_hasForm s m args below meth c H locs 0 0 (MQ below Qc args s 0 0 A) (F0 m 81 ls []) := by
  obtain ⟨hx, hb, hml, hown, hts⟩ := id S
  intro H locs ls hl hP hD hS hm
  unfold f_BlockCodeModel_hasForm_81 at hm
  refine lv_iload_n hx hb d_BlockCodeModel_hasForm_81 rfl (lv_at hl 0 rfl) ?_
  refine lv_bipush (v := (8 : Int32)) hx hb d_BlockCodeModel_hasForm_82 (by decide) ?_
  refine lv_icmp_ne (tgt := 97) hx hb d_BlockCodeModel_hasForm_84 (by decide) (fun hc => ?_) (fun hc => ?_)
  · have hm := iff_ hc hm
    exact w_BlockCodeModel_hasForm_97 S hr hlk hK hA p0 p1 p2 p3 o_r hQ H locs ls (lv_sub hl [0, 1, 2] rfl) hP hD hS hm
  · have hm := ift hc hm
    refine lv_iload_n hx hb d_BlockCodeModel_hasForm_87 rfl (lv_at hl 1 rfl) ?_
    refine lv_iconst (v := (0 : Int32)) hx hb d_BlockCodeModel_hasForm_88 (by decide) ?_
    refine lv_bipush (v := (19 : Int32)) hx hb d_BlockCodeModel_hasForm_89 (by decide) ?_
    obtain ⟨rz1, e_rz1, hm⟩ := ob hm
    have hC : ([] : List Nat).map (fun i => (ww_BlockCodeModel_hasForm cI cJ cZ)[i]?) = (ww_BlockCodeModel_within cI cJ cZ).map some := rfl
    refine vj_i (w1 := (ww_BlockCodeModel_within cI cJ cZ)) (wn := (ww_BlockCodeModel_hasForm cI cJ cZ)) (isR := []) (nw := 0) (vr_S (n := 3) (As := [.int p2, .int (0 : Int32), .int (19 : Int32)]) S ((c_BlockCodeModel_within l D cI cJ cZ p2 (0 : Int32) (19 : Int32) rz1 e_rz1) H.size) a_752 a_753 a_7 a_754 (by decide +kernel) ⟨rfl, rfl⟩ ⟨Nat.le_of_ble_eq_true rfl, Nat.le_of_ble_eq_true rfl⟩ hK hP hD (by decide) hC rfl hl.1 (Nat.le_of_ble_eq_true rfl) d_BlockCodeModel_hasForm_91 ⟨Nat.zero_le _, Nat.zero_le _⟩ rfl) hP hD hS hA hC rfl rfl vx_n rfl (by decide) (fun H locs hP hD hS => ?_)
    refine lv_if_eq (tgt := 113) hx hb d_BlockCodeModel_hasForm_94 (by decide) (fun hc => ?_) (fun hc => ?_)
    · have hm := ift hc hm
      refine lv_iconst (v := (0 : Int32)) hx hb d_BlockCodeModel_hasForm_113 (by decide) ?_
      cases hm
      exact W.zret hx hb hr rfl (fun t ht hW => hQ t _ _ ht hW hP hS) hS.2.2 d_BlockCodeModel_hasForm_114 hlk
    · have hm := iff_ hc hm
      exact w_BlockCodeModel_hasForm_97 S hr hlk hK hA p0 p1 p2 p3 o_r hQ H locs ls (lv_sub hl [0, 1, 2] rfl) hP hD hS hm
set_option maxHeartbeats 4000000 in
set_option maxRecDepth 100000 in
theorem w_BlockCodeModel_hasForm_60 {p : Program} {l : Launch} {e : Env} {s : State} {m : MethodId} {args : Array Value} {below : List Frame} {meth : Method} {c : Code} {D : va_G} {cI cJ cZ : ClassId} {A : Nat → Prop} {Qc : Array Value → State → Outcome → State → Prop} (S : CallFix p m c b_BlockCodeModel_hasForm 4 s args tbg R_BlockCodeModel) (hr : meth.sig.returnType = (some .boolean)) (hlk : meth.locks = false) (hK : kx D cI cJ cZ s) (hA : ∀ q, s.heap.size ≤ q → A q) (p0 : Int32) (p1 : Int32) (p2 : Int32) (p3 : Int32) (o_r : Int32) (hQ : ∀ (t : State) (H : Heap) (locs : List Loc), t.heap = H → s.WarmedH t.vm → va_P D classes (ww_BlockCodeModel_hasForm cI cJ cZ) H → va_S A s.heap H locs → Qc args s (.returned (some (.int o_r))) t) : ∀ (H : Heap) (locs : List Loc) (ls : Array Slot), lv_has ls 4 [(0, .int p0), (2, .int p2), (3, .int p3)] → va_P D classes (ww_BlockCodeModel_hasForm cI cJ cZ) H → va_D A (ww_BlockCodeModel_hasForm cI cJ cZ) → va_S A s.heap H locs → f_BlockCodeModel_hasForm_60 p0 p1 p2 p3 = some o_r → W p l e rm_BlockCodeModel_hasForm s m args below meth c H locs 0 0 (MQ below Qc args s 0 0 A) (F0 m 60 ls []) := by
  obtain ⟨hx, hb, hml, hown, hts⟩ := id S
  intro H locs ls hl hP hD hS hm
  unfold f_BlockCodeModel_hasForm_60 at hm
  refine lv_iload_n hx hb d_BlockCodeModel_hasForm_60 rfl (lv_at hl 0 rfl) ?_
  refine lv_iconst (v := (3 : Int32)) hx hb d_BlockCodeModel_hasForm_61 (by decide) ?_
  refine lv_bipush (v := (7 : Int32)) hx hb d_BlockCodeModel_hasForm_62 (by decide) ?_
  obtain ⟨rz1, e_rz1, hm⟩ := ob hm
  have hC : ([] : List Nat).map (fun i => (ww_BlockCodeModel_hasForm cI cJ cZ)[i]?) = (ww_BlockCodeModel_within cI cJ cZ).map some := rfl
  refine vj_i (w1 := (ww_BlockCodeModel_within cI cJ cZ)) (wn := (ww_BlockCodeModel_hasForm cI cJ cZ)) (isR := []) (nw := 0) (vr_S (n := 3) (As := [.int p0, .int (3 : Int32), .int (7 : Int32)]) S ((c_BlockCodeModel_within l D cI cJ cZ p0 (3 : Int32) (7 : Int32) rz1 e_rz1) H.size) a_752 a_753 a_7 a_754 (by decide +kernel) ⟨rfl, rfl⟩ ⟨Nat.le_of_ble_eq_true rfl, Nat.le_of_ble_eq_true rfl⟩ hK hP hD (by decide) hC rfl hl.1 (Nat.le_of_ble_eq_true rfl) d_BlockCodeModel_hasForm_64 ⟨Nat.zero_le _, Nat.zero_le _⟩ rfl) hP hD hS hA hC rfl rfl vx_n rfl (by decide) (fun H locs hP hD hS => ?_)
  refine lv_if_eq (tgt := 81) hx hb d_BlockCodeModel_hasForm_67 (by decide) (fun hc => ?_) (fun hc => ?_)
  · have hm := ift hc hm
    exact w_BlockCodeModel_hasForm_81 S hr hlk hK hA p0 p1 p2 p3 o_r hQ H locs ls (lv_sub hl [0, 1, 2] rfl) hP hD hS hm
  · have hm := iff_ hc hm
    refine lv_iload_n hx hb d_BlockCodeModel_hasForm_70 rfl (lv_at hl 2 rfl) ?_
    refine lv_iconst (v := (0 : Int32)) hx hb d_BlockCodeModel_hasForm_71 (by decide) ?_
    refine lv_iconst (v := (4 : Int32)) hx hb d_BlockCodeModel_hasForm_72 (by decide) ?_
    obtain ⟨rz2, e_rz2, hm⟩ := ob hm
    have hC : ([] : List Nat).map (fun i => (ww_BlockCodeModel_hasForm cI cJ cZ)[i]?) = (ww_BlockCodeModel_within cI cJ cZ).map some := rfl
    refine vj_i (w1 := (ww_BlockCodeModel_within cI cJ cZ)) (wn := (ww_BlockCodeModel_hasForm cI cJ cZ)) (isR := []) (nw := 0) (vr_S (n := 3) (As := [.int p3, .int (0 : Int32), .int (4 : Int32)]) S ((c_BlockCodeModel_within l D cI cJ cZ p3 (0 : Int32) (4 : Int32) rz2 e_rz2) H.size) a_752 a_753 a_7 a_754 (by decide +kernel) ⟨rfl, rfl⟩ ⟨Nat.le_of_ble_eq_true rfl, Nat.le_of_ble_eq_true rfl⟩ hK hP hD (by decide) hC rfl hl.1 (Nat.le_of_ble_eq_true rfl) d_BlockCodeModel_hasForm_73 ⟨Nat.zero_le _, Nat.zero_le _⟩ rfl) hP hD hS hA hC rfl rfl vx_n rfl (by decide) (fun H locs hP hD hS => ?_)
    refine lv_if_ne (tgt := 81) hx hb d_BlockCodeModel_hasForm_76 (by decide) (fun hc => ?_) (fun hc => ?_)
    · have hm := iff_ hc hm
      exact w_BlockCodeModel_hasForm_81 S hr hlk hK hA p0 p1 p2 p3 o_r hQ H locs ls (lv_sub hl [0, 1, 2] rfl) hP hD hS hm
    · have hm := ift hc hm
      refine lv_iconst (v := (0 : Int32)) hx hb d_BlockCodeModel_hasForm_79 (by decide) ?_
      cases hm
      exact W.zret hx hb hr rfl (fun t ht hW => hQ t _ _ ht hW hP hS) hS.2.2 d_BlockCodeModel_hasForm_80 hlk
set_option maxHeartbeats 4000000 in
set_option maxRecDepth 100000 in
theorem w_BlockCodeModel_hasForm_49 {p : Program} {l : Launch} {e : Env} {s : State} {m : MethodId} {args : Array Value} {below : List Frame} {meth : Method} {c : Code} {D : va_G} {cI cJ cZ : ClassId} {A : Nat → Prop} {Qc : Array Value → State → Outcome → State → Prop} (S : CallFix p m c b_BlockCodeModel_hasForm 4 s args tbg R_BlockCodeModel) (hr : meth.sig.returnType = (some .boolean)) (hlk : meth.locks = false) (hK : kx D cI cJ cZ s) (hA : ∀ q, s.heap.size ≤ q → A q) (p0 : Int32) (p1 : Int32) (p2 : Int32) (p3 : Int32) (o_r : Int32) (hQ : ∀ (t : State) (H : Heap) (locs : List Loc), t.heap = H → s.WarmedH t.vm → va_P D classes (ww_BlockCodeModel_hasForm cI cJ cZ) H → va_S A s.heap H locs → Qc args s (.returned (some (.int o_r))) t) : ∀ (H : Heap) (locs : List Loc) (ls : Array Slot), lv_has ls 4 [(0, .int p0), (2, .int p2), (3, .int p3)] → va_P D classes (ww_BlockCodeModel_hasForm cI cJ cZ) H → va_D A (ww_BlockCodeModel_hasForm cI cJ cZ) → va_S A s.heap H locs → f_BlockCodeModel_hasForm_49 p0 p1 p2 p3 = some o_r → W p l e rm_BlockCodeModel_hasForm s m args below meth c H locs 0 0 (MQ below Qc args s 0 0 A) (F0 m 49 ls []) := by
  obtain ⟨hx, hb, hml, hown, hts⟩ := id S
  intro H locs ls hl hP hD hS hm
  unfold f_BlockCodeModel_hasForm_49 at hm
  refine lv_iload_n hx hb d_BlockCodeModel_hasForm_49 rfl (lv_at hl 1 rfl) ?_
  refine lv_iconst (v := (0 : Int32)) hx hb d_BlockCodeModel_hasForm_50 (by decide) ?_
  refine lv_iconst (v := (4 : Int32)) hx hb d_BlockCodeModel_hasForm_51 (by decide) ?_
  obtain ⟨rz1, e_rz1, hm⟩ := ob hm
  have hC : ([] : List Nat).map (fun i => (ww_BlockCodeModel_hasForm cI cJ cZ)[i]?) = (ww_BlockCodeModel_within cI cJ cZ).map some := rfl
  refine vj_i (w1 := (ww_BlockCodeModel_within cI cJ cZ)) (wn := (ww_BlockCodeModel_hasForm cI cJ cZ)) (isR := []) (nw := 0) (vr_S (n := 3) (As := [.int p2, .int (0 : Int32), .int (4 : Int32)]) S ((c_BlockCodeModel_within l D cI cJ cZ p2 (0 : Int32) (4 : Int32) rz1 e_rz1) H.size) a_752 a_753 a_7 a_754 (by decide +kernel) ⟨rfl, rfl⟩ ⟨Nat.le_of_ble_eq_true rfl, Nat.le_of_ble_eq_true rfl⟩ hK hP hD (by decide) hC rfl hl.1 (Nat.le_of_ble_eq_true rfl) d_BlockCodeModel_hasForm_52 ⟨Nat.zero_le _, Nat.zero_le _⟩ rfl) hP hD hS hA hC rfl rfl vx_n rfl (by decide) (fun H locs hP hD hS => ?_)
  refine lv_if_ne (tgt := 60) hx hb d_BlockCodeModel_hasForm_55 (by decide) (fun hc => ?_) (fun hc => ?_)
  · have hm := iff_ hc hm
    exact w_BlockCodeModel_hasForm_60 S hr hlk hK hA p0 p1 p2 p3 o_r hQ H locs ls (lv_sub hl [0, 1, 2] rfl) hP hD hS hm
  · have hm := ift hc hm
    refine lv_iconst (v := (0 : Int32)) hx hb d_BlockCodeModel_hasForm_58 (by decide) ?_
    cases hm
    exact W.zret hx hb hr rfl (fun t ht hW => hQ t _ _ ht hW hP hS) hS.2.2 d_BlockCodeModel_hasForm_59 hlk
set_option maxHeartbeats 4000000 in
set_option maxRecDepth 100000 in
theorem w_BlockCodeModel_hasForm_33 {p : Program} {l : Launch} {e : Env} {s : State} {m : MethodId} {args : Array Value} {below : List Frame} {meth : Method} {c : Code} {D : va_G} {cI cJ cZ : ClassId} {A : Nat → Prop} {Qc : Array Value → State → Outcome → State → Prop} (S : CallFix p m c b_BlockCodeModel_hasForm 4 s args tbg R_BlockCodeModel) (hr : meth.sig.returnType = (some .boolean)) (hlk : meth.locks = false) (hK : kx D cI cJ cZ s) (hA : ∀ q, s.heap.size ≤ q → A q) (p0 : Int32) (p1 : Int32) (p2 : Int32) (p3 : Int32) (o_r : Int32) (hQ : ∀ (t : State) (H : Heap) (locs : List Loc), t.heap = H → s.WarmedH t.vm → va_P D classes (ww_BlockCodeModel_hasForm cI cJ cZ) H → va_S A s.heap H locs → Qc args s (.returned (some (.int o_r))) t) : ∀ (H : Heap) (locs : List Loc) (ls : Array Slot), lv_has ls 4 [(0, .int p0), (2, .int p2), (3, .int p3)] → va_P D classes (ww_BlockCodeModel_hasForm cI cJ cZ) H → va_D A (ww_BlockCodeModel_hasForm cI cJ cZ) → va_S A s.heap H locs → f_BlockCodeModel_hasForm_33 p0 p1 p2 p3 = some o_r → W p l e rm_BlockCodeModel_hasForm s m args below meth c H locs 0 0 (MQ below Qc args s 0 0 A) (F0 m 33 ls []) := by
  obtain ⟨hx, hb, hml, hown, hts⟩ := id S
  intro H locs ls hl hP hD hS hm
  unfold f_BlockCodeModel_hasForm_33 at hm
  refine lv_iload_n hx hb d_BlockCodeModel_hasForm_33 rfl (lv_at hl 0 rfl) ?_
  refine lv_iconst (v := (2 : Int32)) hx hb d_BlockCodeModel_hasForm_34 (by decide) ?_
  refine lv_bipush (v := (7 : Int32)) hx hb d_BlockCodeModel_hasForm_35 (by decide) ?_
  obtain ⟨rz1, e_rz1, hm⟩ := ob hm
  have hC : ([] : List Nat).map (fun i => (ww_BlockCodeModel_hasForm cI cJ cZ)[i]?) = (ww_BlockCodeModel_within cI cJ cZ).map some := rfl
  refine vj_i (w1 := (ww_BlockCodeModel_within cI cJ cZ)) (wn := (ww_BlockCodeModel_hasForm cI cJ cZ)) (isR := []) (nw := 0) (vr_S (n := 3) (As := [.int p0, .int (2 : Int32), .int (7 : Int32)]) S ((c_BlockCodeModel_within l D cI cJ cZ p0 (2 : Int32) (7 : Int32) rz1 e_rz1) H.size) a_752 a_753 a_7 a_754 (by decide +kernel) ⟨rfl, rfl⟩ ⟨Nat.le_of_ble_eq_true rfl, Nat.le_of_ble_eq_true rfl⟩ hK hP hD (by decide) hC rfl hl.1 (Nat.le_of_ble_eq_true rfl) d_BlockCodeModel_hasForm_37 ⟨Nat.zero_le _, Nat.zero_le _⟩ rfl) hP hD hS hA hC rfl rfl vx_n rfl (by decide) (fun H locs hP hD hS => ?_)
  refine lv_if_ne (tgt := 49) hx hb d_BlockCodeModel_hasForm_40 (by decide) (fun hc => ?_) (fun hc => ?_)
  · have hm := iff_ hc hm
    exact w_BlockCodeModel_hasForm_49 S hr hlk hK hA p0 p1 p2 p3 o_r hQ H locs ls (lv_sub hl [0, 1, 2] rfl) hP hD hS hm
  · have hm := ift hc hm
    refine lv_iload_n hx hb d_BlockCodeModel_hasForm_43 rfl (lv_at hl 0 rfl) ?_
    refine lv_bipush (v := (9 : Int32)) hx hb d_BlockCodeModel_hasForm_44 (by decide) ?_
    refine lv_icmp_ne (tgt := 60) hx hb d_BlockCodeModel_hasForm_46 (by decide) (fun hc => ?_) (fun hc => ?_)
    · have hm := iff_ hc hm
      exact w_BlockCodeModel_hasForm_60 S hr hlk hK hA p0 p1 p2 p3 o_r hQ H locs ls (lv_sub hl [0, 1, 2] rfl) hP hD hS hm
    · have hm := ift hc hm
      exact w_BlockCodeModel_hasForm_49 S hr hlk hK hA p0 p1 p2 p3 o_r hQ H locs ls (lv_sub hl [0, 1, 2] rfl) hP hD hS hm
set_option maxHeartbeats 4000000 in
set_option maxRecDepth 100000 in
theorem w_BlockCodeModel_hasForm {p : Program} {l : Launch} {e : Env} {s : State} {m : MethodId} {args : Array Value} {below : List Frame} {meth : Method} {c : Code} {D : va_G} {cI cJ cZ : ClassId} {A : Nat → Prop} {Qc : Array Value → State → Outcome → State → Prop} (S : CallFix p m c b_BlockCodeModel_hasForm 4 s args tbg R_BlockCodeModel) (hr : meth.sig.returnType = (some .boolean)) (hlk : meth.locks = false) (hK : kx D cI cJ cZ s) (hA : ∀ q, s.heap.size ≤ q → A q) (p0 : Int32) (p1 : Int32) (p2 : Int32) (p3 : Int32) (o_r : Int32) (hQ : ∀ (t : State) (H : Heap) (locs : List Loc), t.heap = H → s.WarmedH t.vm → va_P D classes (ww_BlockCodeModel_hasForm cI cJ cZ) H → va_S A s.heap H locs → Qc args s (.returned (some (.int o_r))) t) (H : Heap) (locs : List Loc) (ls : Array Slot) (hl : lv_has ls 4 [(0, .int p0), (1, .int p1), (2, .int p2), (3, .int p3)]) (hP : va_P D classes (ww_BlockCodeModel_hasForm cI cJ cZ) H) (hD : va_D A (ww_BlockCodeModel_hasForm cI cJ cZ)) (hS : va_S A s.heap H locs) (hm : f_BlockCodeModel_hasForm p0 p1 p2 p3 = some o_r) : W p l e rm_BlockCodeModel_hasForm s m args below meth c H locs 0 0 (MQ below Qc args s 0 0 A) (F0 m 0 ls []) := by
  obtain ⟨hx, hb, hml, hown, hts⟩ := id S
  unfold f_BlockCodeModel_hasForm at hm
  refine lv_iload_n hx hb d_BlockCodeModel_hasForm_0 rfl (lv_at hl 0 rfl) ?_
  refine lv_iconst (v := (0 : Int32)) hx hb d_BlockCodeModel_hasForm_1 (by decide) ?_
  refine lv_bipush (v := (10 : Int32)) hx hb d_BlockCodeModel_hasForm_2 (by decide) ?_
  obtain ⟨rz1, e_rz1, hm⟩ := ob hm
  have hC : ([] : List Nat).map (fun i => (ww_BlockCodeModel_hasForm cI cJ cZ)[i]?) = (ww_BlockCodeModel_within cI cJ cZ).map some := rfl
  refine vj_i (w1 := (ww_BlockCodeModel_within cI cJ cZ)) (wn := (ww_BlockCodeModel_hasForm cI cJ cZ)) (isR := []) (nw := 0) (vr_S (n := 3) (As := [.int p0, .int (0 : Int32), .int (10 : Int32)]) S ((c_BlockCodeModel_within l D cI cJ cZ p0 (0 : Int32) (10 : Int32) rz1 e_rz1) H.size) a_752 a_753 a_7 a_754 (by decide +kernel) ⟨rfl, rfl⟩ ⟨Nat.le_of_ble_eq_true rfl, Nat.le_of_ble_eq_true rfl⟩ hK hP hD (by decide) hC rfl hl.1 (Nat.le_of_ble_eq_true rfl) d_BlockCodeModel_hasForm_4 ⟨Nat.zero_le _, Nat.zero_le _⟩ rfl) hP hD hS hA hC rfl rfl vx_n rfl (by decide) (fun H locs hP hD hS => ?_)
  refine lv_if_ne (tgt := 12) hx hb d_BlockCodeModel_hasForm_7 (by decide) (fun hc => ?_) (fun hc => ?_)
  · have hm := iff_ hc hm
    refine lv_iload_n hx hb d_BlockCodeModel_hasForm_12 rfl (lv_at hl 0 rfl) ?_
    refine lv_iconst (v := (1 : Int32)) hx hb d_BlockCodeModel_hasForm_13 (by decide) ?_
    refine lv_bipush (v := (7 : Int32)) hx hb d_BlockCodeModel_hasForm_14 (by decide) ?_
    obtain ⟨rz2, e_rz2, hm⟩ := ob hm
    have hC : ([] : List Nat).map (fun i => (ww_BlockCodeModel_hasForm cI cJ cZ)[i]?) = (ww_BlockCodeModel_within cI cJ cZ).map some := rfl
    refine vj_i (w1 := (ww_BlockCodeModel_within cI cJ cZ)) (wn := (ww_BlockCodeModel_hasForm cI cJ cZ)) (isR := []) (nw := 0) (vr_S (n := 3) (As := [.int p0, .int (1 : Int32), .int (7 : Int32)]) S ((c_BlockCodeModel_within l D cI cJ cZ p0 (1 : Int32) (7 : Int32) rz2 e_rz2) H.size) a_752 a_753 a_7 a_754 (by decide +kernel) ⟨rfl, rfl⟩ ⟨Nat.le_of_ble_eq_true rfl, Nat.le_of_ble_eq_true rfl⟩ hK hP hD (by decide) hC rfl hl.1 (Nat.le_of_ble_eq_true rfl) d_BlockCodeModel_hasForm_16 ⟨Nat.zero_le _, Nat.zero_le _⟩ rfl) hP hD hS hA hC rfl rfl vx_n rfl (by decide) (fun H locs hP hD hS => ?_)
    refine lv_if_eq (tgt := 33) hx hb d_BlockCodeModel_hasForm_19 (by decide) (fun hc => ?_) (fun hc => ?_)
    · have hm := ift hc hm
      exact w_BlockCodeModel_hasForm_33 S hr hlk hK hA p0 p1 p2 p3 o_r hQ H locs ls (lv_sub hl [0, 2, 3] rfl) hP hD hS hm
    · have hm := iff_ hc hm
      refine lv_iload_n hx hb d_BlockCodeModel_hasForm_22 rfl (lv_at hl 1 rfl) ?_
      refine lv_iconst (v := (0 : Int32)) hx hb d_BlockCodeModel_hasForm_23 (by decide) ?_
      refine lv_iconst (v := (4 : Int32)) hx hb d_BlockCodeModel_hasForm_24 (by decide) ?_
      obtain ⟨rz3, e_rz3, hm⟩ := ob hm
      have hC : ([] : List Nat).map (fun i => (ww_BlockCodeModel_hasForm cI cJ cZ)[i]?) = (ww_BlockCodeModel_within cI cJ cZ).map some := rfl
      refine vj_i (w1 := (ww_BlockCodeModel_within cI cJ cZ)) (wn := (ww_BlockCodeModel_hasForm cI cJ cZ)) (isR := []) (nw := 0) (vr_S (n := 3) (As := [.int p1, .int (0 : Int32), .int (4 : Int32)]) S ((c_BlockCodeModel_within l D cI cJ cZ p1 (0 : Int32) (4 : Int32) rz3 e_rz3) H.size) a_752 a_753 a_7 a_754 (by decide +kernel) ⟨rfl, rfl⟩ ⟨Nat.le_of_ble_eq_true rfl, Nat.le_of_ble_eq_true rfl⟩ hK hP hD (by decide) hC rfl hl.1 (Nat.le_of_ble_eq_true rfl) d_BlockCodeModel_hasForm_25 ⟨Nat.zero_le _, Nat.zero_le _⟩ rfl) hP hD hS hA hC rfl rfl vx_n rfl (by decide) (fun H locs hP hD hS => ?_)
      refine lv_if_ne (tgt := 33) hx hb d_BlockCodeModel_hasForm_28 (by decide) (fun hc => ?_) (fun hc => ?_)
      · have hm := iff_ hc hm
        exact w_BlockCodeModel_hasForm_33 S hr hlk hK hA p0 p1 p2 p3 o_r hQ H locs ls (lv_sub hl [0, 2, 3] rfl) hP hD hS hm
      · have hm := ift hc hm
        refine lv_iconst (v := (0 : Int32)) hx hb d_BlockCodeModel_hasForm_31 (by decide) ?_
        cases hm
        exact W.zret hx hb hr rfl (fun t ht hW => hQ t _ _ ht hW hP hS) hS.2.2 d_BlockCodeModel_hasForm_32 hlk
  · have hm := ift hc hm
    refine lv_iconst (v := (0 : Int32)) hx hb d_BlockCodeModel_hasForm_10 (by decide) ?_
    cases hm
    exact W.zret hx hb hr rfl (fun t ht hW => hQ t _ _ ht hW hP hS) hS.2.2 d_BlockCodeModel_hasForm_11 hlk
set_option maxHeartbeats 4000000 in
set_option maxRecDepth 100000 in
theorem c_BlockCodeModel_hasForm (l : Launch) (D : va_G) (cI cJ cZ : ClassId) (p0 : Int32) (p1 : Int32) (p2 : Int32) (p3 : Int32) (o_r : Int32) (hm : f_BlockCodeModel_hasForm p0 p1 p2 p3 = some o_r) : MI l y_BlockCodeModel_hasForm b_BlockCodeModel_hasForm 4 .boolean rm_BlockCodeModel_hasForm D cI cJ cZ [.int p0, .int p1, .int p2, .int p3] (ww_BlockCodeModel_hasForm cI cJ cZ) (ww_BlockCodeModel_hasForm cI cJ cZ) o_r := by
  intro sz
  refine Met.ofW (cc := b_BlockCodeModel_hasForm) (maxL := 4) (ret := (some .boolean)) (by decide) rfl ?_
  intro p e s m args below meth c s₁ B hml hv
  obtain ⟨rfl, hsz, hP, hK, hD0⟩ := hv
  have hts := atoms_spec (ws := Cond.code y_BlockCodeModel_hasForm b_BlockCodeModel_hasForm 4 (some .boolean) :: tbg) B.pre
  have S : CallFix p m c b_BlockCodeModel_hasForm 4 s ([.int p0, .int p1, .int p2, .int p3] : List Value).toArray tbg R_BlockCodeModel := ⟨B.exec, B.bytes, hml, findClass_of_methodNamed B.named, fun w hw => hts w (List.mem_cons_of_mem _ hw)⟩
  subst hsz
  have hD := hD0.self (sz := s.heap.size)
  have hl := lv_entry ([.int p0, .int p1, .int p2, .int p3] : List Value) (n := 4) (Nat.le_of_ble_eq_true rfl)
  rw [lg_entry_eq]
  generalize (lg_sl ([.int p0, .int p1, .int p2, .int p3] : List Value) ++ List.replicate (4 - (lg_sl ([.int p0, .int p1, .int p2, .int p3] : List Value)).length) Slot.unset).toArray = ls at hl ⊢
  have hl : lv_has ls 4 [(0, .int p0), (1, .int p1), (2, .int p2), (3, .int p3)] := hl
  exact w_BlockCodeModel_hasForm S B.returns B.notSynchronized hK (fun q h => Or.inr h) p0 p1 p2 p3 o_r (fun t H locs ht hW hP hS => ⟨⟨_, (), rfl, rfl, sB_of ht hP⟩, hS.F ht⟩) s.heap [] ls hl hP hD va_S.rf hm
set_option maxHeartbeats 4000000 in
set_option maxRecDepth 100000 in
theorem w_BlockCodeModel_put_71 {p : Program} {l : Launch} {e : Env} {s : State} {m : MethodId} {args : Array Value} {below : List Frame} {meth : Method} {c : Code} {D : va_G} {cI cJ cZ : ClassId} {A : Nat → Prop} {Qc : Array Value → State → Outcome → State → Prop} (S : CallFix p m c b_BlockCodeModel_put 6 s args tbg R_BlockCodeModel) (hr : meth.sig.returnType = none) (hlk : meth.locks = false) (hK : kx D cI cJ cZ s) (hA : ∀ q, s.heap.size ≤ q → A q) (qt : Nat) (qt_code : Nat) (qt_inputs : Nat) (qt_reached : Nat) (qt_isInt : Nat) (qt_fact : Nat) (qt_need : Nat) (qt_leader : Nat) (qt_kind : Nat) (qt_left : Nat) (qt_right : Nat) (qt_hold : Nat) (qt_risk : Nat) (qt_risks : Nat) (qt_end : Nat) (qt_to : Nat) (qt_symbol : Nat) (qt_place : Nat) (qt_register : Nat) (p1 : Int32) (p2 : Int32) (p3 : Int32) (p4 : Int32) (p5 : Int32) (t_size : Int32) (t_thrown : Int32) (t_sealed : Int32) (t_good : Int32) (t_symbols : Int32) (t_set : Int32) (t_steps : Int32) (t_ended : Int32) (o_t_code : Nat → Int32) (hQ : ∀ (t : State) (H : Heap) (locs : List Loc), t.heap = H → s.WarmedH t.vm → va_P D classes (ww_BlockCodeModel_put cI cJ cZ qt qt_code qt_inputs qt_reached qt_isInt qt_fact qt_need qt_leader qt_kind qt_left qt_right qt_hold qt_risk qt_risks qt_end qt_to qt_symbol qt_place qt_register t_size t_thrown t_sealed t_good t_symbols t_set t_steps t_ended o_t_code) H → va_S A s.heap H locs → Qc args s (.returned none) t) : ∀ (H : Heap) (locs : List Loc) (ls : Array Slot) (s0 : Int32) (s1 : Int32) (t_code : Nat → Int32), lv_has ls 6 [] → va_P D classes (ww_BlockCodeModel_put cI cJ cZ qt qt_code qt_inputs qt_reached qt_isInt qt_fact qt_need qt_leader qt_kind qt_left qt_right qt_hold qt_risk qt_risks qt_end qt_to qt_symbol qt_place qt_register t_size t_thrown t_sealed t_good t_symbols t_set t_steps t_ended t_code) H → va_D A (ww_BlockCodeModel_put cI cJ cZ qt qt_code qt_inputs qt_reached qt_isInt qt_fact qt_need qt_leader qt_kind qt_left qt_right qt_hold qt_risk qt_risks qt_end qt_to qt_symbol qt_place qt_register t_size t_thrown t_sealed t_good t_symbols t_set t_steps t_ended t_code) → va_S A s.heap H locs → f_BlockCodeModel_put_71 p1 p2 p3 p4 p5 s0 s1 t_code = some o_t_code → W p l e rm_BlockCodeModel_put s m args below meth c H locs 0 0 (MQ below Qc args s 0 0 A) (F0 m 71 ls [.int s0, .int s1, .ref qt_code]) := by
  obtain ⟨hx, hb, hml, hown, hts⟩ := id S
  intro H locs ls s0 s1 t_code hl hP hD hS hm
  unfold f_BlockCodeModel_put_71 at hm
  obtain ⟨w1, e_w1, hm⟩ := ob hm
  refine vx_iast hx hb hK hP hD hS 1 rfl e_w1 d_BlockCodeModel_put_71 (fun H locs hP hD hS => ?_)
  have hP : va_P D classes (ww_BlockCodeModel_put cI cJ cZ qt qt_code qt_inputs qt_reached qt_isInt qt_fact qt_need qt_leader qt_kind qt_left qt_right qt_hold qt_risk qt_risks qt_end qt_to qt_symbol qt_place qt_register t_size t_thrown t_sealed t_good t_symbols t_set t_steps t_ended w1) H := hP
  have hD : va_D A (ww_BlockCodeModel_put cI cJ cZ qt qt_code qt_inputs qt_reached qt_isInt qt_fact qt_need qt_leader qt_kind qt_left qt_right qt_hold qt_risk qt_risks qt_end qt_to qt_symbol qt_place qt_register t_size t_thrown t_sealed t_good t_symbols t_set t_steps t_ended w1) := hD
  cases hm
  exact W.vret hx hb hr (fun t ht hW => hQ t _ _ ht hW hP hS) hS.2.2 d_BlockCodeModel_put_72 hlk
set_option maxHeartbeats 4000000 in
set_option maxRecDepth 100000 in
theorem w_BlockCodeModel_put_49 {p : Program} {l : Launch} {e : Env} {s : State} {m : MethodId} {args : Array Value} {below : List Frame} {meth : Method} {c : Code} {D : va_G} {cI cJ cZ : ClassId} {A : Nat → Prop} {Qc : Array Value → State → Outcome → State → Prop} (S : CallFix p m c b_BlockCodeModel_put 6 s args tbg R_BlockCodeModel) (hr : meth.sig.returnType = none) (hlk : meth.locks = false) (hK : kx D cI cJ cZ s) (hA : ∀ q, s.heap.size ≤ q → A q) (qt : Nat) (qt_code : Nat) (qt_inputs : Nat) (qt_reached : Nat) (qt_isInt : Nat) (qt_fact : Nat) (qt_need : Nat) (qt_leader : Nat) (qt_kind : Nat) (qt_left : Nat) (qt_right : Nat) (qt_hold : Nat) (qt_risk : Nat) (qt_risks : Nat) (qt_end : Nat) (qt_to : Nat) (qt_symbol : Nat) (qt_place : Nat) (qt_register : Nat) (p1 : Int32) (p2 : Int32) (p3 : Int32) (p4 : Int32) (p5 : Int32) (t_size : Int32) (t_thrown : Int32) (t_sealed : Int32) (t_good : Int32) (t_symbols : Int32) (t_set : Int32) (t_steps : Int32) (t_ended : Int32) (o_t_code : Nat → Int32) (hQ : ∀ (t : State) (H : Heap) (locs : List Loc), t.heap = H → s.WarmedH t.vm → va_P D classes (ww_BlockCodeModel_put cI cJ cZ qt qt_code qt_inputs qt_reached qt_isInt qt_fact qt_need qt_leader qt_kind qt_left qt_right qt_hold qt_risk qt_risks qt_end qt_to qt_symbol qt_place qt_register t_size t_thrown t_sealed t_good t_symbols t_set t_steps t_ended o_t_code) H → va_S A s.heap H locs → Qc args s (.returned none) t) : ∀ (H : Heap) (locs : List Loc) (ls : Array Slot) (s0 : Int32) (s1 : Int32) (t_code : Nat → Int32), lv_has ls 6 [(0, .ref qt), (1, .int p1), (2, .int p2), (5, .int p5)] → va_P D classes (ww_BlockCodeModel_put cI cJ cZ qt qt_code qt_inputs qt_reached qt_isInt qt_fact qt_need qt_leader qt_kind qt_left qt_right qt_hold qt_risk qt_risks qt_end qt_to qt_symbol qt_place qt_register t_size t_thrown t_sealed t_good t_symbols t_set t_steps t_ended t_code) H → va_D A (ww_BlockCodeModel_put cI cJ cZ qt qt_code qt_inputs qt_reached qt_isInt qt_fact qt_need qt_leader qt_kind qt_left qt_right qt_hold qt_risk qt_risks qt_end qt_to qt_symbol qt_place qt_register t_size t_thrown t_sealed t_good t_symbols t_set t_steps t_ended t_code) → va_S A s.heap H locs → f_BlockCodeModel_put_49 p1 p2 p3 p4 p5 s0 s1 t_code = some o_t_code → W p l e rm_BlockCodeModel_put s m args below meth c H locs 0 0 (MQ below Qc args s 0 0 A) (F0 m 49 ls [.int s0, .int s1, .ref qt_code]) := by
  obtain ⟨hx, hb, hml, hown, hts⟩ := id S
  intro H locs ls s0 s1 t_code hl hP hD hS hm
  unfold f_BlockCodeModel_put_49 at hm
  obtain ⟨w1, e_w1, hm⟩ := ob hm
  refine vx_iast hx hb hK hP hD hS 1 rfl e_w1 d_BlockCodeModel_put_49 (fun H locs hP hD hS => ?_)
  have hP : va_P D classes (ww_BlockCodeModel_put cI cJ cZ qt qt_code qt_inputs qt_reached qt_isInt qt_fact qt_need qt_leader qt_kind qt_left qt_right qt_hold qt_risk qt_risks qt_end qt_to qt_symbol qt_place qt_register t_size t_thrown t_sealed t_good t_symbols t_set t_steps t_ended w1) H := hP
  have hD : va_D A (ww_BlockCodeModel_put cI cJ cZ qt qt_code qt_inputs qt_reached qt_isInt qt_fact qt_need qt_leader qt_kind qt_left qt_right qt_hold qt_risk qt_risks qt_end qt_to qt_symbol qt_place qt_register t_size t_thrown t_sealed t_good t_symbols t_set t_steps t_ended w1) := hD
  refine lv_aload_n hx hb d_BlockCodeModel_put_50 rfl (lv_at hl 0 rfl) ?_
  refine va_get (D := D) (ci := 6) (v := .ref qt_code) (C := R_BlockCodeModel) (T := T_BlockCodeModel) (N := 26) hx hb hts in_BlockCodeModel hown hK.1 hP 0 rfl rfl 0 (by decide) (hts _ a_661) (fun _ h9 => h9) rfl d_BlockCodeModel_put_51 ?_
  refine lv_iload_n hx hb d_BlockCodeModel_put_54 rfl (lv_at hl 1 rfl) ?_
  refine lv_iconst (v := (3 : Int32)) hx hb d_BlockCodeModel_put_55 (by decide) ?_
  refine lv_iadd hx hb d_BlockCodeModel_put_56 ?_
  refine lv_iload_n hx hb d_BlockCodeModel_put_57 rfl (lv_at hl 2 rfl) ?_
  refine lv_iconst (v := (3 : Int32)) hx hb d_BlockCodeModel_put_58 (by decide) ?_
  obtain ⟨rz2, e_rz2, hm⟩ := ob hm
  have hC : ([] : List Nat).map (fun i => (ww_BlockCodeModel_put cI cJ cZ qt qt_code qt_inputs qt_reached qt_isInt qt_fact qt_need qt_leader qt_kind qt_left qt_right qt_hold qt_risk qt_risks qt_end qt_to qt_symbol qt_place qt_register t_size t_thrown t_sealed t_good t_symbols t_set t_steps t_ended w1)[i]?) = (ww_BlockCodeModel_says cI cJ cZ).map some := rfl
  refine vj_i (w1 := (ww_BlockCodeModel_says cI cJ cZ)) (wn := (ww_BlockCodeModel_put cI cJ cZ qt qt_code qt_inputs qt_reached qt_isInt qt_fact qt_need qt_leader qt_kind qt_left qt_right qt_hold qt_risk qt_risks qt_end qt_to qt_symbol qt_place qt_register t_size t_thrown t_sealed t_good t_symbols t_set t_steps t_ended w1)) (isR := [0, 1]) (nw := 2) (vr_S (n := 2) (As := [.int p2, .int (3 : Int32)]) S ((c_BlockCodeModel_says l D cI cJ cZ p2 (3 : Int32) rz2 e_rz2) H.size) a_759 a_760 a_7 a_761 (by decide +kernel) ⟨rfl, rfl⟩ ⟨Nat.le_of_ble_eq_true rfl, Nat.le_of_ble_eq_true rfl⟩ hK hP hD (by decide) hC rfl hl.1 (Nat.le_of_ble_eq_true rfl) d_BlockCodeModel_put_59 ⟨Nat.zero_le _, Nat.zero_le _⟩ rfl) hP hD hS hA hC rfl rfl (vx_c rfl rfl (vx_c rfl rfl vx_n)) rfl (by decide) (fun H locs hP hD hS => ?_)
  refine lv_if_eq (tgt := 70) hx hb d_BlockCodeModel_put_62 (by decide) (fun hc => ?_) (fun hc => ?_)
  · have hm := ift hc hm
    refine lv_iconst (v := (0 : Int32)) hx hb d_BlockCodeModel_put_70 (by decide) ?_
    exact w_BlockCodeModel_put_71 S hr hlk hK hA qt qt_code qt_inputs qt_reached qt_isInt qt_fact qt_need qt_leader qt_kind qt_left qt_right qt_hold qt_risk qt_risks qt_end qt_to qt_symbol qt_place qt_register p1 p2 p3 p4 p5 t_size t_thrown t_sealed t_good t_symbols t_set t_steps t_ended o_t_code hQ H locs ls (0 : Int32) (p1 + (3 : Int32)) w1 (lv_sub hl [] rfl) hP hD hS hm
  · have hm := iff_ hc hm
    refine lv_iload hx hb d_BlockCodeModel_put_65 (lv_at hl 3 rfl) ?_
    refine lv_goto (tgt := 71) hx hb d_BlockCodeModel_put_67 (by decide) ?_
    exact w_BlockCodeModel_put_71 S hr hlk hK hA qt qt_code qt_inputs qt_reached qt_isInt qt_fact qt_need qt_leader qt_kind qt_left qt_right qt_hold qt_risk qt_risks qt_end qt_to qt_symbol qt_place qt_register p1 p2 p3 p4 p5 t_size t_thrown t_sealed t_good t_symbols t_set t_steps t_ended o_t_code hQ H locs ls p5 (p1 + (3 : Int32)) w1 (lv_sub hl [] rfl) hP hD hS hm
set_option maxHeartbeats 4000000 in
set_option maxRecDepth 100000 in
theorem w_BlockCodeModel_put_27 {p : Program} {l : Launch} {e : Env} {s : State} {m : MethodId} {args : Array Value} {below : List Frame} {meth : Method} {c : Code} {D : va_G} {cI cJ cZ : ClassId} {A : Nat → Prop} {Qc : Array Value → State → Outcome → State → Prop} (S : CallFix p m c b_BlockCodeModel_put 6 s args tbg R_BlockCodeModel) (hr : meth.sig.returnType = none) (hlk : meth.locks = false) (hK : kx D cI cJ cZ s) (hA : ∀ q, s.heap.size ≤ q → A q) (qt : Nat) (qt_code : Nat) (qt_inputs : Nat) (qt_reached : Nat) (qt_isInt : Nat) (qt_fact : Nat) (qt_need : Nat) (qt_leader : Nat) (qt_kind : Nat) (qt_left : Nat) (qt_right : Nat) (qt_hold : Nat) (qt_risk : Nat) (qt_risks : Nat) (qt_end : Nat) (qt_to : Nat) (qt_symbol : Nat) (qt_place : Nat) (qt_register : Nat) (p1 : Int32) (p2 : Int32) (p3 : Int32) (p4 : Int32) (p5 : Int32) (t_size : Int32) (t_thrown : Int32) (t_sealed : Int32) (t_good : Int32) (t_symbols : Int32) (t_set : Int32) (t_steps : Int32) (t_ended : Int32) (o_t_code : Nat → Int32) (hQ : ∀ (t : State) (H : Heap) (locs : List Loc), t.heap = H → s.WarmedH t.vm → va_P D classes (ww_BlockCodeModel_put cI cJ cZ qt qt_code qt_inputs qt_reached qt_isInt qt_fact qt_need qt_leader qt_kind qt_left qt_right qt_hold qt_risk qt_risks qt_end qt_to qt_symbol qt_place qt_register t_size t_thrown t_sealed t_good t_symbols t_set t_steps t_ended o_t_code) H → va_S A s.heap H locs → Qc args s (.returned none) t) : ∀ (H : Heap) (locs : List Loc) (ls : Array Slot) (s0 : Int32) (s1 : Int32) (t_code : Nat → Int32), lv_has ls 6 [(0, .ref qt), (1, .int p1), (2, .int p2), (4, .int p4), (5, .int p5)] → va_P D classes (ww_BlockCodeModel_put cI cJ cZ qt qt_code qt_inputs qt_reached qt_isInt qt_fact qt_need qt_leader qt_kind qt_left qt_right qt_hold qt_risk qt_risks qt_end qt_to qt_symbol qt_place qt_register t_size t_thrown t_sealed t_good t_symbols t_set t_steps t_ended t_code) H → va_D A (ww_BlockCodeModel_put cI cJ cZ qt qt_code qt_inputs qt_reached qt_isInt qt_fact qt_need qt_leader qt_kind qt_left qt_right qt_hold qt_risk qt_risks qt_end qt_to qt_symbol qt_place qt_register t_size t_thrown t_sealed t_good t_symbols t_set t_steps t_ended t_code) → va_S A s.heap H locs → f_BlockCodeModel_put_27 p1 p2 p3 p4 p5 s0 s1 t_code = some o_t_code → W p l e rm_BlockCodeModel_put s m args below meth c H locs 0 0 (MQ below Qc args s 0 0 A) (F0 m 27 ls [.int s0, .int s1, .ref qt_code]) := by
  obtain ⟨hx, hb, hml, hown, hts⟩ := id S
  intro H locs ls s0 s1 t_code hl hP hD hS hm
  unfold f_BlockCodeModel_put_27 at hm
  obtain ⟨w1, e_w1, hm⟩ := ob hm
  refine vx_iast hx hb hK hP hD hS 1 rfl e_w1 d_BlockCodeModel_put_27 (fun H locs hP hD hS => ?_)
  have hP : va_P D classes (ww_BlockCodeModel_put cI cJ cZ qt qt_code qt_inputs qt_reached qt_isInt qt_fact qt_need qt_leader qt_kind qt_left qt_right qt_hold qt_risk qt_risks qt_end qt_to qt_symbol qt_place qt_register t_size t_thrown t_sealed t_good t_symbols t_set t_steps t_ended w1) H := hP
  have hD : va_D A (ww_BlockCodeModel_put cI cJ cZ qt qt_code qt_inputs qt_reached qt_isInt qt_fact qt_need qt_leader qt_kind qt_left qt_right qt_hold qt_risk qt_risks qt_end qt_to qt_symbol qt_place qt_register t_size t_thrown t_sealed t_good t_symbols t_set t_steps t_ended w1) := hD
  refine lv_aload_n hx hb d_BlockCodeModel_put_28 rfl (lv_at hl 0 rfl) ?_
  refine va_get (D := D) (ci := 6) (v := .ref qt_code) (C := R_BlockCodeModel) (T := T_BlockCodeModel) (N := 26) hx hb hts in_BlockCodeModel hown hK.1 hP 0 rfl rfl 0 (by decide) (hts _ a_661) (fun _ h9 => h9) rfl d_BlockCodeModel_put_29 ?_
  refine lv_iload_n hx hb d_BlockCodeModel_put_32 rfl (lv_at hl 1 rfl) ?_
  refine lv_iconst (v := (2 : Int32)) hx hb d_BlockCodeModel_put_33 (by decide) ?_
  refine lv_iadd hx hb d_BlockCodeModel_put_34 ?_
  refine lv_iload_n hx hb d_BlockCodeModel_put_35 rfl (lv_at hl 2 rfl) ?_
  refine lv_iconst (v := (2 : Int32)) hx hb d_BlockCodeModel_put_36 (by decide) ?_
  obtain ⟨rz2, e_rz2, hm⟩ := ob hm
  have hC : ([] : List Nat).map (fun i => (ww_BlockCodeModel_put cI cJ cZ qt qt_code qt_inputs qt_reached qt_isInt qt_fact qt_need qt_leader qt_kind qt_left qt_right qt_hold qt_risk qt_risks qt_end qt_to qt_symbol qt_place qt_register t_size t_thrown t_sealed t_good t_symbols t_set t_steps t_ended w1)[i]?) = (ww_BlockCodeModel_says cI cJ cZ).map some := rfl
  refine vj_i (w1 := (ww_BlockCodeModel_says cI cJ cZ)) (wn := (ww_BlockCodeModel_put cI cJ cZ qt qt_code qt_inputs qt_reached qt_isInt qt_fact qt_need qt_leader qt_kind qt_left qt_right qt_hold qt_risk qt_risks qt_end qt_to qt_symbol qt_place qt_register t_size t_thrown t_sealed t_good t_symbols t_set t_steps t_ended w1)) (isR := [0, 1]) (nw := 2) (vr_S (n := 2) (As := [.int p2, .int (2 : Int32)]) S ((c_BlockCodeModel_says l D cI cJ cZ p2 (2 : Int32) rz2 e_rz2) H.size) a_759 a_760 a_7 a_761 (by decide +kernel) ⟨rfl, rfl⟩ ⟨Nat.le_of_ble_eq_true rfl, Nat.le_of_ble_eq_true rfl⟩ hK hP hD (by decide) hC rfl hl.1 (Nat.le_of_ble_eq_true rfl) d_BlockCodeModel_put_37 ⟨Nat.zero_le _, Nat.zero_le _⟩ rfl) hP hD hS hA hC rfl rfl (vx_c rfl rfl (vx_c rfl rfl vx_n)) rfl (by decide) (fun H locs hP hD hS => ?_)
  refine lv_if_eq (tgt := 48) hx hb d_BlockCodeModel_put_40 (by decide) (fun hc => ?_) (fun hc => ?_)
  · have hm := ift hc hm
    refine lv_iconst (v := (0 : Int32)) hx hb d_BlockCodeModel_put_48 (by decide) ?_
    exact w_BlockCodeModel_put_49 S hr hlk hK hA qt qt_code qt_inputs qt_reached qt_isInt qt_fact qt_need qt_leader qt_kind qt_left qt_right qt_hold qt_risk qt_risks qt_end qt_to qt_symbol qt_place qt_register p1 p2 p3 p4 p5 t_size t_thrown t_sealed t_good t_symbols t_set t_steps t_ended o_t_code hQ H locs ls (0 : Int32) (p1 + (2 : Int32)) w1 (lv_sub hl [0, 1, 2, 4] rfl) hP hD hS hm
  · have hm := iff_ hc hm
    refine lv_iload hx hb d_BlockCodeModel_put_43 (lv_at hl 3 rfl) ?_
    refine lv_goto (tgt := 49) hx hb d_BlockCodeModel_put_45 (by decide) ?_
    exact w_BlockCodeModel_put_49 S hr hlk hK hA qt qt_code qt_inputs qt_reached qt_isInt qt_fact qt_need qt_leader qt_kind qt_left qt_right qt_hold qt_risk qt_risks qt_end qt_to qt_symbol qt_place qt_register p1 p2 p3 p4 p5 t_size t_thrown t_sealed t_good t_symbols t_set t_steps t_ended o_t_code hQ H locs ls p4 (p1 + (2 : Int32)) w1 (lv_sub hl [0, 1, 2, 4] rfl) hP hD hS hm
set_option maxHeartbeats 4000000 in
set_option maxRecDepth 100000 in
theorem w_BlockCodeModel_put {p : Program} {l : Launch} {e : Env} {s : State} {m : MethodId} {args : Array Value} {below : List Frame} {meth : Method} {c : Code} {D : va_G} {cI cJ cZ : ClassId} {A : Nat → Prop} {Qc : Array Value → State → Outcome → State → Prop} (S : CallFix p m c b_BlockCodeModel_put 6 s args tbg R_BlockCodeModel) (hr : meth.sig.returnType = none) (hlk : meth.locks = false) (hK : kx D cI cJ cZ s) (hA : ∀ q, s.heap.size ≤ q → A q) (qt : Nat) (qt_code : Nat) (qt_inputs : Nat) (qt_reached : Nat) (qt_isInt : Nat) (qt_fact : Nat) (qt_need : Nat) (qt_leader : Nat) (qt_kind : Nat) (qt_left : Nat) (qt_right : Nat) (qt_hold : Nat) (qt_risk : Nat) (qt_risks : Nat) (qt_end : Nat) (qt_to : Nat) (qt_symbol : Nat) (qt_place : Nat) (qt_register : Nat) (p1 : Int32) (p2 : Int32) (p3 : Int32) (p4 : Int32) (p5 : Int32) (t_size : Int32) (t_thrown : Int32) (t_sealed : Int32) (t_good : Int32) (t_symbols : Int32) (t_set : Int32) (t_steps : Int32) (t_ended : Int32) (o_t_code : Nat → Int32) (hQ : ∀ (t : State) (H : Heap) (locs : List Loc), t.heap = H → s.WarmedH t.vm → va_P D classes (ww_BlockCodeModel_put cI cJ cZ qt qt_code qt_inputs qt_reached qt_isInt qt_fact qt_need qt_leader qt_kind qt_left qt_right qt_hold qt_risk qt_risks qt_end qt_to qt_symbol qt_place qt_register t_size t_thrown t_sealed t_good t_symbols t_set t_steps t_ended o_t_code) H → va_S A s.heap H locs → Qc args s (.returned none) t) (t_code : Nat → Int32) (H : Heap) (locs : List Loc) (ls : Array Slot) (hl : lv_has ls 6 [(0, .ref qt), (1, .int p1), (2, .int p2), (3, .int p3), (4, .int p4), (5, .int p5)]) (hP : va_P D classes (ww_BlockCodeModel_put cI cJ cZ qt qt_code qt_inputs qt_reached qt_isInt qt_fact qt_need qt_leader qt_kind qt_left qt_right qt_hold qt_risk qt_risks qt_end qt_to qt_symbol qt_place qt_register t_size t_thrown t_sealed t_good t_symbols t_set t_steps t_ended t_code) H) (hD : va_D A (ww_BlockCodeModel_put cI cJ cZ qt qt_code qt_inputs qt_reached qt_isInt qt_fact qt_need qt_leader qt_kind qt_left qt_right qt_hold qt_risk qt_risks qt_end qt_to qt_symbol qt_place qt_register t_size t_thrown t_sealed t_good t_symbols t_set t_steps t_ended t_code)) (hS : va_S A s.heap H locs) (hm : f_BlockCodeModel_put p1 p2 p3 p4 p5 t_code = some o_t_code) : W p l e rm_BlockCodeModel_put s m args below meth c H locs 0 0 (MQ below Qc args s 0 0 A) (F0 m 0 ls []) := by
  obtain ⟨hx, hb, hml, hown, hts⟩ := id S
  unfold f_BlockCodeModel_put at hm
  refine lv_aload_n hx hb d_BlockCodeModel_put_0 rfl (lv_at hl 0 rfl) ?_
  refine va_get (D := D) (ci := 6) (v := .ref qt_code) (C := R_BlockCodeModel) (T := T_BlockCodeModel) (N := 26) hx hb hts in_BlockCodeModel hown hK.1 hP 0 rfl rfl 0 (by decide) (hts _ a_661) (fun _ h9 => h9) rfl d_BlockCodeModel_put_1 ?_
  refine lv_iload_n hx hb d_BlockCodeModel_put_4 rfl (lv_at hl 1 rfl) ?_
  refine lv_iload_n hx hb d_BlockCodeModel_put_5 rfl (lv_at hl 2 rfl) ?_
  obtain ⟨w1, e_w1, hm⟩ := ob hm
  refine vx_iast hx hb hK hP hD hS 1 rfl e_w1 d_BlockCodeModel_put_6 (fun H locs hP hD hS => ?_)
  have hP : va_P D classes (ww_BlockCodeModel_put cI cJ cZ qt qt_code qt_inputs qt_reached qt_isInt qt_fact qt_need qt_leader qt_kind qt_left qt_right qt_hold qt_risk qt_risks qt_end qt_to qt_symbol qt_place qt_register t_size t_thrown t_sealed t_good t_symbols t_set t_steps t_ended w1) H := hP
  have hD : va_D A (ww_BlockCodeModel_put cI cJ cZ qt qt_code qt_inputs qt_reached qt_isInt qt_fact qt_need qt_leader qt_kind qt_left qt_right qt_hold qt_risk qt_risks qt_end qt_to qt_symbol qt_place qt_register t_size t_thrown t_sealed t_good t_symbols t_set t_steps t_ended w1) := hD
  refine lv_aload_n hx hb d_BlockCodeModel_put_7 rfl (lv_at hl 0 rfl) ?_
  refine va_get (D := D) (ci := 6) (v := .ref qt_code) (C := R_BlockCodeModel) (T := T_BlockCodeModel) (N := 26) hx hb hts in_BlockCodeModel hown hK.1 hP 0 rfl rfl 0 (by decide) (hts _ a_661) (fun _ h9 => h9) rfl d_BlockCodeModel_put_8 ?_
  refine lv_iload_n hx hb d_BlockCodeModel_put_11 rfl (lv_at hl 1 rfl) ?_
  refine lv_iconst (v := (1 : Int32)) hx hb d_BlockCodeModel_put_12 (by decide) ?_
  refine lv_iadd hx hb d_BlockCodeModel_put_13 ?_
  refine lv_iload_n hx hb d_BlockCodeModel_put_14 rfl (lv_at hl 2 rfl) ?_
  refine lv_iconst (v := (1 : Int32)) hx hb d_BlockCodeModel_put_15 (by decide) ?_
  obtain ⟨rz2, e_rz2, hm⟩ := ob hm
  have hC : ([] : List Nat).map (fun i => (ww_BlockCodeModel_put cI cJ cZ qt qt_code qt_inputs qt_reached qt_isInt qt_fact qt_need qt_leader qt_kind qt_left qt_right qt_hold qt_risk qt_risks qt_end qt_to qt_symbol qt_place qt_register t_size t_thrown t_sealed t_good t_symbols t_set t_steps t_ended w1)[i]?) = (ww_BlockCodeModel_says cI cJ cZ).map some := rfl
  refine vj_i (w1 := (ww_BlockCodeModel_says cI cJ cZ)) (wn := (ww_BlockCodeModel_put cI cJ cZ qt qt_code qt_inputs qt_reached qt_isInt qt_fact qt_need qt_leader qt_kind qt_left qt_right qt_hold qt_risk qt_risks qt_end qt_to qt_symbol qt_place qt_register t_size t_thrown t_sealed t_good t_symbols t_set t_steps t_ended w1)) (isR := [0, 1]) (nw := 2) (vr_S (n := 2) (As := [.int p2, .int (1 : Int32)]) S ((c_BlockCodeModel_says l D cI cJ cZ p2 (1 : Int32) rz2 e_rz2) H.size) a_759 a_760 a_7 a_761 (by decide +kernel) ⟨rfl, rfl⟩ ⟨Nat.le_of_ble_eq_true rfl, Nat.le_of_ble_eq_true rfl⟩ hK hP hD (by decide) hC rfl hl.1 (Nat.le_of_ble_eq_true rfl) d_BlockCodeModel_put_16 ⟨Nat.zero_le _, Nat.zero_le _⟩ rfl) hP hD hS hA hC rfl rfl (vx_c rfl rfl (vx_c rfl rfl vx_n)) rfl (by decide) (fun H locs hP hD hS => ?_)
  refine lv_if_eq (tgt := 26) hx hb d_BlockCodeModel_put_19 (by decide) (fun hc => ?_) (fun hc => ?_)
  · have hm := ift hc hm
    refine lv_iconst (v := (0 : Int32)) hx hb d_BlockCodeModel_put_26 (by decide) ?_
    exact w_BlockCodeModel_put_27 S hr hlk hK hA qt qt_code qt_inputs qt_reached qt_isInt qt_fact qt_need qt_leader qt_kind qt_left qt_right qt_hold qt_risk qt_risks qt_end qt_to qt_symbol qt_place qt_register p1 p2 p3 p4 p5 t_size t_thrown t_sealed t_good t_symbols t_set t_steps t_ended o_t_code hQ H locs ls (0 : Int32) (p1 + (1 : Int32)) w1 (lv_sub hl [0, 1, 2, 4, 5] rfl) hP hD hS hm
  · have hm := iff_ hc hm
    refine lv_iload_n hx hb d_BlockCodeModel_put_22 rfl (lv_at hl 3 rfl) ?_
    refine lv_goto (tgt := 27) hx hb d_BlockCodeModel_put_23 (by decide) ?_
    exact w_BlockCodeModel_put_27 S hr hlk hK hA qt qt_code qt_inputs qt_reached qt_isInt qt_fact qt_need qt_leader qt_kind qt_left qt_right qt_hold qt_risk qt_risks qt_end qt_to qt_symbol qt_place qt_register p1 p2 p3 p4 p5 t_size t_thrown t_sealed t_good t_symbols t_set t_steps t_ended o_t_code hQ H locs ls p3 (p1 + (1 : Int32)) w1 (lv_sub hl [0, 1, 2, 4, 5] rfl) hP hD hS hm
set_option maxHeartbeats 4000000 in
set_option maxRecDepth 100000 in
theorem c_BlockCodeModel_put (l : Launch) (D : va_G) (cI cJ cZ : ClassId) (qt : Nat) (qt_code : Nat) (qt_inputs : Nat) (qt_reached : Nat) (qt_isInt : Nat) (qt_fact : Nat) (qt_need : Nat) (qt_leader : Nat) (qt_kind : Nat) (qt_left : Nat) (qt_right : Nat) (qt_hold : Nat) (qt_risk : Nat) (qt_risks : Nat) (qt_end : Nat) (qt_to : Nat) (qt_symbol : Nat) (qt_place : Nat) (qt_register : Nat) (t_size : Int32) (t_thrown : Int32) (t_sealed : Int32) (t_good : Int32) (t_symbols : Int32) (t_set : Int32) (t_steps : Int32) (t_ended : Int32) (t_code : Nat → Int32) (p1 : Int32) (p2 : Int32) (p3 : Int32) (p4 : Int32) (p5 : Int32) (o_t_code : Nat → Int32) (hm : f_BlockCodeModel_put p1 p2 p3 p4 p5 t_code = some o_t_code) : MV l y_BlockCodeModel_put b_BlockCodeModel_put 6 rm_BlockCodeModel_put D cI cJ cZ [.ref qt, .int p1, .int p2, .int p3, .int p4, .int p5] (ww_BlockCodeModel_put cI cJ cZ qt qt_code qt_inputs qt_reached qt_isInt qt_fact qt_need qt_leader qt_kind qt_left qt_right qt_hold qt_risk qt_risks qt_end qt_to qt_symbol qt_place qt_register t_size t_thrown t_sealed t_good t_symbols t_set t_steps t_ended t_code) (ww_BlockCodeModel_put cI cJ cZ qt qt_code qt_inputs qt_reached qt_isInt qt_fact qt_need qt_leader qt_kind qt_left qt_right qt_hold qt_risk qt_risks qt_end qt_to qt_symbol qt_place qt_register t_size t_thrown t_sealed t_good t_symbols t_set t_steps t_ended o_t_code) := by
  intro sz
  refine Met.ofW (cc := b_BlockCodeModel_put) (maxL := 6) (ret := none) (by decide) rfl ?_
  intro p e s m args below meth c s₁ B hml hv
  obtain ⟨rfl, hsz, hP, hK, hD0⟩ := hv
  have hts := atoms_spec (ws := Cond.code y_BlockCodeModel_put b_BlockCodeModel_put 6 none :: tbg) B.pre
  have S : CallFix p m c b_BlockCodeModel_put 6 s ([.ref qt, .int p1, .int p2, .int p3, .int p4, .int p5] : List Value).toArray tbg R_BlockCodeModel := ⟨B.exec, B.bytes, hml, findClass_of_methodNamed B.named, fun w hw => hts w (List.mem_cons_of_mem _ hw)⟩
  subst hsz
  have hD := hD0.self (sz := s.heap.size)
  have hl := lv_entry ([.ref qt, .int p1, .int p2, .int p3, .int p4, .int p5] : List Value) (n := 6) (Nat.le_of_ble_eq_true rfl)
  rw [lg_entry_eq]
  generalize (lg_sl ([.ref qt, .int p1, .int p2, .int p3, .int p4, .int p5] : List Value) ++ List.replicate (6 - (lg_sl ([.ref qt, .int p1, .int p2, .int p3, .int p4, .int p5] : List Value)).length) Slot.unset).toArray = ls at hl ⊢
  have hl : lv_has ls 6 [(0, .ref qt), (1, .int p1), (2, .int p2), (3, .int p3), (4, .int p4), (5, .int p5)] := hl
  exact w_BlockCodeModel_put S B.returns B.notSynchronized hK (fun q h => Or.inr h) qt qt_code qt_inputs qt_reached qt_isInt qt_fact qt_need qt_leader qt_kind qt_left qt_right qt_hold qt_risk qt_risks qt_end qt_to qt_symbol qt_place qt_register p1 p2 p3 p4 p5 t_size t_thrown t_sealed t_good t_symbols t_set t_steps t_ended o_t_code (fun t H locs ht hW hP hS => ⟨⟨(), rfl, trivial, sB_of ht hP⟩, hS.F ht⟩) t_code s.heap [] ls hl hP hD va_S.rf hm
set_option maxHeartbeats 4000000 in
set_option maxRecDepth 100000 in
theorem w_BlockCodeModel_add_13 {p : Program} {l : Launch} {e : Env} {s : State} {m : MethodId} {args : Array Value} {below : List Frame} {meth : Method} {c : Code} {D : va_G} {cI cJ cZ : ClassId} {A : Nat → Prop} {Qc : Array Value → State → Outcome → State → Prop} (S : CallFix p m c b_BlockCodeModel_add 5 s args tbg R_BlockCodeModel) (hr : meth.sig.returnType = (some .int)) (hlk : meth.locks = false) (hK : kx D cI cJ cZ s) (hA : ∀ q, s.heap.size ≤ q → A q) (qt : Nat) (qt_code : Nat) (qt_inputs : Nat) (qt_reached : Nat) (qt_isInt : Nat) (qt_fact : Nat) (qt_need : Nat) (qt_leader : Nat) (qt_kind : Nat) (qt_left : Nat) (qt_right : Nat) (qt_hold : Nat) (qt_risk : Nat) (qt_risks : Nat) (qt_end : Nat) (qt_to : Nat) (qt_symbol : Nat) (qt_place : Nat) (qt_register : Nat) (p1 : Int32) (p2 : Int32) (p3 : Int32) (p4 : Int32) (t_sealed : Int32) (t_good : Int32) (t_symbols : Int32) (t_set : Int32) (t_steps : Int32) (t_ended : Int32) (o_r : Int32) (o_t_code : Nat → Int32) (o_t_size : Int32) (o_t_thrown : Int32) (hQ : ∀ (t : State) (H : Heap) (locs : List Loc), t.heap = H → s.WarmedH t.vm → va_P D classes (ww_BlockCodeModel_add cI cJ cZ qt qt_code qt_inputs qt_reached qt_isInt qt_fact qt_need qt_leader qt_kind qt_left qt_right qt_hold qt_risk qt_risks qt_end qt_to qt_symbol qt_place qt_register o_t_size o_t_thrown t_sealed t_good t_symbols t_set t_steps t_ended o_t_code) H → va_S A s.heap H locs → Qc args s (.returned (some (.int o_r))) t) : ∀ (H : Heap) (locs : List Loc) (ls : Array Slot) (s0 : Int32) (t_code : Nat → Int32) (t_size : Int32) (t_thrown : Int32), lv_has ls 5 [(0, .ref qt), (1, .int p1), (2, .int p2), (3, .int p3), (4, .int p4)] → va_P D classes (ww_BlockCodeModel_add cI cJ cZ qt qt_code qt_inputs qt_reached qt_isInt qt_fact qt_need qt_leader qt_kind qt_left qt_right qt_hold qt_risk qt_risks qt_end qt_to qt_symbol qt_place qt_register t_size t_thrown t_sealed t_good t_symbols t_set t_steps t_ended t_code) H → va_D A (ww_BlockCodeModel_add cI cJ cZ qt qt_code qt_inputs qt_reached qt_isInt qt_fact qt_need qt_leader qt_kind qt_left qt_right qt_hold qt_risk qt_risks qt_end qt_to qt_symbol qt_place qt_register t_size t_thrown t_sealed t_good t_symbols t_set t_steps t_ended t_code) → va_S A s.heap H locs → f_BlockCodeModel_add_13 p1 p2 p3 p4 t_sealed s0 t_code t_size t_thrown = some (o_r, o_t_code, o_t_size, o_t_thrown) → W p l e rm_BlockCodeModel_add s m args below meth c H locs 0 0 (MQ below Qc args s 0 0 A) (F0 m 13 ls [.int s0, .ref qt]) := by
  obtain ⟨hx, hb, hml, hown, hts⟩ := id S
  intro H locs ls s0 t_code t_size t_thrown hl hP hD hS hm
  unfold f_BlockCodeModel_add_13 at hm
  refine va_put (D := D) (ci := 6) (v := .int s0) (ty := .int) (C := R_BlockCodeModel) (T := T_BlockCodeModel) (N := 26) hx hb hts in_BlockCodeModel ty_BlockCodeModel tyok_BlockCodeModel nm_BlockCodeModel hown hK.1 hP hD hS 0 rfl rfl 2 (by decide) (hts _ a_663) (fun _ h9 => h9) rfl (by decide +kernel) rfl rfl (Nat.le_of_ble_eq_true rfl) d_BlockCodeModel_add_13 (fun H locs hP hD hS => ?_)
  have hP : va_P D classes (ww_BlockCodeModel_add cI cJ cZ qt qt_code qt_inputs qt_reached qt_isInt qt_fact qt_need qt_leader qt_kind qt_left qt_right qt_hold qt_risk qt_risks qt_end qt_to qt_symbol qt_place qt_register t_size s0 t_sealed t_good t_symbols t_set t_steps t_ended t_code) H := hP
  have hD : va_D A (ww_BlockCodeModel_add cI cJ cZ qt qt_code qt_inputs qt_reached qt_isInt qt_fact qt_need qt_leader qt_kind qt_left qt_right qt_hold qt_risk qt_risks qt_end qt_to qt_symbol qt_place qt_register t_size s0 t_sealed t_good t_symbols t_set t_steps t_ended t_code) := hD
  refine lv_aload_n hx hb d_BlockCodeModel_add_16 rfl (lv_at hl 0 rfl) ?_
  refine va_get (D := D) (ci := 6) (v := .int t_sealed) (C := R_BlockCodeModel) (T := T_BlockCodeModel) (N := 26) hx hb hts in_BlockCodeModel hown hK.1 hP 0 rfl rfl 3 (by decide) (hts _ a_664) (fun _ h9 => h9) rfl d_BlockCodeModel_add_17 ?_
  refine lv_if_eq (tgt := 25) hx hb d_BlockCodeModel_add_20 (by decide) (fun hc => ?_) (fun hc => ?_)
  · have hm := ift hc hm
    refine lv_iload_n hx hb d_BlockCodeModel_add_25 rfl (lv_at hl 1 rfl) ?_
    refine lv_iload_n hx hb d_BlockCodeModel_add_26 rfl (lv_at hl 2 rfl) ?_
    refine lv_iload_n hx hb d_BlockCodeModel_add_27 rfl (lv_at hl 3 rfl) ?_
    refine lv_iload hx hb d_BlockCodeModel_add_28 (lv_at hl 4 rfl) ?_
    obtain ⟨rz1, e_rz1, hm⟩ := ob hm
    have hC : ([] : List Nat).map (fun i => (ww_BlockCodeModel_add cI cJ cZ qt qt_code qt_inputs qt_reached qt_isInt qt_fact qt_need qt_leader qt_kind qt_left qt_right qt_hold qt_risk qt_risks qt_end qt_to qt_symbol qt_place qt_register t_size s0 t_sealed t_good t_symbols t_set t_steps t_ended t_code)[i]?) = (ww_BlockCodeModel_hasForm cI cJ cZ).map some := rfl
    refine vj_i (w1 := (ww_BlockCodeModel_hasForm cI cJ cZ)) (wn := (ww_BlockCodeModel_add cI cJ cZ qt qt_code qt_inputs qt_reached qt_isInt qt_fact qt_need qt_leader qt_kind qt_left qt_right qt_hold qt_risk qt_risks qt_end qt_to qt_symbol qt_place qt_register t_size s0 t_sealed t_good t_symbols t_set t_steps t_ended t_code)) (isR := [0, 1]) (nw := 2) (vr_S (n := 4) (As := [.int p1, .int p2, .int p3, .int p4]) S ((c_BlockCodeModel_hasForm l D cI cJ cZ p1 p2 p3 p4 rz1 e_rz1) H.size) a_749 a_750 a_7 a_751 (by decide +kernel) ⟨rfl, rfl⟩ ⟨Nat.le_of_ble_eq_true rfl, Nat.le_of_ble_eq_true rfl⟩ hK hP hD (by decide) hC rfl hl.1 (Nat.le_of_ble_eq_true rfl) d_BlockCodeModel_add_30 ⟨Nat.zero_le _, Nat.zero_le _⟩ rfl) hP hD hS hA hC rfl rfl (vx_c rfl rfl (vx_c rfl rfl vx_n)) rfl (by decide) (fun H locs hP hD hS => ?_)
    refine lv_if_ne (tgt := 38) hx hb d_BlockCodeModel_add_33 (by decide) (fun hc => ?_) (fun hc => ?_)
    · have hm := iff_ hc hm
      refine lv_aload_n hx hb d_BlockCodeModel_add_38 rfl (lv_at hl 0 rfl) ?_
      refine va_get (D := D) (ci := 6) (v := .int t_size) (C := R_BlockCodeModel) (T := T_BlockCodeModel) (N := 26) hx hb hts in_BlockCodeModel hown hK.1 hP 0 rfl rfl 1 (by decide) (hts _ a_662) (fun _ h9 => h9) rfl d_BlockCodeModel_add_39 ?_
      refine lv_bipush (v := (20 : Int32)) hx hb d_BlockCodeModel_add_42 (by decide) ?_
      refine lv_icmp_ne (tgt := 50) hx hb d_BlockCodeModel_add_44 (by decide) (fun hc => ?_) (fun hc => ?_)
      · have hm := iff_ hc hm
        refine lv_aload_n hx hb d_BlockCodeModel_add_50 rfl (lv_at hl 0 rfl) ?_
        refine lv_iconst (v := (4 : Int32)) hx hb d_BlockCodeModel_add_51 (by decide) ?_
        refine lv_aload_n hx hb d_BlockCodeModel_add_52 rfl (lv_at hl 0 rfl) ?_
        refine va_get (D := D) (ci := 6) (v := .int t_size) (C := R_BlockCodeModel) (T := T_BlockCodeModel) (N := 26) hx hb hts in_BlockCodeModel hown hK.1 hP 0 rfl rfl 1 (by decide) (hts _ a_662) (fun _ h9 => h9) rfl d_BlockCodeModel_add_53 ?_
        refine lv_imul hx hb d_BlockCodeModel_add_56 ?_
        refine lv_iload_n hx hb d_BlockCodeModel_add_57 rfl (lv_at hl 1 rfl) ?_
        refine lv_iload_n hx hb d_BlockCodeModel_add_58 rfl (lv_at hl 2 rfl) ?_
        refine lv_iload_n hx hb d_BlockCodeModel_add_59 rfl (lv_at hl 3 rfl) ?_
        refine lv_iload hx hb d_BlockCodeModel_add_60 (lv_at hl 4 rfl) ?_
        obtain ⟨u2, e_u2, hm⟩ := ob hm
        have hC : ([0, 1] : List Nat).map (fun i => (ww_BlockCodeModel_add cI cJ cZ qt qt_code qt_inputs qt_reached qt_isInt qt_fact qt_need qt_leader qt_kind qt_left qt_right qt_hold qt_risk qt_risks qt_end qt_to qt_symbol qt_place qt_register t_size s0 t_sealed t_good t_symbols t_set t_steps t_ended t_code)[i]?) = (ww_BlockCodeModel_put cI cJ cZ qt qt_code qt_inputs qt_reached qt_isInt qt_fact qt_need qt_leader qt_kind qt_left qt_right qt_hold qt_risk qt_risks qt_end qt_to qt_symbol qt_place qt_register t_size s0 t_sealed t_good t_symbols t_set t_steps t_ended t_code).map some := rfl
        refine vj_v (w1 := (ww_BlockCodeModel_put cI cJ cZ qt qt_code qt_inputs qt_reached qt_isInt qt_fact qt_need qt_leader qt_kind qt_left qt_right qt_hold qt_risk qt_risks qt_end qt_to qt_symbol qt_place qt_register t_size s0 t_sealed t_good t_symbols t_set t_steps t_ended u2)) (wn := (ww_BlockCodeModel_add cI cJ cZ qt qt_code qt_inputs qt_reached qt_isInt qt_fact qt_need qt_leader qt_kind qt_left qt_right qt_hold qt_risk qt_risks qt_end qt_to qt_symbol qt_place qt_register t_size s0 t_sealed t_good t_symbols t_set t_steps t_ended u2)) (isR := []) (nw := 2) (vr_V (C := R_BlockCodeModel) (n := 5) (As := [.int ((4 : Int32) * t_size), .int p1, .int p2, .int p3, .int p4]) S ((c_BlockCodeModel_put l D cI cJ cZ qt qt_code qt_inputs qt_reached qt_isInt qt_fact qt_need qt_leader qt_kind qt_left qt_right qt_hold qt_risk qt_risks qt_end qt_to qt_symbol qt_place qt_register t_size s0 t_sealed t_good t_symbols t_set t_steps t_ended t_code ((4 : Int32) * t_size) p1 p2 p3 p4 u2 e_u2) H.size) a_755 a_757 ap_25 a_7 a_758 (by decide +kernel) ⟨rfl, rfl⟩ ⟨Nat.le_of_ble_eq_true rfl, Nat.le_of_ble_eq_true rfl⟩ (ci := 6) (q0 := 0) rfl rfl hK hP hD (by decide) hC rfl hl.1 (Nat.le_of_ble_eq_true rfl) d_BlockCodeModel_add_62 ⟨Nat.zero_le _, Nat.zero_le _⟩ rfl) hP hD hS hA hC rfl rfl vx_n rfl (by decide) (fun H locs hP hD hS => ?_)
        refine lv_aload_n hx hb d_BlockCodeModel_add_65 rfl (lv_at hl 0 rfl) ?_
        refine lv_dup hx hb d_BlockCodeModel_add_66 rfl ?_
        refine va_get (D := D) (ci := 6) (v := .int t_size) (C := R_BlockCodeModel) (T := T_BlockCodeModel) (N := 26) hx hb hts in_BlockCodeModel hown hK.1 hP 0 rfl rfl 1 (by decide) (hts _ a_662) (fun _ h9 => h9) rfl d_BlockCodeModel_add_67 ?_
        refine lv_iconst (v := (1 : Int32)) hx hb d_BlockCodeModel_add_70 (by decide) ?_
        refine lv_iadd hx hb d_BlockCodeModel_add_71 ?_
        refine va_put (D := D) (ci := 6) (v := .int (t_size + (1 : Int32))) (ty := .int) (C := R_BlockCodeModel) (T := T_BlockCodeModel) (N := 26) hx hb hts in_BlockCodeModel ty_BlockCodeModel tyok_BlockCodeModel nm_BlockCodeModel hown hK.1 hP hD hS 0 rfl rfl 1 (by decide) (hts _ a_662) (fun _ h9 => h9) rfl (by decide +kernel) rfl rfl (Nat.le_of_ble_eq_true rfl) d_BlockCodeModel_add_72 (fun H locs hP hD hS => ?_)
        have hP : va_P D classes (ww_BlockCodeModel_add cI cJ cZ qt qt_code qt_inputs qt_reached qt_isInt qt_fact qt_need qt_leader qt_kind qt_left qt_right qt_hold qt_risk qt_risks qt_end qt_to qt_symbol qt_place qt_register (t_size + (1 : Int32)) s0 t_sealed t_good t_symbols t_set t_steps t_ended u2) H := hP
        have hD : va_D A (ww_BlockCodeModel_add cI cJ cZ qt qt_code qt_inputs qt_reached qt_isInt qt_fact qt_need qt_leader qt_kind qt_left qt_right qt_hold qt_risk qt_risks qt_end qt_to qt_symbol qt_place qt_register (t_size + (1 : Int32)) s0 t_sealed t_good t_symbols t_set t_steps t_ended u2) := hD
        refine lv_aload_n hx hb d_BlockCodeModel_add_75 rfl (lv_at hl 0 rfl) ?_
        refine va_get (D := D) (ci := 6) (v := .int (t_size + (1 : Int32))) (C := R_BlockCodeModel) (T := T_BlockCodeModel) (N := 26) hx hb hts in_BlockCodeModel hown hK.1 hP 0 rfl rfl 1 (by decide) (hts _ a_662) (fun _ h9 => h9) rfl d_BlockCodeModel_add_76 ?_
        refine lv_iconst (v := (1 : Int32)) hx hb d_BlockCodeModel_add_79 (by decide) ?_
        refine lv_isub hx hb d_BlockCodeModel_add_80 ?_
        cases hm
        exact W.iret hx hb hr (fun t ht hW => hQ t _ _ ht hW hP hS) hS.2.2 d_BlockCodeModel_add_81 hlk
      · have hm := ift hc hm
        refine lv_bipush (v := (-2 : Int32)) hx hb d_BlockCodeModel_add_47 (by decide) ?_
        cases hm
        exact W.iret hx hb hr (fun t ht hW => hQ t _ _ ht hW hP hS) hS.2.2 d_BlockCodeModel_add_49 hlk
    · have hm := ift hc hm
      refine lv_iconst (v := (-1 : Int32)) hx hb d_BlockCodeModel_add_36 (by decide) ?_
      cases hm
      exact W.iret hx hb hr (fun t ht hW => hQ t _ _ ht hW hP hS) hS.2.2 d_BlockCodeModel_add_37 hlk
  · have hm := iff_ hc hm
    refine lv_iconst (v := (0 : Int32)) hx hb d_BlockCodeModel_add_23 (by decide) ?_
    cases hm
    exact W.iret hx hb hr (fun t ht hW => hQ t _ _ ht hW hP hS) hS.2.2 d_BlockCodeModel_add_24 hlk
set_option maxHeartbeats 4000000 in
set_option maxRecDepth 100000 in
theorem w_BlockCodeModel_add {p : Program} {l : Launch} {e : Env} {s : State} {m : MethodId} {args : Array Value} {below : List Frame} {meth : Method} {c : Code} {D : va_G} {cI cJ cZ : ClassId} {A : Nat → Prop} {Qc : Array Value → State → Outcome → State → Prop} (S : CallFix p m c b_BlockCodeModel_add 5 s args tbg R_BlockCodeModel) (hr : meth.sig.returnType = (some .int)) (hlk : meth.locks = false) (hK : kx D cI cJ cZ s) (hA : ∀ q, s.heap.size ≤ q → A q) (qt : Nat) (qt_code : Nat) (qt_inputs : Nat) (qt_reached : Nat) (qt_isInt : Nat) (qt_fact : Nat) (qt_need : Nat) (qt_leader : Nat) (qt_kind : Nat) (qt_left : Nat) (qt_right : Nat) (qt_hold : Nat) (qt_risk : Nat) (qt_risks : Nat) (qt_end : Nat) (qt_to : Nat) (qt_symbol : Nat) (qt_place : Nat) (qt_register : Nat) (p1 : Int32) (p2 : Int32) (p3 : Int32) (p4 : Int32) (t_sealed : Int32) (t_good : Int32) (t_symbols : Int32) (t_set : Int32) (t_steps : Int32) (t_ended : Int32) (o_r : Int32) (o_t_code : Nat → Int32) (o_t_size : Int32) (o_t_thrown : Int32) (hQ : ∀ (t : State) (H : Heap) (locs : List Loc), t.heap = H → s.WarmedH t.vm → va_P D classes (ww_BlockCodeModel_add cI cJ cZ qt qt_code qt_inputs qt_reached qt_isInt qt_fact qt_need qt_leader qt_kind qt_left qt_right qt_hold qt_risk qt_risks qt_end qt_to qt_symbol qt_place qt_register o_t_size o_t_thrown t_sealed t_good t_symbols t_set t_steps t_ended o_t_code) H → va_S A s.heap H locs → Qc args s (.returned (some (.int o_r))) t) (t_code : Nat → Int32) (t_size : Int32) (t_thrown : Int32) (H : Heap) (locs : List Loc) (ls : Array Slot) (hl : lv_has ls 5 [(0, .ref qt), (1, .int p1), (2, .int p2), (3, .int p3), (4, .int p4)]) (hP : va_P D classes (ww_BlockCodeModel_add cI cJ cZ qt qt_code qt_inputs qt_reached qt_isInt qt_fact qt_need qt_leader qt_kind qt_left qt_right qt_hold qt_risk qt_risks qt_end qt_to qt_symbol qt_place qt_register t_size t_thrown t_sealed t_good t_symbols t_set t_steps t_ended t_code) H) (hD : va_D A (ww_BlockCodeModel_add cI cJ cZ qt qt_code qt_inputs qt_reached qt_isInt qt_fact qt_need qt_leader qt_kind qt_left qt_right qt_hold qt_risk qt_risks qt_end qt_to qt_symbol qt_place qt_register t_size t_thrown t_sealed t_good t_symbols t_set t_steps t_ended t_code)) (hS : va_S A s.heap H locs) (hm : f_BlockCodeModel_add p1 p2 p3 p4 t_sealed t_code t_size t_thrown = some (o_r, o_t_code, o_t_size, o_t_thrown)) : W p l e rm_BlockCodeModel_add s m args below meth c H locs 0 0 (MQ below Qc args s 0 0 A) (F0 m 0 ls []) := by
  obtain ⟨hx, hb, hml, hown, hts⟩ := id S
  unfold f_BlockCodeModel_add at hm
  refine lv_aload_n hx hb d_BlockCodeModel_add_0 rfl (lv_at hl 0 rfl) ?_
  refine lv_aload_n hx hb d_BlockCodeModel_add_1 rfl (lv_at hl 0 rfl) ?_
  refine va_get (D := D) (ci := 6) (v := .int t_sealed) (C := R_BlockCodeModel) (T := T_BlockCodeModel) (N := 26) hx hb hts in_BlockCodeModel hown hK.1 hP 0 rfl rfl 3 (by decide) (hts _ a_664) (fun _ h9 => h9) rfl d_BlockCodeModel_add_2 ?_
  refine lv_if_eq (tgt := 12) hx hb d_BlockCodeModel_add_5 (by decide) (fun hc => ?_) (fun hc => ?_)
  · have hm := ift hc hm
    refine lv_iconst (v := (0 : Int32)) hx hb d_BlockCodeModel_add_12 (by decide) ?_
    exact w_BlockCodeModel_add_13 S hr hlk hK hA qt qt_code qt_inputs qt_reached qt_isInt qt_fact qt_need qt_leader qt_kind qt_left qt_right qt_hold qt_risk qt_risks qt_end qt_to qt_symbol qt_place qt_register p1 p2 p3 p4 t_sealed t_good t_symbols t_set t_steps t_ended o_r o_t_code o_t_size o_t_thrown hQ H locs ls (0 : Int32) t_code t_size t_thrown (lv_sub hl [0, 1, 2, 3, 4] rfl) hP hD hS hm
  · have hm := iff_ hc hm
    refine lv_iconst (v := (1 : Int32)) hx hb d_BlockCodeModel_add_8 (by decide) ?_
    refine lv_goto (tgt := 13) hx hb d_BlockCodeModel_add_9 (by decide) ?_
    exact w_BlockCodeModel_add_13 S hr hlk hK hA qt qt_code qt_inputs qt_reached qt_isInt qt_fact qt_need qt_leader qt_kind qt_left qt_right qt_hold qt_risk qt_risks qt_end qt_to qt_symbol qt_place qt_register p1 p2 p3 p4 t_sealed t_good t_symbols t_set t_steps t_ended o_r o_t_code o_t_size o_t_thrown hQ H locs ls (1 : Int32) t_code t_size t_thrown (lv_sub hl [0, 1, 2, 3, 4] rfl) hP hD hS hm
set_option maxHeartbeats 4000000 in
set_option maxRecDepth 100000 in
theorem c_BlockCodeModel_add (l : Launch) (D : va_G) (cI cJ cZ : ClassId) (qt : Nat) (qt_code : Nat) (qt_inputs : Nat) (qt_reached : Nat) (qt_isInt : Nat) (qt_fact : Nat) (qt_need : Nat) (qt_leader : Nat) (qt_kind : Nat) (qt_left : Nat) (qt_right : Nat) (qt_hold : Nat) (qt_risk : Nat) (qt_risks : Nat) (qt_end : Nat) (qt_to : Nat) (qt_symbol : Nat) (qt_place : Nat) (qt_register : Nat) (t_size : Int32) (t_thrown : Int32) (t_sealed : Int32) (t_good : Int32) (t_symbols : Int32) (t_set : Int32) (t_steps : Int32) (t_ended : Int32) (t_code : Nat → Int32) (p1 : Int32) (p2 : Int32) (p3 : Int32) (p4 : Int32) (o_r : Int32) (o_t_code : Nat → Int32) (o_t_size : Int32) (o_t_thrown : Int32) (hm : f_BlockCodeModel_add p1 p2 p3 p4 t_sealed t_code t_size t_thrown = some (o_r, o_t_code, o_t_size, o_t_thrown)) : MI l y_BlockCodeModel_add b_BlockCodeModel_add 5 .int rm_BlockCodeModel_add D cI cJ cZ [.ref qt, .int p1, .int p2, .int p3, .int p4] (ww_BlockCodeModel_add cI cJ cZ qt qt_code qt_inputs qt_reached qt_isInt qt_fact qt_need qt_leader qt_kind qt_left qt_right qt_hold qt_risk qt_risks qt_end qt_to qt_symbol qt_place qt_register t_size t_thrown t_sealed t_good t_symbols t_set t_steps t_ended t_code) (ww_BlockCodeModel_add cI cJ cZ qt qt_code qt_inputs qt_reached qt_isInt qt_fact qt_need qt_leader qt_kind qt_left qt_right qt_hold qt_risk qt_risks qt_end qt_to qt_symbol qt_place qt_register o_t_size o_t_thrown t_sealed t_good t_symbols t_set t_steps t_ended o_t_code) o_r := by
  intro sz
  refine Met.ofW (cc := b_BlockCodeModel_add) (maxL := 5) (ret := (some .int)) (by decide) rfl ?_
  intro p e s m args below meth c s₁ B hml hv
  obtain ⟨rfl, hsz, hP, hK, hD0⟩ := hv
  have hts := atoms_spec (ws := Cond.code y_BlockCodeModel_add b_BlockCodeModel_add 5 (some .int) :: tbg) B.pre
  have S : CallFix p m c b_BlockCodeModel_add 5 s ([.ref qt, .int p1, .int p2, .int p3, .int p4] : List Value).toArray tbg R_BlockCodeModel := ⟨B.exec, B.bytes, hml, findClass_of_methodNamed B.named, fun w hw => hts w (List.mem_cons_of_mem _ hw)⟩
  subst hsz
  have hD := hD0.self (sz := s.heap.size)
  have hl := lv_entry ([.ref qt, .int p1, .int p2, .int p3, .int p4] : List Value) (n := 5) (Nat.le_of_ble_eq_true rfl)
  rw [lg_entry_eq]
  generalize (lg_sl ([.ref qt, .int p1, .int p2, .int p3, .int p4] : List Value) ++ List.replicate (5 - (lg_sl ([.ref qt, .int p1, .int p2, .int p3, .int p4] : List Value)).length) Slot.unset).toArray = ls at hl ⊢
  have hl : lv_has ls 5 [(0, .ref qt), (1, .int p1), (2, .int p2), (3, .int p3), (4, .int p4)] := hl
  exact w_BlockCodeModel_add S B.returns B.notSynchronized hK (fun q h => Or.inr h) qt qt_code qt_inputs qt_reached qt_isInt qt_fact qt_need qt_leader qt_kind qt_left qt_right qt_hold qt_risk qt_risks qt_end qt_to qt_symbol qt_place qt_register p1 p2 p3 p4 t_sealed t_good t_symbols t_set t_steps t_ended o_r o_t_code o_t_size o_t_thrown (fun t H locs ht hW hP hS => ⟨⟨_, (), rfl, rfl, sB_of ht hP⟩, hS.F ht⟩) t_code t_size t_thrown s.heap [] ls hl hP hD va_S.rf hm
set_option maxHeartbeats 4000000 in
set_option maxRecDepth 100000 in
theorem w_BlockCodeModel_clear {p : Program} {l : Launch} {e : Env} {s : State} {m : MethodId} {args : Array Value} {below : List Frame} {meth : Method} {c : Code} {D : va_G} {cI cJ cZ : ClassId} {A : Nat → Prop} {Qc : Array Value → State → Outcome → State → Prop} (S : CallFix p m c b_BlockCodeModel_clear 1 s args tbg R_BlockCodeModel) (hr : meth.sig.returnType = none) (hlk : meth.locks = false) (hK : kx D cI cJ cZ s) (hA : ∀ q, s.heap.size ≤ q → A q) (qt : Nat) (qt_code : Nat) (qt_inputs : Nat) (qt_reached : Nat) (qt_isInt : Nat) (qt_fact : Nat) (qt_need : Nat) (qt_leader : Nat) (qt_kind : Nat) (qt_left : Nat) (qt_right : Nat) (qt_hold : Nat) (qt_risk : Nat) (qt_risks : Nat) (qt_end : Nat) (qt_to : Nat) (qt_symbol : Nat) (qt_place : Nat) (qt_register : Nat) (t_symbols : Int32) (t_set : Int32) (t_steps : Int32) (t_ended : Int32) (o_t_size : Int32) (o_t_thrown : Int32) (o_t_sealed : Int32) (o_t_good : Int32) (hQ : ∀ (t : State) (H : Heap) (locs : List Loc), t.heap = H → s.WarmedH t.vm → va_P D classes (ww_BlockCodeModel_clear cI cJ cZ qt qt_code qt_inputs qt_reached qt_isInt qt_fact qt_need qt_leader qt_kind qt_left qt_right qt_hold qt_risk qt_risks qt_end qt_to qt_symbol qt_place qt_register o_t_size o_t_thrown o_t_sealed o_t_good t_symbols t_set t_steps t_ended) H → va_S A s.heap H locs → Qc args s (.returned none) t) (t_size : Int32) (t_thrown : Int32) (t_sealed : Int32) (t_good : Int32) (H : Heap) (locs : List Loc) (ls : Array Slot) (hl : lv_has ls 1 [(0, .ref qt)]) (hP : va_P D classes (ww_BlockCodeModel_clear cI cJ cZ qt qt_code qt_inputs qt_reached qt_isInt qt_fact qt_need qt_leader qt_kind qt_left qt_right qt_hold qt_risk qt_risks qt_end qt_to qt_symbol qt_place qt_register t_size t_thrown t_sealed t_good t_symbols t_set t_steps t_ended) H) (hD : va_D A (ww_BlockCodeModel_clear cI cJ cZ qt qt_code qt_inputs qt_reached qt_isInt qt_fact qt_need qt_leader qt_kind qt_left qt_right qt_hold qt_risk qt_risks qt_end qt_to qt_symbol qt_place qt_register t_size t_thrown t_sealed t_good t_symbols t_set t_steps t_ended)) (hS : va_S A s.heap H locs) (hm : f_BlockCodeModel_clear t_size t_thrown t_sealed t_good = some (o_t_size, o_t_thrown, o_t_sealed, o_t_good)) : W p l e rm_BlockCodeModel_clear s m args below meth c H locs 0 0 (MQ below Qc args s 0 0 A) (F0 m 0 ls []) := by
  obtain ⟨hx, hb, hml, hown, hts⟩ := id S
  unfold f_BlockCodeModel_clear at hm
  refine lv_aload_n hx hb d_BlockCodeModel_clear_0 rfl (lv_at hl 0 rfl) ?_
  refine lv_iconst (v := (0 : Int32)) hx hb d_BlockCodeModel_clear_1 (by decide) ?_
  refine va_put (D := D) (ci := 6) (v := .int (0 : Int32)) (ty := .int) (C := R_BlockCodeModel) (T := T_BlockCodeModel) (N := 26) hx hb hts in_BlockCodeModel ty_BlockCodeModel tyok_BlockCodeModel nm_BlockCodeModel hown hK.1 hP hD hS 0 rfl rfl 2 (by decide) (hts _ a_663) (fun _ h9 => h9) rfl (by decide +kernel) rfl rfl (Nat.le_of_ble_eq_true rfl) d_BlockCodeModel_clear_2 (fun H locs hP hD hS => ?_)
  have hP : va_P D classes (ww_BlockCodeModel_clear cI cJ cZ qt qt_code qt_inputs qt_reached qt_isInt qt_fact qt_need qt_leader qt_kind qt_left qt_right qt_hold qt_risk qt_risks qt_end qt_to qt_symbol qt_place qt_register t_size (0 : Int32) t_sealed t_good t_symbols t_set t_steps t_ended) H := hP
  have hD : va_D A (ww_BlockCodeModel_clear cI cJ cZ qt qt_code qt_inputs qt_reached qt_isInt qt_fact qt_need qt_leader qt_kind qt_left qt_right qt_hold qt_risk qt_risks qt_end qt_to qt_symbol qt_place qt_register t_size (0 : Int32) t_sealed t_good t_symbols t_set t_steps t_ended) := hD
  refine lv_aload_n hx hb d_BlockCodeModel_clear_5 rfl (lv_at hl 0 rfl) ?_
  refine lv_iconst (v := (0 : Int32)) hx hb d_BlockCodeModel_clear_6 (by decide) ?_
  refine va_put (D := D) (ci := 6) (v := .int (0 : Int32)) (ty := .int) (C := R_BlockCodeModel) (T := T_BlockCodeModel) (N := 26) hx hb hts in_BlockCodeModel ty_BlockCodeModel tyok_BlockCodeModel nm_BlockCodeModel hown hK.1 hP hD hS 0 rfl rfl 1 (by decide) (hts _ a_662) (fun _ h9 => h9) rfl (by decide +kernel) rfl rfl (Nat.le_of_ble_eq_true rfl) d_BlockCodeModel_clear_7 (fun H locs hP hD hS => ?_)
  have hP : va_P D classes (ww_BlockCodeModel_clear cI cJ cZ qt qt_code qt_inputs qt_reached qt_isInt qt_fact qt_need qt_leader qt_kind qt_left qt_right qt_hold qt_risk qt_risks qt_end qt_to qt_symbol qt_place qt_register (0 : Int32) (0 : Int32) t_sealed t_good t_symbols t_set t_steps t_ended) H := hP
  have hD : va_D A (ww_BlockCodeModel_clear cI cJ cZ qt qt_code qt_inputs qt_reached qt_isInt qt_fact qt_need qt_leader qt_kind qt_left qt_right qt_hold qt_risk qt_risks qt_end qt_to qt_symbol qt_place qt_register (0 : Int32) (0 : Int32) t_sealed t_good t_symbols t_set t_steps t_ended) := hD
  refine lv_aload_n hx hb d_BlockCodeModel_clear_10 rfl (lv_at hl 0 rfl) ?_
  refine lv_iconst (v := (0 : Int32)) hx hb d_BlockCodeModel_clear_11 (by decide) ?_
  refine va_put (D := D) (ci := 6) (v := .int (0 : Int32)) (ty := .boolean) (C := R_BlockCodeModel) (T := T_BlockCodeModel) (N := 26) hx hb hts in_BlockCodeModel ty_BlockCodeModel tyok_BlockCodeModel nm_BlockCodeModel hown hK.1 hP hD hS 0 rfl rfl 3 (by decide) (hts _ a_664) (fun _ h9 => h9) rfl (by decide +kernel) rfl rfl (Nat.le_of_ble_eq_true rfl) d_BlockCodeModel_clear_12 (fun H locs hP hD hS => ?_)
  have hP : va_P D classes (ww_BlockCodeModel_clear cI cJ cZ qt qt_code qt_inputs qt_reached qt_isInt qt_fact qt_need qt_leader qt_kind qt_left qt_right qt_hold qt_risk qt_risks qt_end qt_to qt_symbol qt_place qt_register (0 : Int32) (0 : Int32) (0 : Int32) t_good t_symbols t_set t_steps t_ended) H := hP
  have hD : va_D A (ww_BlockCodeModel_clear cI cJ cZ qt qt_code qt_inputs qt_reached qt_isInt qt_fact qt_need qt_leader qt_kind qt_left qt_right qt_hold qt_risk qt_risks qt_end qt_to qt_symbol qt_place qt_register (0 : Int32) (0 : Int32) (0 : Int32) t_good t_symbols t_set t_steps t_ended) := hD
  refine lv_aload_n hx hb d_BlockCodeModel_clear_15 rfl (lv_at hl 0 rfl) ?_
  refine lv_iconst (v := (0 : Int32)) hx hb d_BlockCodeModel_clear_16 (by decide) ?_
  refine va_put (D := D) (ci := 6) (v := .int (0 : Int32)) (ty := .boolean) (C := R_BlockCodeModel) (T := T_BlockCodeModel) (N := 26) hx hb hts in_BlockCodeModel ty_BlockCodeModel tyok_BlockCodeModel nm_BlockCodeModel hown hK.1 hP hD hS 0 rfl rfl 4 (by decide) (hts _ a_665) (fun _ h9 => h9) rfl (by decide +kernel) rfl rfl (Nat.le_of_ble_eq_true rfl) d_BlockCodeModel_clear_17 (fun H locs hP hD hS => ?_)
  have hP : va_P D classes (ww_BlockCodeModel_clear cI cJ cZ qt qt_code qt_inputs qt_reached qt_isInt qt_fact qt_need qt_leader qt_kind qt_left qt_right qt_hold qt_risk qt_risks qt_end qt_to qt_symbol qt_place qt_register (0 : Int32) (0 : Int32) (0 : Int32) (0 : Int32) t_symbols t_set t_steps t_ended) H := hP
  have hD : va_D A (ww_BlockCodeModel_clear cI cJ cZ qt qt_code qt_inputs qt_reached qt_isInt qt_fact qt_need qt_leader qt_kind qt_left qt_right qt_hold qt_risk qt_risks qt_end qt_to qt_symbol qt_place qt_register (0 : Int32) (0 : Int32) (0 : Int32) (0 : Int32) t_symbols t_set t_steps t_ended) := hD
  cases hm
  exact W.vret hx hb hr (fun t ht hW => hQ t _ _ ht hW hP hS) hS.2.2 d_BlockCodeModel_clear_20 hlk
set_option maxHeartbeats 4000000 in
set_option maxRecDepth 100000 in
theorem c_BlockCodeModel_clear (l : Launch) (D : va_G) (cI cJ cZ : ClassId) (qt : Nat) (qt_code : Nat) (qt_inputs : Nat) (qt_reached : Nat) (qt_isInt : Nat) (qt_fact : Nat) (qt_need : Nat) (qt_leader : Nat) (qt_kind : Nat) (qt_left : Nat) (qt_right : Nat) (qt_hold : Nat) (qt_risk : Nat) (qt_risks : Nat) (qt_end : Nat) (qt_to : Nat) (qt_symbol : Nat) (qt_place : Nat) (qt_register : Nat) (t_size : Int32) (t_thrown : Int32) (t_sealed : Int32) (t_good : Int32) (t_symbols : Int32) (t_set : Int32) (t_steps : Int32) (t_ended : Int32) (o_t_size : Int32) (o_t_thrown : Int32) (o_t_sealed : Int32) (o_t_good : Int32) (hm : f_BlockCodeModel_clear t_size t_thrown t_sealed t_good = some (o_t_size, o_t_thrown, o_t_sealed, o_t_good)) : MV l y_BlockCodeModel_clear b_BlockCodeModel_clear 1 rm_BlockCodeModel_clear D cI cJ cZ [.ref qt] (ww_BlockCodeModel_clear cI cJ cZ qt qt_code qt_inputs qt_reached qt_isInt qt_fact qt_need qt_leader qt_kind qt_left qt_right qt_hold qt_risk qt_risks qt_end qt_to qt_symbol qt_place qt_register t_size t_thrown t_sealed t_good t_symbols t_set t_steps t_ended) (ww_BlockCodeModel_clear cI cJ cZ qt qt_code qt_inputs qt_reached qt_isInt qt_fact qt_need qt_leader qt_kind qt_left qt_right qt_hold qt_risk qt_risks qt_end qt_to qt_symbol qt_place qt_register o_t_size o_t_thrown o_t_sealed o_t_good t_symbols t_set t_steps t_ended) := by
  intro sz
  refine Met.ofW (cc := b_BlockCodeModel_clear) (maxL := 1) (ret := none) (by decide) rfl ?_
  intro p e s m args below meth c s₁ B hml hv
  obtain ⟨rfl, hsz, hP, hK, hD0⟩ := hv
  have hts := atoms_spec (ws := Cond.code y_BlockCodeModel_clear b_BlockCodeModel_clear 1 none :: tbg) B.pre
  have S : CallFix p m c b_BlockCodeModel_clear 1 s ([.ref qt] : List Value).toArray tbg R_BlockCodeModel := ⟨B.exec, B.bytes, hml, findClass_of_methodNamed B.named, fun w hw => hts w (List.mem_cons_of_mem _ hw)⟩
  subst hsz
  have hD := hD0.self (sz := s.heap.size)
  have hl := lv_entry ([.ref qt] : List Value) (n := 1) (Nat.le_of_ble_eq_true rfl)
  rw [lg_entry_eq]
  generalize (lg_sl ([.ref qt] : List Value) ++ List.replicate (1 - (lg_sl ([.ref qt] : List Value)).length) Slot.unset).toArray = ls at hl ⊢
  have hl : lv_has ls 1 [(0, .ref qt)] := hl
  exact w_BlockCodeModel_clear S B.returns B.notSynchronized hK (fun q h => Or.inr h) qt qt_code qt_inputs qt_reached qt_isInt qt_fact qt_need qt_leader qt_kind qt_left qt_right qt_hold qt_risk qt_risks qt_end qt_to qt_symbol qt_place qt_register t_symbols t_set t_steps t_ended o_t_size o_t_thrown o_t_sealed o_t_good (fun t H locs ht hW hP hS => ⟨⟨(), rfl, trivial, sB_of ht hP⟩, hS.F ht⟩) t_size t_thrown t_sealed t_good s.heap [] ls hl hP hD va_S.rf hm
set_option maxHeartbeats 4000000 in
set_option maxRecDepth 100000 in
theorem w_BlockCodeModel_copy_2 {p : Program} {l : Launch} {e : Env} {s : State} {m : MethodId} {args : Array Value} {below : List Frame} {meth : Method} {c : Code} {D : va_G} {cI cJ cZ : ClassId} {A : Nat → Prop} {Qc : Array Value → State → Outcome → State → Prop} (S : CallFix p m c b_BlockCodeModel_copy 4 s args tbg R_BlockCodeModel) (hr : meth.sig.returnType = none) (hlk : meth.locks = false) (hK : kx D cI cJ cZ s) (hA : ∀ q, s.heap.size ≤ q → A q) (qt : Nat) (qt_code : Nat) (qt_inputs : Nat) (qt_reached : Nat) (qt_isInt : Nat) (qt_fact : Nat) (qt_need : Nat) (qt_leader : Nat) (qt_kind : Nat) (qt_left : Nat) (qt_right : Nat) (qt_hold : Nat) (qt_risk : Nat) (qt_risks : Nat) (qt_end : Nat) (qt_to : Nat) (qt_symbol : Nat) (qt_place : Nat) (qt_register : Nat) (p1 : Int32) (p2 : Int32) (t_size : Int32) (t_thrown : Int32) (t_sealed : Int32) (t_good : Int32) (t_symbols : Int32) (t_set : Int32) (t_steps : Int32) (t_ended : Int32) (o_t_code : Nat → Int32) (hQ : ∀ (t : State) (H : Heap) (locs : List Loc), t.heap = H → s.WarmedH t.vm → va_P D classes (ww_BlockCodeModel_copy cI cJ cZ qt qt_code qt_inputs qt_reached qt_isInt qt_fact qt_need qt_leader qt_kind qt_left qt_right qt_hold qt_risk qt_risks qt_end qt_to qt_symbol qt_place qt_register t_size t_thrown t_sealed t_good t_symbols t_set t_steps t_ended o_t_code) H → va_S A s.heap H locs → Qc args s (.returned none) t) (n : Nat) : ∀ (H : Heap) (locs : List Loc) (ls : Array Slot) (x3 : Int32) (t_code : Nat → Int32), lv_has ls 4 [(0, .ref qt), (1, .int p1), (2, .int p2), (3, .int x3)] → va_P D classes (ww_BlockCodeModel_copy cI cJ cZ qt qt_code qt_inputs qt_reached qt_isInt qt_fact qt_need qt_leader qt_kind qt_left qt_right qt_hold qt_risk qt_risks qt_end qt_to qt_symbol qt_place qt_register t_size t_thrown t_sealed t_good t_symbols t_set t_steps t_ended t_code) H → va_D A (ww_BlockCodeModel_copy cI cJ cZ qt qt_code qt_inputs qt_reached qt_isInt qt_fact qt_need qt_leader qt_kind qt_left qt_right qt_hold qt_risk qt_risks qt_end qt_to qt_symbol qt_place qt_register t_size t_thrown t_sealed t_good t_symbols t_set t_steps t_ended t_code) → va_S A s.heap H locs → f_BlockCodeModel_copy_2 p1 p2 t_size n x3 t_code = some o_t_code → W p l e rm_BlockCodeModel_copy s m args below meth c H locs 0 0 (MQ below Qc args s 0 0 A) (F0 m 2 ls []) := by
  obtain ⟨hx, hb, hml, hown, hts⟩ := id S
  induction n with
  | zero =>
    intro H locs ls x3 t_code hl hP hD hS hm
    rw [f_BlockCodeModel_copy_2] at hm
    cases hm
  | succ n ih =>
    intro H locs ls x3 t_code hl hP hD hS hm
    rw [f_BlockCodeModel_copy_2] at hm
    refine lv_iload_n hx hb d_BlockCodeModel_copy_2 rfl (lv_at hl 3 rfl) ?_
    refine lv_iconst (v := (4 : Int32)) hx hb d_BlockCodeModel_copy_3 (by decide) ?_
    refine lv_aload_n hx hb d_BlockCodeModel_copy_4 rfl (lv_at hl 0 rfl) ?_
    refine va_get (D := D) (ci := 6) (v := .int t_size) (C := R_BlockCodeModel) (T := T_BlockCodeModel) (N := 26) hx hb hts in_BlockCodeModel hown hK.1 hP 0 rfl rfl 1 (by decide) (hts _ a_662) (fun _ h9 => h9) rfl d_BlockCodeModel_copy_5 ?_
    refine lv_imul hx hb d_BlockCodeModel_copy_8 ?_
    refine lv_icmp_ge (tgt := 40) hx hb d_BlockCodeModel_copy_9 (by decide) (fun hc => ?_) (fun hc => ?_)
    · have hm := ift hc hm
      cases hm
      exact W.vret hx hb hr (fun t ht hW => hQ t _ _ ht hW hP hS) hS.2.2 d_BlockCodeModel_copy_40 hlk
    · have hm := iff_ hc hm
      refine lv_aload_n hx hb d_BlockCodeModel_copy_12 rfl (lv_at hl 0 rfl) ?_
      refine va_get (D := D) (ci := 6) (v := .ref qt_code) (C := R_BlockCodeModel) (T := T_BlockCodeModel) (N := 26) hx hb hts in_BlockCodeModel hown hK.1 hP 0 rfl rfl 0 (by decide) (hts _ a_661) (fun _ h9 => h9) rfl d_BlockCodeModel_copy_13 ?_
      refine lv_bipush (v := (80 : Int32)) hx hb d_BlockCodeModel_copy_16 (by decide) ?_
      refine lv_iload_n hx hb d_BlockCodeModel_copy_18 rfl (lv_at hl 2 rfl) ?_
      refine lv_imul hx hb d_BlockCodeModel_copy_19 ?_
      refine lv_iload_n hx hb d_BlockCodeModel_copy_20 rfl (lv_at hl 3 rfl) ?_
      refine lv_iadd hx hb d_BlockCodeModel_copy_21 ?_
      refine lv_aload_n hx hb d_BlockCodeModel_copy_22 rfl (lv_at hl 0 rfl) ?_
      refine va_get (D := D) (ci := 6) (v := .ref qt_code) (C := R_BlockCodeModel) (T := T_BlockCodeModel) (N := 26) hx hb hts in_BlockCodeModel hown hK.1 hP 0 rfl rfl 0 (by decide) (hts _ a_661) (fun _ h9 => h9) rfl d_BlockCodeModel_copy_23 ?_
      refine lv_bipush (v := (80 : Int32)) hx hb d_BlockCodeModel_copy_26 (by decide) ?_
      refine lv_iload_n hx hb d_BlockCodeModel_copy_28 rfl (lv_at hl 1 rfl) ?_
      refine lv_imul hx hb d_BlockCodeModel_copy_29 ?_
      refine lv_iload_n hx hb d_BlockCodeModel_copy_30 rfl (lv_at hl 3 rfl) ?_
      refine lv_iadd hx hb d_BlockCodeModel_copy_31 ?_
      obtain ⟨v1, e_v1, hm⟩ := ob hm
      refine vx_iald hx hb hK hP 1 rfl e_v1 d_BlockCodeModel_copy_32 ?_
      obtain ⟨w2, e_w2, hm⟩ := ob hm
      refine vx_iast hx hb hK hP hD hS 1 rfl e_w2 d_BlockCodeModel_copy_33 (fun H locs hP hD hS => ?_)
      have hP : va_P D classes (ww_BlockCodeModel_copy cI cJ cZ qt qt_code qt_inputs qt_reached qt_isInt qt_fact qt_need qt_leader qt_kind qt_left qt_right qt_hold qt_risk qt_risks qt_end qt_to qt_symbol qt_place qt_register t_size t_thrown t_sealed t_good t_symbols t_set t_steps t_ended w2) H := hP
      have hD : va_D A (ww_BlockCodeModel_copy cI cJ cZ qt qt_code qt_inputs qt_reached qt_isInt qt_fact qt_need qt_leader qt_kind qt_left qt_right qt_hold qt_risk qt_risks qt_end qt_to qt_symbol qt_place qt_register t_size t_thrown t_sealed t_good t_symbols t_set t_steps t_ended w2) := hD
      refine lv_iinc (k := 3) (v := (x3 + (1 : Int32))) hx hb d_BlockCodeModel_copy_34 hl rfl (iinc_v (by decide)) (by decide) rfl (fun ls hl => ?_)
      have hl : lv_has ls 4 [(3, .int (x3 + (1 : Int32))), (0, .ref qt), (1, .int p1), (2, .int p2)] := hl
      refine lv_goto (tgt := 2) hx hb d_BlockCodeModel_copy_37 (by decide) ?_
      exact ih H locs ls (x3 + (1 : Int32)) w2 (lv_sub hl [1, 2, 3, 0] rfl) hP hD hS hm
set_option maxHeartbeats 4000000 in
set_option maxRecDepth 100000 in
theorem w_BlockCodeModel_copy {p : Program} {l : Launch} {e : Env} {s : State} {m : MethodId} {args : Array Value} {below : List Frame} {meth : Method} {c : Code} {D : va_G} {cI cJ cZ : ClassId} {A : Nat → Prop} {Qc : Array Value → State → Outcome → State → Prop} (S : CallFix p m c b_BlockCodeModel_copy 4 s args tbg R_BlockCodeModel) (hr : meth.sig.returnType = none) (hlk : meth.locks = false) (hK : kx D cI cJ cZ s) (hA : ∀ q, s.heap.size ≤ q → A q) (qt : Nat) (qt_code : Nat) (qt_inputs : Nat) (qt_reached : Nat) (qt_isInt : Nat) (qt_fact : Nat) (qt_need : Nat) (qt_leader : Nat) (qt_kind : Nat) (qt_left : Nat) (qt_right : Nat) (qt_hold : Nat) (qt_risk : Nat) (qt_risks : Nat) (qt_end : Nat) (qt_to : Nat) (qt_symbol : Nat) (qt_place : Nat) (qt_register : Nat) (p1 : Int32) (p2 : Int32) (t_size : Int32) (t_thrown : Int32) (t_sealed : Int32) (t_good : Int32) (t_symbols : Int32) (t_set : Int32) (t_steps : Int32) (t_ended : Int32) (o_t_code : Nat → Int32) (hQ : ∀ (t : State) (H : Heap) (locs : List Loc), t.heap = H → s.WarmedH t.vm → va_P D classes (ww_BlockCodeModel_copy cI cJ cZ qt qt_code qt_inputs qt_reached qt_isInt qt_fact qt_need qt_leader qt_kind qt_left qt_right qt_hold qt_risk qt_risks qt_end qt_to qt_symbol qt_place qt_register t_size t_thrown t_sealed t_good t_symbols t_set t_steps t_ended o_t_code) H → va_S A s.heap H locs → Qc args s (.returned none) t) (t_code : Nat → Int32) (H : Heap) (locs : List Loc) (ls : Array Slot) (hl : lv_has ls 4 [(0, .ref qt), (1, .int p1), (2, .int p2)]) (hP : va_P D classes (ww_BlockCodeModel_copy cI cJ cZ qt qt_code qt_inputs qt_reached qt_isInt qt_fact qt_need qt_leader qt_kind qt_left qt_right qt_hold qt_risk qt_risks qt_end qt_to qt_symbol qt_place qt_register t_size t_thrown t_sealed t_good t_symbols t_set t_steps t_ended t_code) H) (hD : va_D A (ww_BlockCodeModel_copy cI cJ cZ qt qt_code qt_inputs qt_reached qt_isInt qt_fact qt_need qt_leader qt_kind qt_left qt_right qt_hold qt_risk qt_risks qt_end qt_to qt_symbol qt_place qt_register t_size t_thrown t_sealed t_good t_symbols t_set t_steps t_ended t_code)) (hS : va_S A s.heap H locs) (hm : f_BlockCodeModel_copy p1 p2 t_size t_code = some o_t_code) : W p l e rm_BlockCodeModel_copy s m args below meth c H locs 0 0 (MQ below Qc args s 0 0 A) (F0 m 0 ls []) := by
  obtain ⟨hx, hb, hml, hown, hts⟩ := id S
  unfold f_BlockCodeModel_copy at hm
  refine lv_iconst (v := (0 : Int32)) hx hb d_BlockCodeModel_copy_0 (by decide) ?_
  refine lv_istore_n hx hb d_BlockCodeModel_copy_1 rfl hl (by decide) rfl (fun ls hl => ?_)
  have hl : lv_has ls 4 [(3, .int (0 : Int32)), (0, .ref qt), (1, .int p1), (2, .int p2)] := hl
  exact w_BlockCodeModel_copy_2 S hr hlk hK hA qt qt_code qt_inputs qt_reached qt_isInt qt_fact qt_need qt_leader qt_kind qt_left qt_right qt_hold qt_risk qt_risks qt_end qt_to qt_symbol qt_place qt_register p1 p2 t_size t_thrown t_sealed t_good t_symbols t_set t_steps t_ended o_t_code hQ fu H locs ls (0 : Int32) t_code (lv_sub hl [1, 2, 3, 0] rfl) hP hD hS hm
set_option maxHeartbeats 4000000 in
set_option maxRecDepth 100000 in
theorem c_BlockCodeModel_copy (l : Launch) (D : va_G) (cI cJ cZ : ClassId) (qt : Nat) (qt_code : Nat) (qt_inputs : Nat) (qt_reached : Nat) (qt_isInt : Nat) (qt_fact : Nat) (qt_need : Nat) (qt_leader : Nat) (qt_kind : Nat) (qt_left : Nat) (qt_right : Nat) (qt_hold : Nat) (qt_risk : Nat) (qt_risks : Nat) (qt_end : Nat) (qt_to : Nat) (qt_symbol : Nat) (qt_place : Nat) (qt_register : Nat) (t_size : Int32) (t_thrown : Int32) (t_sealed : Int32) (t_good : Int32) (t_symbols : Int32) (t_set : Int32) (t_steps : Int32) (t_ended : Int32) (t_code : Nat → Int32) (p1 : Int32) (p2 : Int32) (o_t_code : Nat → Int32) (hm : f_BlockCodeModel_copy p1 p2 t_size t_code = some o_t_code) : MV l y_BlockCodeModel_copy b_BlockCodeModel_copy 4 rm_BlockCodeModel_copy D cI cJ cZ [.ref qt, .int p1, .int p2] (ww_BlockCodeModel_copy cI cJ cZ qt qt_code qt_inputs qt_reached qt_isInt qt_fact qt_need qt_leader qt_kind qt_left qt_right qt_hold qt_risk qt_risks qt_end qt_to qt_symbol qt_place qt_register t_size t_thrown t_sealed t_good t_symbols t_set t_steps t_ended t_code) (ww_BlockCodeModel_copy cI cJ cZ qt qt_code qt_inputs qt_reached qt_isInt qt_fact qt_need qt_leader qt_kind qt_left qt_right qt_hold qt_risk qt_risks qt_end qt_to qt_symbol qt_place qt_register t_size t_thrown t_sealed t_good t_symbols t_set t_steps t_ended o_t_code) := by
  intro sz
  refine Met.ofW (cc := b_BlockCodeModel_copy) (maxL := 4) (ret := none) (by decide) rfl ?_
  intro p e s m args below meth c s₁ B hml hv
  obtain ⟨rfl, hsz, hP, hK, hD0⟩ := hv
  have hts := atoms_spec (ws := Cond.code y_BlockCodeModel_copy b_BlockCodeModel_copy 4 none :: tbg) B.pre
  have S : CallFix p m c b_BlockCodeModel_copy 4 s ([.ref qt, .int p1, .int p2] : List Value).toArray tbg R_BlockCodeModel := ⟨B.exec, B.bytes, hml, findClass_of_methodNamed B.named, fun w hw => hts w (List.mem_cons_of_mem _ hw)⟩
  subst hsz
  have hD := hD0.self (sz := s.heap.size)
  have hl := lv_entry ([.ref qt, .int p1, .int p2] : List Value) (n := 4) (Nat.le_of_ble_eq_true rfl)
  rw [lg_entry_eq]
  generalize (lg_sl ([.ref qt, .int p1, .int p2] : List Value) ++ List.replicate (4 - (lg_sl ([.ref qt, .int p1, .int p2] : List Value)).length) Slot.unset).toArray = ls at hl ⊢
  have hl : lv_has ls 4 [(0, .ref qt), (1, .int p1), (2, .int p2)] := hl
  exact w_BlockCodeModel_copy S B.returns B.notSynchronized hK (fun q h => Or.inr h) qt qt_code qt_inputs qt_reached qt_isInt qt_fact qt_need qt_leader qt_kind qt_left qt_right qt_hold qt_risk qt_risks qt_end qt_to qt_symbol qt_place qt_register p1 p2 t_size t_thrown t_sealed t_good t_symbols t_set t_steps t_ended o_t_code (fun t H locs ht hW hP hS => ⟨⟨(), rfl, trivial, sB_of ht hP⟩, hS.F ht⟩) t_code s.heap [] ls hl hP hD va_S.rf hm
set_option maxHeartbeats 4000000 in
set_option maxRecDepth 100000 in
theorem w_BlockCodeModel_ends_12 {p : Program} {l : Launch} {e : Env} {s : State} {m : MethodId} {args : Array Value} {below : List Frame} {meth : Method} {c : Code} {D : va_G} {cI cJ cZ : ClassId} {A : Nat → Prop} {Qc : Array Value → State → Outcome → State → Prop} (S : CallFix p m c b_BlockCodeModel_ends 1 s args tbg R_BlockCodeModel) (hr : meth.sig.returnType = (some .boolean)) (hlk : meth.locks = false) (hK : kx D cI cJ cZ s) (hA : ∀ q, s.heap.size ≤ q → A q) (p0 : Int32) (o_r : Int32) (hQ : ∀ (t : State) (H : Heap) (locs : List Loc), t.heap = H → s.WarmedH t.vm → va_P D classes (ww_BlockCodeModel_ends cI cJ cZ) H → va_S A s.heap H locs → Qc args s (.returned (some (.int o_r))) t) : ∀ (H : Heap) (locs : List Loc) (ls : Array Slot), lv_has ls 1 [] → va_P D classes (ww_BlockCodeModel_ends cI cJ cZ) H → va_D A (ww_BlockCodeModel_ends cI cJ cZ) → va_S A s.heap H locs → f_BlockCodeModel_ends_12 p0 = some o_r → W p l e rm_BlockCodeModel_ends s m args below meth c H locs 0 0 (MQ below Qc args s 0 0 A) (F0 m 12 ls []) := by
  obtain ⟨hx, hb, hml, hown, hts⟩ := id S
  intro H locs ls hl hP hD hS hm
  unfold f_BlockCodeModel_ends_12 at hm
  refine lv_iconst (v := (1 : Int32)) hx hb d_BlockCodeModel_ends_12 (by decide) ?_
  refine lv_goto (tgt := 17) hx hb d_BlockCodeModel_ends_13 (by decide) ?_
  cases hm
  exact W.zret hx hb hr rfl (fun t ht hW => hQ t _ _ ht hW hP hS) hS.2.2 d_BlockCodeModel_ends_17 hlk
set_option maxHeartbeats 4000000 in
set_option maxRecDepth 100000 in
theorem w_BlockCodeModel_ends {p : Program} {l : Launch} {e : Env} {s : State} {m : MethodId} {args : Array Value} {below : List Frame} {meth : Method} {c : Code} {D : va_G} {cI cJ cZ : ClassId} {A : Nat → Prop} {Qc : Array Value → State → Outcome → State → Prop} (S : CallFix p m c b_BlockCodeModel_ends 1 s args tbg R_BlockCodeModel) (hr : meth.sig.returnType = (some .boolean)) (hlk : meth.locks = false) (hK : kx D cI cJ cZ s) (hA : ∀ q, s.heap.size ≤ q → A q) (p0 : Int32) (o_r : Int32) (hQ : ∀ (t : State) (H : Heap) (locs : List Loc), t.heap = H → s.WarmedH t.vm → va_P D classes (ww_BlockCodeModel_ends cI cJ cZ) H → va_S A s.heap H locs → Qc args s (.returned (some (.int o_r))) t) (H : Heap) (locs : List Loc) (ls : Array Slot) (hl : lv_has ls 1 [(0, .int p0)]) (hP : va_P D classes (ww_BlockCodeModel_ends cI cJ cZ) H) (hD : va_D A (ww_BlockCodeModel_ends cI cJ cZ)) (hS : va_S A s.heap H locs) (hm : f_BlockCodeModel_ends p0 = some o_r) : W p l e rm_BlockCodeModel_ends s m args below meth c H locs 0 0 (MQ below Qc args s 0 0 A) (F0 m 0 ls []) := by
  obtain ⟨hx, hb, hml, hown, hts⟩ := id S
  unfold f_BlockCodeModel_ends at hm
  refine lv_iload_n hx hb d_BlockCodeModel_ends_0 rfl (lv_at hl 0 rfl) ?_
  refine lv_bipush (v := (8 : Int32)) hx hb d_BlockCodeModel_ends_1 (by decide) ?_
  refine lv_icmp_eq (tgt := 12) hx hb d_BlockCodeModel_ends_3 (by decide) (fun hc => ?_) (fun hc => ?_)
  · have hm := ift hc hm
    exact w_BlockCodeModel_ends_12 S hr hlk hK hA p0 o_r hQ H locs ls (lv_sub hl [] rfl) hP hD hS hm
  · have hm := iff_ hc hm
    refine lv_iload_n hx hb d_BlockCodeModel_ends_6 rfl (lv_at hl 0 rfl) ?_
    refine lv_bipush (v := (10 : Int32)) hx hb d_BlockCodeModel_ends_7 (by decide) ?_
    refine lv_icmp_ne (tgt := 16) hx hb d_BlockCodeModel_ends_9 (by decide) (fun hc => ?_) (fun hc => ?_)
    · have hm := iff_ hc hm
      refine lv_iconst (v := (0 : Int32)) hx hb d_BlockCodeModel_ends_16 (by decide) ?_
      cases hm
      exact W.zret hx hb hr rfl (fun t ht hW => hQ t _ _ ht hW hP hS) hS.2.2 d_BlockCodeModel_ends_17 hlk
    · have hm := ift hc hm
      exact w_BlockCodeModel_ends_12 S hr hlk hK hA p0 o_r hQ H locs ls (lv_sub hl [] rfl) hP hD hS hm
set_option maxHeartbeats 4000000 in
set_option maxRecDepth 100000 in
theorem c_BlockCodeModel_ends (l : Launch) (D : va_G) (cI cJ cZ : ClassId) (p0 : Int32) (o_r : Int32) (hm : f_BlockCodeModel_ends p0 = some o_r) : MI l y_BlockCodeModel_ends b_BlockCodeModel_ends 1 .boolean rm_BlockCodeModel_ends D cI cJ cZ [.int p0] (ww_BlockCodeModel_ends cI cJ cZ) (ww_BlockCodeModel_ends cI cJ cZ) o_r := by
  intro sz
  refine Met.ofW (cc := b_BlockCodeModel_ends) (maxL := 1) (ret := (some .boolean)) (by decide) rfl ?_
  intro p e s m args below meth c s₁ B hml hv
  obtain ⟨rfl, hsz, hP, hK, hD0⟩ := hv
  have hts := atoms_spec (ws := Cond.code y_BlockCodeModel_ends b_BlockCodeModel_ends 1 (some .boolean) :: tbg) B.pre
  have S : CallFix p m c b_BlockCodeModel_ends 1 s ([.int p0] : List Value).toArray tbg R_BlockCodeModel := ⟨B.exec, B.bytes, hml, findClass_of_methodNamed B.named, fun w hw => hts w (List.mem_cons_of_mem _ hw)⟩
  subst hsz
  have hD := hD0.self (sz := s.heap.size)
  have hl := lv_entry ([.int p0] : List Value) (n := 1) (Nat.le_of_ble_eq_true rfl)
  rw [lg_entry_eq]
  generalize (lg_sl ([.int p0] : List Value) ++ List.replicate (1 - (lg_sl ([.int p0] : List Value)).length) Slot.unset).toArray = ls at hl ⊢
  have hl : lv_has ls 1 [(0, .int p0)] := hl
  exact w_BlockCodeModel_ends S B.returns B.notSynchronized hK (fun q h => Or.inr h) p0 o_r (fun t H locs ht hW hP hS => ⟨⟨_, (), rfl, rfl, sB_of ht hP⟩, hS.F ht⟩) s.heap [] ls hl hP hD va_S.rf hm
set_option maxHeartbeats 4000000 in
set_option maxRecDepth 100000 in
theorem w_BlockCodeModel_findLeaders_22 {p : Program} {l : Launch} {e : Env} {s : State} {m : MethodId} {args : Array Value} {below : List Frame} {meth : Method} {c : Code} {D : va_G} {cI cJ cZ : ClassId} {A : Nat → Prop} {Qc : Array Value → State → Outcome → State → Prop} (S : CallFix p m c b_BlockCodeModel_findLeaders 3 s args tbg R_BlockCodeModel) (hr : meth.sig.returnType = none) (hlk : meth.locks = false) (hK : kx D cI cJ cZ s) (hA : ∀ q, s.heap.size ≤ q → A q) (qt : Nat) (qt_code : Nat) (qt_inputs : Nat) (qt_reached : Nat) (qt_isInt : Nat) (qt_fact : Nat) (qt_need : Nat) (qt_leader : Nat) (qt_kind : Nat) (qt_left : Nat) (qt_right : Nat) (qt_hold : Nat) (qt_risk : Nat) (qt_risks : Nat) (qt_end : Nat) (qt_to : Nat) (qt_symbol : Nat) (qt_place : Nat) (qt_register : Nat) (t_code : Nat → Int32) (t_size : Int32) (t_thrown : Int32) (t_sealed : Int32) (t_good : Int32) (t_symbols : Int32) (t_set : Int32) (t_steps : Int32) (t_ended : Int32) (o_t_leader : Nat → Int32) (hQ : ∀ (t : State) (H : Heap) (locs : List Loc), t.heap = H → s.WarmedH t.vm → va_P D classes (ww_BlockCodeModel_findLeaders cI cJ cZ qt qt_code qt_inputs qt_reached qt_isInt qt_fact qt_need qt_leader qt_kind qt_left qt_right qt_hold qt_risk qt_risks qt_end qt_to qt_symbol qt_place qt_register t_size t_thrown t_sealed t_good t_symbols t_set t_steps t_ended t_code o_t_leader) H → va_S A s.heap H locs → Qc args s (.returned none) t) (k2 : Int32 → (Nat → Int32) → Option ((Nat → Int32))) (hk2 : ∀ (H : Heap) (locs : List Loc) (ls : Array Slot) (x1 : Int32) (t_leader : Nat → Int32), lv_has ls 3 [(0, .ref qt), (1, .int x1)] → va_P D classes (ww_BlockCodeModel_findLeaders cI cJ cZ qt qt_code qt_inputs qt_reached qt_isInt qt_fact qt_need qt_leader qt_kind qt_left qt_right qt_hold qt_risk qt_risks qt_end qt_to qt_symbol qt_place qt_register t_size t_thrown t_sealed t_good t_symbols t_set t_steps t_ended t_code t_leader) H → va_D A (ww_BlockCodeModel_findLeaders cI cJ cZ qt qt_code qt_inputs qt_reached qt_isInt qt_fact qt_need qt_leader qt_kind qt_left qt_right qt_hold qt_risk qt_risks qt_end qt_to qt_symbol qt_place qt_register t_size t_thrown t_sealed t_good t_symbols t_set t_steps t_ended t_code t_leader) → va_S A s.heap H locs → k2 x1 t_leader = some o_t_leader → W p l e rm_BlockCodeModel_findLeaders s m args below meth c H locs 0 0 (MQ below Qc args s 0 0 A) (F0 m 2 ls [])) : ∀ (H : Heap) (locs : List Loc) (ls : Array Slot) (x1 : Int32) (s0 : Int32) (s1 : Int32) (t_leader : Nat → Int32), lv_has ls 3 [(0, .ref qt), (1, .int x1)] → va_P D classes (ww_BlockCodeModel_findLeaders cI cJ cZ qt qt_code qt_inputs qt_reached qt_isInt qt_fact qt_need qt_leader qt_kind qt_left qt_right qt_hold qt_risk qt_risks qt_end qt_to qt_symbol qt_place qt_register t_size t_thrown t_sealed t_good t_symbols t_set t_steps t_ended t_code t_leader) H → va_D A (ww_BlockCodeModel_findLeaders cI cJ cZ qt qt_code qt_inputs qt_reached qt_isInt qt_fact qt_need qt_leader qt_kind qt_left qt_right qt_hold qt_risk qt_risks qt_end qt_to qt_symbol qt_place qt_register t_size t_thrown t_sealed t_good t_symbols t_set t_steps t_ended t_code t_leader) → va_S A s.heap H locs → f_BlockCodeModel_findLeaders_22 t_code t_size k2 x1 s0 s1 t_leader = some o_t_leader → W p l e rm_BlockCodeModel_findLeaders s m args below meth c H locs 0 0 (MQ below Qc args s 0 0 A) (F0 m 22 ls [.int s0, .int s1, .ref qt_leader]) := by
  obtain ⟨hx, hb, hml, hown, hts⟩ := id S
  intro H locs ls x1 s0 s1 t_leader hl hP hD hS hm
  unfold f_BlockCodeModel_findLeaders_22 at hm
  obtain ⟨w1, e_w1, hm⟩ := ob hm
  refine vx_zast hx hb hK hP hD hS 2 rfl e_w1 d_BlockCodeModel_findLeaders_22 (fun H locs hP hD hS => ?_)
  have hP : va_P D classes (ww_BlockCodeModel_findLeaders cI cJ cZ qt qt_code qt_inputs qt_reached qt_isInt qt_fact qt_need qt_leader qt_kind qt_left qt_right qt_hold qt_risk qt_risks qt_end qt_to qt_symbol qt_place qt_register t_size t_thrown t_sealed t_good t_symbols t_set t_steps t_ended t_code w1) H := hP
  have hD : va_D A (ww_BlockCodeModel_findLeaders cI cJ cZ qt qt_code qt_inputs qt_reached qt_isInt qt_fact qt_need qt_leader qt_kind qt_left qt_right qt_hold qt_risk qt_risks qt_end qt_to qt_symbol qt_place qt_register t_size t_thrown t_sealed t_good t_symbols t_set t_steps t_ended t_code w1) := hD
  refine lv_iinc (k := 1) (v := (x1 + (1 : Int32))) hx hb d_BlockCodeModel_findLeaders_23 hl rfl (iinc_v (by decide)) (by decide) rfl (fun ls hl => ?_)
  have hl : lv_has ls 3 [(1, .int (x1 + (1 : Int32))), (0, .ref qt)] := hl
  refine lv_goto (tgt := 2) hx hb d_BlockCodeModel_findLeaders_26 (by decide) ?_
  exact hk2 H locs ls (x1 + (1 : Int32)) w1 (lv_sub hl [1, 0] rfl) hP hD hS hm
set_option maxHeartbeats 4000000 in
set_option maxRecDepth 100000 in
theorem w_BlockCodeModel_findLeaders_107 {p : Program} {l : Launch} {e : Env} {s : State} {m : MethodId} {args : Array Value} {below : List Frame} {meth : Method} {c : Code} {D : va_G} {cI cJ cZ : ClassId} {A : Nat → Prop} {Qc : Array Value → State → Outcome → State → Prop} (S : CallFix p m c b_BlockCodeModel_findLeaders 3 s args tbg R_BlockCodeModel) (hr : meth.sig.returnType = none) (hlk : meth.locks = false) (hK : kx D cI cJ cZ s) (hA : ∀ q, s.heap.size ≤ q → A q) (qt : Nat) (qt_code : Nat) (qt_inputs : Nat) (qt_reached : Nat) (qt_isInt : Nat) (qt_fact : Nat) (qt_need : Nat) (qt_leader : Nat) (qt_kind : Nat) (qt_left : Nat) (qt_right : Nat) (qt_hold : Nat) (qt_risk : Nat) (qt_risks : Nat) (qt_end : Nat) (qt_to : Nat) (qt_symbol : Nat) (qt_place : Nat) (qt_register : Nat) (t_code : Nat → Int32) (t_size : Int32) (t_thrown : Int32) (t_sealed : Int32) (t_good : Int32) (t_symbols : Int32) (t_set : Int32) (t_steps : Int32) (t_ended : Int32) (o_t_leader : Nat → Int32) (hQ : ∀ (t : State) (H : Heap) (locs : List Loc), t.heap = H → s.WarmedH t.vm → va_P D classes (ww_BlockCodeModel_findLeaders cI cJ cZ qt qt_code qt_inputs qt_reached qt_isInt qt_fact qt_need qt_leader qt_kind qt_left qt_right qt_hold qt_risk qt_risks qt_end qt_to qt_symbol qt_place qt_register t_size t_thrown t_sealed t_good t_symbols t_set t_steps t_ended t_code o_t_leader) H → va_S A s.heap H locs → Qc args s (.returned none) t) (k31 : Int32 → (Nat → Int32) → Option ((Nat → Int32))) (hk31 : ∀ (H : Heap) (locs : List Loc) (ls : Array Slot) (x1 : Int32) (t_leader : Nat → Int32), lv_has ls 3 [(0, .ref qt), (1, .int x1)] → va_P D classes (ww_BlockCodeModel_findLeaders cI cJ cZ qt qt_code qt_inputs qt_reached qt_isInt qt_fact qt_need qt_leader qt_kind qt_left qt_right qt_hold qt_risk qt_risks qt_end qt_to qt_symbol qt_place qt_register t_size t_thrown t_sealed t_good t_symbols t_set t_steps t_ended t_code t_leader) H → va_D A (ww_BlockCodeModel_findLeaders cI cJ cZ qt qt_code qt_inputs qt_reached qt_isInt qt_fact qt_need qt_leader qt_kind qt_left qt_right qt_hold qt_risk qt_risks qt_end qt_to qt_symbol qt_place qt_register t_size t_thrown t_sealed t_good t_symbols t_set t_steps t_ended t_code t_leader) → va_S A s.heap H locs → k31 x1 t_leader = some o_t_leader → W p l e rm_BlockCodeModel_findLeaders s m args below meth c H locs 0 0 (MQ below Qc args s 0 0 A) (F0 m 31 ls [])) : ∀ (H : Heap) (locs : List Loc) (ls : Array Slot) (x1 : Int32) (t_leader : Nat → Int32), lv_has ls 3 [(0, .ref qt), (1, .int x1)] → va_P D classes (ww_BlockCodeModel_findLeaders cI cJ cZ qt qt_code qt_inputs qt_reached qt_isInt qt_fact qt_need qt_leader qt_kind qt_left qt_right qt_hold qt_risk qt_risks qt_end qt_to qt_symbol qt_place qt_register t_size t_thrown t_sealed t_good t_symbols t_set t_steps t_ended t_code t_leader) H → va_D A (ww_BlockCodeModel_findLeaders cI cJ cZ qt qt_code qt_inputs qt_reached qt_isInt qt_fact qt_need qt_leader qt_kind qt_left qt_right qt_hold qt_risk qt_risks qt_end qt_to qt_symbol qt_place qt_register t_size t_thrown t_sealed t_good t_symbols t_set t_steps t_ended t_code t_leader) → va_S A s.heap H locs → f_BlockCodeModel_findLeaders_107 t_code t_size k31 x1 t_leader = some o_t_leader → W p l e rm_BlockCodeModel_findLeaders s m args below meth c H locs 0 0 (MQ below Qc args s 0 0 A) (F0 m 107 ls []) := by
  obtain ⟨hx, hb, hml, hown, hts⟩ := id S
  intro H locs ls x1 t_leader hl hP hD hS hm
  unfold f_BlockCodeModel_findLeaders_107 at hm
  refine lv_iinc (k := 1) (v := (x1 + (1 : Int32))) hx hb d_BlockCodeModel_findLeaders_107 hl rfl (iinc_v (by decide)) (by decide) rfl (fun ls hl => ?_)
  have hl : lv_has ls 3 [(1, .int (x1 + (1 : Int32))), (0, .ref qt)] := hl
  refine lv_goto (tgt := 31) hx hb d_BlockCodeModel_findLeaders_110 (by decide) ?_
  exact hk31 H locs ls (x1 + (1 : Int32)) t_leader (lv_sub hl [1, 0] rfl) hP hD hS hm
set_option maxHeartbeats 4000000 in
set_option maxRecDepth 100000 in
theorem w_BlockCodeModel_findLeaders_92 {p : Program} {l : Launch} {e : Env} {s : State} {m : MethodId} {args : Array Value} {below : List Frame} {meth : Method} {c : Code} {D : va_G} {cI cJ cZ : ClassId} {A : Nat → Prop} {Qc : Array Value → State → Outcome → State → Prop} (S : CallFix p m c b_BlockCodeModel_findLeaders 3 s args tbg R_BlockCodeModel) (hr : meth.sig.returnType = none) (hlk : meth.locks = false) (hK : kx D cI cJ cZ s) (hA : ∀ q, s.heap.size ≤ q → A q) (qt : Nat) (qt_code : Nat) (qt_inputs : Nat) (qt_reached : Nat) (qt_isInt : Nat) (qt_fact : Nat) (qt_need : Nat) (qt_leader : Nat) (qt_kind : Nat) (qt_left : Nat) (qt_right : Nat) (qt_hold : Nat) (qt_risk : Nat) (qt_risks : Nat) (qt_end : Nat) (qt_to : Nat) (qt_symbol : Nat) (qt_place : Nat) (qt_register : Nat) (t_code : Nat → Int32) (t_size : Int32) (t_thrown : Int32) (t_sealed : Int32) (t_good : Int32) (t_symbols : Int32) (t_set : Int32) (t_steps : Int32) (t_ended : Int32) (o_t_leader : Nat → Int32) (hQ : ∀ (t : State) (H : Heap) (locs : List Loc), t.heap = H → s.WarmedH t.vm → va_P D classes (ww_BlockCodeModel_findLeaders cI cJ cZ qt qt_code qt_inputs qt_reached qt_isInt qt_fact qt_need qt_leader qt_kind qt_left qt_right qt_hold qt_risk qt_risks qt_end qt_to qt_symbol qt_place qt_register t_size t_thrown t_sealed t_good t_symbols t_set t_steps t_ended t_code o_t_leader) H → va_S A s.heap H locs → Qc args s (.returned none) t) (k31 : Int32 → (Nat → Int32) → Option ((Nat → Int32))) (hk31 : ∀ (H : Heap) (locs : List Loc) (ls : Array Slot) (x1 : Int32) (t_leader : Nat → Int32), lv_has ls 3 [(0, .ref qt), (1, .int x1)] → va_P D classes (ww_BlockCodeModel_findLeaders cI cJ cZ qt qt_code qt_inputs qt_reached qt_isInt qt_fact qt_need qt_leader qt_kind qt_left qt_right qt_hold qt_risk qt_risks qt_end qt_to qt_symbol qt_place qt_register t_size t_thrown t_sealed t_good t_symbols t_set t_steps t_ended t_code t_leader) H → va_D A (ww_BlockCodeModel_findLeaders cI cJ cZ qt qt_code qt_inputs qt_reached qt_isInt qt_fact qt_need qt_leader qt_kind qt_left qt_right qt_hold qt_risk qt_risks qt_end qt_to qt_symbol qt_place qt_register t_size t_thrown t_sealed t_good t_symbols t_set t_steps t_ended t_code t_leader) → va_S A s.heap H locs → k31 x1 t_leader = some o_t_leader → W p l e rm_BlockCodeModel_findLeaders s m args below meth c H locs 0 0 (MQ below Qc args s 0 0 A) (F0 m 31 ls [])) : ∀ (H : Heap) (locs : List Loc) (ls : Array Slot) (x1 : Int32) (x2 : Int32) (t_leader : Nat → Int32), lv_has ls 3 [(0, .ref qt), (1, .int x1), (2, .int x2)] → va_P D classes (ww_BlockCodeModel_findLeaders cI cJ cZ qt qt_code qt_inputs qt_reached qt_isInt qt_fact qt_need qt_leader qt_kind qt_left qt_right qt_hold qt_risk qt_risks qt_end qt_to qt_symbol qt_place qt_register t_size t_thrown t_sealed t_good t_symbols t_set t_steps t_ended t_code t_leader) H → va_D A (ww_BlockCodeModel_findLeaders cI cJ cZ qt qt_code qt_inputs qt_reached qt_isInt qt_fact qt_need qt_leader qt_kind qt_left qt_right qt_hold qt_risk qt_risks qt_end qt_to qt_symbol qt_place qt_register t_size t_thrown t_sealed t_good t_symbols t_set t_steps t_ended t_code t_leader) → va_S A s.heap H locs → f_BlockCodeModel_findLeaders_92 t_code t_size k31 x1 x2 t_leader = some o_t_leader → W p l e rm_BlockCodeModel_findLeaders s m args below meth c H locs 0 0 (MQ below Qc args s 0 0 A) (F0 m 92 ls []) := by
  obtain ⟨hx, hb, hml, hown, hts⟩ := id S
  intro H locs ls x1 x2 t_leader hl hP hD hS hm
  unfold f_BlockCodeModel_findLeaders_92 at hm
  refine lv_iload_n hx hb d_BlockCodeModel_findLeaders_92 rfl (lv_at hl 2 rfl) ?_
  refine lv_bipush (v := (8 : Int32)) hx hb d_BlockCodeModel_findLeaders_93 (by decide) ?_
  refine lv_icmp_lt (tgt := 107) hx hb d_BlockCodeModel_findLeaders_95 (by decide) (fun hc => ?_) (fun hc => ?_)
  · have hm := ift hc hm
    exact w_BlockCodeModel_findLeaders_107 S hr hlk hK hA qt qt_code qt_inputs qt_reached qt_isInt qt_fact qt_need qt_leader qt_kind qt_left qt_right qt_hold qt_risk qt_risks qt_end qt_to qt_symbol qt_place qt_register t_code t_size t_thrown t_sealed t_good t_symbols t_set t_steps t_ended o_t_leader hQ k31 hk31 H locs ls x1 t_leader (lv_sub hl [0, 1] rfl) hP hD hS hm
  · have hm := iff_ hc hm
    refine lv_aload_n hx hb d_BlockCodeModel_findLeaders_98 rfl (lv_at hl 0 rfl) ?_
    refine va_get (D := D) (ci := 6) (v := .ref qt_leader) (C := R_BlockCodeModel) (T := T_BlockCodeModel) (N := 26) hx hb hts in_BlockCodeModel hown hK.1 hP 0 rfl rfl 10 (by decide) (hts _ a_671) (fun _ h9 => h9) rfl d_BlockCodeModel_findLeaders_99 ?_
    refine lv_iload_n hx hb d_BlockCodeModel_findLeaders_102 rfl (lv_at hl 1 rfl) ?_
    refine lv_iconst (v := (1 : Int32)) hx hb d_BlockCodeModel_findLeaders_103 (by decide) ?_
    refine lv_iadd hx hb d_BlockCodeModel_findLeaders_104 ?_
    refine lv_iconst (v := (1 : Int32)) hx hb d_BlockCodeModel_findLeaders_105 (by decide) ?_
    obtain ⟨w1, e_w1, hm⟩ := ob hm
    refine vx_zast hx hb hK hP hD hS 2 rfl e_w1 d_BlockCodeModel_findLeaders_106 (fun H locs hP hD hS => ?_)
    have hP : va_P D classes (ww_BlockCodeModel_findLeaders cI cJ cZ qt qt_code qt_inputs qt_reached qt_isInt qt_fact qt_need qt_leader qt_kind qt_left qt_right qt_hold qt_risk qt_risks qt_end qt_to qt_symbol qt_place qt_register t_size t_thrown t_sealed t_good t_symbols t_set t_steps t_ended t_code w1) H := hP
    have hD : va_D A (ww_BlockCodeModel_findLeaders cI cJ cZ qt qt_code qt_inputs qt_reached qt_isInt qt_fact qt_need qt_leader qt_kind qt_left qt_right qt_hold qt_risk qt_risks qt_end qt_to qt_symbol qt_place qt_register t_size t_thrown t_sealed t_good t_symbols t_set t_steps t_ended t_code w1) := hD
    exact w_BlockCodeModel_findLeaders_107 S hr hlk hK hA qt qt_code qt_inputs qt_reached qt_isInt qt_fact qt_need qt_leader qt_kind qt_left qt_right qt_hold qt_risk qt_risks qt_end qt_to qt_symbol qt_place qt_register t_code t_size t_thrown t_sealed t_good t_symbols t_set t_steps t_ended o_t_leader hQ k31 hk31 H locs ls x1 w1 (lv_sub hl [0, 1] rfl) hP hD hS hm
set_option maxHeartbeats 4000000 in
set_option maxRecDepth 100000 in
theorem w_BlockCodeModel_findLeaders_70 {p : Program} {l : Launch} {e : Env} {s : State} {m : MethodId} {args : Array Value} {below : List Frame} {meth : Method} {c : Code} {D : va_G} {cI cJ cZ : ClassId} {A : Nat → Prop} {Qc : Array Value → State → Outcome → State → Prop} (S : CallFix p m c b_BlockCodeModel_findLeaders 3 s args tbg R_BlockCodeModel) (hr : meth.sig.returnType = none) (hlk : meth.locks = false) (hK : kx D cI cJ cZ s) (hA : ∀ q, s.heap.size ≤ q → A q) (qt : Nat) (qt_code : Nat) (qt_inputs : Nat) (qt_reached : Nat) (qt_isInt : Nat) (qt_fact : Nat) (qt_need : Nat) (qt_leader : Nat) (qt_kind : Nat) (qt_left : Nat) (qt_right : Nat) (qt_hold : Nat) (qt_risk : Nat) (qt_risks : Nat) (qt_end : Nat) (qt_to : Nat) (qt_symbol : Nat) (qt_place : Nat) (qt_register : Nat) (t_code : Nat → Int32) (t_size : Int32) (t_thrown : Int32) (t_sealed : Int32) (t_good : Int32) (t_symbols : Int32) (t_set : Int32) (t_steps : Int32) (t_ended : Int32) (o_t_leader : Nat → Int32) (hQ : ∀ (t : State) (H : Heap) (locs : List Loc), t.heap = H → s.WarmedH t.vm → va_P D classes (ww_BlockCodeModel_findLeaders cI cJ cZ qt qt_code qt_inputs qt_reached qt_isInt qt_fact qt_need qt_leader qt_kind qt_left qt_right qt_hold qt_risk qt_risks qt_end qt_to qt_symbol qt_place qt_register t_size t_thrown t_sealed t_good t_symbols t_set t_steps t_ended t_code o_t_leader) H → va_S A s.heap H locs → Qc args s (.returned none) t) (k31 : Int32 → (Nat → Int32) → Option ((Nat → Int32))) (hk31 : ∀ (H : Heap) (locs : List Loc) (ls : Array Slot) (x1 : Int32) (t_leader : Nat → Int32), lv_has ls 3 [(0, .ref qt), (1, .int x1)] → va_P D classes (ww_BlockCodeModel_findLeaders cI cJ cZ qt qt_code qt_inputs qt_reached qt_isInt qt_fact qt_need qt_leader qt_kind qt_left qt_right qt_hold qt_risk qt_risks qt_end qt_to qt_symbol qt_place qt_register t_size t_thrown t_sealed t_good t_symbols t_set t_steps t_ended t_code t_leader) H → va_D A (ww_BlockCodeModel_findLeaders cI cJ cZ qt qt_code qt_inputs qt_reached qt_isInt qt_fact qt_need qt_leader qt_kind qt_left qt_right qt_hold qt_risk qt_risks qt_end qt_to qt_symbol qt_place qt_register t_size t_thrown t_sealed t_good t_symbols t_set t_steps t_ended t_code t_leader) → va_S A s.heap H locs → k31 x1 t_leader = some o_t_leader → W p l e rm_BlockCodeModel_findLeaders s m args below meth c H locs 0 0 (MQ below Qc args s 0 0 A) (F0 m 31 ls [])) : ∀ (H : Heap) (locs : List Loc) (ls : Array Slot) (x1 : Int32) (x2 : Int32) (t_leader : Nat → Int32), lv_has ls 3 [(0, .ref qt), (1, .int x1), (2, .int x2)] → va_P D classes (ww_BlockCodeModel_findLeaders cI cJ cZ qt qt_code qt_inputs qt_reached qt_isInt qt_fact qt_need qt_leader qt_kind qt_left qt_right qt_hold qt_risk qt_risks qt_end qt_to qt_symbol qt_place qt_register t_size t_thrown t_sealed t_good t_symbols t_set t_steps t_ended t_code t_leader) H → va_D A (ww_BlockCodeModel_findLeaders cI cJ cZ qt qt_code qt_inputs qt_reached qt_isInt qt_fact qt_need qt_leader qt_kind qt_left qt_right qt_hold qt_risk qt_risks qt_end qt_to qt_symbol qt_place qt_register t_size t_thrown t_sealed t_good t_symbols t_set t_steps t_ended t_code t_leader) → va_S A s.heap H locs → f_BlockCodeModel_findLeaders_70 t_code t_size k31 x1 x2 t_leader = some o_t_leader → W p l e rm_BlockCodeModel_findLeaders s m args below meth c H locs 0 0 (MQ below Qc args s 0 0 A) (F0 m 70 ls []) := by
  obtain ⟨hx, hb, hml, hown, hts⟩ := id S
  intro H locs ls x1 x2 t_leader hl hP hD hS hm
  unfold f_BlockCodeModel_findLeaders_70 at hm
  refine lv_iload_n hx hb d_BlockCodeModel_findLeaders_70 rfl (lv_at hl 2 rfl) ?_
  refine lv_bipush (v := (9 : Int32)) hx hb d_BlockCodeModel_findLeaders_71 (by decide) ?_
  refine lv_icmp_ne (tgt := 92) hx hb d_BlockCodeModel_findLeaders_73 (by decide) (fun hc => ?_) (fun hc => ?_)
  · have hm := iff_ hc hm
    exact w_BlockCodeModel_findLeaders_92 S hr hlk hK hA qt qt_code qt_inputs qt_reached qt_isInt qt_fact qt_need qt_leader qt_kind qt_left qt_right qt_hold qt_risk qt_risks qt_end qt_to qt_symbol qt_place qt_register t_code t_size t_thrown t_sealed t_good t_symbols t_set t_steps t_ended o_t_leader hQ k31 hk31 H locs ls x1 x2 t_leader (lv_sub hl [0, 1, 2] rfl) hP hD hS hm
  · have hm := ift hc hm
    refine lv_aload_n hx hb d_BlockCodeModel_findLeaders_76 rfl (lv_at hl 0 rfl) ?_
    refine va_get (D := D) (ci := 6) (v := .ref qt_leader) (C := R_BlockCodeModel) (T := T_BlockCodeModel) (N := 26) hx hb hts in_BlockCodeModel hown hK.1 hP 0 rfl rfl 10 (by decide) (hts _ a_671) (fun _ h9 => h9) rfl d_BlockCodeModel_findLeaders_77 ?_
    refine lv_aload_n hx hb d_BlockCodeModel_findLeaders_80 rfl (lv_at hl 0 rfl) ?_
    refine va_get (D := D) (ci := 6) (v := .ref qt_code) (C := R_BlockCodeModel) (T := T_BlockCodeModel) (N := 26) hx hb hts in_BlockCodeModel hown hK.1 hP 0 rfl rfl 0 (by decide) (hts _ a_661) (fun _ h9 => h9) rfl d_BlockCodeModel_findLeaders_81 ?_
    refine lv_iconst (v := (4 : Int32)) hx hb d_BlockCodeModel_findLeaders_84 (by decide) ?_
    refine lv_iload_n hx hb d_BlockCodeModel_findLeaders_85 rfl (lv_at hl 1 rfl) ?_
    refine lv_imul hx hb d_BlockCodeModel_findLeaders_86 ?_
    refine lv_iconst (v := (3 : Int32)) hx hb d_BlockCodeModel_findLeaders_87 (by decide) ?_
    refine lv_iadd hx hb d_BlockCodeModel_findLeaders_88 ?_
    obtain ⟨v1, e_v1, hm⟩ := ob hm
    refine vx_iald hx hb hK hP 1 rfl e_v1 d_BlockCodeModel_findLeaders_89 ?_
    refine lv_iconst (v := (1 : Int32)) hx hb d_BlockCodeModel_findLeaders_90 (by decide) ?_
    obtain ⟨w2, e_w2, hm⟩ := ob hm
    refine vx_zast hx hb hK hP hD hS 2 rfl e_w2 d_BlockCodeModel_findLeaders_91 (fun H locs hP hD hS => ?_)
    have hP : va_P D classes (ww_BlockCodeModel_findLeaders cI cJ cZ qt qt_code qt_inputs qt_reached qt_isInt qt_fact qt_need qt_leader qt_kind qt_left qt_right qt_hold qt_risk qt_risks qt_end qt_to qt_symbol qt_place qt_register t_size t_thrown t_sealed t_good t_symbols t_set t_steps t_ended t_code w2) H := hP
    have hD : va_D A (ww_BlockCodeModel_findLeaders cI cJ cZ qt qt_code qt_inputs qt_reached qt_isInt qt_fact qt_need qt_leader qt_kind qt_left qt_right qt_hold qt_risk qt_risks qt_end qt_to qt_symbol qt_place qt_register t_size t_thrown t_sealed t_good t_symbols t_set t_steps t_ended t_code w2) := hD
    exact w_BlockCodeModel_findLeaders_92 S hr hlk hK hA qt qt_code qt_inputs qt_reached qt_isInt qt_fact qt_need qt_leader qt_kind qt_left qt_right qt_hold qt_risk qt_risks qt_end qt_to qt_symbol qt_place qt_register t_code t_size t_thrown t_sealed t_good t_symbols t_set t_steps t_ended o_t_leader hQ k31 hk31 H locs ls x1 x2 w2 (lv_sub hl [0, 1, 2] rfl) hP hD hS hm
set_option maxHeartbeats 4000000 in
set_option maxRecDepth 100000 in
theorem w_BlockCodeModel_findLeaders_31 {p : Program} {l : Launch} {e : Env} {s : State} {m : MethodId} {args : Array Value} {below : List Frame} {meth : Method} {c : Code} {D : va_G} {cI cJ cZ : ClassId} {A : Nat → Prop} {Qc : Array Value → State → Outcome → State → Prop} (S : CallFix p m c b_BlockCodeModel_findLeaders 3 s args tbg R_BlockCodeModel) (hr : meth.sig.returnType = none) (hlk : meth.locks = false) (hK : kx D cI cJ cZ s) (hA : ∀ q, s.heap.size ≤ q → A q) (qt : Nat) (qt_code : Nat) (qt_inputs : Nat) (qt_reached : Nat) (qt_isInt : Nat) (qt_fact : Nat) (qt_need : Nat) (qt_leader : Nat) (qt_kind : Nat) (qt_left : Nat) (qt_right : Nat) (qt_hold : Nat) (qt_risk : Nat) (qt_risks : Nat) (qt_end : Nat) (qt_to : Nat) (qt_symbol : Nat) (qt_place : Nat) (qt_register : Nat) (t_code : Nat → Int32) (t_size : Int32) (t_thrown : Int32) (t_sealed : Int32) (t_good : Int32) (t_symbols : Int32) (t_set : Int32) (t_steps : Int32) (t_ended : Int32) (o_t_leader : Nat → Int32) (hQ : ∀ (t : State) (H : Heap) (locs : List Loc), t.heap = H → s.WarmedH t.vm → va_P D classes (ww_BlockCodeModel_findLeaders cI cJ cZ qt qt_code qt_inputs qt_reached qt_isInt qt_fact qt_need qt_leader qt_kind qt_left qt_right qt_hold qt_risk qt_risks qt_end qt_to qt_symbol qt_place qt_register t_size t_thrown t_sealed t_good t_symbols t_set t_steps t_ended t_code o_t_leader) H → va_S A s.heap H locs → Qc args s (.returned none) t) (n : Nat) : ∀ (H : Heap) (locs : List Loc) (ls : Array Slot) (x1 : Int32) (t_leader : Nat → Int32), lv_has ls 3 [(0, .ref qt), (1, .int x1)] → va_P D classes (ww_BlockCodeModel_findLeaders cI cJ cZ qt qt_code qt_inputs qt_reached qt_isInt qt_fact qt_need qt_leader qt_kind qt_left qt_right qt_hold qt_risk qt_risks qt_end qt_to qt_symbol qt_place qt_register t_size t_thrown t_sealed t_good t_symbols t_set t_steps t_ended t_code t_leader) H → va_D A (ww_BlockCodeModel_findLeaders cI cJ cZ qt qt_code qt_inputs qt_reached qt_isInt qt_fact qt_need qt_leader qt_kind qt_left qt_right qt_hold qt_risk qt_risks qt_end qt_to qt_symbol qt_place qt_register t_size t_thrown t_sealed t_good t_symbols t_set t_steps t_ended t_code t_leader) → va_S A s.heap H locs → f_BlockCodeModel_findLeaders_31 t_code t_size n x1 t_leader = some o_t_leader → W p l e rm_BlockCodeModel_findLeaders s m args below meth c H locs 0 0 (MQ below Qc args s 0 0 A) (F0 m 31 ls []) := by
  obtain ⟨hx, hb, hml, hown, hts⟩ := id S
  induction n with
  | zero =>
    intro H locs ls x1 t_leader hl hP hD hS hm
    rw [f_BlockCodeModel_findLeaders_31] at hm
    cases hm
  | succ n ih =>
    intro H locs ls x1 t_leader hl hP hD hS hm
    rw [f_BlockCodeModel_findLeaders_31] at hm
    refine lv_iload_n hx hb d_BlockCodeModel_findLeaders_31 rfl (lv_at hl 1 rfl) ?_
    refine lv_aload_n hx hb d_BlockCodeModel_findLeaders_32 rfl (lv_at hl 0 rfl) ?_
    refine va_get (D := D) (ci := 6) (v := .int t_size) (C := R_BlockCodeModel) (T := T_BlockCodeModel) (N := 26) hx hb hts in_BlockCodeModel hown hK.1 hP 0 rfl rfl 1 (by decide) (hts _ a_662) (fun _ h9 => h9) rfl d_BlockCodeModel_findLeaders_33 ?_
    refine lv_icmp_ge (tgt := 113) hx hb d_BlockCodeModel_findLeaders_36 (by decide) (fun hc => ?_) (fun hc => ?_)
    · have hm := ift hc hm
      cases hm
      exact W.vret hx hb hr (fun t ht hW => hQ t _ _ ht hW hP hS) hS.2.2 d_BlockCodeModel_findLeaders_113 hlk
    · have hm := iff_ hc hm
      refine lv_aload_n hx hb d_BlockCodeModel_findLeaders_39 rfl (lv_at hl 0 rfl) ?_
      refine va_get (D := D) (ci := 6) (v := .ref qt_code) (C := R_BlockCodeModel) (T := T_BlockCodeModel) (N := 26) hx hb hts in_BlockCodeModel hown hK.1 hP 0 rfl rfl 0 (by decide) (hts _ a_661) (fun _ h9 => h9) rfl d_BlockCodeModel_findLeaders_40 ?_
      refine lv_iconst (v := (4 : Int32)) hx hb d_BlockCodeModel_findLeaders_43 (by decide) ?_
      refine lv_iload_n hx hb d_BlockCodeModel_findLeaders_44 rfl (lv_at hl 1 rfl) ?_
      refine lv_imul hx hb d_BlockCodeModel_findLeaders_45 ?_
      obtain ⟨v1, e_v1, hm⟩ := ob hm
      refine vx_iald hx hb hK hP 1 rfl e_v1 d_BlockCodeModel_findLeaders_46 ?_
      refine lv_istore_n hx hb d_BlockCodeModel_findLeaders_47 rfl hl (by decide) rfl (fun ls hl => ?_)
      have hl : lv_has ls 3 [(2, .int v1), (0, .ref qt), (1, .int x1)] := hl
      refine lv_iload_n hx hb d_BlockCodeModel_findLeaders_48 rfl (lv_at hl 0 rfl) ?_
      refine lv_bipush (v := (8 : Int32)) hx hb d_BlockCodeModel_findLeaders_49 (by decide) ?_
      refine lv_icmp_ne (tgt := 70) hx hb d_BlockCodeModel_findLeaders_51 (by decide) (fun hc => ?_) (fun hc => ?_)
      · have hm := iff_ hc hm
        exact w_BlockCodeModel_findLeaders_70 S hr hlk hK hA qt qt_code qt_inputs qt_reached qt_isInt qt_fact qt_need qt_leader qt_kind qt_left qt_right qt_hold qt_risk qt_risks qt_end qt_to qt_symbol qt_place qt_register t_code t_size t_thrown t_sealed t_good t_symbols t_set t_steps t_ended o_t_leader hQ (f_BlockCodeModel_findLeaders_31 t_code t_size n) ih H locs ls x1 v1 t_leader (lv_sub hl [1, 2, 0] rfl) hP hD hS hm
      · have hm := ift hc hm
        refine lv_aload_n hx hb d_BlockCodeModel_findLeaders_54 rfl (lv_at hl 1 rfl) ?_
        refine va_get (D := D) (ci := 6) (v := .ref qt_leader) (C := R_BlockCodeModel) (T := T_BlockCodeModel) (N := 26) hx hb hts in_BlockCodeModel hown hK.1 hP 0 rfl rfl 10 (by decide) (hts _ a_671) (fun _ h9 => h9) rfl d_BlockCodeModel_findLeaders_55 ?_
        refine lv_aload_n hx hb d_BlockCodeModel_findLeaders_58 rfl (lv_at hl 1 rfl) ?_
        refine va_get (D := D) (ci := 6) (v := .ref qt_code) (C := R_BlockCodeModel) (T := T_BlockCodeModel) (N := 26) hx hb hts in_BlockCodeModel hown hK.1 hP 0 rfl rfl 0 (by decide) (hts _ a_661) (fun _ h9 => h9) rfl d_BlockCodeModel_findLeaders_59 ?_
        refine lv_iconst (v := (4 : Int32)) hx hb d_BlockCodeModel_findLeaders_62 (by decide) ?_
        refine lv_iload_n hx hb d_BlockCodeModel_findLeaders_63 rfl (lv_at hl 2 rfl) ?_
        refine lv_imul hx hb d_BlockCodeModel_findLeaders_64 ?_
        refine lv_iconst (v := (2 : Int32)) hx hb d_BlockCodeModel_findLeaders_65 (by decide) ?_
        refine lv_iadd hx hb d_BlockCodeModel_findLeaders_66 ?_
        obtain ⟨v2, e_v2, hm⟩ := ob hm
        refine vx_iald hx hb hK hP 1 rfl e_v2 d_BlockCodeModel_findLeaders_67 ?_
        refine lv_iconst (v := (1 : Int32)) hx hb d_BlockCodeModel_findLeaders_68 (by decide) ?_
        obtain ⟨w3, e_w3, hm⟩ := ob hm
        refine vx_zast hx hb hK hP hD hS 2 rfl e_w3 d_BlockCodeModel_findLeaders_69 (fun H locs hP hD hS => ?_)
        have hP : va_P D classes (ww_BlockCodeModel_findLeaders cI cJ cZ qt qt_code qt_inputs qt_reached qt_isInt qt_fact qt_need qt_leader qt_kind qt_left qt_right qt_hold qt_risk qt_risks qt_end qt_to qt_symbol qt_place qt_register t_size t_thrown t_sealed t_good t_symbols t_set t_steps t_ended t_code w3) H := hP
        have hD : va_D A (ww_BlockCodeModel_findLeaders cI cJ cZ qt qt_code qt_inputs qt_reached qt_isInt qt_fact qt_need qt_leader qt_kind qt_left qt_right qt_hold qt_risk qt_risks qt_end qt_to qt_symbol qt_place qt_register t_size t_thrown t_sealed t_good t_symbols t_set t_steps t_ended t_code w3) := hD
        exact w_BlockCodeModel_findLeaders_70 S hr hlk hK hA qt qt_code qt_inputs qt_reached qt_isInt qt_fact qt_need qt_leader qt_kind qt_left qt_right qt_hold qt_risk qt_risks qt_end qt_to qt_symbol qt_place qt_register t_code t_size t_thrown t_sealed t_good t_symbols t_set t_steps t_ended o_t_leader hQ (f_BlockCodeModel_findLeaders_31 t_code t_size n) ih H locs ls x1 v1 w3 (lv_sub hl [1, 2, 0] rfl) hP hD hS hm
set_option maxHeartbeats 4000000 in
set_option maxRecDepth 100000 in
theorem w_BlockCodeModel_findLeaders_2 {p : Program} {l : Launch} {e : Env} {s : State} {m : MethodId} {args : Array Value} {below : List Frame} {meth : Method} {c : Code} {D : va_G} {cI cJ cZ : ClassId} {A : Nat → Prop} {Qc : Array Value → State → Outcome → State → Prop} (S : CallFix p m c b_BlockCodeModel_findLeaders 3 s args tbg R_BlockCodeModel) (hr : meth.sig.returnType = none) (hlk : meth.locks = false) (hK : kx D cI cJ cZ s) (hA : ∀ q, s.heap.size ≤ q → A q) (qt : Nat) (qt_code : Nat) (qt_inputs : Nat) (qt_reached : Nat) (qt_isInt : Nat) (qt_fact : Nat) (qt_need : Nat) (qt_leader : Nat) (qt_kind : Nat) (qt_left : Nat) (qt_right : Nat) (qt_hold : Nat) (qt_risk : Nat) (qt_risks : Nat) (qt_end : Nat) (qt_to : Nat) (qt_symbol : Nat) (qt_place : Nat) (qt_register : Nat) (t_code : Nat → Int32) (t_size : Int32) (t_thrown : Int32) (t_sealed : Int32) (t_good : Int32) (t_symbols : Int32) (t_set : Int32) (t_steps : Int32) (t_ended : Int32) (o_t_leader : Nat → Int32) (hQ : ∀ (t : State) (H : Heap) (locs : List Loc), t.heap = H → s.WarmedH t.vm → va_P D classes (ww_BlockCodeModel_findLeaders cI cJ cZ qt qt_code qt_inputs qt_reached qt_isInt qt_fact qt_need qt_leader qt_kind qt_left qt_right qt_hold qt_risk qt_risks qt_end qt_to qt_symbol qt_place qt_register t_size t_thrown t_sealed t_good t_symbols t_set t_steps t_ended t_code o_t_leader) H → va_S A s.heap H locs → Qc args s (.returned none) t) (n : Nat) : ∀ (H : Heap) (locs : List Loc) (ls : Array Slot) (x1 : Int32) (t_leader : Nat → Int32), lv_has ls 3 [(0, .ref qt), (1, .int x1)] → va_P D classes (ww_BlockCodeModel_findLeaders cI cJ cZ qt qt_code qt_inputs qt_reached qt_isInt qt_fact qt_need qt_leader qt_kind qt_left qt_right qt_hold qt_risk qt_risks qt_end qt_to qt_symbol qt_place qt_register t_size t_thrown t_sealed t_good t_symbols t_set t_steps t_ended t_code t_leader) H → va_D A (ww_BlockCodeModel_findLeaders cI cJ cZ qt qt_code qt_inputs qt_reached qt_isInt qt_fact qt_need qt_leader qt_kind qt_left qt_right qt_hold qt_risk qt_risks qt_end qt_to qt_symbol qt_place qt_register t_size t_thrown t_sealed t_good t_symbols t_set t_steps t_ended t_code t_leader) → va_S A s.heap H locs → f_BlockCodeModel_findLeaders_2 t_code t_size n x1 t_leader = some o_t_leader → W p l e rm_BlockCodeModel_findLeaders s m args below meth c H locs 0 0 (MQ below Qc args s 0 0 A) (F0 m 2 ls []) := by
  obtain ⟨hx, hb, hml, hown, hts⟩ := id S
  induction n with
  | zero =>
    intro H locs ls x1 t_leader hl hP hD hS hm
    rw [f_BlockCodeModel_findLeaders_2] at hm
    cases hm
  | succ n ih =>
    intro H locs ls x1 t_leader hl hP hD hS hm
    rw [f_BlockCodeModel_findLeaders_2] at hm
    refine lv_iload_n hx hb d_BlockCodeModel_findLeaders_2 rfl (lv_at hl 1 rfl) ?_
    refine lv_bipush (v := (20 : Int32)) hx hb d_BlockCodeModel_findLeaders_3 (by decide) ?_
    refine lv_icmp_gt (tgt := 29) hx hb d_BlockCodeModel_findLeaders_5 (by decide) (fun hc => ?_) (fun hc => ?_)
    · have hm := ift hc hm
      refine lv_iconst (v := (0 : Int32)) hx hb d_BlockCodeModel_findLeaders_29 (by decide) ?_
      refine lv_istore_n hx hb d_BlockCodeModel_findLeaders_30 rfl hl (by decide) rfl (fun ls hl => ?_)
      have hl : lv_has ls 3 [(1, .int (0 : Int32)), (0, .ref qt)] := hl
      exact w_BlockCodeModel_findLeaders_31 S hr hlk hK hA qt qt_code qt_inputs qt_reached qt_isInt qt_fact qt_need qt_leader qt_kind qt_left qt_right qt_hold qt_risk qt_risks qt_end qt_to qt_symbol qt_place qt_register t_code t_size t_thrown t_sealed t_good t_symbols t_set t_steps t_ended o_t_leader hQ fu H locs ls (0 : Int32) t_leader (lv_sub hl [1, 0] rfl) hP hD hS hm
    · have hm := iff_ hc hm
      refine lv_aload_n hx hb d_BlockCodeModel_findLeaders_8 rfl (lv_at hl 0 rfl) ?_
      refine va_get (D := D) (ci := 6) (v := .ref qt_leader) (C := R_BlockCodeModel) (T := T_BlockCodeModel) (N := 26) hx hb hts in_BlockCodeModel hown hK.1 hP 0 rfl rfl 10 (by decide) (hts _ a_671) (fun _ h9 => h9) rfl d_BlockCodeModel_findLeaders_9 ?_
      refine lv_iload_n hx hb d_BlockCodeModel_findLeaders_12 rfl (lv_at hl 1 rfl) ?_
      refine lv_iload_n hx hb d_BlockCodeModel_findLeaders_13 rfl (lv_at hl 1 rfl) ?_
      refine lv_if_ne (tgt := 21) hx hb d_BlockCodeModel_findLeaders_14 (by decide) (fun hc => ?_) (fun hc => ?_)
      · have hm := iff_ hc hm
        refine lv_iconst (v := (0 : Int32)) hx hb d_BlockCodeModel_findLeaders_21 (by decide) ?_
        exact w_BlockCodeModel_findLeaders_22 S hr hlk hK hA qt qt_code qt_inputs qt_reached qt_isInt qt_fact qt_need qt_leader qt_kind qt_left qt_right qt_hold qt_risk qt_risks qt_end qt_to qt_symbol qt_place qt_register t_code t_size t_thrown t_sealed t_good t_symbols t_set t_steps t_ended o_t_leader hQ (f_BlockCodeModel_findLeaders_2 t_code t_size n) ih H locs ls x1 (0 : Int32) x1 t_leader (lv_sub hl [0, 1] rfl) hP hD hS hm
      · have hm := ift hc hm
        refine lv_iconst (v := (1 : Int32)) hx hb d_BlockCodeModel_findLeaders_17 (by decide) ?_
        refine lv_goto (tgt := 22) hx hb d_BlockCodeModel_findLeaders_18 (by decide) ?_
        exact w_BlockCodeModel_findLeaders_22 S hr hlk hK hA qt qt_code qt_inputs qt_reached qt_isInt qt_fact qt_need qt_leader qt_kind qt_left qt_right qt_hold qt_risk qt_risks qt_end qt_to qt_symbol qt_place qt_register t_code t_size t_thrown t_sealed t_good t_symbols t_set t_steps t_ended o_t_leader hQ (f_BlockCodeModel_findLeaders_2 t_code t_size n) ih H locs ls x1 (1 : Int32) x1 t_leader (lv_sub hl [0, 1] rfl) hP hD hS hm
set_option maxHeartbeats 4000000 in
set_option maxRecDepth 100000 in
theorem w_BlockCodeModel_findLeaders {p : Program} {l : Launch} {e : Env} {s : State} {m : MethodId} {args : Array Value} {below : List Frame} {meth : Method} {c : Code} {D : va_G} {cI cJ cZ : ClassId} {A : Nat → Prop} {Qc : Array Value → State → Outcome → State → Prop} (S : CallFix p m c b_BlockCodeModel_findLeaders 3 s args tbg R_BlockCodeModel) (hr : meth.sig.returnType = none) (hlk : meth.locks = false) (hK : kx D cI cJ cZ s) (hA : ∀ q, s.heap.size ≤ q → A q) (qt : Nat) (qt_code : Nat) (qt_inputs : Nat) (qt_reached : Nat) (qt_isInt : Nat) (qt_fact : Nat) (qt_need : Nat) (qt_leader : Nat) (qt_kind : Nat) (qt_left : Nat) (qt_right : Nat) (qt_hold : Nat) (qt_risk : Nat) (qt_risks : Nat) (qt_end : Nat) (qt_to : Nat) (qt_symbol : Nat) (qt_place : Nat) (qt_register : Nat) (t_code : Nat → Int32) (t_size : Int32) (t_thrown : Int32) (t_sealed : Int32) (t_good : Int32) (t_symbols : Int32) (t_set : Int32) (t_steps : Int32) (t_ended : Int32) (o_t_leader : Nat → Int32) (hQ : ∀ (t : State) (H : Heap) (locs : List Loc), t.heap = H → s.WarmedH t.vm → va_P D classes (ww_BlockCodeModel_findLeaders cI cJ cZ qt qt_code qt_inputs qt_reached qt_isInt qt_fact qt_need qt_leader qt_kind qt_left qt_right qt_hold qt_risk qt_risks qt_end qt_to qt_symbol qt_place qt_register t_size t_thrown t_sealed t_good t_symbols t_set t_steps t_ended t_code o_t_leader) H → va_S A s.heap H locs → Qc args s (.returned none) t) (t_leader : Nat → Int32) (H : Heap) (locs : List Loc) (ls : Array Slot) (hl : lv_has ls 3 [(0, .ref qt)]) (hP : va_P D classes (ww_BlockCodeModel_findLeaders cI cJ cZ qt qt_code qt_inputs qt_reached qt_isInt qt_fact qt_need qt_leader qt_kind qt_left qt_right qt_hold qt_risk qt_risks qt_end qt_to qt_symbol qt_place qt_register t_size t_thrown t_sealed t_good t_symbols t_set t_steps t_ended t_code t_leader) H) (hD : va_D A (ww_BlockCodeModel_findLeaders cI cJ cZ qt qt_code qt_inputs qt_reached qt_isInt qt_fact qt_need qt_leader qt_kind qt_left qt_right qt_hold qt_risk qt_risks qt_end qt_to qt_symbol qt_place qt_register t_size t_thrown t_sealed t_good t_symbols t_set t_steps t_ended t_code t_leader)) (hS : va_S A s.heap H locs) (hm : f_BlockCodeModel_findLeaders t_code t_size t_leader = some o_t_leader) : W p l e rm_BlockCodeModel_findLeaders s m args below meth c H locs 0 0 (MQ below Qc args s 0 0 A) (F0 m 0 ls []) := by
  obtain ⟨hx, hb, hml, hown, hts⟩ := id S
  unfold f_BlockCodeModel_findLeaders at hm
  refine lv_iconst (v := (0 : Int32)) hx hb d_BlockCodeModel_findLeaders_0 (by decide) ?_
  refine lv_istore_n hx hb d_BlockCodeModel_findLeaders_1 rfl hl (by decide) rfl (fun ls hl => ?_)
  have hl : lv_has ls 3 [(1, .int (0 : Int32)), (0, .ref qt)] := hl
  exact w_BlockCodeModel_findLeaders_2 S hr hlk hK hA qt qt_code qt_inputs qt_reached qt_isInt qt_fact qt_need qt_leader qt_kind qt_left qt_right qt_hold qt_risk qt_risks qt_end qt_to qt_symbol qt_place qt_register t_code t_size t_thrown t_sealed t_good t_symbols t_set t_steps t_ended o_t_leader hQ fu H locs ls (0 : Int32) t_leader (lv_sub hl [1, 0] rfl) hP hD hS hm
set_option maxHeartbeats 4000000 in
set_option maxRecDepth 100000 in
theorem c_BlockCodeModel_findLeaders (l : Launch) (D : va_G) (cI cJ cZ : ClassId) (qt : Nat) (qt_code : Nat) (qt_inputs : Nat) (qt_reached : Nat) (qt_isInt : Nat) (qt_fact : Nat) (qt_need : Nat) (qt_leader : Nat) (qt_kind : Nat) (qt_left : Nat) (qt_right : Nat) (qt_hold : Nat) (qt_risk : Nat) (qt_risks : Nat) (qt_end : Nat) (qt_to : Nat) (qt_symbol : Nat) (qt_place : Nat) (qt_register : Nat) (t_size : Int32) (t_thrown : Int32) (t_sealed : Int32) (t_good : Int32) (t_symbols : Int32) (t_set : Int32) (t_steps : Int32) (t_ended : Int32) (t_code : Nat → Int32) (t_leader : Nat → Int32) (o_t_leader : Nat → Int32) (hm : f_BlockCodeModel_findLeaders t_code t_size t_leader = some o_t_leader) : MV l y_BlockCodeModel_findLeaders b_BlockCodeModel_findLeaders 3 rm_BlockCodeModel_findLeaders D cI cJ cZ [.ref qt] (ww_BlockCodeModel_findLeaders cI cJ cZ qt qt_code qt_inputs qt_reached qt_isInt qt_fact qt_need qt_leader qt_kind qt_left qt_right qt_hold qt_risk qt_risks qt_end qt_to qt_symbol qt_place qt_register t_size t_thrown t_sealed t_good t_symbols t_set t_steps t_ended t_code t_leader) (ww_BlockCodeModel_findLeaders cI cJ cZ qt qt_code qt_inputs qt_reached qt_isInt qt_fact qt_need qt_leader qt_kind qt_left qt_right qt_hold qt_risk qt_risks qt_end qt_to qt_symbol qt_place qt_register t_size t_thrown t_sealed t_good t_symbols t_set t_steps t_ended t_code o_t_leader) := by
  intro sz
  refine Met.ofW (cc := b_BlockCodeModel_findLeaders) (maxL := 3) (ret := none) (by decide) rfl ?_
  intro p e s m args below meth c s₁ B hml hv
  obtain ⟨rfl, hsz, hP, hK, hD0⟩ := hv
  have hts := atoms_spec (ws := Cond.code y_BlockCodeModel_findLeaders b_BlockCodeModel_findLeaders 3 none :: tbg) B.pre
  have S : CallFix p m c b_BlockCodeModel_findLeaders 3 s ([.ref qt] : List Value).toArray tbg R_BlockCodeModel := ⟨B.exec, B.bytes, hml, findClass_of_methodNamed B.named, fun w hw => hts w (List.mem_cons_of_mem _ hw)⟩
  subst hsz
  have hD := hD0.self (sz := s.heap.size)
  have hl := lv_entry ([.ref qt] : List Value) (n := 3) (Nat.le_of_ble_eq_true rfl)
  rw [lg_entry_eq]
  generalize (lg_sl ([.ref qt] : List Value) ++ List.replicate (3 - (lg_sl ([.ref qt] : List Value)).length) Slot.unset).toArray = ls at hl ⊢
  have hl : lv_has ls 3 [(0, .ref qt)] := hl
  exact w_BlockCodeModel_findLeaders S B.returns B.notSynchronized hK (fun q h => Or.inr h) qt qt_code qt_inputs qt_reached qt_isInt qt_fact qt_need qt_leader qt_kind qt_left qt_right qt_hold qt_risk qt_risks qt_end qt_to qt_symbol qt_place qt_register t_code t_size t_thrown t_sealed t_good t_symbols t_set t_steps t_ended o_t_leader (fun t H locs ht hW hP hS => ⟨⟨(), rfl, trivial, sB_of ht hP⟩, hS.F ht⟩) t_leader s.heap [] ls hl hP hD va_S.rf hm
set_option maxHeartbeats 4000000 in
set_option maxRecDepth 100000 in
theorem w_BlockCodeModel_seal_175 {p : Program} {l : Launch} {e : Env} {s : State} {m : MethodId} {args : Array Value} {below : List Frame} {meth : Method} {c : Code} {D : va_G} {cI cJ cZ : ClassId} {A : Nat → Prop} {Qc : Array Value → State → Outcome → State → Prop} (S : CallFix p m c b_BlockCodeModel_seal 3 s args tbg R_BlockCodeModel) (hr : meth.sig.returnType = (some .int)) (hlk : meth.locks = false) (hK : kx D cI cJ cZ s) (hA : ∀ q, s.heap.size ≤ q → A q) (qt : Nat) (qt_code : Nat) (qt_inputs : Nat) (qt_reached : Nat) (qt_isInt : Nat) (qt_fact : Nat) (qt_need : Nat) (qt_leader : Nat) (qt_kind : Nat) (qt_left : Nat) (qt_right : Nat) (qt_hold : Nat) (qt_risk : Nat) (qt_risks : Nat) (qt_end : Nat) (qt_to : Nat) (qt_symbol : Nat) (qt_place : Nat) (qt_register : Nat) (t_size : Int32) (t_symbols : Int32) (t_set : Int32) (t_steps : Int32) (t_ended : Int32) (o_r : Int32) (o_t_code : Nat → Int32) (o_t_thrown : Int32) (o_t_sealed : Int32) (o_t_good : Int32) (o_t_leader : Nat → Int32) (hQ : ∀ (t : State) (H : Heap) (locs : List Loc), t.heap = H → s.WarmedH t.vm → va_P D classes (ww_BlockCodeModel_seal cI cJ cZ qt qt_code qt_inputs qt_reached qt_isInt qt_fact qt_need qt_leader qt_kind qt_left qt_right qt_hold qt_risk qt_risks qt_end qt_to qt_symbol qt_place qt_register t_size o_t_thrown o_t_sealed o_t_good t_symbols t_set t_steps t_ended o_t_code o_t_leader) H → va_S A s.heap H locs → Qc args s (.returned (some (.int o_r))) t) (k155 : Int32 → Int32 → (Nat → Int32) → Int32 → Int32 → Int32 → (Nat → Int32) → Option (Int32 × (Nat → Int32) × Int32 × Int32 × Int32 × (Nat → Int32))) (hk155 : ∀ (H : Heap) (locs : List Loc) (ls : Array Slot) (x1 : Int32) (x2 : Int32) (t_code : Nat → Int32) (t_thrown : Int32) (t_sealed : Int32) (t_good : Int32) (t_leader : Nat → Int32), lv_has ls 3 [(0, .ref qt), (1, .int x1), (2, .int x2)] → va_P D classes (ww_BlockCodeModel_seal cI cJ cZ qt qt_code qt_inputs qt_reached qt_isInt qt_fact qt_need qt_leader qt_kind qt_left qt_right qt_hold qt_risk qt_risks qt_end qt_to qt_symbol qt_place qt_register t_size t_thrown t_sealed t_good t_symbols t_set t_steps t_ended t_code t_leader) H → va_D A (ww_BlockCodeModel_seal cI cJ cZ qt qt_code qt_inputs qt_reached qt_isInt qt_fact qt_need qt_leader qt_kind qt_left qt_right qt_hold qt_risk qt_risks qt_end qt_to qt_symbol qt_place qt_register t_size t_thrown t_sealed t_good t_symbols t_set t_steps t_ended t_code t_leader) → va_S A s.heap H locs → k155 x1 x2 t_code t_thrown t_sealed t_good t_leader = some (o_r, o_t_code, o_t_thrown, o_t_sealed, o_t_good, o_t_leader) → W p l e rm_BlockCodeModel_seal s m args below meth c H locs 0 0 (MQ below Qc args s 0 0 A) (F0 m 155 ls [])) : ∀ (H : Heap) (locs : List Loc) (ls : Array Slot) (x1 : Int32) (x2 : Int32) (t_code : Nat → Int32) (t_thrown : Int32) (t_sealed : Int32) (t_good : Int32) (t_leader : Nat → Int32), lv_has ls 3 [(0, .ref qt), (1, .int x1), (2, .int x2)] → va_P D classes (ww_BlockCodeModel_seal cI cJ cZ qt qt_code qt_inputs qt_reached qt_isInt qt_fact qt_need qt_leader qt_kind qt_left qt_right qt_hold qt_risk qt_risks qt_end qt_to qt_symbol qt_place qt_register t_size t_thrown t_sealed t_good t_symbols t_set t_steps t_ended t_code t_leader) H → va_D A (ww_BlockCodeModel_seal cI cJ cZ qt qt_code qt_inputs qt_reached qt_isInt qt_fact qt_need qt_leader qt_kind qt_left qt_right qt_hold qt_risk qt_risks qt_end qt_to qt_symbol qt_place qt_register t_size t_thrown t_sealed t_good t_symbols t_set t_steps t_ended t_code t_leader) → va_S A s.heap H locs → f_BlockCodeModel_seal_175 t_size k155 x1 x2 t_code t_thrown t_sealed t_good t_leader = some (o_r, o_t_code, o_t_thrown, o_t_sealed, o_t_good, o_t_leader) → W p l e rm_BlockCodeModel_seal s m args below meth c H locs 0 0 (MQ below Qc args s 0 0 A) (F0 m 175 ls []) := by
  obtain ⟨hx, hb, hml, hown, hts⟩ := id S
  intro H locs ls x1 x2 t_code t_thrown t_sealed t_good t_leader hl hP hD hS hm
  unfold f_BlockCodeModel_seal_175 at hm
  refine lv_iinc (k := 2) (v := (x2 + (1 : Int32))) hx hb d_BlockCodeModel_seal_175 hl rfl (iinc_v (by decide)) (by decide) rfl (fun ls hl => ?_)
  have hl : lv_has ls 3 [(2, .int (x2 + (1 : Int32))), (0, .ref qt), (1, .int x1)] := hl
  refine lv_goto (tgt := 155) hx hb d_BlockCodeModel_seal_178 (by decide) ?_
  exact hk155 H locs ls x1 (x2 + (1 : Int32)) t_code t_thrown t_sealed t_good t_leader (lv_sub hl [1, 2, 0] rfl) hP hD hS hm
set_option maxHeartbeats 4000000 in
set_option maxRecDepth 100000 in
theorem w_BlockCodeModel_seal_155 {p : Program} {l : Launch} {e : Env} {s : State} {m : MethodId} {args : Array Value} {below : List Frame} {meth : Method} {c : Code} {D : va_G} {cI cJ cZ : ClassId} {A : Nat → Prop} {Qc : Array Value → State → Outcome → State → Prop} (S : CallFix p m c b_BlockCodeModel_seal 3 s args tbg R_BlockCodeModel) (hr : meth.sig.returnType = (some .int)) (hlk : meth.locks = false) (hK : kx D cI cJ cZ s) (hA : ∀ q, s.heap.size ≤ q → A q) (qt : Nat) (qt_code : Nat) (qt_inputs : Nat) (qt_reached : Nat) (qt_isInt : Nat) (qt_fact : Nat) (qt_need : Nat) (qt_leader : Nat) (qt_kind : Nat) (qt_left : Nat) (qt_right : Nat) (qt_hold : Nat) (qt_risk : Nat) (qt_risks : Nat) (qt_end : Nat) (qt_to : Nat) (qt_symbol : Nat) (qt_place : Nat) (qt_register : Nat) (t_size : Int32) (t_symbols : Int32) (t_set : Int32) (t_steps : Int32) (t_ended : Int32) (o_r : Int32) (o_t_code : Nat → Int32) (o_t_thrown : Int32) (o_t_sealed : Int32) (o_t_good : Int32) (o_t_leader : Nat → Int32) (hQ : ∀ (t : State) (H : Heap) (locs : List Loc), t.heap = H → s.WarmedH t.vm → va_P D classes (ww_BlockCodeModel_seal cI cJ cZ qt qt_code qt_inputs qt_reached qt_isInt qt_fact qt_need qt_leader qt_kind qt_left qt_right qt_hold qt_risk qt_risks qt_end qt_to qt_symbol qt_place qt_register t_size o_t_thrown o_t_sealed o_t_good t_symbols t_set t_steps t_ended o_t_code o_t_leader) H → va_S A s.heap H locs → Qc args s (.returned (some (.int o_r))) t) (n : Nat) : ∀ (H : Heap) (locs : List Loc) (ls : Array Slot) (x1 : Int32) (x2 : Int32) (t_code : Nat → Int32) (t_thrown : Int32) (t_sealed : Int32) (t_good : Int32) (t_leader : Nat → Int32), lv_has ls 3 [(0, .ref qt), (1, .int x1), (2, .int x2)] → va_P D classes (ww_BlockCodeModel_seal cI cJ cZ qt qt_code qt_inputs qt_reached qt_isInt qt_fact qt_need qt_leader qt_kind qt_left qt_right qt_hold qt_risk qt_risks qt_end qt_to qt_symbol qt_place qt_register t_size t_thrown t_sealed t_good t_symbols t_set t_steps t_ended t_code t_leader) H → va_D A (ww_BlockCodeModel_seal cI cJ cZ qt qt_code qt_inputs qt_reached qt_isInt qt_fact qt_need qt_leader qt_kind qt_left qt_right qt_hold qt_risk qt_risks qt_end qt_to qt_symbol qt_place qt_register t_size t_thrown t_sealed t_good t_symbols t_set t_steps t_ended t_code t_leader) → va_S A s.heap H locs → f_BlockCodeModel_seal_155 t_size n x1 x2 t_code t_thrown t_sealed t_good t_leader = some (o_r, o_t_code, o_t_thrown, o_t_sealed, o_t_good, o_t_leader) → W p l e rm_BlockCodeModel_seal s m args below meth c H locs 0 0 (MQ below Qc args s 0 0 A) (F0 m 155 ls []) := by
  obtain ⟨hx, hb, hml, hown, hts⟩ := id S
  induction n with
  | zero =>
    intro H locs ls x1 x2 t_code t_thrown t_sealed t_good t_leader hl hP hD hS hm
    rw [f_BlockCodeModel_seal_155] at hm
    cases hm
  | succ n ih =>
    intro H locs ls x1 x2 t_code t_thrown t_sealed t_good t_leader hl hP hD hS hm
    rw [f_BlockCodeModel_seal_155] at hm
    refine lv_iload_n hx hb d_BlockCodeModel_seal_155 rfl (lv_at hl 2 rfl) ?_
    refine lv_aload_n hx hb d_BlockCodeModel_seal_156 rfl (lv_at hl 0 rfl) ?_
    refine va_get (D := D) (ci := 6) (v := .int t_size) (C := R_BlockCodeModel) (T := T_BlockCodeModel) (N := 26) hx hb hts in_BlockCodeModel hown hK.1 hP 0 rfl rfl 1 (by decide) (hts _ a_662) (fun _ h9 => h9) rfl d_BlockCodeModel_seal_157 ?_
    refine lv_icmp_ge (tgt := 181) hx hb d_BlockCodeModel_seal_160 (by decide) (fun hc => ?_) (fun hc => ?_)
    · have hm := ift hc hm
      refine lv_iload_n hx hb d_BlockCodeModel_seal_181 rfl (lv_at hl 1 rfl) ?_
      cases hm
      exact W.iret hx hb hr (fun t ht hW => hQ t _ _ ht hW hP hS) hS.2.2 d_BlockCodeModel_seal_182 hlk
    · have hm := iff_ hc hm
      refine lv_aload_n hx hb d_BlockCodeModel_seal_163 rfl (lv_at hl 0 rfl) ?_
      refine va_get (D := D) (ci := 6) (v := .ref qt_leader) (C := R_BlockCodeModel) (T := T_BlockCodeModel) (N := 26) hx hb hts in_BlockCodeModel hown hK.1 hP 0 rfl rfl 10 (by decide) (hts _ a_671) (fun _ h9 => h9) rfl d_BlockCodeModel_seal_164 ?_
      refine lv_iload_n hx hb d_BlockCodeModel_seal_167 rfl (lv_at hl 2 rfl) ?_
      obtain ⟨v1, e_v1, hm⟩ := ob hm
      refine vx_zald hx hb hK hP 2 rfl e_v1 d_BlockCodeModel_seal_168 ?_
      refine lv_if_eq (tgt := 175) hx hb d_BlockCodeModel_seal_169 (by decide) (fun hc => ?_) (fun hc => ?_)
      · have hm := ift hc hm
        exact w_BlockCodeModel_seal_175 S hr hlk hK hA qt qt_code qt_inputs qt_reached qt_isInt qt_fact qt_need qt_leader qt_kind qt_left qt_right qt_hold qt_risk qt_risks qt_end qt_to qt_symbol qt_place qt_register t_size t_symbols t_set t_steps t_ended o_r o_t_code o_t_thrown o_t_sealed o_t_good o_t_leader hQ (f_BlockCodeModel_seal_155 t_size n) ih H locs ls x1 x2 t_code t_thrown t_sealed t_good t_leader (lv_sub hl [0, 1, 2] rfl) hP hD hS hm
      · have hm := iff_ hc hm
        refine lv_iinc (k := 1) (v := (x1 + (1 : Int32))) hx hb d_BlockCodeModel_seal_172 hl rfl (iinc_v (by decide)) (by decide) rfl (fun ls hl => ?_)
        have hl : lv_has ls 3 [(1, .int (x1 + (1 : Int32))), (0, .ref qt), (2, .int x2)] := hl
        exact w_BlockCodeModel_seal_175 S hr hlk hK hA qt qt_code qt_inputs qt_reached qt_isInt qt_fact qt_need qt_leader qt_kind qt_left qt_right qt_hold qt_risk qt_risks qt_end qt_to qt_symbol qt_place qt_register t_size t_symbols t_set t_steps t_ended o_r o_t_code o_t_thrown o_t_sealed o_t_good o_t_leader hQ (f_BlockCodeModel_seal_155 t_size n) ih H locs ls (x1 + (1 : Int32)) x2 t_code t_thrown t_sealed t_good t_leader (lv_sub hl [1, 0, 2] rfl) hP hD hS hm
set_option maxHeartbeats 4000000 in
set_option maxRecDepth 100000 in
theorem w_BlockCodeModel_seal_125 {p : Program} {l : Launch} {e : Env} {s : State} {m : MethodId} {args : Array Value} {below : List Frame} {meth : Method} {c : Code} {D : va_G} {cI cJ cZ : ClassId} {A : Nat → Prop} {Qc : Array Value → State → Outcome → State → Prop} (S : CallFix p m c b_BlockCodeModel_seal 3 s args tbg R_BlockCodeModel) (hr : meth.sig.returnType = (some .int)) (hlk : meth.locks = false) (hK : kx D cI cJ cZ s) (hA : ∀ q, s.heap.size ≤ q → A q) (qt : Nat) (qt_code : Nat) (qt_inputs : Nat) (qt_reached : Nat) (qt_isInt : Nat) (qt_fact : Nat) (qt_need : Nat) (qt_leader : Nat) (qt_kind : Nat) (qt_left : Nat) (qt_right : Nat) (qt_hold : Nat) (qt_risk : Nat) (qt_risks : Nat) (qt_end : Nat) (qt_to : Nat) (qt_symbol : Nat) (qt_place : Nat) (qt_register : Nat) (t_size : Int32) (t_symbols : Int32) (t_set : Int32) (t_steps : Int32) (t_ended : Int32) (o_r : Int32) (o_t_code : Nat → Int32) (o_t_thrown : Int32) (o_t_sealed : Int32) (o_t_good : Int32) (o_t_leader : Nat → Int32) (hQ : ∀ (t : State) (H : Heap) (locs : List Loc), t.heap = H → s.WarmedH t.vm → va_P D classes (ww_BlockCodeModel_seal cI cJ cZ qt qt_code qt_inputs qt_reached qt_isInt qt_fact qt_need qt_leader qt_kind qt_left qt_right qt_hold qt_risk qt_risks qt_end qt_to qt_symbol qt_place qt_register t_size o_t_thrown o_t_sealed o_t_good t_symbols t_set t_steps t_ended o_t_code o_t_leader) H → va_S A s.heap H locs → Qc args s (.returned (some (.int o_r))) t) (k55 : Int32 → (Nat → Int32) → Int32 → Int32 → Int32 → (Nat → Int32) → Option (Int32 × (Nat → Int32) × Int32 × Int32 × Int32 × (Nat → Int32))) (hk55 : ∀ (H : Heap) (locs : List Loc) (ls : Array Slot) (x1 : Int32) (t_code : Nat → Int32) (t_thrown : Int32) (t_sealed : Int32) (t_good : Int32) (t_leader : Nat → Int32), lv_has ls 3 [(0, .ref qt), (1, .int x1)] → va_P D classes (ww_BlockCodeModel_seal cI cJ cZ qt qt_code qt_inputs qt_reached qt_isInt qt_fact qt_need qt_leader qt_kind qt_left qt_right qt_hold qt_risk qt_risks qt_end qt_to qt_symbol qt_place qt_register t_size t_thrown t_sealed t_good t_symbols t_set t_steps t_ended t_code t_leader) H → va_D A (ww_BlockCodeModel_seal cI cJ cZ qt qt_code qt_inputs qt_reached qt_isInt qt_fact qt_need qt_leader qt_kind qt_left qt_right qt_hold qt_risk qt_risks qt_end qt_to qt_symbol qt_place qt_register t_size t_thrown t_sealed t_good t_symbols t_set t_steps t_ended t_code t_leader) → va_S A s.heap H locs → k55 x1 t_code t_thrown t_sealed t_good t_leader = some (o_r, o_t_code, o_t_thrown, o_t_sealed, o_t_good, o_t_leader) → W p l e rm_BlockCodeModel_seal s m args below meth c H locs 0 0 (MQ below Qc args s 0 0 A) (F0 m 55 ls [])) : ∀ (H : Heap) (locs : List Loc) (ls : Array Slot) (x1 : Int32) (t_code : Nat → Int32) (t_thrown : Int32) (t_sealed : Int32) (t_good : Int32) (t_leader : Nat → Int32), lv_has ls 3 [(0, .ref qt), (1, .int x1)] → va_P D classes (ww_BlockCodeModel_seal cI cJ cZ qt qt_code qt_inputs qt_reached qt_isInt qt_fact qt_need qt_leader qt_kind qt_left qt_right qt_hold qt_risk qt_risks qt_end qt_to qt_symbol qt_place qt_register t_size t_thrown t_sealed t_good t_symbols t_set t_steps t_ended t_code t_leader) H → va_D A (ww_BlockCodeModel_seal cI cJ cZ qt qt_code qt_inputs qt_reached qt_isInt qt_fact qt_need qt_leader qt_kind qt_left qt_right qt_hold qt_risk qt_risks qt_end qt_to qt_symbol qt_place qt_register t_size t_thrown t_sealed t_good t_symbols t_set t_steps t_ended t_code t_leader) → va_S A s.heap H locs → f_BlockCodeModel_seal_125 t_size k55 x1 t_code t_thrown t_sealed t_good t_leader = some (o_r, o_t_code, o_t_thrown, o_t_sealed, o_t_good, o_t_leader) → W p l e rm_BlockCodeModel_seal s m args below meth c H locs 0 0 (MQ below Qc args s 0 0 A) (F0 m 125 ls []) := by
  obtain ⟨hx, hb, hml, hown, hts⟩ := id S
  intro H locs ls x1 t_code t_thrown t_sealed t_good t_leader hl hP hD hS hm
  unfold f_BlockCodeModel_seal_125 at hm
  refine lv_iinc (k := 1) (v := (x1 + (1 : Int32))) hx hb d_BlockCodeModel_seal_125 hl rfl (iinc_v (by decide)) (by decide) rfl (fun ls hl => ?_)
  have hl : lv_has ls 3 [(1, .int (x1 + (1 : Int32))), (0, .ref qt)] := hl
  refine lv_goto (tgt := 55) hx hb d_BlockCodeModel_seal_128 (by decide) ?_
  exact hk55 H locs ls (x1 + (1 : Int32)) t_code t_thrown t_sealed t_good t_leader (lv_sub hl [1, 0] rfl) hP hD hS hm
set_option maxHeartbeats 4000000 in
set_option maxRecDepth 100000 in
theorem w_BlockCodeModel_seal_93 {p : Program} {l : Launch} {e : Env} {s : State} {m : MethodId} {args : Array Value} {below : List Frame} {meth : Method} {c : Code} {D : va_G} {cI cJ cZ : ClassId} {A : Nat → Prop} {Qc : Array Value → State → Outcome → State → Prop} (S : CallFix p m c b_BlockCodeModel_seal 3 s args tbg R_BlockCodeModel) (hr : meth.sig.returnType = (some .int)) (hlk : meth.locks = false) (hK : kx D cI cJ cZ s) (hA : ∀ q, s.heap.size ≤ q → A q) (qt : Nat) (qt_code : Nat) (qt_inputs : Nat) (qt_reached : Nat) (qt_isInt : Nat) (qt_fact : Nat) (qt_need : Nat) (qt_leader : Nat) (qt_kind : Nat) (qt_left : Nat) (qt_right : Nat) (qt_hold : Nat) (qt_risk : Nat) (qt_risks : Nat) (qt_end : Nat) (qt_to : Nat) (qt_symbol : Nat) (qt_place : Nat) (qt_register : Nat) (t_size : Int32) (t_symbols : Int32) (t_set : Int32) (t_steps : Int32) (t_ended : Int32) (o_r : Int32) (o_t_code : Nat → Int32) (o_t_thrown : Int32) (o_t_sealed : Int32) (o_t_good : Int32) (o_t_leader : Nat → Int32) (hQ : ∀ (t : State) (H : Heap) (locs : List Loc), t.heap = H → s.WarmedH t.vm → va_P D classes (ww_BlockCodeModel_seal cI cJ cZ qt qt_code qt_inputs qt_reached qt_isInt qt_fact qt_need qt_leader qt_kind qt_left qt_right qt_hold qt_risk qt_risks qt_end qt_to qt_symbol qt_place qt_register t_size o_t_thrown o_t_sealed o_t_good t_symbols t_set t_steps t_ended o_t_code o_t_leader) H → va_S A s.heap H locs → Qc args s (.returned (some (.int o_r))) t) (k55 : Int32 → (Nat → Int32) → Int32 → Int32 → Int32 → (Nat → Int32) → Option (Int32 × (Nat → Int32) × Int32 × Int32 × Int32 × (Nat → Int32))) (hk55 : ∀ (H : Heap) (locs : List Loc) (ls : Array Slot) (x1 : Int32) (t_code : Nat → Int32) (t_thrown : Int32) (t_sealed : Int32) (t_good : Int32) (t_leader : Nat → Int32), lv_has ls 3 [(0, .ref qt), (1, .int x1)] → va_P D classes (ww_BlockCodeModel_seal cI cJ cZ qt qt_code qt_inputs qt_reached qt_isInt qt_fact qt_need qt_leader qt_kind qt_left qt_right qt_hold qt_risk qt_risks qt_end qt_to qt_symbol qt_place qt_register t_size t_thrown t_sealed t_good t_symbols t_set t_steps t_ended t_code t_leader) H → va_D A (ww_BlockCodeModel_seal cI cJ cZ qt qt_code qt_inputs qt_reached qt_isInt qt_fact qt_need qt_leader qt_kind qt_left qt_right qt_hold qt_risk qt_risks qt_end qt_to qt_symbol qt_place qt_register t_size t_thrown t_sealed t_good t_symbols t_set t_steps t_ended t_code t_leader) → va_S A s.heap H locs → k55 x1 t_code t_thrown t_sealed t_good t_leader = some (o_r, o_t_code, o_t_thrown, o_t_sealed, o_t_good, o_t_leader) → W p l e rm_BlockCodeModel_seal s m args below meth c H locs 0 0 (MQ below Qc args s 0 0 A) (F0 m 55 ls [])) : ∀ (H : Heap) (locs : List Loc) (ls : Array Slot) (x1 : Int32) (t_code : Nat → Int32) (t_thrown : Int32) (t_sealed : Int32) (t_good : Int32) (t_leader : Nat → Int32), lv_has ls 3 [(0, .ref qt), (1, .int x1)] → va_P D classes (ww_BlockCodeModel_seal cI cJ cZ qt qt_code qt_inputs qt_reached qt_isInt qt_fact qt_need qt_leader qt_kind qt_left qt_right qt_hold qt_risk qt_risks qt_end qt_to qt_symbol qt_place qt_register t_size t_thrown t_sealed t_good t_symbols t_set t_steps t_ended t_code t_leader) H → va_D A (ww_BlockCodeModel_seal cI cJ cZ qt qt_code qt_inputs qt_reached qt_isInt qt_fact qt_need qt_leader qt_kind qt_left qt_right qt_hold qt_risk qt_risks qt_end qt_to qt_symbol qt_place qt_register t_size t_thrown t_sealed t_good t_symbols t_set t_steps t_ended t_code t_leader) → va_S A s.heap H locs → f_BlockCodeModel_seal_93 t_size k55 x1 t_code t_thrown t_sealed t_good t_leader = some (o_r, o_t_code, o_t_thrown, o_t_sealed, o_t_good, o_t_leader) → W p l e rm_BlockCodeModel_seal s m args below meth c H locs 0 0 (MQ below Qc args s 0 0 A) (F0 m 93 ls []) := by
  obtain ⟨hx, hb, hml, hown, hts⟩ := id S
  intro H locs ls x1 t_code t_thrown t_sealed t_good t_leader hl hP hD hS hm
  unfold f_BlockCodeModel_seal_93 at hm
  refine lv_aload_n hx hb d_BlockCodeModel_seal_93 rfl (lv_at hl 0 rfl) ?_
  refine va_get (D := D) (ci := 6) (v := .ref qt_code) (C := R_BlockCodeModel) (T := T_BlockCodeModel) (N := 26) hx hb hts in_BlockCodeModel hown hK.1 hP 0 rfl rfl 0 (by decide) (hts _ a_661) (fun _ h9 => h9) rfl d_BlockCodeModel_seal_94 ?_
  refine lv_iconst (v := (4 : Int32)) hx hb d_BlockCodeModel_seal_97 (by decide) ?_
  refine lv_iload_n hx hb d_BlockCodeModel_seal_98 rfl (lv_at hl 1 rfl) ?_
  refine lv_imul hx hb d_BlockCodeModel_seal_99 ?_
  obtain ⟨v1, e_v1, hm⟩ := ob hm
  refine vx_iald hx hb hK hP 1 rfl e_v1 d_BlockCodeModel_seal_100 ?_
  refine lv_bipush (v := (9 : Int32)) hx hb d_BlockCodeModel_seal_101 (by decide) ?_
  refine lv_icmp_ne (tgt := 125) hx hb d_BlockCodeModel_seal_103 (by decide) (fun hc => ?_) (fun hc => ?_)
  · have hm := iff_ hc hm
    exact w_BlockCodeModel_seal_125 S hr hlk hK hA qt qt_code qt_inputs qt_reached qt_isInt qt_fact qt_need qt_leader qt_kind qt_left qt_right qt_hold qt_risk qt_risks qt_end qt_to qt_symbol qt_place qt_register t_size t_symbols t_set t_steps t_ended o_r o_t_code o_t_thrown o_t_sealed o_t_good o_t_leader hQ k55 hk55 H locs ls x1 t_code t_thrown t_sealed t_good t_leader (lv_sub hl [0, 1] rfl) hP hD hS hm
  · have hm := ift hc hm
    refine lv_aload_n hx hb d_BlockCodeModel_seal_106 rfl (lv_at hl 0 rfl) ?_
    refine va_get (D := D) (ci := 6) (v := .ref qt_code) (C := R_BlockCodeModel) (T := T_BlockCodeModel) (N := 26) hx hb hts in_BlockCodeModel hown hK.1 hP 0 rfl rfl 0 (by decide) (hts _ a_661) (fun _ h9 => h9) rfl d_BlockCodeModel_seal_107 ?_
    refine lv_iconst (v := (4 : Int32)) hx hb d_BlockCodeModel_seal_110 (by decide) ?_
    refine lv_iload_n hx hb d_BlockCodeModel_seal_111 rfl (lv_at hl 1 rfl) ?_
    refine lv_imul hx hb d_BlockCodeModel_seal_112 ?_
    refine lv_iconst (v := (3 : Int32)) hx hb d_BlockCodeModel_seal_113 (by decide) ?_
    refine lv_iadd hx hb d_BlockCodeModel_seal_114 ?_
    obtain ⟨v2, e_v2, hm⟩ := ob hm
    refine vx_iald hx hb hK hP 1 rfl e_v2 d_BlockCodeModel_seal_115 ?_
    refine lv_aload_n hx hb d_BlockCodeModel_seal_116 rfl (lv_at hl 0 rfl) ?_
    refine va_get (D := D) (ci := 6) (v := .int t_size) (C := R_BlockCodeModel) (T := T_BlockCodeModel) (N := 26) hx hb hts in_BlockCodeModel hown hK.1 hP 0 rfl rfl 1 (by decide) (hts _ a_662) (fun _ h9 => h9) rfl d_BlockCodeModel_seal_117 ?_
    refine lv_icmp_lt (tgt := 125) hx hb d_BlockCodeModel_seal_120 (by decide) (fun hc => ?_) (fun hc => ?_)
    · have hm := ift hc hm
      exact w_BlockCodeModel_seal_125 S hr hlk hK hA qt qt_code qt_inputs qt_reached qt_isInt qt_fact qt_need qt_leader qt_kind qt_left qt_right qt_hold qt_risk qt_risks qt_end qt_to qt_symbol qt_place qt_register t_size t_symbols t_set t_steps t_ended o_r o_t_code o_t_thrown o_t_sealed o_t_good o_t_leader hQ k55 hk55 H locs ls x1 t_code t_thrown t_sealed t_good t_leader (lv_sub hl [0, 1] rfl) hP hD hS hm
    · have hm := iff_ hc hm
      refine lv_iconst (v := (-1 : Int32)) hx hb d_BlockCodeModel_seal_123 (by decide) ?_
      cases hm
      exact W.iret hx hb hr (fun t ht hW => hQ t _ _ ht hW hP hS) hS.2.2 d_BlockCodeModel_seal_124 hlk
set_option maxHeartbeats 4000000 in
set_option maxRecDepth 100000 in
theorem w_BlockCodeModel_seal_55 {p : Program} {l : Launch} {e : Env} {s : State} {m : MethodId} {args : Array Value} {below : List Frame} {meth : Method} {c : Code} {D : va_G} {cI cJ cZ : ClassId} {A : Nat → Prop} {Qc : Array Value → State → Outcome → State → Prop} (S : CallFix p m c b_BlockCodeModel_seal 3 s args tbg R_BlockCodeModel) (hr : meth.sig.returnType = (some .int)) (hlk : meth.locks = false) (hK : kx D cI cJ cZ s) (hA : ∀ q, s.heap.size ≤ q → A q) (qt : Nat) (qt_code : Nat) (qt_inputs : Nat) (qt_reached : Nat) (qt_isInt : Nat) (qt_fact : Nat) (qt_need : Nat) (qt_leader : Nat) (qt_kind : Nat) (qt_left : Nat) (qt_right : Nat) (qt_hold : Nat) (qt_risk : Nat) (qt_risks : Nat) (qt_end : Nat) (qt_to : Nat) (qt_symbol : Nat) (qt_place : Nat) (qt_register : Nat) (t_size : Int32) (t_symbols : Int32) (t_set : Int32) (t_steps : Int32) (t_ended : Int32) (o_r : Int32) (o_t_code : Nat → Int32) (o_t_thrown : Int32) (o_t_sealed : Int32) (o_t_good : Int32) (o_t_leader : Nat → Int32) (hQ : ∀ (t : State) (H : Heap) (locs : List Loc), t.heap = H → s.WarmedH t.vm → va_P D classes (ww_BlockCodeModel_seal cI cJ cZ qt qt_code qt_inputs qt_reached qt_isInt qt_fact qt_need qt_leader qt_kind qt_left qt_right qt_hold qt_risk qt_risks qt_end qt_to qt_symbol qt_place qt_register t_size o_t_thrown o_t_sealed o_t_good t_symbols t_set t_steps t_ended o_t_code o_t_leader) H → va_S A s.heap H locs → Qc args s (.returned (some (.int o_r))) t) (n : Nat) : ∀ (H : Heap) (locs : List Loc) (ls : Array Slot) (x1 : Int32) (t_code : Nat → Int32) (t_thrown : Int32) (t_sealed : Int32) (t_good : Int32) (t_leader : Nat → Int32), lv_has ls 3 [(0, .ref qt), (1, .int x1)] → va_P D classes (ww_BlockCodeModel_seal cI cJ cZ qt qt_code qt_inputs qt_reached qt_isInt qt_fact qt_need qt_leader qt_kind qt_left qt_right qt_hold qt_risk qt_risks qt_end qt_to qt_symbol qt_place qt_register t_size t_thrown t_sealed t_good t_symbols t_set t_steps t_ended t_code t_leader) H → va_D A (ww_BlockCodeModel_seal cI cJ cZ qt qt_code qt_inputs qt_reached qt_isInt qt_fact qt_need qt_leader qt_kind qt_left qt_right qt_hold qt_risk qt_risks qt_end qt_to qt_symbol qt_place qt_register t_size t_thrown t_sealed t_good t_symbols t_set t_steps t_ended t_code t_leader) → va_S A s.heap H locs → f_BlockCodeModel_seal_55 t_size n x1 t_code t_thrown t_sealed t_good t_leader = some (o_r, o_t_code, o_t_thrown, o_t_sealed, o_t_good, o_t_leader) → W p l e rm_BlockCodeModel_seal s m args below meth c H locs 0 0 (MQ below Qc args s 0 0 A) (F0 m 55 ls []) := by
  obtain ⟨hx, hb, hml, hown, hts⟩ := id S
  induction n with
  | zero =>
    intro H locs ls x1 t_code t_thrown t_sealed t_good t_leader hl hP hD hS hm
    rw [f_BlockCodeModel_seal_55] at hm
    cases hm
  | succ n ih =>
    intro H locs ls x1 t_code t_thrown t_sealed t_good t_leader hl hP hD hS hm
    rw [f_BlockCodeModel_seal_55] at hm
    refine lv_iload_n hx hb d_BlockCodeModel_seal_55 rfl (lv_at hl 1 rfl) ?_
    refine lv_aload_n hx hb d_BlockCodeModel_seal_56 rfl (lv_at hl 0 rfl) ?_
    refine va_get (D := D) (ci := 6) (v := .int t_size) (C := R_BlockCodeModel) (T := T_BlockCodeModel) (N := 26) hx hb hts in_BlockCodeModel hown hK.1 hP 0 rfl rfl 1 (by decide) (hts _ a_662) (fun _ h9 => h9) rfl d_BlockCodeModel_seal_57 ?_
    refine lv_icmp_ge (tgt := 131) hx hb d_BlockCodeModel_seal_60 (by decide) (fun hc => ?_) (fun hc => ?_)
    · have hm := ift hc hm
      refine lv_aload_n hx hb d_BlockCodeModel_seal_131 rfl (lv_at hl 0 rfl) ?_
      refine lv_iconst (v := (1 : Int32)) hx hb d_BlockCodeModel_seal_132 (by decide) ?_
      refine va_put (D := D) (ci := 6) (v := .int (1 : Int32)) (ty := .boolean) (C := R_BlockCodeModel) (T := T_BlockCodeModel) (N := 26) hx hb hts in_BlockCodeModel ty_BlockCodeModel tyok_BlockCodeModel nm_BlockCodeModel hown hK.1 hP hD hS 0 rfl rfl 3 (by decide) (hts _ a_664) (fun _ h9 => h9) rfl (by decide +kernel) rfl rfl (Nat.le_of_ble_eq_true rfl) d_BlockCodeModel_seal_133 (fun H locs hP hD hS => ?_)
      have hP : va_P D classes (ww_BlockCodeModel_seal cI cJ cZ qt qt_code qt_inputs qt_reached qt_isInt qt_fact qt_need qt_leader qt_kind qt_left qt_right qt_hold qt_risk qt_risks qt_end qt_to qt_symbol qt_place qt_register t_size t_thrown (1 : Int32) t_good t_symbols t_set t_steps t_ended t_code t_leader) H := hP
      have hD : va_D A (ww_BlockCodeModel_seal cI cJ cZ qt qt_code qt_inputs qt_reached qt_isInt qt_fact qt_need qt_leader qt_kind qt_left qt_right qt_hold qt_risk qt_risks qt_end qt_to qt_symbol qt_place qt_register t_size t_thrown (1 : Int32) t_good t_symbols t_set t_steps t_ended t_code t_leader) := hD
      refine lv_aload_n hx hb d_BlockCodeModel_seal_136 rfl (lv_at hl 0 rfl) ?_
      refine lv_iconst (v := (0 : Int32)) hx hb d_BlockCodeModel_seal_137 (by decide) ?_
      refine va_put (D := D) (ci := 6) (v := .int (0 : Int32)) (ty := .boolean) (C := R_BlockCodeModel) (T := T_BlockCodeModel) (N := 26) hx hb hts in_BlockCodeModel ty_BlockCodeModel tyok_BlockCodeModel nm_BlockCodeModel hown hK.1 hP hD hS 0 rfl rfl 4 (by decide) (hts _ a_665) (fun _ h9 => h9) rfl (by decide +kernel) rfl rfl (Nat.le_of_ble_eq_true rfl) d_BlockCodeModel_seal_138 (fun H locs hP hD hS => ?_)
      have hP : va_P D classes (ww_BlockCodeModel_seal cI cJ cZ qt qt_code qt_inputs qt_reached qt_isInt qt_fact qt_need qt_leader qt_kind qt_left qt_right qt_hold qt_risk qt_risks qt_end qt_to qt_symbol qt_place qt_register t_size t_thrown (1 : Int32) (0 : Int32) t_symbols t_set t_steps t_ended t_code t_leader) H := hP
      have hD : va_D A (ww_BlockCodeModel_seal cI cJ cZ qt qt_code qt_inputs qt_reached qt_isInt qt_fact qt_need qt_leader qt_kind qt_left qt_right qt_hold qt_risk qt_risks qt_end qt_to qt_symbol qt_place qt_register t_size t_thrown (1 : Int32) (0 : Int32) t_symbols t_set t_steps t_ended t_code t_leader) := hD
      refine lv_aload_n hx hb d_BlockCodeModel_seal_141 rfl (lv_at hl 0 rfl) ?_
      refine lv_iconst (v := (0 : Int32)) hx hb d_BlockCodeModel_seal_142 (by decide) ?_
      refine lv_iconst (v := (1 : Int32)) hx hb d_BlockCodeModel_seal_143 (by decide) ?_
      obtain ⟨u1, e_u1, hm⟩ := ob hm
      have hC : ([0, 1] : List Nat).map (fun i => (ww_BlockCodeModel_seal cI cJ cZ qt qt_code qt_inputs qt_reached qt_isInt qt_fact qt_need qt_leader qt_kind qt_left qt_right qt_hold qt_risk qt_risks qt_end qt_to qt_symbol qt_place qt_register t_size t_thrown (1 : Int32) (0 : Int32) t_symbols t_set t_steps t_ended t_code t_leader)[i]?) = (ww_BlockCodeModel_copy cI cJ cZ qt qt_code qt_inputs qt_reached qt_isInt qt_fact qt_need qt_leader qt_kind qt_left qt_right qt_hold qt_risk qt_risks qt_end qt_to qt_symbol qt_place qt_register t_size t_thrown (1 : Int32) (0 : Int32) t_symbols t_set t_steps t_ended t_code).map some := rfl
      refine vj_v (w1 := (ww_BlockCodeModel_copy cI cJ cZ qt qt_code qt_inputs qt_reached qt_isInt qt_fact qt_need qt_leader qt_kind qt_left qt_right qt_hold qt_risk qt_risks qt_end qt_to qt_symbol qt_place qt_register t_size t_thrown (1 : Int32) (0 : Int32) t_symbols t_set t_steps t_ended u1)) (wn := (ww_BlockCodeModel_seal cI cJ cZ qt qt_code qt_inputs qt_reached qt_isInt qt_fact qt_need qt_leader qt_kind qt_left qt_right qt_hold qt_risk qt_risks qt_end qt_to qt_symbol qt_place qt_register t_size t_thrown (1 : Int32) (0 : Int32) t_symbols t_set t_steps t_ended u1 t_leader)) (isR := [2]) (nw := 3) (vr_V (C := R_BlockCodeModel) (n := 2) (As := [.int (0 : Int32), .int (1 : Int32)]) S ((c_BlockCodeModel_copy l D cI cJ cZ qt qt_code qt_inputs qt_reached qt_isInt qt_fact qt_need qt_leader qt_kind qt_left qt_right qt_hold qt_risk qt_risks qt_end qt_to qt_symbol qt_place qt_register t_size t_thrown (1 : Int32) (0 : Int32) t_symbols t_set t_steps t_ended t_code (0 : Int32) (1 : Int32) u1 e_u1) H.size) a_773 a_775 ap_26 a_7 a_776 (by decide +kernel) ⟨rfl, rfl⟩ ⟨Nat.le_of_ble_eq_true rfl, Nat.le_of_ble_eq_true rfl⟩ (ci := 6) (q0 := 0) rfl rfl hK hP hD (by decide) hC rfl hl.1 (Nat.le_of_ble_eq_true rfl) d_BlockCodeModel_seal_144 ⟨Nat.zero_le _, Nat.zero_le _⟩ rfl) hP hD hS hA hC rfl rfl (vx_c rfl rfl vx_n) rfl (by decide) (fun H locs hP hD hS => ?_)
      refine lv_aload_n hx hb d_BlockCodeModel_seal_147 rfl (lv_at hl 0 rfl) ?_
      obtain ⟨u2, e_u2, hm⟩ := ob hm
      have hC : ([0, 1, 2] : List Nat).map (fun i => (ww_BlockCodeModel_seal cI cJ cZ qt qt_code qt_inputs qt_reached qt_isInt qt_fact qt_need qt_leader qt_kind qt_left qt_right qt_hold qt_risk qt_risks qt_end qt_to qt_symbol qt_place qt_register t_size t_thrown (1 : Int32) (0 : Int32) t_symbols t_set t_steps t_ended u1 t_leader)[i]?) = (ww_BlockCodeModel_findLeaders cI cJ cZ qt qt_code qt_inputs qt_reached qt_isInt qt_fact qt_need qt_leader qt_kind qt_left qt_right qt_hold qt_risk qt_risks qt_end qt_to qt_symbol qt_place qt_register t_size t_thrown (1 : Int32) (0 : Int32) t_symbols t_set t_steps t_ended u1 t_leader).map some := rfl
      refine vj_v (w1 := (ww_BlockCodeModel_findLeaders cI cJ cZ qt qt_code qt_inputs qt_reached qt_isInt qt_fact qt_need qt_leader qt_kind qt_left qt_right qt_hold qt_risk qt_risks qt_end qt_to qt_symbol qt_place qt_register t_size t_thrown (1 : Int32) (0 : Int32) t_symbols t_set t_steps t_ended u1 u2)) (wn := (ww_BlockCodeModel_seal cI cJ cZ qt qt_code qt_inputs qt_reached qt_isInt qt_fact qt_need qt_leader qt_kind qt_left qt_right qt_hold qt_risk qt_risks qt_end qt_to qt_symbol qt_place qt_register t_size t_thrown (1 : Int32) (0 : Int32) t_symbols t_set t_steps t_ended u1 u2)) (isR := []) (nw := 3) (vr_V (C := R_BlockCodeModel) (n := 0) (As := []) S ((c_BlockCodeModel_findLeaders l D cI cJ cZ qt qt_code qt_inputs qt_reached qt_isInt qt_fact qt_need qt_leader qt_kind qt_left qt_right qt_hold qt_risk qt_risks qt_end qt_to qt_symbol qt_place qt_register t_size t_thrown (1 : Int32) (0 : Int32) t_symbols t_set t_steps t_ended u1 t_leader u2 e_u2) H.size) a_777 a_779 ap_27 a_7 a_780 (by decide +kernel) ⟨rfl, rfl⟩ ⟨Nat.le_of_ble_eq_true rfl, Nat.le_of_ble_eq_true rfl⟩ (ci := 6) (q0 := 0) rfl rfl hK hP hD (by decide) hC rfl hl.1 (Nat.le_of_ble_eq_true rfl) d_BlockCodeModel_seal_148 ⟨Nat.zero_le _, Nat.zero_le _⟩ rfl) hP hD hS hA hC rfl rfl vx_n rfl (by decide) (fun H locs hP hD hS => ?_)
      refine lv_iconst (v := (0 : Int32)) hx hb d_BlockCodeModel_seal_151 (by decide) ?_
      refine lv_istore_n hx hb d_BlockCodeModel_seal_152 rfl hl (by decide) rfl (fun ls hl => ?_)
      have hl : lv_has ls 3 [(1, .int (0 : Int32)), (0, .ref qt)] := hl
      refine lv_iconst (v := (0 : Int32)) hx hb d_BlockCodeModel_seal_153 (by decide) ?_
      refine lv_istore_n hx hb d_BlockCodeModel_seal_154 rfl hl (by decide) rfl (fun ls hl => ?_)
      have hl : lv_has ls 3 [(2, .int (0 : Int32)), (1, .int (0 : Int32)), (0, .ref qt)] := hl
      exact w_BlockCodeModel_seal_155 S hr hlk hK hA qt qt_code qt_inputs qt_reached qt_isInt qt_fact qt_need qt_leader qt_kind qt_left qt_right qt_hold qt_risk qt_risks qt_end qt_to qt_symbol qt_place qt_register t_size t_symbols t_set t_steps t_ended o_r o_t_code o_t_thrown o_t_sealed o_t_good o_t_leader hQ fu H locs ls (0 : Int32) (0 : Int32) u1 t_thrown (1 : Int32) (0 : Int32) u2 (lv_sub hl [2, 1, 0] rfl) hP hD hS hm
    · have hm := iff_ hc hm
      refine lv_aload_n hx hb d_BlockCodeModel_seal_63 rfl (lv_at hl 0 rfl) ?_
      refine va_get (D := D) (ci := 6) (v := .ref qt_code) (C := R_BlockCodeModel) (T := T_BlockCodeModel) (N := 26) hx hb hts in_BlockCodeModel hown hK.1 hP 0 rfl rfl 0 (by decide) (hts _ a_661) (fun _ h9 => h9) rfl d_BlockCodeModel_seal_64 ?_
      refine lv_iconst (v := (4 : Int32)) hx hb d_BlockCodeModel_seal_67 (by decide) ?_
      refine lv_iload_n hx hb d_BlockCodeModel_seal_68 rfl (lv_at hl 1 rfl) ?_
      refine lv_imul hx hb d_BlockCodeModel_seal_69 ?_
      obtain ⟨v3, e_v3, hm⟩ := ob hm
      refine vx_iald hx hb hK hP 1 rfl e_v3 d_BlockCodeModel_seal_70 ?_
      refine lv_bipush (v := (8 : Int32)) hx hb d_BlockCodeModel_seal_71 (by decide) ?_
      refine lv_icmp_ne (tgt := 93) hx hb d_BlockCodeModel_seal_73 (by decide) (fun hc => ?_) (fun hc => ?_)
      · have hm := iff_ hc hm
        exact w_BlockCodeModel_seal_93 S hr hlk hK hA qt qt_code qt_inputs qt_reached qt_isInt qt_fact qt_need qt_leader qt_kind qt_left qt_right qt_hold qt_risk qt_risks qt_end qt_to qt_symbol qt_place qt_register t_size t_symbols t_set t_steps t_ended o_r o_t_code o_t_thrown o_t_sealed o_t_good o_t_leader hQ (f_BlockCodeModel_seal_55 t_size n) ih H locs ls x1 t_code t_thrown t_sealed t_good t_leader (lv_sub hl [0, 1] rfl) hP hD hS hm
      · have hm := ift hc hm
        refine lv_aload_n hx hb d_BlockCodeModel_seal_76 rfl (lv_at hl 0 rfl) ?_
        refine va_get (D := D) (ci := 6) (v := .ref qt_code) (C := R_BlockCodeModel) (T := T_BlockCodeModel) (N := 26) hx hb hts in_BlockCodeModel hown hK.1 hP 0 rfl rfl 0 (by decide) (hts _ a_661) (fun _ h9 => h9) rfl d_BlockCodeModel_seal_77 ?_
        refine lv_iconst (v := (4 : Int32)) hx hb d_BlockCodeModel_seal_80 (by decide) ?_
        refine lv_iload_n hx hb d_BlockCodeModel_seal_81 rfl (lv_at hl 1 rfl) ?_
        refine lv_imul hx hb d_BlockCodeModel_seal_82 ?_
        refine lv_iconst (v := (2 : Int32)) hx hb d_BlockCodeModel_seal_83 (by decide) ?_
        refine lv_iadd hx hb d_BlockCodeModel_seal_84 ?_
        obtain ⟨v4, e_v4, hm⟩ := ob hm
        refine vx_iald hx hb hK hP 1 rfl e_v4 d_BlockCodeModel_seal_85 ?_
        refine lv_aload_n hx hb d_BlockCodeModel_seal_86 rfl (lv_at hl 0 rfl) ?_
        refine va_get (D := D) (ci := 6) (v := .int t_size) (C := R_BlockCodeModel) (T := T_BlockCodeModel) (N := 26) hx hb hts in_BlockCodeModel hown hK.1 hP 0 rfl rfl 1 (by decide) (hts _ a_662) (fun _ h9 => h9) rfl d_BlockCodeModel_seal_87 ?_
        refine lv_icmp_ge (tgt := 123) hx hb d_BlockCodeModel_seal_90 (by decide) (fun hc => ?_) (fun hc => ?_)
        · have hm := ift hc hm
          refine lv_iconst (v := (-1 : Int32)) hx hb d_BlockCodeModel_seal_123 (by decide) ?_
          cases hm
          exact W.iret hx hb hr (fun t ht hW => hQ t _ _ ht hW hP hS) hS.2.2 d_BlockCodeModel_seal_124 hlk
        · have hm := iff_ hc hm
          exact w_BlockCodeModel_seal_93 S hr hlk hK hA qt qt_code qt_inputs qt_reached qt_isInt qt_fact qt_need qt_leader qt_kind qt_left qt_right qt_hold qt_risk qt_risks qt_end qt_to qt_symbol qt_place qt_register t_size t_symbols t_set t_steps t_ended o_r o_t_code o_t_thrown o_t_sealed o_t_good o_t_leader hQ (f_BlockCodeModel_seal_55 t_size n) ih H locs ls x1 t_code t_thrown t_sealed t_good t_leader (lv_sub hl [0, 1] rfl) hP hD hS hm
set_option maxHeartbeats 4000000 in
set_option maxRecDepth 100000 in
theorem w_BlockCodeModel_seal_13 {p : Program} {l : Launch} {e : Env} {s : State} {m : MethodId} {args : Array Value} {below : List Frame} {meth : Method} {c : Code} {D : va_G} {cI cJ cZ : ClassId} {A : Nat → Prop} {Qc : Array Value → State → Outcome → State → Prop} (S : CallFix p m c b_BlockCodeModel_seal 3 s args tbg R_BlockCodeModel) (hr : meth.sig.returnType = (some .int)) (hlk : meth.locks = false) (hK : kx D cI cJ cZ s) (hA : ∀ q, s.heap.size ≤ q → A q) (qt : Nat) (qt_code : Nat) (qt_inputs : Nat) (qt_reached : Nat) (qt_isInt : Nat) (qt_fact : Nat) (qt_need : Nat) (qt_leader : Nat) (qt_kind : Nat) (qt_left : Nat) (qt_right : Nat) (qt_hold : Nat) (qt_risk : Nat) (qt_risks : Nat) (qt_end : Nat) (qt_to : Nat) (qt_symbol : Nat) (qt_place : Nat) (qt_register : Nat) (t_size : Int32) (t_symbols : Int32) (t_set : Int32) (t_steps : Int32) (t_ended : Int32) (o_r : Int32) (o_t_code : Nat → Int32) (o_t_thrown : Int32) (o_t_sealed : Int32) (o_t_good : Int32) (o_t_leader : Nat → Int32) (hQ : ∀ (t : State) (H : Heap) (locs : List Loc), t.heap = H → s.WarmedH t.vm → va_P D classes (ww_BlockCodeModel_seal cI cJ cZ qt qt_code qt_inputs qt_reached qt_isInt qt_fact qt_need qt_leader qt_kind qt_left qt_right qt_hold qt_risk qt_risks qt_end qt_to qt_symbol qt_place qt_register t_size o_t_thrown o_t_sealed o_t_good t_symbols t_set t_steps t_ended o_t_code o_t_leader) H → va_S A s.heap H locs → Qc args s (.returned (some (.int o_r))) t) : ∀ (H : Heap) (locs : List Loc) (ls : Array Slot) (s0 : Int32) (t_code : Nat → Int32) (t_thrown : Int32) (t_sealed : Int32) (t_good : Int32) (t_leader : Nat → Int32), lv_has ls 3 [(0, .ref qt)] → va_P D classes (ww_BlockCodeModel_seal cI cJ cZ qt qt_code qt_inputs qt_reached qt_isInt qt_fact qt_need qt_leader qt_kind qt_left qt_right qt_hold qt_risk qt_risks qt_end qt_to qt_symbol qt_place qt_register t_size t_thrown t_sealed t_good t_symbols t_set t_steps t_ended t_code t_leader) H → va_D A (ww_BlockCodeModel_seal cI cJ cZ qt qt_code qt_inputs qt_reached qt_isInt qt_fact qt_need qt_leader qt_kind qt_left qt_right qt_hold qt_risk qt_risks qt_end qt_to qt_symbol qt_place qt_register t_size t_thrown t_sealed t_good t_symbols t_set t_steps t_ended t_code t_leader) → va_S A s.heap H locs → f_BlockCodeModel_seal_13 t_size s0 t_code t_thrown t_sealed t_good t_leader = some (o_r, o_t_code, o_t_thrown, o_t_sealed, o_t_good, o_t_leader) → W p l e rm_BlockCodeModel_seal s m args below meth c H locs 0 0 (MQ below Qc args s 0 0 A) (F0 m 13 ls [.int s0, .ref qt]) := by
  obtain ⟨hx, hb, hml, hown, hts⟩ := id S
  intro H locs ls s0 t_code t_thrown t_sealed t_good t_leader hl hP hD hS hm
  unfold f_BlockCodeModel_seal_13 at hm
  refine va_put (D := D) (ci := 6) (v := .int s0) (ty := .int) (C := R_BlockCodeModel) (T := T_BlockCodeModel) (N := 26) hx hb hts in_BlockCodeModel ty_BlockCodeModel tyok_BlockCodeModel nm_BlockCodeModel hown hK.1 hP hD hS 0 rfl rfl 2 (by decide) (hts _ a_663) (fun _ h9 => h9) rfl (by decide +kernel) rfl rfl (Nat.le_of_ble_eq_true rfl) d_BlockCodeModel_seal_13 (fun H locs hP hD hS => ?_)
  have hP : va_P D classes (ww_BlockCodeModel_seal cI cJ cZ qt qt_code qt_inputs qt_reached qt_isInt qt_fact qt_need qt_leader qt_kind qt_left qt_right qt_hold qt_risk qt_risks qt_end qt_to qt_symbol qt_place qt_register t_size s0 t_sealed t_good t_symbols t_set t_steps t_ended t_code t_leader) H := hP
  have hD : va_D A (ww_BlockCodeModel_seal cI cJ cZ qt qt_code qt_inputs qt_reached qt_isInt qt_fact qt_need qt_leader qt_kind qt_left qt_right qt_hold qt_risk qt_risks qt_end qt_to qt_symbol qt_place qt_register t_size s0 t_sealed t_good t_symbols t_set t_steps t_ended t_code t_leader) := hD
  refine lv_aload_n hx hb d_BlockCodeModel_seal_16 rfl (lv_at hl 0 rfl) ?_
  refine va_get (D := D) (ci := 6) (v := .int t_sealed) (C := R_BlockCodeModel) (T := T_BlockCodeModel) (N := 26) hx hb hts in_BlockCodeModel hown hK.1 hP 0 rfl rfl 3 (by decide) (hts _ a_664) (fun _ h9 => h9) rfl d_BlockCodeModel_seal_17 ?_
  refine lv_if_eq (tgt := 25) hx hb d_BlockCodeModel_seal_20 (by decide) (fun hc => ?_) (fun hc => ?_)
  · have hm := ift hc hm
    refine lv_aload_n hx hb d_BlockCodeModel_seal_25 rfl (lv_at hl 0 rfl) ?_
    refine va_get (D := D) (ci := 6) (v := .int t_size) (C := R_BlockCodeModel) (T := T_BlockCodeModel) (N := 26) hx hb hts in_BlockCodeModel hown hK.1 hP 0 rfl rfl 1 (by decide) (hts _ a_662) (fun _ h9 => h9) rfl d_BlockCodeModel_seal_26 ?_
    refine lv_if_eq (tgt := 51) hx hb d_BlockCodeModel_seal_29 (by decide) (fun hc => ?_) (fun hc => ?_)
    · have hm := ift hc hm
      refine lv_iconst (v := (-1 : Int32)) hx hb d_BlockCodeModel_seal_51 (by decide) ?_
      cases hm
      exact W.iret hx hb hr (fun t ht hW => hQ t _ _ ht hW hP hS) hS.2.2 d_BlockCodeModel_seal_52 hlk
    · have hm := iff_ hc hm
      refine lv_aload_n hx hb d_BlockCodeModel_seal_32 rfl (lv_at hl 0 rfl) ?_
      refine va_get (D := D) (ci := 6) (v := .ref qt_code) (C := R_BlockCodeModel) (T := T_BlockCodeModel) (N := 26) hx hb hts in_BlockCodeModel hown hK.1 hP 0 rfl rfl 0 (by decide) (hts _ a_661) (fun _ h9 => h9) rfl d_BlockCodeModel_seal_33 ?_
      refine lv_iconst (v := (4 : Int32)) hx hb d_BlockCodeModel_seal_36 (by decide) ?_
      refine lv_aload_n hx hb d_BlockCodeModel_seal_37 rfl (lv_at hl 0 rfl) ?_
      refine va_get (D := D) (ci := 6) (v := .int t_size) (C := R_BlockCodeModel) (T := T_BlockCodeModel) (N := 26) hx hb hts in_BlockCodeModel hown hK.1 hP 0 rfl rfl 1 (by decide) (hts _ a_662) (fun _ h9 => h9) rfl d_BlockCodeModel_seal_38 ?_
      refine lv_imul hx hb d_BlockCodeModel_seal_41 ?_
      refine lv_iconst (v := (4 : Int32)) hx hb d_BlockCodeModel_seal_42 (by decide) ?_
      refine lv_isub hx hb d_BlockCodeModel_seal_43 ?_
      obtain ⟨v1, e_v1, hm⟩ := ob hm
      refine vx_iald hx hb hK hP 1 rfl e_v1 d_BlockCodeModel_seal_44 ?_
      obtain ⟨rz2, e_rz2, hm⟩ := ob hm
      have hC : ([] : List Nat).map (fun i => (ww_BlockCodeModel_seal cI cJ cZ qt qt_code qt_inputs qt_reached qt_isInt qt_fact qt_need qt_leader qt_kind qt_left qt_right qt_hold qt_risk qt_risks qt_end qt_to qt_symbol qt_place qt_register t_size s0 t_sealed t_good t_symbols t_set t_steps t_ended t_code t_leader)[i]?) = (ww_BlockCodeModel_ends cI cJ cZ).map some := rfl
      refine vj_i (w1 := (ww_BlockCodeModel_ends cI cJ cZ)) (wn := (ww_BlockCodeModel_seal cI cJ cZ qt qt_code qt_inputs qt_reached qt_isInt qt_fact qt_need qt_leader qt_kind qt_left qt_right qt_hold qt_risk qt_risks qt_end qt_to qt_symbol qt_place qt_register t_size s0 t_sealed t_good t_symbols t_set t_steps t_ended t_code t_leader)) (isR := [0, 1, 2]) (nw := 3) (vr_S (n := 1) (As := [.int v1]) S ((c_BlockCodeModel_ends l D cI cJ cZ v1 rz2 e_rz2) H.size) a_770 a_771 a_7 a_772 (by decide +kernel) ⟨rfl, rfl⟩ ⟨Nat.le_of_ble_eq_true rfl, Nat.le_of_ble_eq_true rfl⟩ hK hP hD (by decide) hC rfl hl.1 (Nat.le_of_ble_eq_true rfl) d_BlockCodeModel_seal_45 ⟨Nat.zero_le _, Nat.zero_le _⟩ rfl) hP hD hS hA hC rfl rfl (vx_c rfl rfl (vx_c rfl rfl (vx_c rfl rfl vx_n))) rfl (by decide) (fun H locs hP hD hS => ?_)
      refine lv_if_ne (tgt := 53) hx hb d_BlockCodeModel_seal_48 (by decide) (fun hc => ?_) (fun hc => ?_)
      · have hm := iff_ hc hm
        refine lv_iconst (v := (0 : Int32)) hx hb d_BlockCodeModel_seal_53 (by decide) ?_
        refine lv_istore_n hx hb d_BlockCodeModel_seal_54 rfl hl (by decide) rfl (fun ls hl => ?_)
        have hl : lv_has ls 3 [(1, .int (0 : Int32)), (0, .ref qt)] := hl
        exact w_BlockCodeModel_seal_55 S hr hlk hK hA qt qt_code qt_inputs qt_reached qt_isInt qt_fact qt_need qt_leader qt_kind qt_left qt_right qt_hold qt_risk qt_risks qt_end qt_to qt_symbol qt_place qt_register t_size t_symbols t_set t_steps t_ended o_r o_t_code o_t_thrown o_t_sealed o_t_good o_t_leader hQ fu H locs ls (0 : Int32) t_code s0 t_sealed t_good t_leader (lv_sub hl [1, 0] rfl) hP hD hS hm
      · have hm := ift hc hm
        refine lv_iconst (v := (-1 : Int32)) hx hb d_BlockCodeModel_seal_51 (by decide) ?_
        cases hm
        exact W.iret hx hb hr (fun t ht hW => hQ t _ _ ht hW hP hS) hS.2.2 d_BlockCodeModel_seal_52 hlk
  · have hm := iff_ hc hm
    refine lv_iconst (v := (0 : Int32)) hx hb d_BlockCodeModel_seal_23 (by decide) ?_
    cases hm
    exact W.iret hx hb hr (fun t ht hW => hQ t _ _ ht hW hP hS) hS.2.2 d_BlockCodeModel_seal_24 hlk
set_option maxHeartbeats 4000000 in
set_option maxRecDepth 100000 in
theorem w_BlockCodeModel_seal {p : Program} {l : Launch} {e : Env} {s : State} {m : MethodId} {args : Array Value} {below : List Frame} {meth : Method} {c : Code} {D : va_G} {cI cJ cZ : ClassId} {A : Nat → Prop} {Qc : Array Value → State → Outcome → State → Prop} (S : CallFix p m c b_BlockCodeModel_seal 3 s args tbg R_BlockCodeModel) (hr : meth.sig.returnType = (some .int)) (hlk : meth.locks = false) (hK : kx D cI cJ cZ s) (hA : ∀ q, s.heap.size ≤ q → A q) (qt : Nat) (qt_code : Nat) (qt_inputs : Nat) (qt_reached : Nat) (qt_isInt : Nat) (qt_fact : Nat) (qt_need : Nat) (qt_leader : Nat) (qt_kind : Nat) (qt_left : Nat) (qt_right : Nat) (qt_hold : Nat) (qt_risk : Nat) (qt_risks : Nat) (qt_end : Nat) (qt_to : Nat) (qt_symbol : Nat) (qt_place : Nat) (qt_register : Nat) (t_size : Int32) (t_symbols : Int32) (t_set : Int32) (t_steps : Int32) (t_ended : Int32) (o_r : Int32) (o_t_code : Nat → Int32) (o_t_thrown : Int32) (o_t_sealed : Int32) (o_t_good : Int32) (o_t_leader : Nat → Int32) (hQ : ∀ (t : State) (H : Heap) (locs : List Loc), t.heap = H → s.WarmedH t.vm → va_P D classes (ww_BlockCodeModel_seal cI cJ cZ qt qt_code qt_inputs qt_reached qt_isInt qt_fact qt_need qt_leader qt_kind qt_left qt_right qt_hold qt_risk qt_risks qt_end qt_to qt_symbol qt_place qt_register t_size o_t_thrown o_t_sealed o_t_good t_symbols t_set t_steps t_ended o_t_code o_t_leader) H → va_S A s.heap H locs → Qc args s (.returned (some (.int o_r))) t) (t_code : Nat → Int32) (t_thrown : Int32) (t_sealed : Int32) (t_good : Int32) (t_leader : Nat → Int32) (H : Heap) (locs : List Loc) (ls : Array Slot) (hl : lv_has ls 3 [(0, .ref qt)]) (hP : va_P D classes (ww_BlockCodeModel_seal cI cJ cZ qt qt_code qt_inputs qt_reached qt_isInt qt_fact qt_need qt_leader qt_kind qt_left qt_right qt_hold qt_risk qt_risks qt_end qt_to qt_symbol qt_place qt_register t_size t_thrown t_sealed t_good t_symbols t_set t_steps t_ended t_code t_leader) H) (hD : va_D A (ww_BlockCodeModel_seal cI cJ cZ qt qt_code qt_inputs qt_reached qt_isInt qt_fact qt_need qt_leader qt_kind qt_left qt_right qt_hold qt_risk qt_risks qt_end qt_to qt_symbol qt_place qt_register t_size t_thrown t_sealed t_good t_symbols t_set t_steps t_ended t_code t_leader)) (hS : va_S A s.heap H locs) (hm : f_BlockCodeModel_seal t_size t_code t_thrown t_sealed t_good t_leader = some (o_r, o_t_code, o_t_thrown, o_t_sealed, o_t_good, o_t_leader)) : W p l e rm_BlockCodeModel_seal s m args below meth c H locs 0 0 (MQ below Qc args s 0 0 A) (F0 m 0 ls []) := by
  obtain ⟨hx, hb, hml, hown, hts⟩ := id S
  unfold f_BlockCodeModel_seal at hm
  refine lv_aload_n hx hb d_BlockCodeModel_seal_0 rfl (lv_at hl 0 rfl) ?_
  refine lv_aload_n hx hb d_BlockCodeModel_seal_1 rfl (lv_at hl 0 rfl) ?_
  refine va_get (D := D) (ci := 6) (v := .int t_sealed) (C := R_BlockCodeModel) (T := T_BlockCodeModel) (N := 26) hx hb hts in_BlockCodeModel hown hK.1 hP 0 rfl rfl 3 (by decide) (hts _ a_664) (fun _ h9 => h9) rfl d_BlockCodeModel_seal_2 ?_
  refine lv_if_eq (tgt := 12) hx hb d_BlockCodeModel_seal_5 (by decide) (fun hc => ?_) (fun hc => ?_)
  · have hm := ift hc hm
    refine lv_iconst (v := (0 : Int32)) hx hb d_BlockCodeModel_seal_12 (by decide) ?_
    exact w_BlockCodeModel_seal_13 S hr hlk hK hA qt qt_code qt_inputs qt_reached qt_isInt qt_fact qt_need qt_leader qt_kind qt_left qt_right qt_hold qt_risk qt_risks qt_end qt_to qt_symbol qt_place qt_register t_size t_symbols t_set t_steps t_ended o_r o_t_code o_t_thrown o_t_sealed o_t_good o_t_leader hQ H locs ls (0 : Int32) t_code t_thrown t_sealed t_good t_leader (lv_sub hl [0] rfl) hP hD hS hm
  · have hm := iff_ hc hm
    refine lv_iconst (v := (1 : Int32)) hx hb d_BlockCodeModel_seal_8 (by decide) ?_
    refine lv_goto (tgt := 13) hx hb d_BlockCodeModel_seal_9 (by decide) ?_
    exact w_BlockCodeModel_seal_13 S hr hlk hK hA qt qt_code qt_inputs qt_reached qt_isInt qt_fact qt_need qt_leader qt_kind qt_left qt_right qt_hold qt_risk qt_risks qt_end qt_to qt_symbol qt_place qt_register t_size t_symbols t_set t_steps t_ended o_r o_t_code o_t_thrown o_t_sealed o_t_good o_t_leader hQ H locs ls (1 : Int32) t_code t_thrown t_sealed t_good t_leader (lv_sub hl [0] rfl) hP hD hS hm
set_option maxHeartbeats 4000000 in
set_option maxRecDepth 100000 in
theorem c_BlockCodeModel_seal (l : Launch) (D : va_G) (cI cJ cZ : ClassId) (qt : Nat) (qt_code : Nat) (qt_inputs : Nat) (qt_reached : Nat) (qt_isInt : Nat) (qt_fact : Nat) (qt_need : Nat) (qt_leader : Nat) (qt_kind : Nat) (qt_left : Nat) (qt_right : Nat) (qt_hold : Nat) (qt_risk : Nat) (qt_risks : Nat) (qt_end : Nat) (qt_to : Nat) (qt_symbol : Nat) (qt_place : Nat) (qt_register : Nat) (t_size : Int32) (t_thrown : Int32) (t_sealed : Int32) (t_good : Int32) (t_symbols : Int32) (t_set : Int32) (t_steps : Int32) (t_ended : Int32) (t_code : Nat → Int32) (t_leader : Nat → Int32) (o_r : Int32) (o_t_code : Nat → Int32) (o_t_thrown : Int32) (o_t_sealed : Int32) (o_t_good : Int32) (o_t_leader : Nat → Int32) (hm : f_BlockCodeModel_seal t_size t_code t_thrown t_sealed t_good t_leader = some (o_r, o_t_code, o_t_thrown, o_t_sealed, o_t_good, o_t_leader)) : MI l y_BlockCodeModel_seal b_BlockCodeModel_seal 3 .int rm_BlockCodeModel_seal D cI cJ cZ [.ref qt] (ww_BlockCodeModel_seal cI cJ cZ qt qt_code qt_inputs qt_reached qt_isInt qt_fact qt_need qt_leader qt_kind qt_left qt_right qt_hold qt_risk qt_risks qt_end qt_to qt_symbol qt_place qt_register t_size t_thrown t_sealed t_good t_symbols t_set t_steps t_ended t_code t_leader) (ww_BlockCodeModel_seal cI cJ cZ qt qt_code qt_inputs qt_reached qt_isInt qt_fact qt_need qt_leader qt_kind qt_left qt_right qt_hold qt_risk qt_risks qt_end qt_to qt_symbol qt_place qt_register t_size o_t_thrown o_t_sealed o_t_good t_symbols t_set t_steps t_ended o_t_code o_t_leader) o_r := by
  intro sz
  refine Met.ofW (cc := b_BlockCodeModel_seal) (maxL := 3) (ret := (some .int)) (by decide) rfl ?_
  intro p e s m args below meth c s₁ B hml hv
  obtain ⟨rfl, hsz, hP, hK, hD0⟩ := hv
  have hts := atoms_spec (ws := Cond.code y_BlockCodeModel_seal b_BlockCodeModel_seal 3 (some .int) :: tbg) B.pre
  have S : CallFix p m c b_BlockCodeModel_seal 3 s ([.ref qt] : List Value).toArray tbg R_BlockCodeModel := ⟨B.exec, B.bytes, hml, findClass_of_methodNamed B.named, fun w hw => hts w (List.mem_cons_of_mem _ hw)⟩
  subst hsz
  have hD := hD0.self (sz := s.heap.size)
  have hl := lv_entry ([.ref qt] : List Value) (n := 3) (Nat.le_of_ble_eq_true rfl)
  rw [lg_entry_eq]
  generalize (lg_sl ([.ref qt] : List Value) ++ List.replicate (3 - (lg_sl ([.ref qt] : List Value)).length) Slot.unset).toArray = ls at hl ⊢
  have hl : lv_has ls 3 [(0, .ref qt)] := hl
  exact w_BlockCodeModel_seal S B.returns B.notSynchronized hK (fun q h => Or.inr h) qt qt_code qt_inputs qt_reached qt_isInt qt_fact qt_need qt_leader qt_kind qt_left qt_right qt_hold qt_risk qt_risks qt_end qt_to qt_symbol qt_place qt_register t_size t_symbols t_set t_steps t_ended o_r o_t_code o_t_thrown o_t_sealed o_t_good o_t_leader (fun t H locs ht hW hP hS => ⟨⟨_, (), rfl, rfl, sB_of ht hP⟩, hS.F ht⟩) t_code t_thrown t_sealed t_good t_leader s.heap [] ls hl hP hD va_S.rf hm
