set_option maxHeartbeats 4000000 in
set_option maxRecDepth 100000 in
theorem w_BlockCodeModel_told {p : Program} {l : Launch} {e : Env} {s : State} {m : MethodId} {args : Array Value} {below : List Frame} {meth : Method} {c : Code} {D : va_G} {cI cJ cZ : ClassId} {A : Nat → Prop} {Qc : Array Value → State → Outcome → State → Prop} (S : CallFix p m c b_BlockCodeModel_told 2 s args tbg R_BlockCodeModel) (hr : meth.sig.returnType = (some .int)) (hlk : meth.locks = false) (hK : kx D cI cJ cZ s) (hA : ∀ q, s.heap.size ≤ q → A q) (qt : Nat) (qt_code : Nat) (qt_inputs : Nat) (qt_reached : Nat) (qt_isInt : Nat) (qt_fact : Nat) (qt_need : Nat) (qt_leader : Nat) (qt_kind : Nat) (qt_left : Nat) (qt_right : Nat) (qt_hold : Nat) (qt_risk : Nat) (qt_risks : Nat) (qt_end : Nat) (qt_to : Nat) (qt_symbol : Nat) (qt_place : Nat) (qt_register : Nat) (p1 : Int32) (t_register : Nat → Int32) (t_set : Int32) (t_ended : Int32) (t_size : Int32) (t_sealed : Int32) (t_good : Int32) (t_symbols : Int32) (t_steps : Int32) (o_r : Int32) (o_t_thrown : Int32) (hQ : ∀ (t : State) (H : Heap) (locs : List Loc), t.heap = H → s.WarmedH t.vm → va_P D classes (ww_BlockCodeModel_told cI cJ cZ qt qt_code qt_inputs qt_reached qt_isInt qt_fact qt_need qt_leader qt_kind qt_left qt_right qt_hold qt_risk qt_risks qt_end qt_to qt_symbol qt_place qt_register t_size o_t_thrown t_sealed t_good t_symbols t_set t_steps t_ended t_register) H → va_S A s.heap H locs → Qc args s (.returned (some (.int o_r))) t) (t_thrown : Int32) (H : Heap) (locs : List Loc) (ls : Array Slot) (hl : lv_has ls 2 [(0, .ref qt), (1, .int p1)]) (hP : va_P D classes (ww_BlockCodeModel_told cI cJ cZ qt qt_code qt_inputs qt_reached qt_isInt qt_fact qt_need qt_leader qt_kind qt_left qt_right qt_hold qt_risk qt_risks qt_end qt_to qt_symbol qt_place qt_register t_size t_thrown t_sealed t_good t_symbols t_set t_steps t_ended t_register) H) (hD : va_D A (ww_BlockCodeModel_told cI cJ cZ qt qt_code qt_inputs qt_reached qt_isInt qt_fact qt_need qt_leader qt_kind qt_left qt_right qt_hold qt_risk qt_risks qt_end qt_to qt_symbol qt_place qt_register t_size t_thrown t_sealed t_good t_symbols t_set t_steps t_ended t_register)) (hS : va_S A s.heap H locs) (hm : f_BlockCodeModel_told p1 t_register t_set t_ended t_thrown = some (o_r, o_t_thrown)) : W p l e rm_BlockCodeModel_told s m args below meth c H locs 0 0 (MQ below Qc args s 0 0 A) (F0 m 0 ls []) := by
  obtain ⟨hx, hb, hml, hown, hts⟩ := id S
  unfold f_BlockCodeModel_told at hm
  refine lv_aload_n hx hb d_BlockCodeModel_told_0 rfl (lv_at hl 0 rfl) ?_
  refine lv_iconst (v := (0 : Int32)) hx hb d_BlockCodeModel_told_1 (by decide) ?_
  refine va_put (D := D) (ci := 6) (v := .int (0 : Int32)) (ty := .int) (C := R_BlockCodeModel) (T := T_BlockCodeModel) (N := 26) hx hb hts in_BlockCodeModel ty_BlockCodeModel tyok_BlockCodeModel nm_BlockCodeModel hown hK.1 hP hD hS 0 rfl rfl 2 (by decide) (hts _ a_663) (fun _ h9 => h9) rfl (by decide +kernel) rfl rfl (Nat.le_of_ble_eq_true rfl) d_BlockCodeModel_told_2 (fun H locs hP hD hS => ?_)
  have hP : va_P D classes (ww_BlockCodeModel_told cI cJ cZ qt qt_code qt_inputs qt_reached qt_isInt qt_fact qt_need qt_leader qt_kind qt_left qt_right qt_hold qt_risk qt_risks qt_end qt_to qt_symbol qt_place qt_register t_size (0 : Int32) t_sealed t_good t_symbols t_set t_steps t_ended t_register) H := hP
  have hD : va_D A (ww_BlockCodeModel_told cI cJ cZ qt qt_code qt_inputs qt_reached qt_isInt qt_fact qt_need qt_leader qt_kind qt_left qt_right qt_hold qt_risk qt_risks qt_end qt_to qt_symbol qt_place qt_register t_size (0 : Int32) t_sealed t_good t_symbols t_set t_steps t_ended t_register) := hD
  refine lv_iload_n hx hb d_BlockCodeModel_told_5 rfl (lv_at hl 1 rfl) ?_
  refine lv_iconst (v := (0 : Int32)) hx hb d_BlockCodeModel_told_6 (by decide) ?_
  refine lv_iconst (v := (4 : Int32)) hx hb d_BlockCodeModel_told_7 (by decide) ?_
  obtain ⟨rz1, e_rz1, hm⟩ := ob hm
  have hC : ([] : List Nat).map (fun i => (ww_BlockCodeModel_told cI cJ cZ qt qt_code qt_inputs qt_reached qt_isInt qt_fact qt_need qt_leader qt_kind qt_left qt_right qt_hold qt_risk qt_risks qt_end qt_to qt_symbol qt_place qt_register t_size (0 : Int32) t_sealed t_good t_symbols t_set t_steps t_ended t_register)[i]?) = (ww_BlockCodeModel_within cI cJ cZ).map some := rfl
  refine vj_i (w1 := (ww_BlockCodeModel_within cI cJ cZ)) (wn := (ww_BlockCodeModel_told cI cJ cZ qt qt_code qt_inputs qt_reached qt_isInt qt_fact qt_need qt_leader qt_kind qt_left qt_right qt_hold qt_risk qt_risks qt_end qt_to qt_symbol qt_place qt_register t_size (0 : Int32) t_sealed t_good t_symbols t_set t_steps t_ended t_register)) (isR := [0, 1]) (nw := 2) (vr_S (n := 3) (As := [.int p1, .int (0 : Int32), .int (4 : Int32)]) S ((c_BlockCodeModel_within l D cI cJ cZ p1 (0 : Int32) (4 : Int32) rz1 e_rz1) H.size) a_752 a_753 a_7 a_754 (by decide +kernel) ⟨rfl, rfl⟩ ⟨Nat.le_of_ble_eq_true rfl, Nat.le_of_ble_eq_true rfl⟩ hK hP hD (by decide) hC rfl hl.1 (Nat.le_of_ble_eq_true rfl) d_BlockCodeModel_told_8 ⟨Nat.zero_le _, Nat.zero_le _⟩ rfl) hP hD hS hA hC rfl rfl (vx_c rfl rfl (vx_c rfl rfl vx_n)) rfl (by decide) (fun H locs hP hD hS => ?_)
  refine lv_if_eq (tgt := 42) hx hb d_BlockCodeModel_told_11 (by decide) (fun hc => ?_) (fun hc => ?_)
  · have hm := ift hc hm
    refine lv_iconst (v := (0 : Int32)) hx hb d_BlockCodeModel_told_42 (by decide) ?_
    cases hm
    exact W.iret hx hb hr (fun t ht hW => hQ t _ _ ht hW hP hS) hS.2.2 d_BlockCodeModel_told_43 hlk
  · have hm := iff_ hc hm
    refine lv_aload_n hx hb d_BlockCodeModel_told_14 rfl (lv_at hl 0 rfl) ?_
    refine va_get (D := D) (ci := 6) (v := .int t_ended) (C := R_BlockCodeModel) (T := T_BlockCodeModel) (N := 26) hx hb hts in_BlockCodeModel hown hK.1 hP 0 rfl rfl 25 (by decide) (hts _ a_686) (fun _ h9 => h9) rfl d_BlockCodeModel_told_15 ?_
    refine lv_if_eq (tgt := 42) hx hb d_BlockCodeModel_told_18 (by decide) (fun hc => ?_) (fun hc => ?_)
    · have hm := ift hc hm
      refine lv_iconst (v := (0 : Int32)) hx hb d_BlockCodeModel_told_42 (by decide) ?_
      cases hm
      exact W.iret hx hb hr (fun t ht hW => hQ t _ _ ht hW hP hS) hS.2.2 d_BlockCodeModel_told_43 hlk
    · have hm := iff_ hc hm
      refine lv_aload_n hx hb d_BlockCodeModel_told_21 rfl (lv_at hl 0 rfl) ?_
      refine va_get (D := D) (ci := 6) (v := .int t_set) (C := R_BlockCodeModel) (T := T_BlockCodeModel) (N := 26) hx hb hts in_BlockCodeModel hown hK.1 hP 0 rfl rfl 23 (by decide) (hts _ a_684) (fun _ h9 => h9) rfl d_BlockCodeModel_told_22 ?_
      refine lv_iload_n hx hb d_BlockCodeModel_told_25 rfl (lv_at hl 1 rfl) ?_
      refine lv_ishr hx hb d_BlockCodeModel_told_26 ?_
      refine lv_iconst (v := (1 : Int32)) hx hb d_BlockCodeModel_told_27 (by decide) ?_
      refine lv_iand hx hb d_BlockCodeModel_told_28 ?_
      refine lv_iconst (v := (1 : Int32)) hx hb d_BlockCodeModel_told_29 (by decide) ?_
      refine lv_icmp_ne (tgt := 42) hx hb d_BlockCodeModel_told_30 (by decide) (fun hc => ?_) (fun hc => ?_)
      · have hm := iff_ hc hm
        refine lv_iconst (v := (0 : Int32)) hx hb d_BlockCodeModel_told_42 (by decide) ?_
        cases hm
        exact W.iret hx hb hr (fun t ht hW => hQ t _ _ ht hW hP hS) hS.2.2 d_BlockCodeModel_told_43 hlk
      · have hm := ift hc hm
        refine lv_aload_n hx hb d_BlockCodeModel_told_33 rfl (lv_at hl 0 rfl) ?_
        refine va_get (D := D) (ci := 6) (v := .ref qt_register) (C := R_BlockCodeModel) (T := T_BlockCodeModel) (N := 26) hx hb hts in_BlockCodeModel hown hK.1 hP 0 rfl rfl 22 (by decide) (hts _ a_683) (fun _ h9 => h9) rfl d_BlockCodeModel_told_34 ?_
        refine lv_iload_n hx hb d_BlockCodeModel_told_37 rfl (lv_at hl 1 rfl) ?_
        obtain ⟨v2, e_v2, hm⟩ := ob hm
        refine vx_iald hx hb hK hP 1 rfl e_v2 d_BlockCodeModel_told_38 ?_
        refine lv_goto (tgt := 43) hx hb d_BlockCodeModel_told_39 (by decide) ?_
        cases hm
        exact W.iret hx hb hr (fun t ht hW => hQ t _ _ ht hW hP hS) hS.2.2 d_BlockCodeModel_told_43 hlk
set_option maxHeartbeats 4000000 in
set_option maxRecDepth 100000 in
theorem c_BlockCodeModel_told (l : Launch) (D : va_G) (cI cJ cZ : ClassId) (qt : Nat) (qt_code : Nat) (qt_inputs : Nat) (qt_reached : Nat) (qt_isInt : Nat) (qt_fact : Nat) (qt_need : Nat) (qt_leader : Nat) (qt_kind : Nat) (qt_left : Nat) (qt_right : Nat) (qt_hold : Nat) (qt_risk : Nat) (qt_risks : Nat) (qt_end : Nat) (qt_to : Nat) (qt_symbol : Nat) (qt_place : Nat) (qt_register : Nat) (t_size : Int32) (t_thrown : Int32) (t_sealed : Int32) (t_good : Int32) (t_symbols : Int32) (t_set : Int32) (t_steps : Int32) (t_ended : Int32) (t_register : Nat → Int32) (p1 : Int32) (o_r : Int32) (o_t_thrown : Int32) (hm : f_BlockCodeModel_told p1 t_register t_set t_ended t_thrown = some (o_r, o_t_thrown)) : MI l y_BlockCodeModel_told b_BlockCodeModel_told 2 .int rm_BlockCodeModel_told D cI cJ cZ [.ref qt, .int p1] (ww_BlockCodeModel_told cI cJ cZ qt qt_code qt_inputs qt_reached qt_isInt qt_fact qt_need qt_leader qt_kind qt_left qt_right qt_hold qt_risk qt_risks qt_end qt_to qt_symbol qt_place qt_register t_size t_thrown t_sealed t_good t_symbols t_set t_steps t_ended t_register) (ww_BlockCodeModel_told cI cJ cZ qt qt_code qt_inputs qt_reached qt_isInt qt_fact qt_need qt_leader qt_kind qt_left qt_right qt_hold qt_risk qt_risks qt_end qt_to qt_symbol qt_place qt_register t_size o_t_thrown t_sealed t_good t_symbols t_set t_steps t_ended t_register) o_r := by
  intro sz
  refine Met.ofW (cc := b_BlockCodeModel_told) (maxL := 2) (ret := (some .int)) (by decide) rfl ?_
  intro p e s m args below meth c s₁ B hml hv
  obtain ⟨rfl, hsz, hP, hK, hD0⟩ := hv
  have hts := atoms_spec (ws := Cond.code y_BlockCodeModel_told b_BlockCodeModel_told 2 (some .int) :: tbg) B.pre
  have S : CallFix p m c b_BlockCodeModel_told 2 s ([.ref qt, .int p1] : List Value).toArray tbg R_BlockCodeModel := ⟨B.exec, B.bytes, hml, findClass_of_methodNamed B.named, fun w hw => hts w (List.mem_cons_of_mem _ hw)⟩
  subst hsz
  have hD := hD0.self (sz := s.heap.size)
  have hl := lv_entry ([.ref qt, .int p1] : List Value) (n := 2) (Nat.le_of_ble_eq_true rfl)
  rw [lg_entry_eq]
  generalize (lg_sl ([.ref qt, .int p1] : List Value) ++ List.replicate (2 - (lg_sl ([.ref qt, .int p1] : List Value)).length) Slot.unset).toArray = ls at hl ⊢
  have hl : lv_has ls 2 [(0, .ref qt), (1, .int p1)] := hl
  exact w_BlockCodeModel_told S B.returns B.notSynchronized hK (fun q h => Or.inr h) qt qt_code qt_inputs qt_reached qt_isInt qt_fact qt_need qt_leader qt_kind qt_left qt_right qt_hold qt_risk qt_risks qt_end qt_to qt_symbol qt_place qt_register p1 t_register t_set t_ended t_size t_sealed t_good t_symbols t_steps o_r o_t_thrown (fun t H locs ht hW hP hS => ⟨⟨_, (), rfl, rfl, sB_of ht hP⟩, hS.F ht⟩) t_thrown s.heap [] ls hl hP hD va_S.rf hm
set_option maxHeartbeats 4000000 in
set_option maxRecDepth 100000 in
theorem w_BlockCodeModel_steps {p : Program} {l : Launch} {e : Env} {s : State} {m : MethodId} {args : Array Value} {below : List Frame} {meth : Method} {c : Code} {D : va_G} {cI cJ cZ : ClassId} {A : Nat → Prop} {Qc : Array Value → State → Outcome → State → Prop} (S : CallFix p m c b_BlockCodeModel_steps 1 s args tbg R_BlockCodeModel) (hr : meth.sig.returnType = (some .int)) (hlk : meth.locks = false) (hK : kx D cI cJ cZ s) (hA : ∀ q, s.heap.size ≤ q → A q) (qt : Nat) (qt_code : Nat) (qt_inputs : Nat) (qt_reached : Nat) (qt_isInt : Nat) (qt_fact : Nat) (qt_need : Nat) (qt_leader : Nat) (qt_kind : Nat) (qt_left : Nat) (qt_right : Nat) (qt_hold : Nat) (qt_risk : Nat) (qt_risks : Nat) (qt_end : Nat) (qt_to : Nat) (qt_symbol : Nat) (qt_place : Nat) (qt_register : Nat) (t_steps : Int32) (t_size : Int32) (t_sealed : Int32) (t_good : Int32) (t_symbols : Int32) (t_set : Int32) (t_ended : Int32) (o_r : Int32) (o_t_thrown : Int32) (hQ : ∀ (t : State) (H : Heap) (locs : List Loc), t.heap = H → s.WarmedH t.vm → va_P D classes (ww_BlockCodeModel_steps cI cJ cZ qt qt_code qt_inputs qt_reached qt_isInt qt_fact qt_need qt_leader qt_kind qt_left qt_right qt_hold qt_risk qt_risks qt_end qt_to qt_symbol qt_place qt_register t_size o_t_thrown t_sealed t_good t_symbols t_set t_steps t_ended) H → va_S A s.heap H locs → Qc args s (.returned (some (.int o_r))) t) (t_thrown : Int32) (H : Heap) (locs : List Loc) (ls : Array Slot) (hl : lv_has ls 1 [(0, .ref qt)]) (hP : va_P D classes (ww_BlockCodeModel_steps cI cJ cZ qt qt_code qt_inputs qt_reached qt_isInt qt_fact qt_need qt_leader qt_kind qt_left qt_right qt_hold qt_risk qt_risks qt_end qt_to qt_symbol qt_place qt_register t_size t_thrown t_sealed t_good t_symbols t_set t_steps t_ended) H) (hD : va_D A (ww_BlockCodeModel_steps cI cJ cZ qt qt_code qt_inputs qt_reached qt_isInt qt_fact qt_need qt_leader qt_kind qt_left qt_right qt_hold qt_risk qt_risks qt_end qt_to qt_symbol qt_place qt_register t_size t_thrown t_sealed t_good t_symbols t_set t_steps t_ended)) (hS : va_S A s.heap H locs) (hm : f_BlockCodeModel_steps t_steps t_thrown = some (o_r, o_t_thrown)) : W p l e rm_BlockCodeModel_steps s m args below meth c H locs 0 0 (MQ below Qc args s 0 0 A) (F0 m 0 ls []) := by
  obtain ⟨hx, hb, hml, hown, hts⟩ := id S
  unfold f_BlockCodeModel_steps at hm
  refine lv_aload_n hx hb d_BlockCodeModel_steps_0 rfl (lv_at hl 0 rfl) ?_
  refine lv_iconst (v := (0 : Int32)) hx hb d_BlockCodeModel_steps_1 (by decide) ?_
  refine va_put (D := D) (ci := 6) (v := .int (0 : Int32)) (ty := .int) (C := R_BlockCodeModel) (T := T_BlockCodeModel) (N := 26) hx hb hts in_BlockCodeModel ty_BlockCodeModel tyok_BlockCodeModel nm_BlockCodeModel hown hK.1 hP hD hS 0 rfl rfl 2 (by decide) (hts _ a_663) (fun _ h9 => h9) rfl (by decide +kernel) rfl rfl (Nat.le_of_ble_eq_true rfl) d_BlockCodeModel_steps_2 (fun H locs hP hD hS => ?_)
  have hP : va_P D classes (ww_BlockCodeModel_steps cI cJ cZ qt qt_code qt_inputs qt_reached qt_isInt qt_fact qt_need qt_leader qt_kind qt_left qt_right qt_hold qt_risk qt_risks qt_end qt_to qt_symbol qt_place qt_register t_size (0 : Int32) t_sealed t_good t_symbols t_set t_steps t_ended) H := hP
  have hD : va_D A (ww_BlockCodeModel_steps cI cJ cZ qt qt_code qt_inputs qt_reached qt_isInt qt_fact qt_need qt_leader qt_kind qt_left qt_right qt_hold qt_risk qt_risks qt_end qt_to qt_symbol qt_place qt_register t_size (0 : Int32) t_sealed t_good t_symbols t_set t_steps t_ended) := hD
  refine lv_aload_n hx hb d_BlockCodeModel_steps_5 rfl (lv_at hl 0 rfl) ?_
  refine va_get (D := D) (ci := 6) (v := .int t_steps) (C := R_BlockCodeModel) (T := T_BlockCodeModel) (N := 26) hx hb hts in_BlockCodeModel hown hK.1 hP 0 rfl rfl 24 (by decide) (hts _ a_685) (fun _ h9 => h9) rfl d_BlockCodeModel_steps_6 ?_
  cases hm
  exact W.iret hx hb hr (fun t ht hW => hQ t _ _ ht hW hP hS) hS.2.2 d_BlockCodeModel_steps_9 hlk
set_option maxHeartbeats 4000000 in
set_option maxRecDepth 100000 in
theorem c_BlockCodeModel_steps (l : Launch) (D : va_G) (cI cJ cZ : ClassId) (qt : Nat) (qt_code : Nat) (qt_inputs : Nat) (qt_reached : Nat) (qt_isInt : Nat) (qt_fact : Nat) (qt_need : Nat) (qt_leader : Nat) (qt_kind : Nat) (qt_left : Nat) (qt_right : Nat) (qt_hold : Nat) (qt_risk : Nat) (qt_risks : Nat) (qt_end : Nat) (qt_to : Nat) (qt_symbol : Nat) (qt_place : Nat) (qt_register : Nat) (t_size : Int32) (t_thrown : Int32) (t_sealed : Int32) (t_good : Int32) (t_symbols : Int32) (t_set : Int32) (t_steps : Int32) (t_ended : Int32) (o_r : Int32) (o_t_thrown : Int32) (hm : f_BlockCodeModel_steps t_steps t_thrown = some (o_r, o_t_thrown)) : MI l y_BlockCodeModel_steps b_BlockCodeModel_steps 1 .int rm_BlockCodeModel_steps D cI cJ cZ [.ref qt] (ww_BlockCodeModel_steps cI cJ cZ qt qt_code qt_inputs qt_reached qt_isInt qt_fact qt_need qt_leader qt_kind qt_left qt_right qt_hold qt_risk qt_risks qt_end qt_to qt_symbol qt_place qt_register t_size t_thrown t_sealed t_good t_symbols t_set t_steps t_ended) (ww_BlockCodeModel_steps cI cJ cZ qt qt_code qt_inputs qt_reached qt_isInt qt_fact qt_need qt_leader qt_kind qt_left qt_right qt_hold qt_risk qt_risks qt_end qt_to qt_symbol qt_place qt_register t_size o_t_thrown t_sealed t_good t_symbols t_set t_steps t_ended) o_r := by
  intro sz
  refine Met.ofW (cc := b_BlockCodeModel_steps) (maxL := 1) (ret := (some .int)) (by decide) rfl ?_
  intro p e s m args below meth c s₁ B hml hv
  obtain ⟨rfl, hsz, hP, hK, hD0⟩ := hv
  have hts := atoms_spec (ws := Cond.code y_BlockCodeModel_steps b_BlockCodeModel_steps 1 (some .int) :: tbg) B.pre
  have S : CallFix p m c b_BlockCodeModel_steps 1 s ([.ref qt] : List Value).toArray tbg R_BlockCodeModel := ⟨B.exec, B.bytes, hml, findClass_of_methodNamed B.named, fun w hw => hts w (List.mem_cons_of_mem _ hw)⟩
  subst hsz
  have hD := hD0.self (sz := s.heap.size)
  have hl := lv_entry ([.ref qt] : List Value) (n := 1) (Nat.le_of_ble_eq_true rfl)
  rw [lg_entry_eq]
  generalize (lg_sl ([.ref qt] : List Value) ++ List.replicate (1 - (lg_sl ([.ref qt] : List Value)).length) Slot.unset).toArray = ls at hl ⊢
  have hl : lv_has ls 1 [(0, .ref qt)] := hl
  exact w_BlockCodeModel_steps S B.returns B.notSynchronized hK (fun q h => Or.inr h) qt qt_code qt_inputs qt_reached qt_isInt qt_fact qt_need qt_leader qt_kind qt_left qt_right qt_hold qt_risk qt_risks qt_end qt_to qt_symbol qt_place qt_register t_steps t_size t_sealed t_good t_symbols t_set t_ended o_r o_t_thrown (fun t H locs ht hW hP hS => ⟨⟨_, (), rfl, rfl, sB_of ht hP⟩, hS.F ht⟩) t_thrown s.heap [] ls hl hP hD va_S.rf hm
