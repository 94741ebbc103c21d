theorem d_Integer_bitCount_0 : decode b_Integer_bitCount 0 = .ok (.iload_n 0, 1) := by decide +kernel
theorem d_Integer_bitCount_1 : decode b_Integer_bitCount 1 = .ok (.iload_n 0, 1) := by decide +kernel
theorem d_Integer_bitCount_2 : decode b_Integer_bitCount 2 = .ok (.iconst 1, 1) := by decide +kernel
theorem d_Integer_bitCount_3 : decode b_Integer_bitCount 3 = .ok (.iushr, 1) := by decide +kernel
theorem d_Integer_bitCount_4 : decode b_Integer_bitCount 4 = .ok (.ldc_w 265, 3) := by decide +kernel
theorem d_Integer_bitCount_7 : decode b_Integer_bitCount 7 = .ok (.iand, 1) := by decide +kernel
theorem d_Integer_bitCount_8 : decode b_Integer_bitCount 8 = .ok (.isub, 1) := by decide +kernel
theorem d_Integer_bitCount_9 : decode b_Integer_bitCount 9 = .ok (.istore_n 0, 1) := by decide +kernel
theorem d_Integer_bitCount_10 : decode b_Integer_bitCount 10 = .ok (.iload_n 0, 1) := by decide +kernel
theorem d_Integer_bitCount_11 : decode b_Integer_bitCount 11 = .ok (.ldc_w 266, 3) := by decide +kernel
theorem d_Integer_bitCount_14 : decode b_Integer_bitCount 14 = .ok (.iand, 1) := by decide +kernel
theorem d_Integer_bitCount_15 : decode b_Integer_bitCount 15 = .ok (.iload_n 0, 1) := by decide +kernel
theorem d_Integer_bitCount_16 : decode b_Integer_bitCount 16 = .ok (.iconst 2, 1) := by decide +kernel
theorem d_Integer_bitCount_17 : decode b_Integer_bitCount 17 = .ok (.iushr, 1) := by decide +kernel
theorem d_Integer_bitCount_18 : decode b_Integer_bitCount 18 = .ok (.ldc_w 266, 3) := by decide +kernel
theorem d_Integer_bitCount_21 : decode b_Integer_bitCount 21 = .ok (.iand, 1) := by decide +kernel
theorem d_Integer_bitCount_22 : decode b_Integer_bitCount 22 = .ok (.iadd, 1) := by decide +kernel
theorem d_Integer_bitCount_23 : decode b_Integer_bitCount 23 = .ok (.istore_n 0, 1) := by decide +kernel
theorem d_Integer_bitCount_24 : decode b_Integer_bitCount 24 = .ok (.iload_n 0, 1) := by decide +kernel
theorem d_Integer_bitCount_25 : decode b_Integer_bitCount 25 = .ok (.iload_n 0, 1) := by decide +kernel
theorem d_Integer_bitCount_26 : decode b_Integer_bitCount 26 = .ok (.iconst 4, 1) := by decide +kernel
theorem d_Integer_bitCount_27 : decode b_Integer_bitCount 27 = .ok (.iushr, 1) := by decide +kernel
theorem d_Integer_bitCount_28 : decode b_Integer_bitCount 28 = .ok (.iadd, 1) := by decide +kernel
theorem d_Integer_bitCount_29 : decode b_Integer_bitCount 29 = .ok (.ldc_w 267, 3) := by decide +kernel
theorem d_Integer_bitCount_32 : decode b_Integer_bitCount 32 = .ok (.iand, 1) := by decide +kernel
theorem d_Integer_bitCount_33 : decode b_Integer_bitCount 33 = .ok (.istore_n 0, 1) := by decide +kernel
theorem d_Integer_bitCount_34 : decode b_Integer_bitCount 34 = .ok (.iload_n 0, 1) := by decide +kernel
theorem d_Integer_bitCount_35 : decode b_Integer_bitCount 35 = .ok (.iload_n 0, 1) := by decide +kernel
theorem d_Integer_bitCount_36 : decode b_Integer_bitCount 36 = .ok (.bipush 8, 2) := by decide +kernel
theorem d_Integer_bitCount_38 : decode b_Integer_bitCount 38 = .ok (.iushr, 1) := by decide +kernel
theorem d_Integer_bitCount_39 : decode b_Integer_bitCount 39 = .ok (.iadd, 1) := by decide +kernel
theorem d_Integer_bitCount_40 : decode b_Integer_bitCount 40 = .ok (.istore_n 0, 1) := by decide +kernel
theorem d_Integer_bitCount_41 : decode b_Integer_bitCount 41 = .ok (.iload_n 0, 1) := by decide +kernel
theorem d_Integer_bitCount_42 : decode b_Integer_bitCount 42 = .ok (.iload_n 0, 1) := by decide +kernel
theorem d_Integer_bitCount_43 : decode b_Integer_bitCount 43 = .ok (.bipush 16, 2) := by decide +kernel
theorem d_Integer_bitCount_45 : decode b_Integer_bitCount 45 = .ok (.iushr, 1) := by decide +kernel
theorem d_Integer_bitCount_46 : decode b_Integer_bitCount 46 = .ok (.iadd, 1) := by decide +kernel
theorem d_Integer_bitCount_47 : decode b_Integer_bitCount 47 = .ok (.istore_n 0, 1) := by decide +kernel
theorem d_Integer_bitCount_48 : decode b_Integer_bitCount 48 = .ok (.iload_n 0, 1) := by decide +kernel
theorem d_Integer_bitCount_49 : decode b_Integer_bitCount 49 = .ok (.bipush 63, 2) := by decide +kernel
theorem d_Integer_bitCount_51 : decode b_Integer_bitCount 51 = .ok (.iand, 1) := by decide +kernel
theorem d_Integer_bitCount_52 : decode b_Integer_bitCount 52 = .ok (.ireturn, 1) := by decide +kernel
set_option maxHeartbeats 4000000 in
set_option maxRecDepth 100000 in
theorem c_Integer_bitCount (l : Launch) (D : va_G) (cI cJ cZ : ClassId) (p0 o_r : Int32) (hm : f_Integer_bitCount p0 = some o_r) : MI l y_Integer_bitCount b_Integer_bitCount 1 .int rm_Integer_bitCount D cI cJ cZ [.int p0] [] [] o_r := by
  intro sz
  cases hm
  refine Met.ofW (cc := b_Integer_bitCount) (maxL := 1) (ret := some .int) (by decide) rfl ?_
  intro p e s m args below meth c s₁ B hml hv
  obtain ⟨rfl, hsz, hP, hK, hD0⟩ := hv
  have hts0 := atoms_spec (ws := Cond.code y_Integer_bitCount b_Integer_bitCount 1 (some .int) :: tbg) B.pre
  have S : CallFix p m c b_Integer_bitCount 1 s ([.int p0] : List Value).toArray tbg R_Integer := ⟨B.exec, B.bytes, hml, findClass_of_methodNamed B.named, fun w hw => hts0 w (List.mem_cons_of_mem _ hw)⟩
  obtain ⟨hx, hb, hml, hown, hts⟩ := id S
  have hr := B.returns
  have hlk := B.notSynchronized
  subst hsz
  have hS : va_S (va_A [] s.heap.size) s.heap s.heap [] := va_S.rf
  have hl := lv_entry ([.int p0] : List Value) (n := 1) (Nat.le_of_ble_eq_true rfl)
  rw [lg_entry_eq]
  generalize (lg_sl ([.int p0] : List Value) ++ List.replicate (1 - (lg_sl ([.int p0] : List Value)).length) Slot.unset).toArray = ls at hl ⊢
  have hl : lv_has ls 1 [(0, .int p0)] := hl
  refine lv_iload_n hx hb d_Integer_bitCount_0 rfl (lv_at hl 0 rfl) ?_
  refine lv_iload_n hx hb d_Integer_bitCount_1 rfl (lv_at hl 0 rfl) ?_
  refine lv_iconst (v := (1 : Int32)) hx hb d_Integer_bitCount_2 (by decide) ?_
  refine lv_iushr hx hb d_Integer_bitCount_3 rfl ?_
  refine lv_ldcw (v := (1431655765 : Int32)) hx hb hown (hts _ a_483) d_Integer_bitCount_4 ?_
  refine lv_iand hx hb d_Integer_bitCount_7 ?_
  refine lv_isub hx hb d_Integer_bitCount_8 ?_
  refine lv_istore_n hx hb d_Integer_bitCount_9 rfl hl (by decide) rfl (fun ls hl => ?_)
  have hl : lv_has ls 1 [(0, .int (p0 - ((p0.toUInt32 >>> ((1 : Int32).toUInt32 &&& Int32.toUInt32 31)).toInt32 &&& (1431655765 : Int32))))] := hl
  refine lv_iload_n hx hb d_Integer_bitCount_10 rfl (lv_at hl 0 rfl) ?_
  refine lv_ldcw (v := (858993459 : Int32)) hx hb hown (hts _ a_484) d_Integer_bitCount_11 ?_
  refine lv_iand hx hb d_Integer_bitCount_14 ?_
  refine lv_iload_n hx hb d_Integer_bitCount_15 rfl (lv_at hl 0 rfl) ?_
  refine lv_iconst (v := (2 : Int32)) hx hb d_Integer_bitCount_16 (by decide) ?_
  refine lv_iushr hx hb d_Integer_bitCount_17 rfl ?_
  refine lv_ldcw (v := (858993459 : Int32)) hx hb hown (hts _ a_484) d_Integer_bitCount_18 ?_
  refine lv_iand hx hb d_Integer_bitCount_21 ?_
  refine lv_iadd hx hb d_Integer_bitCount_22 ?_
  refine lv_istore_n hx hb d_Integer_bitCount_23 rfl hl (by decide) rfl (fun ls hl => ?_)
  have hl : lv_has ls 1 [(0, .int (((p0 - ((p0.toUInt32 >>> ((1 : Int32).toUInt32 &&& Int32.toUInt32 31)).toInt32 &&& (1431655765 : Int32))) &&& (858993459 : Int32)) + (((p0 - ((p0.toUInt32 >>> ((1 : Int32).toUInt32 &&& Int32.toUInt32 31)).toInt32 &&& (1431655765 : Int32))).toUInt32 >>> ((2 : Int32).toUInt32 &&& Int32.toUInt32 31)).toInt32 &&& (858993459 : Int32))))] := hl
  refine lv_iload_n hx hb d_Integer_bitCount_24 rfl (lv_at hl 0 rfl) ?_
  refine lv_iload_n hx hb d_Integer_bitCount_25 rfl (lv_at hl 0 rfl) ?_
  refine lv_iconst (v := (4 : Int32)) hx hb d_Integer_bitCount_26 (by decide) ?_
  refine lv_iushr hx hb d_Integer_bitCount_27 rfl ?_
  refine lv_iadd hx hb d_Integer_bitCount_28 ?_
  refine lv_ldcw (v := (252645135 : Int32)) hx hb hown (hts _ a_485) d_Integer_bitCount_29 ?_
  refine lv_iand hx hb d_Integer_bitCount_32 ?_
  refine lv_istore_n hx hb d_Integer_bitCount_33 rfl hl (by decide) rfl (fun ls hl => ?_)
  have hl : lv_has ls 1 [(0, .int (((((p0 - ((p0.toUInt32 >>> ((1 : Int32).toUInt32 &&& Int32.toUInt32 31)).toInt32 &&& (1431655765 : Int32))) &&& (858993459 : Int32)) + (((p0 - ((p0.toUInt32 >>> ((1 : Int32).toUInt32 &&& Int32.toUInt32 31)).toInt32 &&& (1431655765 : Int32))).toUInt32 >>> ((2 : Int32).toUInt32 &&& Int32.toUInt32 31)).toInt32 &&& (858993459 : Int32))) + ((((p0 - ((p0.toUInt32 >>> ((1 : Int32).toUInt32 &&& Int32.toUInt32 31)).toInt32 &&& (1431655765 : Int32))) &&& (858993459 : Int32)) + (((p0 - ((p0.toUInt32 >>> ((1 : Int32).toUInt32 &&& Int32.toUInt32 31)).toInt32 &&& (1431655765 : Int32))).toUInt32 >>> ((2 : Int32).toUInt32 &&& Int32.toUInt32 31)).toInt32 &&& (858993459 : Int32))).toUInt32 >>> ((4 : Int32).toUInt32 &&& Int32.toUInt32 31)).toInt32) &&& (252645135 : Int32)))] := hl
  refine lv_iload_n hx hb d_Integer_bitCount_34 rfl (lv_at hl 0 rfl) ?_
  refine lv_iload_n hx hb d_Integer_bitCount_35 rfl (lv_at hl 0 rfl) ?_
  refine lv_bipush (v := (8 : Int32)) hx hb d_Integer_bitCount_36 (by decide) ?_
  refine lv_iushr hx hb d_Integer_bitCount_38 rfl ?_
  refine lv_iadd hx hb d_Integer_bitCount_39 ?_
  refine lv_istore_n hx hb d_Integer_bitCount_40 rfl hl (by decide) rfl (fun ls hl => ?_)
  have hl : lv_has ls 1 [(0, .int ((((((p0 - ((p0.toUInt32 >>> ((1 : Int32).toUInt32 &&& Int32.toUInt32 31)).toInt32 &&& (1431655765 : Int32))) &&& (858993459 : Int32)) + (((p0 - ((p0.toUInt32 >>> ((1 : Int32).toUInt32 &&& Int32.toUInt32 31)).toInt32 &&& (1431655765 : Int32))).toUInt32 >>> ((2 : Int32).toUInt32 &&& Int32.toUInt32 31)).toInt32 &&& (858993459 : Int32))) + ((((p0 - ((p0.toUInt32 >>> ((1 : Int32).toUInt32 &&& Int32.toUInt32 31)).toInt32 &&& (1431655765 : Int32))) &&& (858993459 : Int32)) + (((p0 - ((p0.toUInt32 >>> ((1 : Int32).toUInt32 &&& Int32.toUInt32 31)).toInt32 &&& (1431655765 : Int32))).toUInt32 >>> ((2 : Int32).toUInt32 &&& Int32.toUInt32 31)).toInt32 &&& (858993459 : Int32))).toUInt32 >>> ((4 : Int32).toUInt32 &&& Int32.toUInt32 31)).toInt32) &&& (252645135 : Int32)) + ((((((p0 - ((p0.toUInt32 >>> ((1 : Int32).toUInt32 &&& Int32.toUInt32 31)).toInt32 &&& (1431655765 : Int32))) &&& (858993459 : Int32)) + (((p0 - ((p0.toUInt32 >>> ((1 : Int32).toUInt32 &&& Int32.toUInt32 31)).toInt32 &&& (1431655765 : Int32))).toUInt32 >>> ((2 : Int32).toUInt32 &&& Int32.toUInt32 31)).toInt32 &&& (858993459 : Int32))) + ((((p0 - ((p0.toUInt32 >>> ((1 : Int32).toUInt32 &&& Int32.toUInt32 31)).toInt32 &&& (1431655765 : Int32))) &&& (858993459 : Int32)) + (((p0 - ((p0.toUInt32 >>> ((1 : Int32).toUInt32 &&& Int32.toUInt32 31)).toInt32 &&& (1431655765 : Int32))).toUInt32 >>> ((2 : Int32).toUInt32 &&& Int32.toUInt32 31)).toInt32 &&& (858993459 : Int32))).toUInt32 >>> ((4 : Int32).toUInt32 &&& Int32.toUInt32 31)).toInt32) &&& (252645135 : Int32)).toUInt32 >>> ((8 : Int32).toUInt32 &&& Int32.toUInt32 31)).toInt32))] := hl
  refine lv_iload_n hx hb d_Integer_bitCount_41 rfl (lv_at hl 0 rfl) ?_
  refine lv_iload_n hx hb d_Integer_bitCount_42 rfl (lv_at hl 0 rfl) ?_
  refine lv_bipush (v := (16 : Int32)) hx hb d_Integer_bitCount_43 (by decide) ?_
  refine lv_iushr hx hb d_Integer_bitCount_45 rfl ?_
  refine lv_iadd hx hb d_Integer_bitCount_46 ?_
  refine lv_istore_n hx hb d_Integer_bitCount_47 rfl hl (by decide) rfl (fun ls hl => ?_)
  have hl : lv_has ls 1 [(0, .int (((((((p0 - ((p0.toUInt32 >>> ((1 : Int32).toUInt32 &&& Int32.toUInt32 31)).toInt32 &&& (1431655765 : Int32))) &&& (858993459 : Int32)) + (((p0 - ((p0.toUInt32 >>> ((1 : Int32).toUInt32 &&& Int32.toUInt32 31)).toInt32 &&& (1431655765 : Int32))).toUInt32 >>> ((2 : Int32).toUInt32 &&& Int32.toUInt32 31)).toInt32 &&& (858993459 : Int32))) + ((((p0 - ((p0.toUInt32 >>> ((1 : Int32).toUInt32 &&& Int32.toUInt32 31)).toInt32 &&& (1431655765 : Int32))) &&& (858993459 : Int32)) + (((p0 - ((p0.toUInt32 >>> ((1 : Int32).toUInt32 &&& Int32.toUInt32 31)).toInt32 &&& (1431655765 : Int32))).toUInt32 >>> ((2 : Int32).toUInt32 &&& Int32.toUInt32 31)).toInt32 &&& (858993459 : Int32))).toUInt32 >>> ((4 : Int32).toUInt32 &&& Int32.toUInt32 31)).toInt32) &&& (252645135 : Int32)) + ((((((p0 - ((p0.toUInt32 >>> ((1 : Int32).toUInt32 &&& Int32.toUInt32 31)).toInt32 &&& (1431655765 : Int32))) &&& (858993459 : Int32)) + (((p0 - ((p0.toUInt32 >>> ((1 : Int32).toUInt32 &&& Int32.toUInt32 31)).toInt32 &&& (1431655765 : Int32))).toUInt32 >>> ((2 : Int32).toUInt32 &&& Int32.toUInt32 31)).toInt32 &&& (858993459 : Int32))) + ((((p0 - ((p0.toUInt32 >>> ((1 : Int32).toUInt32 &&& Int32.toUInt32 31)).toInt32 &&& (1431655765 : Int32))) &&& (858993459 : Int32)) + (((p0 - ((p0.toUInt32 >>> ((1 : Int32).toUInt32 &&& Int32.toUInt32 31)).toInt32 &&& (1431655765 : Int32))).toUInt32 >>> ((2 : Int32).toUInt32 &&& Int32.toUInt32 31)).toInt32 &&& (858993459 : Int32))).toUInt32 >>> ((4 : Int32).toUInt32 &&& Int32.toUInt32 31)).toInt32) &&& (252645135 : Int32)).toUInt32 >>> ((8 : Int32).toUInt32 &&& Int32.toUInt32 31)).toInt32) + (((((((p0 - ((p0.toUInt32 >>> ((1 : Int32).toUInt32 &&& Int32.toUInt32 31)).toInt32 &&& (1431655765 : Int32))) &&& (858993459 : Int32)) + (((p0 - ((p0.toUInt32 >>> ((1 : Int32).toUInt32 &&& Int32.toUInt32 31)).toInt32 &&& (1431655765 : Int32))).toUInt32 >>> ((2 : Int32).toUInt32 &&& Int32.toUInt32 31)).toInt32 &&& (858993459 : Int32))) + ((((p0 - ((p0.toUInt32 >>> ((1 : Int32).toUInt32 &&& Int32.toUInt32 31)).toInt32 &&& (1431655765 : Int32))) &&& (858993459 : Int32)) + (((p0 - ((p0.toUInt32 >>> ((1 : Int32).toUInt32 &&& Int32.toUInt32 31)).toInt32 &&& (1431655765 : Int32))).toUInt32 >>> ((2 : Int32).toUInt32 &&& Int32.toUInt32 31)).toInt32 &&& (858993459 : Int32))).toUInt32 >>> ((4 : Int32).toUInt32 &&& Int32.toUInt32 31)).toInt32) &&& (252645135 : Int32)) + ((((((p0 - ((p0.toUInt32 >>> ((1 : Int32).toUInt32 &&& Int32.toUInt32 31)).toInt32 &&& (1431655765 : Int32))) &&& (858993459 : Int32)) + (((p0 - ((p0.toUInt32 >>> ((1 : Int32).toUInt32 &&& Int32.toUInt32 31)).toInt32 &&& (1431655765 : Int32))).toUInt32 >>> ((2 : Int32).toUInt32 &&& Int32.toUInt32 31)).toInt32 &&& (858993459 : Int32))) + ((((p0 - ((p0.toUInt32 >>> ((1 : Int32).toUInt32 &&& Int32.toUInt32 31)).toInt32 &&& (1431655765 : Int32))) &&& (858993459 : Int32)) + (((p0 - ((p0.toUInt32 >>> ((1 : Int32).toUInt32 &&& Int32.toUInt32 31)).toInt32 &&& (1431655765 : Int32))).toUInt32 >>> ((2 : Int32).toUInt32 &&& Int32.toUInt32 31)).toInt32 &&& (858993459 : Int32))).toUInt32 >>> ((4 : Int32).toUInt32 &&& Int32.toUInt32 31)).toInt32) &&& (252645135 : Int32)).toUInt32 >>> ((8 : Int32).toUInt32 &&& Int32.toUInt32 31)).toInt32).toUInt32 >>> ((16 : Int32).toUInt32 &&& Int32.toUInt32 31)).toInt32))] := hl
  refine lv_iload_n hx hb d_Integer_bitCount_48 rfl (lv_at hl 0 rfl) ?_
  refine lv_bipush (v := (63 : Int32)) hx hb d_Integer_bitCount_49 (by decide) ?_
  refine lv_iand hx hb d_Integer_bitCount_51 ?_
  exact W.iret hx hb hr (fun t ht hW => ⟨⟨_, (), rfl, rfl, sB_of ht hP⟩, hS.F ht⟩) hS.2.2 d_Integer_bitCount_52 hlk
set_option maxHeartbeats 4000000 in
set_option maxRecDepth 100000 in
theorem w_BlockCode_makesRegister {p : Program} {l : Launch} {e : Env} {s : State} {m : MethodId} {args : Array Value} {below : List Frame} {meth : Method} {c : Code} {D : va_G} {cI cJ cZ : ClassId} {A : Nat → Prop} {Qc : Array Value → State → Outcome → State → Prop} (S : CallFix p m c b_BlockCode_makesRegister 1 s args tbg R_BlockCode) (hr : meth.sig.returnType = (some .boolean)) (hlk : meth.locks = false) (hK : kx D cI cJ cZ s) (hA : ∀ q, s.heap.size ≤ q → A q) (p0 : Int32) (o_r : Int32) (hQ : ∀ (t : State) (H : Heap) (locs : List Loc), t.heap = H → s.WarmedH t.vm → va_P D classes (ww_BlockCode_makesRegister cI cJ cZ) H → va_S A s.heap H locs → Qc args s (.returned (some (.int o_r))) t) (H : Heap) (locs : List Loc) (ls : Array Slot) (hl : lv_has ls 1 [(0, .int p0)]) (hP : va_P D classes (ww_BlockCode_makesRegister cI cJ cZ) H) (hD : va_D A (ww_BlockCode_makesRegister cI cJ cZ)) (hS : va_S A s.heap H locs) (hm : f_BlockCode_makesRegister p0 = some o_r) : W p l e rm_BlockCode_makesRegister s m args below meth c H locs 0 0 (MQ below Qc args s 0 0 A) (F0 m 0 ls []) := by
  obtain ⟨hx, hb, hml, hown, hts⟩ := id S
  unfold f_BlockCode_makesRegister at hm
  refine lv_iload_n hx hb d_BlockCode_makesRegister_0 rfl (lv_at hl 0 rfl) ?_
  refine lv_iconst (v := (1 : Int32)) hx hb d_BlockCode_makesRegister_1 (by decide) ?_
  refine lv_icmp_lt (tgt := 15) hx hb d_BlockCode_makesRegister_2 (by decide) (fun hc => ?_) (fun hc => ?_)
  · have hm := ift hc hm
    refine lv_iconst (v := (0 : Int32)) hx hb d_BlockCode_makesRegister_15 (by decide) ?_
    cases hm
    exact W.zret hx hb hr rfl (fun t ht hW => hQ t _ _ ht hW hP hS) hS.2.2 d_BlockCode_makesRegister_16 hlk
  · have hm := iff_ hc hm
    refine lv_iload_n hx hb d_BlockCode_makesRegister_5 rfl (lv_at hl 0 rfl) ?_
    refine lv_bipush (v := (7 : Int32)) hx hb d_BlockCode_makesRegister_6 (by decide) ?_
    refine lv_icmp_gt (tgt := 15) hx hb d_BlockCode_makesRegister_8 (by decide) (fun hc => ?_) (fun hc => ?_)
    · have hm := ift hc hm
      refine lv_iconst (v := (0 : Int32)) hx hb d_BlockCode_makesRegister_15 (by decide) ?_
      cases hm
      exact W.zret hx hb hr rfl (fun t ht hW => hQ t _ _ ht hW hP hS) hS.2.2 d_BlockCode_makesRegister_16 hlk
    · have hm := iff_ hc hm
      refine lv_iconst (v := (1 : Int32)) hx hb d_BlockCode_makesRegister_11 (by decide) ?_
      refine lv_goto (tgt := 16) hx hb d_BlockCode_makesRegister_12 (by decide) ?_
      cases hm
      exact W.zret hx hb hr rfl (fun t ht hW => hQ t _ _ ht hW hP hS) hS.2.2 d_BlockCode_makesRegister_16 hlk
set_option maxHeartbeats 4000000 in
set_option maxRecDepth 100000 in
theorem c_BlockCode_makesRegister (l : Launch) (D : va_G) (cI cJ cZ : ClassId) (p0 : Int32) (o_r : Int32) (hm : f_BlockCode_makesRegister p0 = some o_r) : MI l y_BlockCode_makesRegister b_BlockCode_makesRegister 1 .boolean rm_BlockCode_makesRegister D cI cJ cZ [.int p0] (ww_BlockCode_makesRegister cI cJ cZ) (ww_BlockCode_makesRegister cI cJ cZ) o_r := by
  intro sz
  refine Met.ofW (cc := b_BlockCode_makesRegister) (maxL := 1) (ret := (some .boolean)) (by decide) rfl ?_
  intro p e s m args below meth c s₁ B hml hv
  obtain ⟨rfl, hsz, hP, hK, hD0⟩ := hv
  have hts := atoms_spec (ws := Cond.code y_BlockCode_makesRegister b_BlockCode_makesRegister 1 (some .boolean) :: tbg) B.pre
  have S : CallFix p m c b_BlockCode_makesRegister 1 s ([.int p0] : List Value).toArray tbg R_BlockCode := ⟨B.exec, B.bytes, hml, findClass_of_methodNamed B.named, fun w hw => hts w (List.mem_cons_of_mem _ hw)⟩
  subst hsz
  have hD := hD0.self (sz := s.heap.size)
  have hl := lv_entry ([.int p0] : List Value) (n := 1) (Nat.le_of_ble_eq_true rfl)
  rw [lg_entry_eq]
  generalize (lg_sl ([.int p0] : List Value) ++ List.replicate (1 - (lg_sl ([.int p0] : List Value)).length) Slot.unset).toArray = ls at hl ⊢
  have hl : lv_has ls 1 [(0, .int p0)] := hl
  exact w_BlockCode_makesRegister S B.returns B.notSynchronized hK (fun q h => Or.inr h) p0 o_r (fun t H locs ht hW hP hS => ⟨⟨_, (), rfl, rfl, sB_of ht hP⟩, hS.F ht⟩) s.heap [] ls hl hP hD va_S.rf hm
set_option maxHeartbeats 4000000 in
set_option maxRecDepth 100000 in
theorem w_BlockCode_isRegister {p : Program} {l : Launch} {e : Env} {s : State} {m : MethodId} {args : Array Value} {below : List Frame} {meth : Method} {c : Code} {D : va_G} {cI cJ cZ : ClassId} {A : Nat → Prop} {Qc : Array Value → State → Outcome → State → Prop} (S : CallFix p m c b_BlockCode_isRegister 1 s args tbg R_BlockCode) (hr : meth.sig.returnType = (some .boolean)) (hlk : meth.locks = false) (hK : kx D cI cJ cZ s) (hA : ∀ q, s.heap.size ≤ q → A q) (p0 : Int32) (o_r : Int32) (hQ : ∀ (t : State) (H : Heap) (locs : List Loc), t.heap = H → s.WarmedH t.vm → va_P D classes (ww_BlockCode_isRegister cI cJ cZ) H → va_S A s.heap H locs → Qc args s (.returned (some (.int o_r))) t) (H : Heap) (locs : List Loc) (ls : Array Slot) (hl : lv_has ls 1 [(0, .int p0)]) (hP : va_P D classes (ww_BlockCode_isRegister cI cJ cZ) H) (hD : va_D A (ww_BlockCode_isRegister cI cJ cZ)) (hS : va_S A s.heap H locs) (hm : f_BlockCode_isRegister p0 = some o_r) : W p l e rm_BlockCode_isRegister s m args below meth c H locs 0 0 (MQ below Qc args s 0 0 A) (F0 m 0 ls []) := by
  obtain ⟨hx, hb, hml, hown, hts⟩ := id S
  unfold f_BlockCode_isRegister at hm
  refine lv_iload_n hx hb d_BlockCode_isRegister_0 rfl (lv_at hl 0 rfl) ?_
  refine lv_if_lt (tgt := 13) hx hb d_BlockCode_isRegister_1 (by decide) (fun hc => ?_) (fun hc => ?_)
  · have hm := ift hc hm
    refine lv_iconst (v := (0 : Int32)) hx hb d_BlockCode_isRegister_13 (by decide) ?_
    cases hm
    exact W.zret hx hb hr rfl (fun t ht hW => hQ t _ _ ht hW hP hS) hS.2.2 d_BlockCode_isRegister_14 hlk
  · have hm := iff_ hc hm
    refine lv_iload_n hx hb d_BlockCode_isRegister_4 rfl (lv_at hl 0 rfl) ?_
    refine lv_iconst (v := (5 : Int32)) hx hb d_BlockCode_isRegister_5 (by decide) ?_
    refine lv_icmp_ge (tgt := 13) hx hb d_BlockCode_isRegister_6 (by decide) (fun hc => ?_) (fun hc => ?_)
    · have hm := ift hc hm
      refine lv_iconst (v := (0 : Int32)) hx hb d_BlockCode_isRegister_13 (by decide) ?_
      cases hm
      exact W.zret hx hb hr rfl (fun t ht hW => hQ t _ _ ht hW hP hS) hS.2.2 d_BlockCode_isRegister_14 hlk
    · have hm := iff_ hc hm
      refine lv_iconst (v := (1 : Int32)) hx hb d_BlockCode_isRegister_9 (by decide) ?_
      refine lv_goto (tgt := 14) hx hb d_BlockCode_isRegister_10 (by decide) ?_
      cases hm
      exact W.zret hx hb hr rfl (fun t ht hW => hQ t _ _ ht hW hP hS) hS.2.2 d_BlockCode_isRegister_14 hlk
set_option maxHeartbeats 4000000 in
set_option maxRecDepth 100000 in
theorem c_BlockCode_isRegister (l : Launch) (D : va_G) (cI cJ cZ : ClassId) (p0 : Int32) (o_r : Int32) (hm : f_BlockCode_isRegister p0 = some o_r) : MI l y_BlockCode_isRegister b_BlockCode_isRegister 1 .boolean rm_BlockCode_isRegister D cI cJ cZ [.int p0] (ww_BlockCode_isRegister cI cJ cZ) (ww_BlockCode_isRegister cI cJ cZ) o_r := by
  intro sz
  refine Met.ofW (cc := b_BlockCode_isRegister) (maxL := 1) (ret := (some .boolean)) (by decide) rfl ?_
  intro p e s m args below meth c s₁ B hml hv
  obtain ⟨rfl, hsz, hP, hK, hD0⟩ := hv
  have hts := atoms_spec (ws := Cond.code y_BlockCode_isRegister b_BlockCode_isRegister 1 (some .boolean) :: tbg) B.pre
  have S : CallFix p m c b_BlockCode_isRegister 1 s ([.int p0] : List Value).toArray tbg R_BlockCode := ⟨B.exec, B.bytes, hml, findClass_of_methodNamed B.named, fun w hw => hts w (List.mem_cons_of_mem _ hw)⟩
  subst hsz
  have hD := hD0.self (sz := s.heap.size)
  have hl := lv_entry ([.int p0] : List Value) (n := 1) (Nat.le_of_ble_eq_true rfl)
  rw [lg_entry_eq]
  generalize (lg_sl ([.int p0] : List Value) ++ List.replicate (1 - (lg_sl ([.int p0] : List Value)).length) Slot.unset).toArray = ls at hl ⊢
  have hl : lv_has ls 1 [(0, .int p0)] := hl
  exact w_BlockCode_isRegister S B.returns B.notSynchronized hK (fun q h => Or.inr h) p0 o_r (fun t H locs ht hW hP hS => ⟨⟨_, (), rfl, rfl, sB_of ht hP⟩, hS.F ht⟩) s.heap [] ls hl hP hD va_S.rf hm
set_option maxHeartbeats 4000000 in
set_option maxRecDepth 100000 in
theorem w_BlockCode_readsA_17 {p : Program} {l : Launch} {e : Env} {s : State} {m : MethodId} {args : Array Value} {below : List Frame} {meth : Method} {c : Code} {D : va_G} {cI cJ cZ : ClassId} {A : Nat → Prop} {Qc : Array Value → State → Outcome → State → Prop} (S : CallFix p m c b_BlockCode_readsA 1 s args tbg R_BlockCode) (hr : meth.sig.returnType = (some .boolean)) (hlk : meth.locks = false) (hK : kx D cI cJ cZ s) (hA : ∀ q, s.heap.size ≤ q → A q) (p0 : Int32) (o_r : Int32) (hQ : ∀ (t : State) (H : Heap) (locs : List Loc), t.heap = H → s.WarmedH t.vm → va_P D classes (ww_BlockCode_readsA cI cJ cZ) H → va_S A s.heap H locs → Qc args s (.returned (some (.int o_r))) t) : ∀ (H : Heap) (locs : List Loc) (ls : Array Slot), lv_has ls 1 [] → va_P D classes (ww_BlockCode_readsA cI cJ cZ) H → va_D A (ww_BlockCode_readsA cI cJ cZ) → va_S A s.heap H locs → f_BlockCode_readsA_17 p0 = some o_r → W p l e rm_BlockCode_readsA s m args below meth c H locs 0 0 (MQ below Qc args s 0 0 A) (F0 m 17 ls []) := by
  obtain ⟨hx, hb, hml, hown, hts⟩ := id S
  intro H locs ls hl hP hD hS hm
  unfold f_BlockCode_readsA_17 at hm
  refine lv_iconst (v := (1 : Int32)) hx hb d_BlockCode_readsA_17 (by decide) ?_
  refine lv_goto (tgt := 22) hx hb d_BlockCode_readsA_18 (by decide) ?_
  cases hm
  exact W.zret hx hb hr rfl (fun t ht hW => hQ t _ _ ht hW hP hS) hS.2.2 d_BlockCode_readsA_22 hlk
set_option maxHeartbeats 4000000 in
set_option maxRecDepth 100000 in
theorem w_BlockCode_readsA_11 {p : Program} {l : Launch} {e : Env} {s : State} {m : MethodId} {args : Array Value} {below : List Frame} {meth : Method} {c : Code} {D : va_G} {cI cJ cZ : ClassId} {A : Nat → Prop} {Qc : Array Value → State → Outcome → State → Prop} (S : CallFix p m c b_BlockCode_readsA 1 s args tbg R_BlockCode) (hr : meth.sig.returnType = (some .boolean)) (hlk : meth.locks = false) (hK : kx D cI cJ cZ s) (hA : ∀ q, s.heap.size ≤ q → A q) (p0 : Int32) (o_r : Int32) (hQ : ∀ (t : State) (H : Heap) (locs : List Loc), t.heap = H → s.WarmedH t.vm → va_P D classes (ww_BlockCode_readsA cI cJ cZ) H → va_S A s.heap H locs → Qc args s (.returned (some (.int o_r))) t) : ∀ (H : Heap) (locs : List Loc) (ls : Array Slot), lv_has ls 1 [(0, .int p0)] → va_P D classes (ww_BlockCode_readsA cI cJ cZ) H → va_D A (ww_BlockCode_readsA cI cJ cZ) → va_S A s.heap H locs → f_BlockCode_readsA_11 p0 = some o_r → W p l e rm_BlockCode_readsA s m args below meth c H locs 0 0 (MQ below Qc args s 0 0 A) (F0 m 11 ls []) := by
  obtain ⟨hx, hb, hml, hown, hts⟩ := id S
  intro H locs ls hl hP hD hS hm
  unfold f_BlockCode_readsA_11 at hm
  refine lv_iload_n hx hb d_BlockCode_readsA_11 rfl (lv_at hl 0 rfl) ?_
  refine lv_bipush (v := (9 : Int32)) hx hb d_BlockCode_readsA_12 (by decide) ?_
  refine lv_icmp_ne (tgt := 21) hx hb d_BlockCode_readsA_14 (by decide) (fun hc => ?_) (fun hc => ?_)
  · have hm := iff_ hc hm
    refine lv_iconst (v := (0 : Int32)) hx hb d_BlockCode_readsA_21 (by decide) ?_
    cases hm
    exact W.zret hx hb hr rfl (fun t ht hW => hQ t _ _ ht hW hP hS) hS.2.2 d_BlockCode_readsA_22 hlk
  · have hm := ift hc hm
    exact w_BlockCode_readsA_17 S hr hlk hK hA p0 o_r hQ H locs ls (lv_sub hl [] rfl) hP hD hS hm
set_option maxHeartbeats 4000000 in
set_option maxRecDepth 100000 in
theorem w_BlockCode_readsA {p : Program} {l : Launch} {e : Env} {s : State} {m : MethodId} {args : Array Value} {below : List Frame} {meth : Method} {c : Code} {D : va_G} {cI cJ cZ : ClassId} {A : Nat → Prop} {Qc : Array Value → State → Outcome → State → Prop} (S : CallFix p m c b_BlockCode_readsA 1 s args tbg R_BlockCode) (hr : meth.sig.returnType = (some .boolean)) (hlk : meth.locks = false) (hK : kx D cI cJ cZ s) (hA : ∀ q, s.heap.size ≤ q → A q) (p0 : Int32) (o_r : Int32) (hQ : ∀ (t : State) (H : Heap) (locs : List Loc), t.heap = H → s.WarmedH t.vm → va_P D classes (ww_BlockCode_readsA cI cJ cZ) H → va_S A s.heap H locs → Qc args s (.returned (some (.int o_r))) t) (H : Heap) (locs : List Loc) (ls : Array Slot) (hl : lv_has ls 1 [(0, .int p0)]) (hP : va_P D classes (ww_BlockCode_readsA cI cJ cZ) H) (hD : va_D A (ww_BlockCode_readsA cI cJ cZ)) (hS : va_S A s.heap H locs) (hm : f_BlockCode_readsA p0 = some o_r) : W p l e rm_BlockCode_readsA s m args below meth c H locs 0 0 (MQ below Qc args s 0 0 A) (F0 m 0 ls []) := by
  obtain ⟨hx, hb, hml, hown, hts⟩ := id S
  unfold f_BlockCode_readsA at hm
  refine lv_iload_n hx hb d_BlockCode_readsA_0 rfl (lv_at hl 0 rfl) ?_
  refine lv_iconst (v := (2 : Int32)) hx hb d_BlockCode_readsA_1 (by decide) ?_
  refine lv_icmp_lt (tgt := 11) hx hb d_BlockCode_readsA_2 (by decide) (fun hc => ?_) (fun hc => ?_)
  · have hm := ift hc hm
    exact w_BlockCode_readsA_11 S hr hlk hK hA p0 o_r hQ H locs ls (lv_sub hl [0] rfl) hP hD hS hm
  · have hm := iff_ hc hm
    refine lv_iload_n hx hb d_BlockCode_readsA_5 rfl (lv_at hl 0 rfl) ?_
    refine lv_bipush (v := (7 : Int32)) hx hb d_BlockCode_readsA_6 (by decide) ?_
    refine lv_icmp_le (tgt := 17) hx hb d_BlockCode_readsA_8 (by decide) (fun hc => ?_) (fun hc => ?_)
    · have hm := ift hc hm
      exact w_BlockCode_readsA_17 S hr hlk hK hA p0 o_r hQ H locs ls (lv_sub hl [] rfl) hP hD hS hm
    · have hm := iff_ hc hm
      exact w_BlockCode_readsA_11 S hr hlk hK hA p0 o_r hQ H locs ls (lv_sub hl [0] rfl) hP hD hS hm
set_option maxHeartbeats 4000000 in
set_option maxRecDepth 100000 in
theorem c_BlockCode_readsA (l : Launch) (D : va_G) (cI cJ cZ : ClassId) (p0 : Int32) (o_r : Int32) (hm : f_BlockCode_readsA p0 = some o_r) : MI l y_BlockCode_readsA b_BlockCode_readsA 1 .boolean rm_BlockCode_readsA D cI cJ cZ [.int p0] (ww_BlockCode_readsA cI cJ cZ) (ww_BlockCode_readsA cI cJ cZ) o_r := by
  intro sz
  refine Met.ofW (cc := b_BlockCode_readsA) (maxL := 1) (ret := (some .boolean)) (by decide) rfl ?_
  intro p e s m args below meth c s₁ B hml hv
  obtain ⟨rfl, hsz, hP, hK, hD0⟩ := hv
  have hts := atoms_spec (ws := Cond.code y_BlockCode_readsA b_BlockCode_readsA 1 (some .boolean) :: tbg) B.pre
  have S : CallFix p m c b_BlockCode_readsA 1 s ([.int p0] : List Value).toArray tbg R_BlockCode := ⟨B.exec, B.bytes, hml, findClass_of_methodNamed B.named, fun w hw => hts w (List.mem_cons_of_mem _ hw)⟩
  subst hsz
  have hD := hD0.self (sz := s.heap.size)
  have hl := lv_entry ([.int p0] : List Value) (n := 1) (Nat.le_of_ble_eq_true rfl)
  rw [lg_entry_eq]
  generalize (lg_sl ([.int p0] : List Value) ++ List.replicate (1 - (lg_sl ([.int p0] : List Value)).length) Slot.unset).toArray = ls at hl ⊢
  have hl : lv_has ls 1 [(0, .int p0)] := hl
  exact w_BlockCode_readsA S B.returns B.notSynchronized hK (fun q h => Or.inr h) p0 o_r (fun t H locs ht hW hP hS => ⟨⟨_, (), rfl, rfl, sB_of ht hP⟩, hS.F ht⟩) s.heap [] ls hl hP hD va_S.rf hm
set_option maxHeartbeats 4000000 in
set_option maxRecDepth 100000 in
theorem w_BlockCode_combines {p : Program} {l : Launch} {e : Env} {s : State} {m : MethodId} {args : Array Value} {below : List Frame} {meth : Method} {c : Code} {D : va_G} {cI cJ cZ : ClassId} {A : Nat → Prop} {Qc : Array Value → State → Outcome → State → Prop} (S : CallFix p m c b_BlockCode_combines 1 s args tbg R_BlockCode) (hr : meth.sig.returnType = (some .boolean)) (hlk : meth.locks = false) (hK : kx D cI cJ cZ s) (hA : ∀ q, s.heap.size ≤ q → A q) (p0 : Int32) (o_r : Int32) (hQ : ∀ (t : State) (H : Heap) (locs : List Loc), t.heap = H → s.WarmedH t.vm → va_P D classes (ww_BlockCode_combines cI cJ cZ) H → va_S A s.heap H locs → Qc args s (.returned (some (.int o_r))) t) (H : Heap) (locs : List Loc) (ls : Array Slot) (hl : lv_has ls 1 [(0, .int p0)]) (hP : va_P D classes (ww_BlockCode_combines cI cJ cZ) H) (hD : va_D A (ww_BlockCode_combines cI cJ cZ)) (hS : va_S A s.heap H locs) (hm : f_BlockCode_combines p0 = some o_r) : W p l e rm_BlockCode_combines s m args below meth c H locs 0 0 (MQ below Qc args s 0 0 A) (F0 m 0 ls []) := by
  obtain ⟨hx, hb, hml, hown, hts⟩ := id S
  unfold f_BlockCode_combines at hm
  refine lv_iload_n hx hb d_BlockCode_combines_0 rfl (lv_at hl 0 rfl) ?_
  refine lv_iconst (v := (3 : Int32)) hx hb d_BlockCode_combines_1 (by decide) ?_
  refine lv_icmp_lt (tgt := 15) hx hb d_BlockCode_combines_2 (by decide) (fun hc => ?_) (fun hc => ?_)
  · have hm := ift hc hm
    refine lv_iconst (v := (0 : Int32)) hx hb d_BlockCode_combines_15 (by decide) ?_
    cases hm
    exact W.zret hx hb hr rfl (fun t ht hW => hQ t _ _ ht hW hP hS) hS.2.2 d_BlockCode_combines_16 hlk
  · have hm := iff_ hc hm
    refine lv_iload_n hx hb d_BlockCode_combines_5 rfl (lv_at hl 0 rfl) ?_
    refine lv_bipush (v := (7 : Int32)) hx hb d_BlockCode_combines_6 (by decide) ?_
    refine lv_icmp_gt (tgt := 15) hx hb d_BlockCode_combines_8 (by decide) (fun hc => ?_) (fun hc => ?_)
    · have hm := ift hc hm
      refine lv_iconst (v := (0 : Int32)) hx hb d_BlockCode_combines_15 (by decide) ?_
      cases hm
      exact W.zret hx hb hr rfl (fun t ht hW => hQ t _ _ ht hW hP hS) hS.2.2 d_BlockCode_combines_16 hlk
    · have hm := iff_ hc hm
      refine lv_iconst (v := (1 : Int32)) hx hb d_BlockCode_combines_11 (by decide) ?_
      refine lv_goto (tgt := 16) hx hb d_BlockCode_combines_12 (by decide) ?_
      cases hm
      exact W.zret hx hb hr rfl (fun t ht hW => hQ t _ _ ht hW hP hS) hS.2.2 d_BlockCode_combines_16 hlk
set_option maxHeartbeats 4000000 in
set_option maxRecDepth 100000 in
theorem c_BlockCode_combines (l : Launch) (D : va_G) (cI cJ cZ : ClassId) (p0 : Int32) (o_r : Int32) (hm : f_BlockCode_combines p0 = some o_r) : MI l y_BlockCode_combines b_BlockCode_combines 1 .boolean rm_BlockCode_combines D cI cJ cZ [.int p0] (ww_BlockCode_combines cI cJ cZ) (ww_BlockCode_combines cI cJ cZ) o_r := by
  intro sz
  refine Met.ofW (cc := b_BlockCode_combines) (maxL := 1) (ret := (some .boolean)) (by decide) rfl ?_
  intro p e s m args below meth c s₁ B hml hv
  obtain ⟨rfl, hsz, hP, hK, hD0⟩ := hv
  have hts := atoms_spec (ws := Cond.code y_BlockCode_combines b_BlockCode_combines 1 (some .boolean) :: tbg) B.pre
  have S : CallFix p m c b_BlockCode_combines 1 s ([.int p0] : List Value).toArray tbg R_BlockCode := ⟨B.exec, B.bytes, hml, findClass_of_methodNamed B.named, fun w hw => hts w (List.mem_cons_of_mem _ hw)⟩
  subst hsz
  have hD := hD0.self (sz := s.heap.size)
  have hl := lv_entry ([.int p0] : List Value) (n := 1) (Nat.le_of_ble_eq_true rfl)
  rw [lg_entry_eq]
  generalize (lg_sl ([.int p0] : List Value) ++ List.replicate (1 - (lg_sl ([.int p0] : List Value)).length) Slot.unset).toArray = ls at hl ⊢
  have hl : lv_has ls 1 [(0, .int p0)] := hl
  exact w_BlockCode_combines S B.returns B.notSynchronized hK (fun q h => Or.inr h) p0 o_r (fun t H locs ht hW hP hS => ⟨⟨_, (), rfl, rfl, sB_of ht hP⟩, hS.F ht⟩) s.heap [] ls hl hP hD va_S.rf hm
set_option maxHeartbeats 4000000 in
set_option maxRecDepth 100000 in
theorem w_BlockCode_namedBy {p : Program} {l : Launch} {e : Env} {s : State} {m : MethodId} {args : Array Value} {below : List Frame} {meth : Method} {c : Code} {D : va_G} {cI cJ cZ : ClassId} {A : Nat → Prop} {Qc : Array Value → State → Outcome → State → Prop} (S : CallFix p m c b_BlockCode_namedBy 3 s args tbg R_BlockCode) (hr : meth.sig.returnType = (some .int)) (hlk : meth.locks = false) (hK : kx D cI cJ cZ s) (hA : ∀ q, s.heap.size ≤ q → A q) (p0 : Int32) (p1 : Int32) (p2 : Int32) (o_r : Int32) (hQ : ∀ (t : State) (H : Heap) (locs : List Loc), t.heap = H → s.WarmedH t.vm → va_P D classes (ww_BlockCode_namedBy cI cJ cZ) H → va_S A s.heap H locs → Qc args s (.returned (some (.int o_r))) t) (H : Heap) (locs : List Loc) (ls : Array Slot) (hl : lv_has ls 3 [(0, .int p0), (1, .int p1), (2, .int p2)]) (hP : va_P D classes (ww_BlockCode_namedBy cI cJ cZ) H) (hD : va_D A (ww_BlockCode_namedBy cI cJ cZ)) (hS : va_S A s.heap H locs) (hm : f_BlockCode_namedBy p0 p1 p2 = some o_r) : W p l e rm_BlockCode_namedBy s m args below meth c H locs 0 0 (MQ below Qc args s 0 0 A) (F0 m 0 ls []) := by
  obtain ⟨hx, hb, hml, hown, hts⟩ := id S
  unfold f_BlockCode_namedBy at hm
  refine lv_iload_n hx hb d_BlockCode_namedBy_0 rfl (lv_at hl 0 rfl) ?_
  refine lv_bipush (v := (8 : Int32)) hx hb d_BlockCode_namedBy_1 (by decide) ?_
  refine lv_icmp_ne (tgt := 8) hx hb d_BlockCode_namedBy_3 (by decide) (fun hc => ?_) (fun hc => ?_)
  · have hm := iff_ hc hm
    refine lv_iload_n hx hb d_BlockCode_namedBy_8 rfl (lv_at hl 0 rfl) ?_
    refine lv_bipush (v := (9 : Int32)) hx hb d_BlockCode_namedBy_9 (by decide) ?_
    refine lv_icmp_ne (tgt := 18) hx hb d_BlockCode_namedBy_11 (by decide) (fun hc => ?_) (fun hc => ?_)
    · have hm := iff_ hc hm
      refine lv_iconst (v := (-1 : Int32)) hx hb d_BlockCode_namedBy_18 (by decide) ?_
      cases hm
      exact W.iret hx hb hr (fun t ht hW => hQ t _ _ ht hW hP hS) hS.2.2 d_BlockCode_namedBy_19 hlk
    · have hm := ift hc hm
      refine lv_iload_n hx hb d_BlockCode_namedBy_14 rfl (lv_at hl 2 rfl) ?_
      refine lv_goto (tgt := 19) hx hb d_BlockCode_namedBy_15 (by decide) ?_
      cases hm
      exact W.iret hx hb hr (fun t ht hW => hQ t _ _ ht hW hP hS) hS.2.2 d_BlockCode_namedBy_19 hlk
  · have hm := ift hc hm
    refine lv_iload_n hx hb d_BlockCode_namedBy_6 rfl (lv_at hl 1 rfl) ?_
    cases hm
    exact W.iret hx hb hr (fun t ht hW => hQ t _ _ ht hW hP hS) hS.2.2 d_BlockCode_namedBy_7 hlk
set_option maxHeartbeats 4000000 in
set_option maxRecDepth 100000 in
theorem c_BlockCode_namedBy (l : Launch) (D : va_G) (cI cJ cZ : ClassId) (p0 : Int32) (p1 : Int32) (p2 : Int32) (o_r : Int32) (hm : f_BlockCode_namedBy p0 p1 p2 = some o_r) : MI l y_BlockCode_namedBy b_BlockCode_namedBy 3 .int rm_BlockCode_namedBy D cI cJ cZ [.int p0, .int p1, .int p2] (ww_BlockCode_namedBy cI cJ cZ) (ww_BlockCode_namedBy cI cJ cZ) o_r := by
  intro sz
  refine Met.ofW (cc := b_BlockCode_namedBy) (maxL := 3) (ret := (some .int)) (by decide) rfl ?_
  intro p e s m args below meth c s₁ B hml hv
  obtain ⟨rfl, hsz, hP, hK, hD0⟩ := hv
  have hts := atoms_spec (ws := Cond.code y_BlockCode_namedBy b_BlockCode_namedBy 3 (some .int) :: tbg) B.pre
  have S : CallFix p m c b_BlockCode_namedBy 3 s ([.int p0, .int p1, .int p2] : List Value).toArray tbg R_BlockCode := ⟨B.exec, B.bytes, hml, findClass_of_methodNamed B.named, fun w hw => hts w (List.mem_cons_of_mem _ hw)⟩
  subst hsz
  have hD := hD0.self (sz := s.heap.size)
  have hl := lv_entry ([.int p0, .int p1, .int p2] : List Value) (n := 3) (Nat.le_of_ble_eq_true rfl)
  rw [lg_entry_eq]
  generalize (lg_sl ([.int p0, .int p1, .int p2] : List Value) ++ List.replicate (3 - (lg_sl ([.int p0, .int p1, .int p2] : List Value)).length) Slot.unset).toArray = ls at hl ⊢
  have hl : lv_has ls 3 [(0, .int p0), (1, .int p1), (2, .int p2)] := hl
  exact w_BlockCode_namedBy S B.returns B.notSynchronized hK (fun q h => Or.inr h) p0 p1 p2 o_r (fun t H locs ht hW hP hS => ⟨⟨_, (), rfl, rfl, sB_of ht hP⟩, hS.F ht⟩) s.heap [] ls hl hP hD va_S.rf hm
set_option maxHeartbeats 4000000 in
set_option maxRecDepth 100000 in
theorem w_BlockCode_isPlace {p : Program} {l : Launch} {e : Env} {s : State} {m : MethodId} {args : Array Value} {below : List Frame} {meth : Method} {c : Code} {D : va_G} {cI cJ cZ : ClassId} {A : Nat → Prop} {Qc : Array Value → State → Outcome → State → Prop} (S : CallFix p m c b_BlockCode_isPlace 1 s args tbg R_BlockCode) (hr : meth.sig.returnType = (some .boolean)) (hlk : meth.locks = false) (hK : kx D cI cJ cZ s) (hA : ∀ q, s.heap.size ≤ q → A q) (p0 : Int32) (o_r : Int32) (hQ : ∀ (t : State) (H : Heap) (locs : List Loc), t.heap = H → s.WarmedH t.vm → va_P D classes (ww_BlockCode_isPlace cI cJ cZ) H → va_S A s.heap H locs → Qc args s (.returned (some (.int o_r))) t) (H : Heap) (locs : List Loc) (ls : Array Slot) (hl : lv_has ls 1 [(0, .int p0)]) (hP : va_P D classes (ww_BlockCode_isPlace cI cJ cZ) H) (hD : va_D A (ww_BlockCode_isPlace cI cJ cZ)) (hS : va_S A s.heap H locs) (hm : f_BlockCode_isPlace p0 = some o_r) : W p l e rm_BlockCode_isPlace s m args below meth c H locs 0 0 (MQ below Qc args s 0 0 A) (F0 m 0 ls []) := by
  obtain ⟨hx, hb, hml, hown, hts⟩ := id S
  unfold f_BlockCode_isPlace at hm
  refine lv_iload_n hx hb d_BlockCode_isPlace_0 rfl (lv_at hl 0 rfl) ?_
  refine lv_if_lt (tgt := 14) hx hb d_BlockCode_isPlace_1 (by decide) (fun hc => ?_) (fun hc => ?_)
  · have hm := ift hc hm
    refine lv_iconst (v := (0 : Int32)) hx hb d_BlockCode_isPlace_14 (by decide) ?_
    cases hm
    exact W.zret hx hb hr rfl (fun t ht hW => hQ t _ _ ht hW hP hS) hS.2.2 d_BlockCode_isPlace_15 hlk
  · have hm := iff_ hc hm
    refine lv_iload_n hx hb d_BlockCode_isPlace_4 rfl (lv_at hl 0 rfl) ?_
    refine lv_bipush (v := (20 : Int32)) hx hb d_BlockCode_isPlace_5 (by decide) ?_
    refine lv_icmp_ge (tgt := 14) hx hb d_BlockCode_isPlace_7 (by decide) (fun hc => ?_) (fun hc => ?_)
    · have hm := ift hc hm
      refine lv_iconst (v := (0 : Int32)) hx hb d_BlockCode_isPlace_14 (by decide) ?_
      cases hm
      exact W.zret hx hb hr rfl (fun t ht hW => hQ t _ _ ht hW hP hS) hS.2.2 d_BlockCode_isPlace_15 hlk
    · have hm := iff_ hc hm
      refine lv_iconst (v := (1 : Int32)) hx hb d_BlockCode_isPlace_10 (by decide) ?_
      refine lv_goto (tgt := 15) hx hb d_BlockCode_isPlace_11 (by decide) ?_
      cases hm
      exact W.zret hx hb hr rfl (fun t ht hW => hQ t _ _ ht hW hP hS) hS.2.2 d_BlockCode_isPlace_15 hlk
set_option maxHeartbeats 4000000 in
set_option maxRecDepth 100000 in
theorem c_BlockCode_isPlace (l : Launch) (D : va_G) (cI cJ cZ : ClassId) (p0 : Int32) (o_r : Int32) (hm : f_BlockCode_isPlace p0 = some o_r) : MI l y_BlockCode_isPlace b_BlockCode_isPlace 1 .boolean rm_BlockCode_isPlace D cI cJ cZ [.int p0] (ww_BlockCode_isPlace cI cJ cZ) (ww_BlockCode_isPlace cI cJ cZ) o_r := by
  intro sz
  refine Met.ofW (cc := b_BlockCode_isPlace) (maxL := 1) (ret := (some .boolean)) (by decide) rfl ?_
  intro p e s m args below meth c s₁ B hml hv
  obtain ⟨rfl, hsz, hP, hK, hD0⟩ := hv
  have hts := atoms_spec (ws := Cond.code y_BlockCode_isPlace b_BlockCode_isPlace 1 (some .boolean) :: tbg) B.pre
  have S : CallFix p m c b_BlockCode_isPlace 1 s ([.int p0] : List Value).toArray tbg R_BlockCode := ⟨B.exec, B.bytes, hml, findClass_of_methodNamed B.named, fun w hw => hts w (List.mem_cons_of_mem _ hw)⟩
  subst hsz
  have hD := hD0.self (sz := s.heap.size)
  have hl := lv_entry ([.int p0] : List Value) (n := 1) (Nat.le_of_ble_eq_true rfl)
  rw [lg_entry_eq]
  generalize (lg_sl ([.int p0] : List Value) ++ List.replicate (1 - (lg_sl ([.int p0] : List Value)).length) Slot.unset).toArray = ls at hl ⊢
  have hl : lv_has ls 1 [(0, .int p0)] := hl
  exact w_BlockCode_isPlace S B.returns B.notSynchronized hK (fun q h => Or.inr h) p0 o_r (fun t H locs ht hW hP hS => ⟨⟨_, (), rfl, rfl, sB_of ht hP⟩, hS.F ht⟩) s.heap [] ls hl hP hD va_S.rf hm
set_option maxHeartbeats 4000000 in
set_option maxRecDepth 100000 in
theorem w_BlockCode_hasForm_72 {p : Program} {l : Launch} {e : Env} {s : State} {m : MethodId} {args : Array Value} {below : List Frame} {meth : Method} {c : Code} {D : va_G} {cI cJ cZ : ClassId} {A : Nat → Prop} {Qc : Array Value → State → Outcome → State → Prop} (S : CallFix p m c b_BlockCode_hasForm 4 s args tbg R_BlockCode) (hr : meth.sig.returnType = (some .boolean)) (hlk : meth.locks = false) (hK : kx D cI cJ cZ s) (hA : ∀ q, s.heap.size ≤ q → A q) (p0 : Int32) (p1 : Int32) (p2 : Int32) (p3 : Int32) (o_r : Int32) (hQ : ∀ (t : State) (H : Heap) (locs : List Loc), t.heap = H → s.WarmedH t.vm → va_P D classes (ww_BlockCode_hasForm cI cJ cZ) H → va_S A s.heap H locs → Qc args s (.returned (some (.int o_r))) t) : ∀ (H : Heap) (locs : List Loc) (ls : Array Slot), lv_has ls 4 [(0, .int p0), (2, .int p2), (3, .int p3)] → va_P D classes (ww_BlockCode_hasForm cI cJ cZ) H → va_D A (ww_BlockCode_hasForm cI cJ cZ) → va_S A s.heap H locs → f_BlockCode_hasForm_72 p0 p1 p2 p3 = some o_r → W p l e rm_BlockCode_hasForm s m args below meth c H locs 0 0 (MQ below Qc args s 0 0 A) (F0 m 72 ls []) := by
  obtain ⟨hx, hb, hml, hown, hts⟩ := id S
  intro H locs ls hl hP hD hS hm
  unfold f_BlockCode_hasForm_72 at hm
  refine lv_iload_n hx hb d_BlockCode_hasForm_72 rfl (lv_at hl 0 rfl) ?_
  refine lv_iload_n hx hb d_BlockCode_hasForm_73 rfl (lv_at hl 1 rfl) ?_
  refine lv_iload_n hx hb d_BlockCode_hasForm_74 rfl (lv_at hl 2 rfl) ?_
  obtain ⟨rz1, e_rz1, hm⟩ := ob hm
  have hC : ([] : List Nat).map (fun i => (ww_BlockCode_hasForm cI cJ cZ)[i]?) = (ww_BlockCode_namedBy cI cJ cZ).map some := rfl
  refine vj_i (w1 := (ww_BlockCode_namedBy cI cJ cZ)) (wn := (ww_BlockCode_hasForm cI cJ cZ)) (isR := []) (nw := 0) (vr_S (n := 3) (As := [.int p0, .int p2, .int p3]) S ((c_BlockCode_namedBy l D cI cJ cZ p0 p2 p3 rz1 e_rz1) H.size) a_248 a_249 a_1 a_250 (by decide +kernel) ⟨rfl, rfl⟩ ⟨Nat.le_of_ble_eq_true rfl, Nat.le_of_ble_eq_true rfl⟩ hK hP hD (by decide) hC rfl hl.1 (Nat.le_of_ble_eq_true rfl) d_BlockCode_hasForm_75 ⟨Nat.zero_le _, Nat.zero_le _⟩ rfl) hP hD hS hA hC rfl rfl vx_n rfl (by decide) (fun H locs hP hD hS => ?_)
  obtain ⟨rz2, e_rz2, hm⟩ := ob hm
  have hC : ([] : List Nat).map (fun i => (ww_BlockCode_hasForm cI cJ cZ)[i]?) = (ww_BlockCode_isPlace cI cJ cZ).map some := rfl
  refine vj_i (w1 := (ww_BlockCode_isPlace cI cJ cZ)) (wn := (ww_BlockCode_hasForm cI cJ cZ)) (isR := []) (nw := 0) (vr_S (n := 1) (As := [.int rz1]) S ((c_BlockCode_isPlace l D cI cJ cZ rz1 rz2 e_rz2) H.size) a_251 a_252 a_1 a_253 (by decide +kernel) ⟨rfl, rfl⟩ ⟨Nat.le_of_ble_eq_true rfl, Nat.le_of_ble_eq_true rfl⟩ hK hP hD (by decide) hC rfl hl.1 (Nat.le_of_ble_eq_true rfl) d_BlockCode_hasForm_78 ⟨Nat.zero_le _, Nat.zero_le _⟩ rfl) hP hD hS hA hC rfl rfl vx_n rfl (by decide) (fun H locs hP hD hS => ?_)
  obtain ⟨z0, e0, hm⟩ := ob hm
  obtain ⟨⟨n1, n2⟩, rfl⟩ := gzI_of e0
  cases hm
  exact W.zret hx hb hr n1 (fun t ht hW => hQ t _ _ ht hW hP hS) hS.2.2 d_BlockCode_hasForm_81 hlk
set_option maxHeartbeats 4000000 in
set_option maxRecDepth 100000 in
theorem w_BlockCode_hasForm_98 {p : Program} {l : Launch} {e : Env} {s : State} {m : MethodId} {args : Array Value} {below : List Frame} {meth : Method} {c : Code} {D : va_G} {cI cJ cZ : ClassId} {A : Nat → Prop} {Qc : Array Value → State → Outcome → State → Prop} (S : CallFix p m c b_BlockCode_hasForm 4 s args tbg R_BlockCode) (hr : meth.sig.returnType = (some .boolean)) (hlk : meth.locks = false) (hK : kx D cI cJ cZ s) (hA : ∀ q, s.heap.size ≤ q → A q) (p0 : Int32) (p1 : Int32) (p2 : Int32) (p3 : Int32) (o_r : Int32) (hQ : ∀ (t : State) (H : Heap) (locs : List Loc), t.heap = H → s.WarmedH t.vm → va_P D classes (ww_BlockCode_hasForm cI cJ cZ) H → va_S A s.heap H locs → Qc args s (.returned (some (.int o_r))) t) : ∀ (H : Heap) (locs : List Loc) (ls : Array Slot), lv_has ls 4 [] → va_P D classes (ww_BlockCode_hasForm cI cJ cZ) H → va_D A (ww_BlockCode_hasForm cI cJ cZ) → va_S A s.heap H locs → f_BlockCode_hasForm_98 p0 p1 p2 p3 = some o_r → W p l e rm_BlockCode_hasForm s m args below meth c H locs 0 0 (MQ below Qc args s 0 0 A) (F0 m 98 ls []) := by
  obtain ⟨hx, hb, hml, hown, hts⟩ := id S
  intro H locs ls hl hP hD hS hm
  unfold f_BlockCode_hasForm_98 at hm
  refine lv_iconst (v := (1 : Int32)) hx hb d_BlockCode_hasForm_98 (by decide) ?_
  refine lv_goto (tgt := 103) hx hb d_BlockCode_hasForm_99 (by decide) ?_
  cases hm
  exact W.zret hx hb hr rfl (fun t ht hW => hQ t _ _ ht hW hP hS) hS.2.2 d_BlockCode_hasForm_103 hlk
set_option maxHeartbeats 4000000 in
set_option maxRecDepth 100000 in
theorem w_BlockCode_hasForm_60 {p : Program} {l : Launch} {e : Env} {s : State} {m : MethodId} {args : Array Value} {below : List Frame} {meth : Method} {c : Code} {D : va_G} {cI cJ cZ : ClassId} {A : Nat → Prop} {Qc : Array Value → State → Outcome → State → Prop} (S : CallFix p m c b_BlockCode_hasForm 4 s args tbg R_BlockCode) (hr : meth.sig.returnType = (some .boolean)) (hlk : meth.locks = false) (hK : kx D cI cJ cZ s) (hA : ∀ q, s.heap.size ≤ q → A q) (p0 : Int32) (p1 : Int32) (p2 : Int32) (p3 : Int32) (o_r : Int32) (hQ : ∀ (t : State) (H : Heap) (locs : List Loc), t.heap = H → s.WarmedH t.vm → va_P D classes (ww_BlockCode_hasForm cI cJ cZ) H → va_S A s.heap H locs → Qc args s (.returned (some (.int o_r))) t) : ∀ (H : Heap) (locs : List Loc) (ls : Array Slot), lv_has ls 4 [(0, .int p0), (2, .int p2), (3, .int p3)] → va_P D classes (ww_BlockCode_hasForm cI cJ cZ) H → va_D A (ww_BlockCode_hasForm cI cJ cZ) → va_S A s.heap H locs → f_BlockCode_hasForm_60 p0 p1 p2 p3 = some o_r → W p l e rm_BlockCode_hasForm s m args below meth c H locs 0 0 (MQ below Qc args s 0 0 A) (F0 m 60 ls []) := by
  obtain ⟨hx, hb, hml, hown, hts⟩ := id S
  intro H locs ls hl hP hD hS hm
  unfold f_BlockCode_hasForm_60 at hm
  refine lv_iload_n hx hb d_BlockCode_hasForm_60 rfl (lv_at hl 0 rfl) ?_
  refine lv_bipush (v := (8 : Int32)) hx hb d_BlockCode_hasForm_61 (by decide) ?_
  refine lv_icmp_eq (tgt := 72) hx hb d_BlockCode_hasForm_63 (by decide) (fun hc => ?_) (fun hc => ?_)
  · have hm := ift hc hm
    exact w_BlockCode_hasForm_72 S hr hlk hK hA p0 p1 p2 p3 o_r hQ H locs ls (lv_sub hl [0, 1, 2] rfl) hP hD hS hm
  · have hm := iff_ hc hm
    refine lv_iload_n hx hb d_BlockCode_hasForm_66 rfl (lv_at hl 0 rfl) ?_
    refine lv_bipush (v := (9 : Int32)) hx hb d_BlockCode_hasForm_67 (by decide) ?_
    refine lv_icmp_ne (tgt := 82) hx hb d_BlockCode_hasForm_69 (by decide) (fun hc => ?_) (fun hc => ?_)
    · have hm := iff_ hc hm
      refine lv_iload_n hx hb d_BlockCode_hasForm_82 rfl (lv_at hl 0 rfl) ?_
      refine lv_bipush (v := (10 : Int32)) hx hb d_BlockCode_hasForm_83 (by decide) ?_
      refine lv_icmp_ne (tgt := 98) hx hb d_BlockCode_hasForm_85 (by decide) (fun hc => ?_) (fun hc => ?_)
      · have hm := iff_ hc hm
        exact w_BlockCode_hasForm_98 S hr hlk hK hA p0 p1 p2 p3 o_r hQ H locs ls (lv_sub hl [] rfl) hP hD hS hm
      · have hm := ift hc hm
        refine lv_iload_n hx hb d_BlockCode_hasForm_88 rfl (lv_at hl 1 rfl) ?_
        refine lv_if_lt (tgt := 102) hx hb d_BlockCode_hasForm_89 (by decide) (fun hc => ?_) (fun hc => ?_)
        · have hm := ift hc hm
          refine lv_iconst (v := (0 : Int32)) hx hb d_BlockCode_hasForm_102 (by decide) ?_
          cases hm
          exact W.zret hx hb hr rfl (fun t ht hW => hQ t _ _ ht hW hP hS) hS.2.2 d_BlockCode_hasForm_103 hlk
        · have hm := iff_ hc hm
          refine lv_iload_n hx hb d_BlockCode_hasForm_92 rfl (lv_at hl 1 rfl) ?_
          refine lv_bipush (v := (32 : Int32)) hx hb d_BlockCode_hasForm_93 (by decide) ?_
          refine lv_icmp_ge (tgt := 102) hx hb d_BlockCode_hasForm_95 (by decide) (fun hc => ?_) (fun hc => ?_)
          · have hm := ift hc hm
            refine lv_iconst (v := (0 : Int32)) hx hb d_BlockCode_hasForm_102 (by decide) ?_
            cases hm
            exact W.zret hx hb hr rfl (fun t ht hW => hQ t _ _ ht hW hP hS) hS.2.2 d_BlockCode_hasForm_103 hlk
          · have hm := iff_ hc hm
            exact w_BlockCode_hasForm_98 S hr hlk hK hA p0 p1 p2 p3 o_r hQ H locs ls (lv_sub hl [] rfl) hP hD hS hm
    · have hm := ift hc hm
      exact w_BlockCode_hasForm_72 S hr hlk hK hA p0 p1 p2 p3 o_r hQ H locs ls (lv_sub hl [0, 1, 2] rfl) hP hD hS hm
set_option maxHeartbeats 4000000 in
set_option maxRecDepth 100000 in
theorem w_BlockCode_hasForm_44 {p : Program} {l : Launch} {e : Env} {s : State} {m : MethodId} {args : Array Value} {below : List Frame} {meth : Method} {c : Code} {D : va_G} {cI cJ cZ : ClassId} {A : Nat → Prop} {Qc : Array Value → State → Outcome → State → Prop} (S : CallFix p m c b_BlockCode_hasForm 4 s args tbg R_BlockCode) (hr : meth.sig.returnType = (some .boolean)) (hlk : meth.locks = false) (hK : kx D cI cJ cZ s) (hA : ∀ q, s.heap.size ≤ q → A q) (p0 : Int32) (p1 : Int32) (p2 : Int32) (p3 : Int32) (o_r : Int32) (hQ : ∀ (t : State) (H : Heap) (locs : List Loc), t.heap = H → s.WarmedH t.vm → va_P D classes (ww_BlockCode_hasForm cI cJ cZ) H → va_S A s.heap H locs → Qc args s (.returned (some (.int o_r))) t) : ∀ (H : Heap) (locs : List Loc) (ls : Array Slot), lv_has ls 4 [(0, .int p0), (2, .int p2), (3, .int p3)] → va_P D classes (ww_BlockCode_hasForm cI cJ cZ) H → va_D A (ww_BlockCode_hasForm cI cJ cZ) → va_S A s.heap H locs → f_BlockCode_hasForm_44 p0 p1 p2 p3 = some o_r → W p l e rm_BlockCode_hasForm s m args below meth c H locs 0 0 (MQ below Qc args s 0 0 A) (F0 m 44 ls []) := by
  obtain ⟨hx, hb, hml, hown, hts⟩ := id S
  intro H locs ls hl hP hD hS hm
  unfold f_BlockCode_hasForm_44 at hm
  refine lv_iload_n hx hb d_BlockCode_hasForm_44 rfl (lv_at hl 0 rfl) ?_
  obtain ⟨rz1, e_rz1, hm⟩ := ob hm
  have hC : ([] : List Nat).map (fun i => (ww_BlockCode_hasForm cI cJ cZ)[i]?) = (ww_BlockCode_combines cI cJ cZ).map some := rfl
  refine vj_i (w1 := (ww_BlockCode_combines cI cJ cZ)) (wn := (ww_BlockCode_hasForm cI cJ cZ)) (isR := []) (nw := 0) (vr_S (n := 1) (As := [.int p0]) S ((c_BlockCode_combines l D cI cJ cZ p0 rz1 e_rz1) H.size) a_245 a_246 a_1 a_247 (by decide +kernel) ⟨rfl, rfl⟩ ⟨Nat.le_of_ble_eq_true rfl, Nat.le_of_ble_eq_true rfl⟩ hK hP hD (by decide) hC rfl hl.1 (Nat.le_of_ble_eq_true rfl) d_BlockCode_hasForm_45 ⟨Nat.zero_le _, Nat.zero_le _⟩ rfl) hP hD hS hA hC rfl rfl vx_n rfl (by decide) (fun H locs hP hD hS => ?_)
  refine lv_if_eq (tgt := 60) hx hb d_BlockCode_hasForm_48 (by decide) (fun hc => ?_) (fun hc => ?_)
  · have hm := ift hc hm
    exact w_BlockCode_hasForm_60 S hr hlk hK hA p0 p1 p2 p3 o_r hQ H locs ls (lv_sub hl [0, 1, 2] rfl) hP hD hS hm
  · have hm := iff_ hc hm
    refine lv_iload_n hx hb d_BlockCode_hasForm_51 rfl (lv_at hl 2 rfl) ?_
    obtain ⟨rz2, e_rz2, hm⟩ := ob hm
    have hC : ([] : List Nat).map (fun i => (ww_BlockCode_hasForm cI cJ cZ)[i]?) = (ww_BlockCode_isRegister cI cJ cZ).map some := rfl
    refine vj_i (w1 := (ww_BlockCode_isRegister cI cJ cZ)) (wn := (ww_BlockCode_hasForm cI cJ cZ)) (isR := []) (nw := 0) (vr_S (n := 1) (As := [.int p3]) S ((c_BlockCode_isRegister l D cI cJ cZ p3 rz2 e_rz2) H.size) a_216 a_217 a_1 a_218 (by decide +kernel) ⟨rfl, rfl⟩ ⟨Nat.le_of_ble_eq_true rfl, Nat.le_of_ble_eq_true rfl⟩ hK hP hD (by decide) hC rfl hl.1 (Nat.le_of_ble_eq_true rfl) d_BlockCode_hasForm_52 ⟨Nat.zero_le _, Nat.zero_le _⟩ rfl) hP hD hS hA hC rfl rfl vx_n rfl (by decide) (fun H locs hP hD hS => ?_)
    refine lv_if_ne (tgt := 60) hx hb d_BlockCode_hasForm_55 (by decide) (fun hc => ?_) (fun hc => ?_)
    · have hm := iff_ hc hm
      exact w_BlockCode_hasForm_60 S hr hlk hK hA p0 p1 p2 p3 o_r hQ H locs ls (lv_sub hl [0, 1, 2] rfl) hP hD hS hm
    · have hm := ift hc hm
      refine lv_iconst (v := (0 : Int32)) hx hb d_BlockCode_hasForm_58 (by decide) ?_
      cases hm
      exact W.zret hx hb hr rfl (fun t ht hW => hQ t _ _ ht hW hP hS) hS.2.2 d_BlockCode_hasForm_59 hlk
set_option maxHeartbeats 4000000 in
set_option maxRecDepth 100000 in
theorem w_BlockCode_hasForm_28 {p : Program} {l : Launch} {e : Env} {s : State} {m : MethodId} {args : Array Value} {below : List Frame} {meth : Method} {c : Code} {D : va_G} {cI cJ cZ : ClassId} {A : Nat → Prop} {Qc : Array Value → State → Outcome → State → Prop} (S : CallFix p m c b_BlockCode_hasForm 4 s args tbg R_BlockCode) (hr : meth.sig.returnType = (some .boolean)) (hlk : meth.locks = false) (hK : kx D cI cJ cZ s) (hA : ∀ q, s.heap.size ≤ q → A q) (p0 : Int32) (p1 : Int32) (p2 : Int32) (p3 : Int32) (o_r : Int32) (hQ : ∀ (t : State) (H : Heap) (locs : List Loc), t.heap = H → s.WarmedH t.vm → va_P D classes (ww_BlockCode_hasForm cI cJ cZ) H → va_S A s.heap H locs → Qc args s (.returned (some (.int o_r))) t) : ∀ (H : Heap) (locs : List Loc) (ls : Array Slot), lv_has ls 4 [(0, .int p0), (2, .int p2), (3, .int p3)] → va_P D classes (ww_BlockCode_hasForm cI cJ cZ) H → va_D A (ww_BlockCode_hasForm cI cJ cZ) → va_S A s.heap H locs → f_BlockCode_hasForm_28 p0 p1 p2 p3 = some o_r → W p l e rm_BlockCode_hasForm s m args below meth c H locs 0 0 (MQ below Qc args s 0 0 A) (F0 m 28 ls []) := by
  obtain ⟨hx, hb, hml, hown, hts⟩ := id S
  intro H locs ls hl hP hD hS hm
  unfold f_BlockCode_hasForm_28 at hm
  refine lv_iload_n hx hb d_BlockCode_hasForm_28 rfl (lv_at hl 0 rfl) ?_
  obtain ⟨rz1, e_rz1, hm⟩ := ob hm
  have hC : ([] : List Nat).map (fun i => (ww_BlockCode_hasForm cI cJ cZ)[i]?) = (ww_BlockCode_readsA cI cJ cZ).map some := rfl
  refine vj_i (w1 := (ww_BlockCode_readsA cI cJ cZ)) (wn := (ww_BlockCode_hasForm cI cJ cZ)) (isR := []) (nw := 0) (vr_S (n := 1) (As := [.int p0]) S ((c_BlockCode_readsA l D cI cJ cZ p0 rz1 e_rz1) H.size) a_242 a_243 a_1 a_244 (by decide +kernel) ⟨rfl, rfl⟩ ⟨Nat.le_of_ble_eq_true rfl, Nat.le_of_ble_eq_true rfl⟩ hK hP hD (by decide) hC rfl hl.1 (Nat.le_of_ble_eq_true rfl) d_BlockCode_hasForm_29 ⟨Nat.zero_le _, Nat.zero_le _⟩ rfl) hP hD hS hA hC rfl rfl vx_n rfl (by decide) (fun H locs hP hD hS => ?_)
  refine lv_if_eq (tgt := 44) hx hb d_BlockCode_hasForm_32 (by decide) (fun hc => ?_) (fun hc => ?_)
  · have hm := ift hc hm
    exact w_BlockCode_hasForm_44 S hr hlk hK hA p0 p1 p2 p3 o_r hQ H locs ls (lv_sub hl [0, 1, 2] rfl) hP hD hS hm
  · have hm := iff_ hc hm
    refine lv_iload_n hx hb d_BlockCode_hasForm_35 rfl (lv_at hl 1 rfl) ?_
    obtain ⟨rz2, e_rz2, hm⟩ := ob hm
    have hC : ([] : List Nat).map (fun i => (ww_BlockCode_hasForm cI cJ cZ)[i]?) = (ww_BlockCode_isRegister cI cJ cZ).map some := rfl
    refine vj_i (w1 := (ww_BlockCode_isRegister cI cJ cZ)) (wn := (ww_BlockCode_hasForm cI cJ cZ)) (isR := []) (nw := 0) (vr_S (n := 1) (As := [.int p2]) S ((c_BlockCode_isRegister l D cI cJ cZ p2 rz2 e_rz2) H.size) a_216 a_217 a_1 a_218 (by decide +kernel) ⟨rfl, rfl⟩ ⟨Nat.le_of_ble_eq_true rfl, Nat.le_of_ble_eq_true rfl⟩ hK hP hD (by decide) hC rfl hl.1 (Nat.le_of_ble_eq_true rfl) d_BlockCode_hasForm_36 ⟨Nat.zero_le _, Nat.zero_le _⟩ rfl) hP hD hS hA hC rfl rfl vx_n rfl (by decide) (fun H locs hP hD hS => ?_)
    refine lv_if_ne (tgt := 44) hx hb d_BlockCode_hasForm_39 (by decide) (fun hc => ?_) (fun hc => ?_)
    · have hm := iff_ hc hm
      exact w_BlockCode_hasForm_44 S hr hlk hK hA p0 p1 p2 p3 o_r hQ H locs ls (lv_sub hl [0, 1, 2] rfl) hP hD hS hm
    · have hm := ift hc hm
      refine lv_iconst (v := (0 : Int32)) hx hb d_BlockCode_hasForm_42 (by decide) ?_
      cases hm
      exact W.zret hx hb hr rfl (fun t ht hW => hQ t _ _ ht hW hP hS) hS.2.2 d_BlockCode_hasForm_43 hlk
set_option maxHeartbeats 4000000 in
set_option maxRecDepth 100000 in
theorem w_BlockCode_hasForm {p : Program} {l : Launch} {e : Env} {s : State} {m : MethodId} {args : Array Value} {below : List Frame} {meth : Method} {c : Code} {D : va_G} {cI cJ cZ : ClassId} {A : Nat → Prop} {Qc : Array Value → State → Outcome → State → Prop} (S : CallFix p m c b_BlockCode_hasForm 4 s args tbg R_BlockCode) (hr : meth.sig.returnType = (some .boolean)) (hlk : meth.locks = false) (hK : kx D cI cJ cZ s) (hA : ∀ q, s.heap.size ≤ q → A q) (p0 : Int32) (p1 : Int32) (p2 : Int32) (p3 : Int32) (o_r : Int32) (hQ : ∀ (t : State) (H : Heap) (locs : List Loc), t.heap = H → s.WarmedH t.vm → va_P D classes (ww_BlockCode_hasForm cI cJ cZ) H → va_S A s.heap H locs → Qc args s (.returned (some (.int o_r))) t) (H : Heap) (locs : List Loc) (ls : Array Slot) (hl : lv_has ls 4 [(0, .int p0), (1, .int p1), (2, .int p2), (3, .int p3)]) (hP : va_P D classes (ww_BlockCode_hasForm cI cJ cZ) H) (hD : va_D A (ww_BlockCode_hasForm cI cJ cZ)) (hS : va_S A s.heap H locs) (hm : f_BlockCode_hasForm p0 p1 p2 p3 = some o_r) : W p l e rm_BlockCode_hasForm s m args below meth c H locs 0 0 (MQ below Qc args s 0 0 A) (F0 m 0 ls []) := by
  obtain ⟨hx, hb, hml, hown, hts⟩ := id S
  unfold f_BlockCode_hasForm at hm
  refine lv_iload_n hx hb d_BlockCode_hasForm_0 rfl (lv_at hl 0 rfl) ?_
  refine lv_if_lt (tgt := 10) hx hb d_BlockCode_hasForm_1 (by decide) (fun hc => ?_) (fun hc => ?_)
  · have hm := ift hc hm
    refine lv_iconst (v := (0 : Int32)) hx hb d_BlockCode_hasForm_10 (by decide) ?_
    cases hm
    exact W.zret hx hb hr rfl (fun t ht hW => hQ t _ _ ht hW hP hS) hS.2.2 d_BlockCode_hasForm_11 hlk
  · have hm := iff_ hc hm
    refine lv_iload_n hx hb d_BlockCode_hasForm_4 rfl (lv_at hl 0 rfl) ?_
    refine lv_bipush (v := (10 : Int32)) hx hb d_BlockCode_hasForm_5 (by decide) ?_
    refine lv_icmp_le (tgt := 12) hx hb d_BlockCode_hasForm_7 (by decide) (fun hc => ?_) (fun hc => ?_)
    · have hm := ift hc hm
      refine lv_iload_n hx hb d_BlockCode_hasForm_12 rfl (lv_at hl 0 rfl) ?_
      obtain ⟨rz1, e_rz1, hm⟩ := ob hm
      have hC : ([] : List Nat).map (fun i => (ww_BlockCode_hasForm cI cJ cZ)[i]?) = (ww_BlockCode_makesRegister cI cJ cZ).map some := rfl
      refine vj_i (w1 := (ww_BlockCode_makesRegister cI cJ cZ)) (wn := (ww_BlockCode_hasForm cI cJ cZ)) (isR := []) (nw := 0) (vr_S (n := 1) (As := [.int p0]) S ((c_BlockCode_makesRegister l D cI cJ cZ p0 rz1 e_rz1) H.size) a_239 a_240 a_1 a_241 (by decide +kernel) ⟨rfl, rfl⟩ ⟨Nat.le_of_ble_eq_true rfl, Nat.le_of_ble_eq_true rfl⟩ hK hP hD (by decide) hC rfl hl.1 (Nat.le_of_ble_eq_true rfl) d_BlockCode_hasForm_13 ⟨Nat.zero_le _, Nat.zero_le _⟩ rfl) hP hD hS hA hC rfl rfl vx_n rfl (by decide) (fun H locs hP hD hS => ?_)
      refine lv_if_eq (tgt := 28) hx hb d_BlockCode_hasForm_16 (by decide) (fun hc => ?_) (fun hc => ?_)
      · have hm := ift hc hm
        exact w_BlockCode_hasForm_28 S hr hlk hK hA p0 p1 p2 p3 o_r hQ H locs ls (lv_sub hl [0, 2, 3] rfl) hP hD hS hm
      · have hm := iff_ hc hm
        refine lv_iload_n hx hb d_BlockCode_hasForm_19 rfl (lv_at hl 1 rfl) ?_
        obtain ⟨rz2, e_rz2, hm⟩ := ob hm
        have hC : ([] : List Nat).map (fun i => (ww_BlockCode_hasForm cI cJ cZ)[i]?) = (ww_BlockCode_isRegister cI cJ cZ).map some := rfl
        refine vj_i (w1 := (ww_BlockCode_isRegister cI cJ cZ)) (wn := (ww_BlockCode_hasForm cI cJ cZ)) (isR := []) (nw := 0) (vr_S (n := 1) (As := [.int p1]) S ((c_BlockCode_isRegister l D cI cJ cZ p1 rz2 e_rz2) H.size) a_216 a_217 a_1 a_218 (by decide +kernel) ⟨rfl, rfl⟩ ⟨Nat.le_of_ble_eq_true rfl, Nat.le_of_ble_eq_true rfl⟩ hK hP hD (by decide) hC rfl hl.1 (Nat.le_of_ble_eq_true rfl) d_BlockCode_hasForm_20 ⟨Nat.zero_le _, Nat.zero_le _⟩ rfl) hP hD hS hA hC rfl rfl vx_n rfl (by decide) (fun H locs hP hD hS => ?_)
        refine lv_if_ne (tgt := 28) hx hb d_BlockCode_hasForm_23 (by decide) (fun hc => ?_) (fun hc => ?_)
        · have hm := iff_ hc hm
          exact w_BlockCode_hasForm_28 S hr hlk hK hA p0 p1 p2 p3 o_r hQ H locs ls (lv_sub hl [0, 2, 3] rfl) hP hD hS hm
        · have hm := ift hc hm
          refine lv_iconst (v := (0 : Int32)) hx hb d_BlockCode_hasForm_26 (by decide) ?_
          cases hm
          exact W.zret hx hb hr rfl (fun t ht hW => hQ t _ _ ht hW hP hS) hS.2.2 d_BlockCode_hasForm_27 hlk
    · have hm := iff_ hc hm
      refine lv_iconst (v := (0 : Int32)) hx hb d_BlockCode_hasForm_10 (by decide) ?_
      cases hm
      exact W.zret hx hb hr rfl (fun t ht hW => hQ t _ _ ht hW hP hS) hS.2.2 d_BlockCode_hasForm_11 hlk
set_option maxHeartbeats 4000000 in
set_option maxRecDepth 100000 in
theorem c_BlockCode_hasForm (l : Launch) (D : va_G) (cI cJ cZ : ClassId) (p0 : Int32) (p1 : Int32) (p2 : Int32) (p3 : Int32) (o_r : Int32) (hm : f_BlockCode_hasForm p0 p1 p2 p3 = some o_r) : MI l y_BlockCode_hasForm b_BlockCode_hasForm 4 .boolean rm_BlockCode_hasForm D cI cJ cZ [.int p0, .int p1, .int p2, .int p3] (ww_BlockCode_hasForm cI cJ cZ) (ww_BlockCode_hasForm cI cJ cZ) o_r := by
  intro sz
  refine Met.ofW (cc := b_BlockCode_hasForm) (maxL := 4) (ret := (some .boolean)) (by decide) rfl ?_
  intro p e s m args below meth c s₁ B hml hv
  obtain ⟨rfl, hsz, hP, hK, hD0⟩ := hv
  have hts := atoms_spec (ws := Cond.code y_BlockCode_hasForm b_BlockCode_hasForm 4 (some .boolean) :: tbg) B.pre
  have S : CallFix p m c b_BlockCode_hasForm 4 s ([.int p0, .int p1, .int p2, .int p3] : List Value).toArray tbg R_BlockCode := ⟨B.exec, B.bytes, hml, findClass_of_methodNamed B.named, fun w hw => hts w (List.mem_cons_of_mem _ hw)⟩
  subst hsz
  have hD := hD0.self (sz := s.heap.size)
  have hl := lv_entry ([.int p0, .int p1, .int p2, .int p3] : List Value) (n := 4) (Nat.le_of_ble_eq_true rfl)
  rw [lg_entry_eq]
  generalize (lg_sl ([.int p0, .int p1, .int p2, .int p3] : List Value) ++ List.replicate (4 - (lg_sl ([.int p0, .int p1, .int p2, .int p3] : List Value)).length) Slot.unset).toArray = ls at hl ⊢
  have hl : lv_has ls 4 [(0, .int p0), (1, .int p1), (2, .int p2), (3, .int p3)] := hl
  exact w_BlockCode_hasForm S B.returns B.notSynchronized hK (fun q h => Or.inr h) p0 p1 p2 p3 o_r (fun t H locs ht hW hP hS => ⟨⟨_, (), rfl, rfl, sB_of ht hP⟩, hS.F ht⟩) s.heap [] ls hl hP hD va_S.rf hm
set_option maxHeartbeats 4000000 in
set_option maxRecDepth 100000 in
theorem w_Code_put_65 {p : Program} {l : Launch} {e : Env} {s : State} {m : MethodId} {args : Array Value} {below : List Frame} {meth : Method} {c : Code} {D : va_G} {cI cJ cZ : ClassId} {A : Nat → Prop} {Qc : Array Value → State → Outcome → State → Prop} (S : CallFix p m c b_Code_put 6 s args tbg R_Code) (hr : meth.sig.returnType = none) (hlk : meth.locks = false) (hK : kx D cI cJ cZ s) (hA : ∀ q, s.heap.size ≤ q → A q) (qt : Nat) (qt_op : Nat) (qt_d : Nat) (qt_a : Nat) (qt_b : Nat) (qt_need : Nat) (p1 : Int32) (p2 : Int32) (p3 : Int32) (p4 : Int32) (p5 : Int32) (t_length : Int32) (t_leaders : Int32) (o_t_op : Nat → Int32) (o_t_d : Nat → Int32) (o_t_a : Nat → Int32) (o_t_b : Nat → Int32) (hQ : ∀ (t : State) (H : Heap) (locs : List Loc), t.heap = H → s.WarmedH t.vm → va_P D classes (ww_Code_put cI cJ cZ qt qt_op qt_d qt_a qt_b qt_need t_length t_leaders o_t_op o_t_d o_t_a o_t_b) H → va_S A s.heap H locs → Qc args s (.returned none) t) : ∀ (H : Heap) (locs : List Loc) (ls : Array Slot) (s0 : Int32) (s1 : Int32) (t_op : Nat → Int32) (t_d : Nat → Int32) (t_a : Nat → Int32) (t_b : Nat → Int32), lv_has ls 6 [] → va_P D classes (ww_Code_put cI cJ cZ qt qt_op qt_d qt_a qt_b qt_need t_length t_leaders t_op t_d t_a t_b) H → va_D A (ww_Code_put cI cJ cZ qt qt_op qt_d qt_a qt_b qt_need t_length t_leaders t_op t_d t_a t_b) → va_S A s.heap H locs → f_Code_put_65 p1 p2 p3 p4 p5 s0 s1 t_op t_d t_a t_b = some (o_t_op, o_t_d, o_t_a, o_t_b) → W p l e rm_Code_put s m args below meth c H locs 0 0 (MQ below Qc args s 0 0 A) (F0 m 65 ls [.int s0, .int s1, .ref qt_b]) := by
  obtain ⟨hx, hb, hml, hown, hts⟩ := id S
  intro H locs ls s0 s1 t_op t_d t_a t_b hl hP hD hS hm
  unfold f_Code_put_65 at hm
  obtain ⟨w1, e_w1, hm⟩ := ob hm
  refine vx_iast hx hb hK hP hD hS 4 rfl e_w1 d_Code_put_65 (fun H locs hP hD hS => ?_)
  have hP : va_P D classes (ww_Code_put cI cJ cZ qt qt_op qt_d qt_a qt_b qt_need t_length t_leaders t_op t_d t_a w1) H := hP
  have hD : va_D A (ww_Code_put cI cJ cZ qt qt_op qt_d qt_a qt_b qt_need t_length t_leaders t_op t_d t_a w1) := hD
  cases hm
  exact W.vret hx hb hr (fun t ht hW => hQ t _ _ ht hW hP hS) hS.2.2 d_Code_put_66 hlk
set_option maxHeartbeats 4000000 in
set_option maxRecDepth 100000 in
theorem w_Code_put_59 {p : Program} {l : Launch} {e : Env} {s : State} {m : MethodId} {args : Array Value} {below : List Frame} {meth : Method} {c : Code} {D : va_G} {cI cJ cZ : ClassId} {A : Nat → Prop} {Qc : Array Value → State → Outcome → State → Prop} (S : CallFix p m c b_Code_put 6 s args tbg R_Code) (hr : meth.sig.returnType = none) (hlk : meth.locks = false) (hK : kx D cI cJ cZ s) (hA : ∀ q, s.heap.size ≤ q → A q) (qt : Nat) (qt_op : Nat) (qt_d : Nat) (qt_a : Nat) (qt_b : Nat) (qt_need : Nat) (p1 : Int32) (p2 : Int32) (p3 : Int32) (p4 : Int32) (p5 : Int32) (t_length : Int32) (t_leaders : Int32) (o_t_op : Nat → Int32) (o_t_d : Nat → Int32) (o_t_a : Nat → Int32) (o_t_b : Nat → Int32) (hQ : ∀ (t : State) (H : Heap) (locs : List Loc), t.heap = H → s.WarmedH t.vm → va_P D classes (ww_Code_put cI cJ cZ qt qt_op qt_d qt_a qt_b qt_need t_length t_leaders o_t_op o_t_d o_t_a o_t_b) H → va_S A s.heap H locs → Qc args s (.returned none) t) : ∀ (H : Heap) (locs : List Loc) (ls : Array Slot) (s0 : Int32) (t_op : Nat → Int32) (t_d : Nat → Int32) (t_a : Nat → Int32) (t_b : Nat → Int32), lv_has ls 6 [(5, .int p5)] → va_P D classes (ww_Code_put cI cJ cZ qt qt_op qt_d qt_a qt_b qt_need t_length t_leaders t_op t_d t_a t_b) H → va_D A (ww_Code_put cI cJ cZ qt qt_op qt_d qt_a qt_b qt_need t_length t_leaders t_op t_d t_a t_b) → va_S A s.heap H locs → f_Code_put_59 p1 p2 p3 p4 p5 s0 t_op t_d t_a t_b = some (o_t_op, o_t_d, o_t_a, o_t_b) → W p l e rm_Code_put s m args below meth c H locs 0 0 (MQ below Qc args s 0 0 A) (F0 m 59 ls [.int s0, .ref qt_b]) := by
  obtain ⟨hx, hb, hml, hown, hts⟩ := id S
  intro H locs ls s0 t_op t_d t_a t_b hl hP hD hS hm
  unfold f_Code_put_59 at hm
  refine lv_iload hx hb d_Code_put_59 (lv_at hl 0 rfl) ?_
  refine lv_goto (tgt := 65) hx hb d_Code_put_61 (by decide) ?_
  exact w_Code_put_65 S hr hlk hK hA qt qt_op qt_d qt_a qt_b qt_need p1 p2 p3 p4 p5 t_length t_leaders o_t_op o_t_d o_t_a o_t_b hQ H locs ls p5 s0 t_op t_d t_a t_b (lv_sub hl [] rfl) hP hD hS hm
set_option maxHeartbeats 4000000 in
set_option maxRecDepth 100000 in
theorem w_Code_put_40 {p : Program} {l : Launch} {e : Env} {s : State} {m : MethodId} {args : Array Value} {below : List Frame} {meth : Method} {c : Code} {D : va_G} {cI cJ cZ : ClassId} {A : Nat → Prop} {Qc : Array Value → State → Outcome → State → Prop} (S : CallFix p m c b_Code_put 6 s args tbg R_Code) (hr : meth.sig.returnType = none) (hlk : meth.locks = false) (hK : kx D cI cJ cZ s) (hA : ∀ q, s.heap.size ≤ q → A q) (qt : Nat) (qt_op : Nat) (qt_d : Nat) (qt_a : Nat) (qt_b : Nat) (qt_need : Nat) (p1 : Int32) (p2 : Int32) (p3 : Int32) (p4 : Int32) (p5 : Int32) (t_length : Int32) (t_leaders : Int32) (o_t_op : Nat → Int32) (o_t_d : Nat → Int32) (o_t_a : Nat → Int32) (o_t_b : Nat → Int32) (hQ : ∀ (t : State) (H : Heap) (locs : List Loc), t.heap = H → s.WarmedH t.vm → va_P D classes (ww_Code_put cI cJ cZ qt qt_op qt_d qt_a qt_b qt_need t_length t_leaders o_t_op o_t_d o_t_a o_t_b) H → va_S A s.heap H locs → Qc args s (.returned none) t) : ∀ (H : Heap) (locs : List Loc) (ls : Array Slot) (s0 : Int32) (s1 : Int32) (t_op : Nat → Int32) (t_d : Nat → Int32) (t_a : Nat → Int32) (t_b : Nat → Int32), lv_has ls 6 [(0, .ref qt), (1, .int p1), (2, .int p2), (5, .int p5)] → va_P D classes (ww_Code_put cI cJ cZ qt qt_op qt_d qt_a qt_b qt_need t_length t_leaders t_op t_d t_a t_b) H → va_D A (ww_Code_put cI cJ cZ qt qt_op qt_d qt_a qt_b qt_need t_length t_leaders t_op t_d t_a t_b) → va_S A s.heap H locs → f_Code_put_40 p1 p2 p3 p4 p5 s0 s1 t_op t_d t_a t_b = some (o_t_op, o_t_d, o_t_a, o_t_b) → W p l e rm_Code_put s m args below meth c H locs 0 0 (MQ below Qc args s 0 0 A) (F0 m 40 ls [.int s0, .int s1, .ref qt_a]) := by
  obtain ⟨hx, hb, hml, hown, hts⟩ := id S
  intro H locs ls s0 s1 t_op t_d t_a t_b hl hP hD hS hm
  unfold f_Code_put_40 at hm
  obtain ⟨w1, e_w1, hm⟩ := ob hm
  refine vx_iast hx hb hK hP hD hS 3 rfl e_w1 d_Code_put_40 (fun H locs hP hD hS => ?_)
  have hP : va_P D classes (ww_Code_put cI cJ cZ qt qt_op qt_d qt_a qt_b qt_need t_length t_leaders t_op t_d w1 t_b) H := hP
  have hD : va_D A (ww_Code_put cI cJ cZ qt qt_op qt_d qt_a qt_b qt_need t_length t_leaders t_op t_d w1 t_b) := hD
  refine lv_aload_n hx hb d_Code_put_41 rfl (lv_at hl 0 rfl) ?_
  refine va_get (D := D) (ci := 0) (v := .ref qt_b) (C := R_Code) (T := T_Code) (N := 7) hx hb hts in_Code hown hK.1 hP 0 rfl rfl 3 (by decide) (hts _ a_42) (fun _ h9 => h9) rfl d_Code_put_42 ?_
  refine lv_iload_n hx hb d_Code_put_45 rfl (lv_at hl 1 rfl) ?_
  refine lv_iload_n hx hb d_Code_put_46 rfl (lv_at hl 2 rfl) ?_
  obtain ⟨rz2, e_rz2, hm⟩ := ob hm
  have hC : ([] : List Nat).map (fun i => (ww_Code_put cI cJ cZ qt qt_op qt_d qt_a qt_b qt_need t_length t_leaders t_op t_d w1 t_b)[i]?) = (ww_BlockCode_combines cI cJ cZ).map some := rfl
  refine vj_i (w1 := (ww_BlockCode_combines cI cJ cZ)) (wn := (ww_Code_put cI cJ cZ qt qt_op qt_d qt_a qt_b qt_need t_length t_leaders t_op t_d w1 t_b)) (isR := [0, 1, 2, 3, 4]) (nw := 5) (vr_SN (host := "BlockCode") (n := 1) (As := [.int p2]) S ((c_BlockCode_combines l D cI cJ cZ p2 rz2 e_rz2) H.size) an_259 a_246 a_1 a_247 (by decide +kernel) ⟨rfl, rfl⟩ ⟨Nat.le_of_ble_eq_true rfl, Nat.le_of_ble_eq_true rfl⟩ hK hP hD (by decide) hC rfl hl.1 (Nat.le_of_ble_eq_true rfl) d_Code_put_47 ⟨Nat.zero_le _, Nat.zero_le _⟩ rfl) hP hD hS hA hC rfl rfl (vx_c rfl rfl (vx_c rfl rfl (vx_c rfl rfl (vx_c rfl rfl (vx_c rfl rfl vx_n))))) rfl (by decide) (fun H locs hP hD hS => ?_)
  refine lv_if_ne (tgt := 59) hx hb d_Code_put_50 (by decide) (fun hc => ?_) (fun hc => ?_)
  · have hm := iff_ hc hm
    exact w_Code_put_59 S hr hlk hK hA qt qt_op qt_d qt_a qt_b qt_need p1 p2 p3 p4 p5 t_length t_leaders o_t_op o_t_d o_t_a o_t_b hQ H locs ls p1 t_op t_d w1 t_b (lv_sub hl [3] rfl) hP hD hS hm
  · have hm := ift hc hm
    refine lv_iload_n hx hb d_Code_put_53 rfl (lv_at hl 2 rfl) ?_
    refine lv_bipush (v := (9 : Int32)) hx hb d_Code_put_54 (by decide) ?_
    refine lv_icmp_ne (tgt := 64) hx hb d_Code_put_56 (by decide) (fun hc => ?_) (fun hc => ?_)
    · have hm := iff_ hc hm
      refine lv_iconst (v := (0 : Int32)) hx hb d_Code_put_64 (by decide) ?_
      exact w_Code_put_65 S hr hlk hK hA qt qt_op qt_d qt_a qt_b qt_need p1 p2 p3 p4 p5 t_length t_leaders o_t_op o_t_d o_t_a o_t_b hQ H locs ls (0 : Int32) p1 t_op t_d w1 t_b (lv_sub hl [] rfl) hP hD hS hm
    · have hm := ift hc hm
      exact w_Code_put_59 S hr hlk hK hA qt qt_op qt_d qt_a qt_b qt_need p1 p2 p3 p4 p5 t_length t_leaders o_t_op o_t_d o_t_a o_t_b hQ H locs ls p1 t_op t_d w1 t_b (lv_sub hl [3] rfl) hP hD hS hm
set_option maxHeartbeats 4000000 in
set_option maxRecDepth 100000 in
theorem w_Code_put_24 {p : Program} {l : Launch} {e : Env} {s : State} {m : MethodId} {args : Array Value} {below : List Frame} {meth : Method} {c : Code} {D : va_G} {cI cJ cZ : ClassId} {A : Nat → Prop} {Qc : Array Value → State → Outcome → State → Prop} (S : CallFix p m c b_Code_put 6 s args tbg R_Code) (hr : meth.sig.returnType = none) (hlk : meth.locks = false) (hK : kx D cI cJ cZ s) (hA : ∀ q, s.heap.size ≤ q → A q) (qt : Nat) (qt_op : Nat) (qt_d : Nat) (qt_a : Nat) (qt_b : Nat) (qt_need : Nat) (p1 : Int32) (p2 : Int32) (p3 : Int32) (p4 : Int32) (p5 : Int32) (t_length : Int32) (t_leaders : Int32) (o_t_op : Nat → Int32) (o_t_d : Nat → Int32) (o_t_a : Nat → Int32) (o_t_b : Nat → Int32) (hQ : ∀ (t : State) (H : Heap) (locs : List Loc), t.heap = H → s.WarmedH t.vm → va_P D classes (ww_Code_put cI cJ cZ qt qt_op qt_d qt_a qt_b qt_need t_length t_leaders o_t_op o_t_d o_t_a o_t_b) H → va_S A s.heap H locs → Qc args s (.returned none) t) : ∀ (H : Heap) (locs : List Loc) (ls : Array Slot) (s0 : Int32) (s1 : Int32) (t_op : Nat → Int32) (t_d : Nat → Int32) (t_a : Nat → Int32) (t_b : Nat → Int32), lv_has ls 6 [(0, .ref qt), (1, .int p1), (2, .int p2), (4, .int p4), (5, .int p5)] → va_P D classes (ww_Code_put cI cJ cZ qt qt_op qt_d qt_a qt_b qt_need t_length t_leaders t_op t_d t_a t_b) H → va_D A (ww_Code_put cI cJ cZ qt qt_op qt_d qt_a qt_b qt_need t_length t_leaders t_op t_d t_a t_b) → va_S A s.heap H locs → f_Code_put_24 p1 p2 p3 p4 p5 s0 s1 t_op t_d t_a t_b = some (o_t_op, o_t_d, o_t_a, o_t_b) → W p l e rm_Code_put s m args below meth c H locs 0 0 (MQ below Qc args s 0 0 A) (F0 m 24 ls [.int s0, .int s1, .ref qt_d]) := by
  obtain ⟨hx, hb, hml, hown, hts⟩ := id S
  intro H locs ls s0 s1 t_op t_d t_a t_b hl hP hD hS hm
  unfold f_Code_put_24 at hm
  obtain ⟨w1, e_w1, hm⟩ := ob hm
  refine vx_iast hx hb hK hP hD hS 2 rfl e_w1 d_Code_put_24 (fun H locs hP hD hS => ?_)
  have hP : va_P D classes (ww_Code_put cI cJ cZ qt qt_op qt_d qt_a qt_b qt_need t_length t_leaders t_op w1 t_a t_b) H := hP
  have hD : va_D A (ww_Code_put cI cJ cZ qt qt_op qt_d qt_a qt_b qt_need t_length t_leaders t_op w1 t_a t_b) := hD
  refine lv_aload_n hx hb d_Code_put_25 rfl (lv_at hl 0 rfl) ?_
  refine va_get (D := D) (ci := 0) (v := .ref qt_a) (C := R_Code) (T := T_Code) (N := 7) hx hb hts in_Code hown hK.1 hP 0 rfl rfl 2 (by decide) (hts _ a_37) (fun _ h9 => h9) rfl d_Code_put_26 ?_
  refine lv_iload_n hx hb d_Code_put_29 rfl (lv_at hl 1 rfl) ?_
  refine lv_iload_n hx hb d_Code_put_30 rfl (lv_at hl 2 rfl) ?_
  refine lv_if_ne (tgt := 38) hx hb d_Code_put_31 (by decide) (fun hc => ?_) (fun hc => ?_)
  · have hm := iff_ hc hm
    refine lv_iload hx hb d_Code_put_38 (lv_at hl 3 rfl) ?_
    exact w_Code_put_40 S hr hlk hK hA qt qt_op qt_d qt_a qt_b qt_need p1 p2 p3 p4 p5 t_length t_leaders o_t_op o_t_d o_t_a o_t_b hQ H locs ls p4 p1 t_op w1 t_a t_b (lv_sub hl [0, 1, 2, 4] rfl) hP hD hS hm
  · have hm := ift hc hm
    refine lv_iconst (v := (0 : Int32)) hx hb d_Code_put_34 (by decide) ?_
    refine lv_goto (tgt := 40) hx hb d_Code_put_35 (by decide) ?_
    exact w_Code_put_40 S hr hlk hK hA qt qt_op qt_d qt_a qt_b qt_need p1 p2 p3 p4 p5 t_length t_leaders o_t_op o_t_d o_t_a o_t_b hQ H locs ls (0 : Int32) p1 t_op w1 t_a t_b (lv_sub hl [0, 1, 2, 4] rfl) hP hD hS hm
set_option maxHeartbeats 4000000 in
set_option maxRecDepth 100000 in
theorem w_Code_put {p : Program} {l : Launch} {e : Env} {s : State} {m : MethodId} {args : Array Value} {below : List Frame} {meth : Method} {c : Code} {D : va_G} {cI cJ cZ : ClassId} {A : Nat → Prop} {Qc : Array Value → State → Outcome → State → Prop} (S : CallFix p m c b_Code_put 6 s args tbg R_Code) (hr : meth.sig.returnType = none) (hlk : meth.locks = false) (hK : kx D cI cJ cZ s) (hA : ∀ q, s.heap.size ≤ q → A q) (qt : Nat) (qt_op : Nat) (qt_d : Nat) (qt_a : Nat) (qt_b : Nat) (qt_need : Nat) (p1 : Int32) (p2 : Int32) (p3 : Int32) (p4 : Int32) (p5 : Int32) (t_length : Int32) (t_leaders : Int32) (o_t_op : Nat → Int32) (o_t_d : Nat → Int32) (o_t_a : Nat → Int32) (o_t_b : Nat → Int32) (hQ : ∀ (t : State) (H : Heap) (locs : List Loc), t.heap = H → s.WarmedH t.vm → va_P D classes (ww_Code_put cI cJ cZ qt qt_op qt_d qt_a qt_b qt_need t_length t_leaders o_t_op o_t_d o_t_a o_t_b) H → va_S A s.heap H locs → Qc args s (.returned none) t) (t_op : Nat → Int32) (t_d : Nat → Int32) (t_a : Nat → Int32) (t_b : Nat → Int32) (H : Heap) (locs : List Loc) (ls : Array Slot) (hl : lv_has ls 6 [(0, .ref qt), (1, .int p1), (2, .int p2), (3, .int p3), (4, .int p4), (5, .int p5)]) (hP : va_P D classes (ww_Code_put cI cJ cZ qt qt_op qt_d qt_a qt_b qt_need t_length t_leaders t_op t_d t_a t_b) H) (hD : va_D A (ww_Code_put cI cJ cZ qt qt_op qt_d qt_a qt_b qt_need t_length t_leaders t_op t_d t_a t_b)) (hS : va_S A s.heap H locs) (hm : f_Code_put p1 p2 p3 p4 p5 t_op t_d t_a t_b = some (o_t_op, o_t_d, o_t_a, o_t_b)) : W p l e rm_Code_put s m args below meth c H locs 0 0 (MQ below Qc args s 0 0 A) (F0 m 0 ls []) := by
  obtain ⟨hx, hb, hml, hown, hts⟩ := id S
  unfold f_Code_put at hm
  refine lv_aload_n hx hb d_Code_put_0 rfl (lv_at hl 0 rfl) ?_
  refine va_get (D := D) (ci := 0) (v := .ref qt_op) (C := R_Code) (T := T_Code) (N := 7) hx hb hts in_Code hown hK.1 hP 0 rfl rfl 0 (by decide) (hts _ a_27) (fun _ h9 => h9) rfl d_Code_put_1 ?_
  refine lv_iload_n hx hb d_Code_put_4 rfl (lv_at hl 1 rfl) ?_
  refine lv_iload_n hx hb d_Code_put_5 rfl (lv_at hl 2 rfl) ?_
  obtain ⟨w1, e_w1, hm⟩ := ob hm
  refine vx_iast hx hb hK hP hD hS 1 rfl e_w1 d_Code_put_6 (fun H locs hP hD hS => ?_)
  have hP : va_P D classes (ww_Code_put cI cJ cZ qt qt_op qt_d qt_a qt_b qt_need t_length t_leaders w1 t_d t_a t_b) H := hP
  have hD : va_D A (ww_Code_put cI cJ cZ qt qt_op qt_d qt_a qt_b qt_need t_length t_leaders w1 t_d t_a t_b) := hD
  refine lv_aload_n hx hb d_Code_put_7 rfl (lv_at hl 0 rfl) ?_
  refine va_get (D := D) (ci := 0) (v := .ref qt_d) (C := R_Code) (T := T_Code) (N := 7) hx hb hts in_Code hown hK.1 hP 0 rfl rfl 1 (by decide) (hts _ a_32) (fun _ h9 => h9) rfl d_Code_put_8 ?_
  refine lv_iload_n hx hb d_Code_put_11 rfl (lv_at hl 1 rfl) ?_
  refine lv_iload_n hx hb d_Code_put_12 rfl (lv_at hl 2 rfl) ?_
  obtain ⟨rz2, e_rz2, hm⟩ := ob hm
  have hC : ([] : List Nat).map (fun i => (ww_Code_put cI cJ cZ qt qt_op qt_d qt_a qt_b qt_need t_length t_leaders w1 t_d t_a t_b)[i]?) = (ww_BlockCode_makesRegister cI cJ cZ).map some := rfl
  refine vj_i (w1 := (ww_BlockCode_makesRegister cI cJ cZ)) (wn := (ww_Code_put cI cJ cZ qt qt_op qt_d qt_a qt_b qt_need t_length t_leaders w1 t_d t_a t_b)) (isR := [0, 1, 2, 3, 4]) (nw := 5) (vr_SN (host := "BlockCode") (n := 1) (As := [.int p2]) S ((c_BlockCode_makesRegister l D cI cJ cZ p2 rz2 e_rz2) H.size) an_258 a_240 a_1 a_241 (by decide +kernel) ⟨rfl, rfl⟩ ⟨Nat.le_of_ble_eq_true rfl, Nat.le_of_ble_eq_true rfl⟩ hK hP hD (by decide) hC rfl hl.1 (Nat.le_of_ble_eq_true rfl) d_Code_put_13 ⟨Nat.zero_le _, Nat.zero_le _⟩ rfl) hP hD hS hA hC rfl rfl (vx_c rfl rfl (vx_c rfl rfl (vx_c rfl rfl (vx_c rfl rfl (vx_c rfl rfl vx_n))))) rfl (by decide) (fun H locs hP hD hS => ?_)
  refine lv_if_eq (tgt := 23) hx hb d_Code_put_16 (by decide) (fun hc => ?_) (fun hc => ?_)
  · have hm := ift hc hm
    refine lv_iconst (v := (0 : Int32)) hx hb d_Code_put_23 (by decide) ?_
    exact w_Code_put_24 S hr hlk hK hA qt qt_op qt_d qt_a qt_b qt_need p1 p2 p3 p4 p5 t_length t_leaders o_t_op o_t_d o_t_a o_t_b hQ H locs ls (0 : Int32) p1 w1 t_d t_a t_b (lv_sub hl [0, 1, 2, 4, 5] rfl) hP hD hS hm
  · have hm := iff_ hc hm
    refine lv_iload_n hx hb d_Code_put_19 rfl (lv_at hl 3 rfl) ?_
    refine lv_goto (tgt := 24) hx hb d_Code_put_20 (by decide) ?_
    exact w_Code_put_24 S hr hlk hK hA qt qt_op qt_d qt_a qt_b qt_need p1 p2 p3 p4 p5 t_length t_leaders o_t_op o_t_d o_t_a o_t_b hQ H locs ls p3 p1 w1 t_d t_a t_b (lv_sub hl [0, 1, 2, 4, 5] rfl) hP hD hS hm
set_option maxHeartbeats 4000000 in
set_option maxRecDepth 100000 in
theorem c_Code_put (l : Launch) (D : va_G) (cI cJ cZ : ClassId) (qt : Nat) (qt_op : Nat) (qt_d : Nat) (qt_a : Nat) (qt_b : Nat) (qt_need : Nat) (t_length : Int32) (t_leaders : Int32) (t_op : Nat → Int32) (t_d : Nat → Int32) (t_a : Nat → Int32) (t_b : Nat → Int32) (p1 : Int32) (p2 : Int32) (p3 : Int32) (p4 : Int32) (p5 : Int32) (o_t_op : Nat → Int32) (o_t_d : Nat → Int32) (o_t_a : Nat → Int32) (o_t_b : Nat → Int32) (hm : f_Code_put p1 p2 p3 p4 p5 t_op t_d t_a t_b = some (o_t_op, o_t_d, o_t_a, o_t_b)) : MV l y_Code_put b_Code_put 6 rm_Code_put D cI cJ cZ [.ref qt, .int p1, .int p2, .int p3, .int p4, .int p5] (ww_Code_put cI cJ cZ qt qt_op qt_d qt_a qt_b qt_need t_length t_leaders t_op t_d t_a t_b) (ww_Code_put cI cJ cZ qt qt_op qt_d qt_a qt_b qt_need t_length t_leaders o_t_op o_t_d o_t_a o_t_b) := by
  intro sz
  refine Met.ofW (cc := b_Code_put) (maxL := 6) (ret := none) (by decide) rfl ?_
  intro p e s m args below meth c s₁ B hml hv
  obtain ⟨rfl, hsz, hP, hK, hD0⟩ := hv
  have hts := atoms_spec (ws := Cond.code y_Code_put b_Code_put 6 none :: tbg) B.pre
  have S : CallFix p m c b_Code_put 6 s ([.ref qt, .int p1, .int p2, .int p3, .int p4, .int p5] : List Value).toArray tbg R_Code := ⟨B.exec, B.bytes, hml, findClass_of_methodNamed B.named, fun w hw => hts w (List.mem_cons_of_mem _ hw)⟩
  subst hsz
  have hD := hD0.self (sz := s.heap.size)
  have hl := lv_entry ([.ref qt, .int p1, .int p2, .int p3, .int p4, .int p5] : List Value) (n := 6) (Nat.le_of_ble_eq_true rfl)
  rw [lg_entry_eq]
  generalize (lg_sl ([.ref qt, .int p1, .int p2, .int p3, .int p4, .int p5] : List Value) ++ List.replicate (6 - (lg_sl ([.ref qt, .int p1, .int p2, .int p3, .int p4, .int p5] : List Value)).length) Slot.unset).toArray = ls at hl ⊢
  have hl : lv_has ls 6 [(0, .ref qt), (1, .int p1), (2, .int p2), (3, .int p3), (4, .int p4), (5, .int p5)] := hl
  exact w_Code_put S B.returns B.notSynchronized hK (fun q h => Or.inr h) qt qt_op qt_d qt_a qt_b qt_need p1 p2 p3 p4 p5 t_length t_leaders o_t_op o_t_d o_t_a o_t_b (fun t H locs ht hW hP hS => ⟨⟨(), rfl, trivial, sB_of ht hP⟩, hS.F ht⟩) t_op t_d t_a t_b s.heap [] ls hl hP hD va_S.rf hm
set_option maxHeartbeats 4000000 in
set_option maxRecDepth 100000 in
theorem w_BlockCode_add {p : Program} {l : Launch} {e : Env} {s : State} {m : MethodId} {args : Array Value} {below : List Frame} {meth : Method} {c : Code} {D : va_G} {cI cJ cZ : ClassId} {A : Nat → Prop} {Qc : Array Value → State → Outcome → State → Prop} (S : CallFix p m c b_BlockCode_add 6 s args tbg R_BlockCode) (hr : meth.sig.returnType = (some .int)) (hlk : meth.locks = false) (hK : kx D cI cJ cZ s) (hA : ∀ q, s.heap.size ≤ q → A q) (qt : Nat) (qt_sourceCode : Nat) (qt_resultCode : Nat) (qt_facts : Nat) (qt_symbols : Nat) (qt_sourceWalk : Nat) (qt_resultWalk : Nat) (qt_machine : Nat) (qt_sourceCode_op : Nat) (qt_sourceCode_d : Nat) (qt_sourceCode_a : Nat) (qt_sourceCode_b : Nat) (qt_sourceCode_need : Nat) (p1 : Int32) (p2 : Int32) (p3 : Int32) (p4 : Int32) (t_sealed : Int32) (t_foundAlike : Int32) (t_sourceCode_leaders : Int32) (o_r : Int32) (o_t_sourceCode_op : Nat → Int32) (o_t_sourceCode_d : Nat → Int32) (o_t_sourceCode_a : Nat → Int32) (o_t_sourceCode_b : Nat → Int32) (o_t_sourceCode_length : Int32) (hQ : ∀ (t : State) (H : Heap) (locs : List Loc), t.heap = H → s.WarmedH t.vm → va_P D classes (ww_BlockCode_add cI cJ cZ qt qt_sourceCode qt_resultCode qt_facts qt_symbols qt_sourceWalk qt_resultWalk qt_machine qt_sourceCode_op qt_sourceCode_d qt_sourceCode_a qt_sourceCode_b qt_sourceCode_need t_sealed t_foundAlike o_t_sourceCode_length t_sourceCode_leaders o_t_sourceCode_op o_t_sourceCode_d o_t_sourceCode_a o_t_sourceCode_b) H → va_S A s.heap H locs → Qc args s (.returned (some (.int o_r))) t) (t_sourceCode_op : Nat → Int32) (t_sourceCode_d : Nat → Int32) (t_sourceCode_a : Nat → Int32) (t_sourceCode_b : Nat → Int32) (t_sourceCode_length : Int32) (H : Heap) (locs : List Loc) (ls : Array Slot) (hl : lv_has ls 6 [(0, .ref qt), (1, .int p1), (2, .int p2), (3, .int p3), (4, .int p4)]) (hP : va_P D classes (ww_BlockCode_add cI cJ cZ qt qt_sourceCode qt_resultCode qt_facts qt_symbols qt_sourceWalk qt_resultWalk qt_machine qt_sourceCode_op qt_sourceCode_d qt_sourceCode_a qt_sourceCode_b qt_sourceCode_need t_sealed t_foundAlike t_sourceCode_length t_sourceCode_leaders t_sourceCode_op t_sourceCode_d t_sourceCode_a t_sourceCode_b) H) (hD : va_D A (ww_BlockCode_add cI cJ cZ qt qt_sourceCode qt_resultCode qt_facts qt_symbols qt_sourceWalk qt_resultWalk qt_machine qt_sourceCode_op qt_sourceCode_d qt_sourceCode_a qt_sourceCode_b qt_sourceCode_need t_sealed t_foundAlike t_sourceCode_length t_sourceCode_leaders t_sourceCode_op t_sourceCode_d t_sourceCode_a t_sourceCode_b)) (hS : va_S A s.heap H locs) (hm : f_BlockCode_add p1 p2 p3 p4 t_sealed t_sourceCode_op t_sourceCode_d t_sourceCode_a t_sourceCode_b t_sourceCode_length = some (o_r, o_t_sourceCode_op, o_t_sourceCode_d, o_t_sourceCode_a, o_t_sourceCode_b, o_t_sourceCode_length)) : W p l e rm_BlockCode_add s m args below meth c H locs 0 0 (MQ below Qc args s 0 0 A) (F0 m 0 ls []) := by
  obtain ⟨hx, hb, hml, hown, hts⟩ := id S
  unfold f_BlockCode_add at hm
  refine lv_aload_n hx hb d_BlockCode_add_0 rfl (lv_at hl 0 rfl) ?_
  refine va_get (D := D) (ci := 5) (v := .int t_sealed) (C := R_BlockCode) (T := T_BlockCode) (N := 9) hx hb hts in_BlockCode hown hK.1 hP 0 rfl rfl 7 (by decide) (hts _ a_166) (fun _ h9 => h9) rfl d_BlockCode_add_1 ?_
  refine lv_if_eq (tgt := 17) hx hb d_BlockCode_add_4 (by decide) (fun hc => ?_) (fun hc => ?_)
  · have hm := ift hc hm
    refine lv_iload_n hx hb d_BlockCode_add_17 rfl (lv_at hl 1 rfl) ?_
    refine lv_iload_n hx hb d_BlockCode_add_18 rfl (lv_at hl 2 rfl) ?_
    refine lv_iload_n hx hb d_BlockCode_add_19 rfl (lv_at hl 3 rfl) ?_
    refine lv_iload hx hb d_BlockCode_add_20 (lv_at hl 4 rfl) ?_
    obtain ⟨rz1, e_rz1, hm⟩ := ob hm
    have hC : ([] : List Nat).map (fun i => (ww_BlockCode_add cI cJ cZ qt qt_sourceCode qt_resultCode qt_facts qt_symbols qt_sourceWalk qt_resultWalk qt_machine qt_sourceCode_op qt_sourceCode_d qt_sourceCode_a qt_sourceCode_b qt_sourceCode_need t_sealed t_foundAlike t_sourceCode_length t_sourceCode_leaders t_sourceCode_op t_sourceCode_d t_sourceCode_a t_sourceCode_b)[i]?) = (ww_BlockCode_hasForm cI cJ cZ).map some := rfl
    refine vj_i (w1 := (ww_BlockCode_hasForm cI cJ cZ)) (wn := (ww_BlockCode_add cI cJ cZ qt qt_sourceCode qt_resultCode qt_facts qt_symbols qt_sourceWalk qt_resultWalk qt_machine qt_sourceCode_op qt_sourceCode_d qt_sourceCode_a qt_sourceCode_b qt_sourceCode_need t_sealed t_foundAlike t_sourceCode_length t_sourceCode_leaders t_sourceCode_op t_sourceCode_d t_sourceCode_a t_sourceCode_b)) (isR := [0, 1, 2, 3, 4, 5]) (nw := 6) (vr_S (n := 4) (As := [.int p1, .int p2, .int p3, .int p4]) S ((c_BlockCode_hasForm l D cI cJ cZ p1 p2 p3 p4 rz1 e_rz1) H.size) a_236 a_237 a_1 a_238 (by decide +kernel) ⟨rfl, rfl⟩ ⟨Nat.le_of_ble_eq_true rfl, Nat.le_of_ble_eq_true rfl⟩ hK hP hD (by decide) hC rfl hl.1 (Nat.le_of_ble_eq_true rfl) d_BlockCode_add_22 ⟨Nat.zero_le _, Nat.zero_le _⟩ rfl) hP hD hS hA hC rfl rfl (vx_c rfl rfl (vx_c rfl rfl (vx_c rfl rfl (vx_c rfl rfl (vx_c rfl rfl (vx_c rfl rfl vx_n)))))) rfl (by decide) (fun H locs hP hD hS => ?_)
    refine lv_if_ne (tgt := 30) hx hb d_BlockCode_add_25 (by decide) (fun hc => ?_) (fun hc => ?_)
    · have hm := iff_ hc hm
      refine lv_aload_n hx hb d_BlockCode_add_30 rfl (lv_at hl 0 rfl) ?_
      refine va_get (D := D) (ci := 5) (v := .ref qt_sourceCode) (C := R_BlockCode) (T := T_BlockCode) (N := 9) hx hb hts in_BlockCode hown hK.1 hP 0 rfl rfl 0 (by decide) (hts _ a_159) (fun _ h9 => h9) rfl d_BlockCode_add_31 ?_
      refine va_get (D := D) (ci := 0) (v := .int t_sourceCode_length) (C := R_Code) (T := T_Code) (N := 7) hx hb hts in_Code hown hK.1 hP 1 rfl rfl 5 (by decide) (hts _ a_49) (fun _ h9 => h9) rfl d_BlockCode_add_34 ?_
      refine lv_bipush (v := (20 : Int32)) hx hb d_BlockCode_add_37 (by decide) ?_
      refine lv_icmp_lt (tgt := 45) hx hb d_BlockCode_add_39 (by decide) (fun hc => ?_) (fun hc => ?_)
      · have hm := ift hc hm
        refine lv_aload_n hx hb d_BlockCode_add_45 rfl (lv_at hl 0 rfl) ?_
        refine va_get (D := D) (ci := 5) (v := .ref qt_sourceCode) (C := R_BlockCode) (T := T_BlockCode) (N := 9) hx hb hts in_BlockCode hown hK.1 hP 0 rfl rfl 0 (by decide) (hts _ a_159) (fun _ h9 => h9) rfl d_BlockCode_add_46 ?_
        refine va_get (D := D) (ci := 0) (v := .int t_sourceCode_length) (C := R_Code) (T := T_Code) (N := 7) hx hb hts in_Code hown hK.1 hP 1 rfl rfl 5 (by decide) (hts _ a_49) (fun _ h9 => h9) rfl d_BlockCode_add_49 ?_
        refine lv_istore hx hb d_BlockCode_add_52 hl (by decide) rfl (fun ls hl => ?_)
        have hl : lv_has ls 6 [(5, .int t_sourceCode_length), (0, .ref qt), (1, .int p1), (2, .int p2), (3, .int p3), (4, .int p4)] := hl
        refine lv_aload_n hx hb d_BlockCode_add_54 rfl (lv_at hl 1 rfl) ?_
        refine va_get (D := D) (ci := 5) (v := .ref qt_sourceCode) (C := R_BlockCode) (T := T_BlockCode) (N := 9) hx hb hts in_BlockCode hown hK.1 hP 0 rfl rfl 0 (by decide) (hts _ a_159) (fun _ h9 => h9) rfl d_BlockCode_add_55 ?_
        refine lv_iload hx hb d_BlockCode_add_58 (lv_at hl 0 rfl) ?_
        refine lv_iconst (v := (1 : Int32)) hx hb d_BlockCode_add_60 (by decide) ?_
        refine lv_iadd hx hb d_BlockCode_add_61 ?_
        refine va_put (D := D) (ci := 0) (v := .int (t_sourceCode_length + (1 : Int32))) (ty := .int) (C := R_Code) (T := T_Code) (N := 7) hx hb hts in_Code ty_Code tyok_Code nm_Code hown hK.1 hP hD hS 1 rfl rfl 5 (by decide) (hts _ a_49) (fun _ h9 => h9) rfl (by decide +kernel) rfl rfl (Nat.le_of_ble_eq_true rfl) d_BlockCode_add_62 (fun H locs hP hD hS => ?_)
        have hP : va_P D classes (ww_BlockCode_add cI cJ cZ qt qt_sourceCode qt_resultCode qt_facts qt_symbols qt_sourceWalk qt_resultWalk qt_machine qt_sourceCode_op qt_sourceCode_d qt_sourceCode_a qt_sourceCode_b qt_sourceCode_need t_sealed t_foundAlike (t_sourceCode_length + (1 : Int32)) t_sourceCode_leaders t_sourceCode_op t_sourceCode_d t_sourceCode_a t_sourceCode_b) H := hP
        have hD : va_D A (ww_BlockCode_add cI cJ cZ qt qt_sourceCode qt_resultCode qt_facts qt_symbols qt_sourceWalk qt_resultWalk qt_machine qt_sourceCode_op qt_sourceCode_d qt_sourceCode_a qt_sourceCode_b qt_sourceCode_need t_sealed t_foundAlike (t_sourceCode_length + (1 : Int32)) t_sourceCode_leaders t_sourceCode_op t_sourceCode_d t_sourceCode_a t_sourceCode_b) := hD
        refine lv_aload_n hx hb d_BlockCode_add_65 rfl (lv_at hl 1 rfl) ?_
        refine va_get (D := D) (ci := 5) (v := .ref qt_sourceCode) (C := R_BlockCode) (T := T_BlockCode) (N := 9) hx hb hts in_BlockCode hown hK.1 hP 0 rfl rfl 0 (by decide) (hts _ a_159) (fun _ h9 => h9) rfl d_BlockCode_add_66 ?_
        refine lv_iload hx hb d_BlockCode_add_69 (lv_at hl 0 rfl) ?_
        refine lv_iload_n hx hb d_BlockCode_add_71 rfl (lv_at hl 2 rfl) ?_
        refine lv_iload_n hx hb d_BlockCode_add_72 rfl (lv_at hl 3 rfl) ?_
        refine lv_iload_n hx hb d_BlockCode_add_73 rfl (lv_at hl 4 rfl) ?_
        refine lv_iload hx hb d_BlockCode_add_74 (lv_at hl 5 rfl) ?_
        obtain ⟨⟨u2, u3, u4, u5⟩, e_u2, hm⟩ := ob hm
        dsimp only at hm
        have hC : ([1, 2, 3, 4, 5] : List Nat).map (fun i => (ww_BlockCode_add cI cJ cZ qt qt_sourceCode qt_resultCode qt_facts qt_symbols qt_sourceWalk qt_resultWalk qt_machine qt_sourceCode_op qt_sourceCode_d qt_sourceCode_a qt_sourceCode_b qt_sourceCode_need t_sealed t_foundAlike (t_sourceCode_length + (1 : Int32)) t_sourceCode_leaders t_sourceCode_op t_sourceCode_d t_sourceCode_a t_sourceCode_b)[i]?) = (ww_Code_put cI cJ cZ qt_sourceCode qt_sourceCode_op qt_sourceCode_d qt_sourceCode_a qt_sourceCode_b qt_sourceCode_need (t_sourceCode_length + (1 : Int32)) t_sourceCode_leaders t_sourceCode_op t_sourceCode_d t_sourceCode_a t_sourceCode_b).map some := rfl
        refine vj_v (w1 := (ww_Code_put cI cJ cZ qt_sourceCode qt_sourceCode_op qt_sourceCode_d qt_sourceCode_a qt_sourceCode_b qt_sourceCode_need (t_sourceCode_length + (1 : Int32)) t_sourceCode_leaders u2 u3 u4 u5)) (wn := (ww_BlockCode_add cI cJ cZ qt qt_sourceCode qt_resultCode qt_facts qt_symbols qt_sourceWalk qt_resultWalk qt_machine qt_sourceCode_op qt_sourceCode_d qt_sourceCode_a qt_sourceCode_b qt_sourceCode_need t_sealed t_foundAlike (t_sourceCode_length + (1 : Int32)) t_sourceCode_leaders u2 u3 u4 u5)) (isR := [0]) (nw := 6) (vr_V (C := R_Code) (n := 5) (As := [.int t_sourceCode_length, .int p1, .int p2, .int p3, .int p4]) S ((c_Code_put l D cI cJ cZ qt_sourceCode qt_sourceCode_op qt_sourceCode_d qt_sourceCode_a qt_sourceCode_b qt_sourceCode_need (t_sourceCode_length + (1 : Int32)) t_sourceCode_leaders t_sourceCode_op t_sourceCode_d t_sourceCode_a t_sourceCode_b t_sourceCode_length p1 p2 p3 p4 u2 u3 u4 u5 e_u2) H.size) a_254 a_255 a_256 a_2 a_257 (by decide +kernel) ⟨rfl, rfl⟩ ⟨Nat.le_of_ble_eq_true rfl, Nat.le_of_ble_eq_true rfl⟩ (ci := 0) (q0 := 1) rfl rfl hK hP hD (by decide) hC rfl hl.1 (Nat.le_of_ble_eq_true rfl) d_BlockCode_add_76 ⟨Nat.zero_le _, Nat.zero_le _⟩ rfl) hP hD hS hA hC rfl rfl (vx_c rfl rfl vx_n) rfl (by decide) (fun H locs hP hD hS => ?_)
        refine lv_iload hx hb d_BlockCode_add_79 (lv_at hl 0 rfl) ?_
        cases hm
        exact W.iret hx hb hr (fun t ht hW => hQ t _ _ ht hW hP hS) hS.2.2 d_BlockCode_add_81 hlk
      · have hm := iff_ hc hm
        refine lv_bipush (v := (-2 : Int32)) hx hb d_BlockCode_add_42 (by decide) ?_
        cases hm
        exact W.iret hx hb hr (fun t ht hW => hQ t _ _ ht hW hP hS) hS.2.2 d_BlockCode_add_44 hlk
    · have hm := ift hc hm
      refine lv_iconst (v := (-1 : Int32)) hx hb d_BlockCode_add_28 (by decide) ?_
      cases hm
      exact W.iret hx hb hr (fun t ht hW => hQ t _ _ ht hW hP hS) hS.2.2 d_BlockCode_add_29 hlk
  · have hm := iff_ hc hm
    cases hm
set_option maxHeartbeats 4000000 in
set_option maxRecDepth 100000 in
theorem c_BlockCode_add (l : Launch) (D : va_G) (cI cJ cZ : ClassId) (qt : Nat) (qt_sourceCode : Nat) (qt_resultCode : Nat) (qt_facts : Nat) (qt_symbols : Nat) (qt_sourceWalk : Nat) (qt_resultWalk : Nat) (qt_machine : Nat) (qt_sourceCode_op : Nat) (qt_sourceCode_d : Nat) (qt_sourceCode_a : Nat) (qt_sourceCode_b : Nat) (qt_sourceCode_need : Nat) (t_sealed : Int32) (t_foundAlike : Int32) (t_sourceCode_length : Int32) (t_sourceCode_leaders : Int32) (t_sourceCode_op : Nat → Int32) (t_sourceCode_d : Nat → Int32) (t_sourceCode_a : Nat → Int32) (t_sourceCode_b : Nat → Int32) (p1 : Int32) (p2 : Int32) (p3 : Int32) (p4 : Int32) (o_r : Int32) (o_t_sourceCode_op : Nat → Int32) (o_t_sourceCode_d : Nat → Int32) (o_t_sourceCode_a : Nat → Int32) (o_t_sourceCode_b : Nat → Int32) (o_t_sourceCode_length : Int32) (hm : f_BlockCode_add p1 p2 p3 p4 t_sealed t_sourceCode_op t_sourceCode_d t_sourceCode_a t_sourceCode_b t_sourceCode_length = some (o_r, o_t_sourceCode_op, o_t_sourceCode_d, o_t_sourceCode_a, o_t_sourceCode_b, o_t_sourceCode_length)) : MI l y_BlockCode_add b_BlockCode_add 6 .int rm_BlockCode_add D cI cJ cZ [.ref qt, .int p1, .int p2, .int p3, .int p4] (ww_BlockCode_add cI cJ cZ qt qt_sourceCode qt_resultCode qt_facts qt_symbols qt_sourceWalk qt_resultWalk qt_machine qt_sourceCode_op qt_sourceCode_d qt_sourceCode_a qt_sourceCode_b qt_sourceCode_need t_sealed t_foundAlike t_sourceCode_length t_sourceCode_leaders t_sourceCode_op t_sourceCode_d t_sourceCode_a t_sourceCode_b) (ww_BlockCode_add cI cJ cZ qt qt_sourceCode qt_resultCode qt_facts qt_symbols qt_sourceWalk qt_resultWalk qt_machine qt_sourceCode_op qt_sourceCode_d qt_sourceCode_a qt_sourceCode_b qt_sourceCode_need t_sealed t_foundAlike o_t_sourceCode_length t_sourceCode_leaders o_t_sourceCode_op o_t_sourceCode_d o_t_sourceCode_a o_t_sourceCode_b) o_r := by
  intro sz
  refine Met.ofW (cc := b_BlockCode_add) (maxL := 6) (ret := (some .int)) (by decide) rfl ?_
  intro p e s m args below meth c s₁ B hml hv
  obtain ⟨rfl, hsz, hP, hK, hD0⟩ := hv
  have hts := atoms_spec (ws := Cond.code y_BlockCode_add b_BlockCode_add 6 (some .int) :: tbg) B.pre
  have S : CallFix p m c b_BlockCode_add 6 s ([.ref qt, .int p1, .int p2, .int p3, .int p4] : List Value).toArray tbg R_BlockCode := ⟨B.exec, B.bytes, hml, findClass_of_methodNamed B.named, fun w hw => hts w (List.mem_cons_of_mem _ hw)⟩
  subst hsz
  have hD := hD0.self (sz := s.heap.size)
  have hl := lv_entry ([.ref qt, .int p1, .int p2, .int p3, .int p4] : List Value) (n := 6) (Nat.le_of_ble_eq_true rfl)
  rw [lg_entry_eq]
  generalize (lg_sl ([.ref qt, .int p1, .int p2, .int p3, .int p4] : List Value) ++ List.replicate (6 - (lg_sl ([.ref qt, .int p1, .int p2, .int p3, .int p4] : List Value)).length) Slot.unset).toArray = ls at hl ⊢
  have hl : lv_has ls 6 [(0, .ref qt), (1, .int p1), (2, .int p2), (3, .int p3), (4, .int p4)] := hl
  exact w_BlockCode_add S B.returns B.notSynchronized hK (fun q h => Or.inr h) qt qt_sourceCode qt_resultCode qt_facts qt_symbols qt_sourceWalk qt_resultWalk qt_machine qt_sourceCode_op qt_sourceCode_d qt_sourceCode_a qt_sourceCode_b qt_sourceCode_need p1 p2 p3 p4 t_sealed t_foundAlike t_sourceCode_leaders o_r o_t_sourceCode_op o_t_sourceCode_d o_t_sourceCode_a o_t_sourceCode_b o_t_sourceCode_length (fun t H locs ht hW hP hS => ⟨⟨_, (), rfl, rfl, sB_of ht hP⟩, hS.F ht⟩) t_sourceCode_op t_sourceCode_d t_sourceCode_a t_sourceCode_b t_sourceCode_length s.heap [] ls hl hP hD va_S.rf hm
set_option maxHeartbeats 4000000 in
set_option maxRecDepth 100000 in
theorem w_BlockCode_clear {p : Program} {l : Launch} {e : Env} {s : State} {m : MethodId} {args : Array Value} {below : List Frame} {meth : Method} {c : Code} {D : va_G} {cI cJ cZ : ClassId} {A : Nat → Prop} {Qc : Array Value → State → Outcome → State → Prop} (S : CallFix p m c b_BlockCode_clear 1 s args tbg R_BlockCode) (hr : meth.sig.returnType = none) (hlk : meth.locks = false) (hK : kx D cI cJ cZ s) (hA : ∀ q, s.heap.size ≤ q → A q) (qt : Nat) (qt_sourceCode : Nat) (qt_resultCode : Nat) (qt_facts : Nat) (qt_symbols : Nat) (qt_sourceWalk : Nat) (qt_resultWalk : Nat) (qt_machine : Nat) (qt_sourceCode_op : Nat) (qt_sourceCode_d : Nat) (qt_sourceCode_a : Nat) (qt_sourceCode_b : Nat) (qt_sourceCode_need : Nat) (qt_resultCode_op : Nat) (qt_resultCode_d : Nat) (qt_resultCode_a : Nat) (qt_resultCode_b : Nat) (qt_resultCode_need : Nat) (t_sourceCode_leaders : Int32) (t_resultCode_leaders : Int32) (o_t_sourceCode_length : Int32) (o_t_resultCode_length : Int32) (o_t_sealed : Int32) (o_t_foundAlike : Int32) (hQ : ∀ (t : State) (H : Heap) (locs : List Loc), t.heap = H → s.WarmedH t.vm → va_P D classes (ww_BlockCode_clear cI cJ cZ qt qt_sourceCode qt_resultCode qt_facts qt_symbols qt_sourceWalk qt_resultWalk qt_machine qt_sourceCode_op qt_sourceCode_d qt_sourceCode_a qt_sourceCode_b qt_sourceCode_need qt_resultCode_op qt_resultCode_d qt_resultCode_a qt_resultCode_b qt_resultCode_need o_t_sealed o_t_foundAlike o_t_sourceCode_length t_sourceCode_leaders o_t_resultCode_length t_resultCode_leaders) H → va_S A s.heap H locs → Qc args s (.returned none) t) (t_sourceCode_length : Int32) (t_resultCode_length : Int32) (t_sealed : Int32) (t_foundAlike : Int32) (H : Heap) (locs : List Loc) (ls : Array Slot) (hl : lv_has ls 1 [(0, .ref qt)]) (hP : va_P D classes (ww_BlockCode_clear cI cJ cZ qt qt_sourceCode qt_resultCode qt_facts qt_symbols qt_sourceWalk qt_resultWalk qt_machine qt_sourceCode_op qt_sourceCode_d qt_sourceCode_a qt_sourceCode_b qt_sourceCode_need qt_resultCode_op qt_resultCode_d qt_resultCode_a qt_resultCode_b qt_resultCode_need t_sealed t_foundAlike t_sourceCode_length t_sourceCode_leaders t_resultCode_length t_resultCode_leaders) H) (hD : va_D A (ww_BlockCode_clear cI cJ cZ qt qt_sourceCode qt_resultCode qt_facts qt_symbols qt_sourceWalk qt_resultWalk qt_machine qt_sourceCode_op qt_sourceCode_d qt_sourceCode_a qt_sourceCode_b qt_sourceCode_need qt_resultCode_op qt_resultCode_d qt_resultCode_a qt_resultCode_b qt_resultCode_need t_sealed t_foundAlike t_sourceCode_length t_sourceCode_leaders t_resultCode_length t_resultCode_leaders)) (hS : va_S A s.heap H locs) (hm : f_BlockCode_clear t_sourceCode_length t_resultCode_length t_sealed t_foundAlike = some (o_t_sourceCode_length, o_t_resultCode_length, o_t_sealed, o_t_foundAlike)) : W p l e rm_BlockCode_clear s m args below meth c H locs 0 0 (MQ below Qc args s 0 0 A) (F0 m 0 ls []) := by
  obtain ⟨hx, hb, hml, hown, hts⟩ := id S
  unfold f_BlockCode_clear at hm
  refine lv_aload_n hx hb d_BlockCode_clear_0 rfl (lv_at hl 0 rfl) ?_
  refine va_get (D := D) (ci := 5) (v := .ref qt_sourceCode) (C := R_BlockCode) (T := T_BlockCode) (N := 9) hx hb hts in_BlockCode hown hK.1 hP 0 rfl rfl 0 (by decide) (hts _ a_159) (fun _ h9 => h9) rfl d_BlockCode_clear_1 ?_
  refine lv_iconst (v := (0 : Int32)) hx hb d_BlockCode_clear_4 (by decide) ?_
  refine va_put (D := D) (ci := 0) (v := .int (0 : Int32)) (ty := .int) (C := R_Code) (T := T_Code) (N := 7) hx hb hts in_Code ty_Code tyok_Code nm_Code hown hK.1 hP hD hS 1 rfl rfl 5 (by decide) (hts _ a_49) (fun _ h9 => h9) rfl (by decide +kernel) rfl rfl (Nat.le_of_ble_eq_true rfl) d_BlockCode_clear_5 (fun H locs hP hD hS => ?_)
  have hP : va_P D classes (ww_BlockCode_clear cI cJ cZ qt qt_sourceCode qt_resultCode qt_facts qt_symbols qt_sourceWalk qt_resultWalk qt_machine qt_sourceCode_op qt_sourceCode_d qt_sourceCode_a qt_sourceCode_b qt_sourceCode_need qt_resultCode_op qt_resultCode_d qt_resultCode_a qt_resultCode_b qt_resultCode_need t_sealed t_foundAlike (0 : Int32) t_sourceCode_leaders t_resultCode_length t_resultCode_leaders) H := hP
  have hD : va_D A (ww_BlockCode_clear cI cJ cZ qt qt_sourceCode qt_resultCode qt_facts qt_symbols qt_sourceWalk qt_resultWalk qt_machine qt_sourceCode_op qt_sourceCode_d qt_sourceCode_a qt_sourceCode_b qt_sourceCode_need qt_resultCode_op qt_resultCode_d qt_resultCode_a qt_resultCode_b qt_resultCode_need t_sealed t_foundAlike (0 : Int32) t_sourceCode_leaders t_resultCode_length t_resultCode_leaders) := hD
  refine lv_aload_n hx hb d_BlockCode_clear_8 rfl (lv_at hl 0 rfl) ?_
  refine va_get (D := D) (ci := 5) (v := .ref qt_resultCode) (C := R_BlockCode) (T := T_BlockCode) (N := 9) hx hb hts in_BlockCode hown hK.1 hP 0 rfl rfl 1 (by decide) (hts _ a_160) (fun _ h9 => h9) rfl d_BlockCode_clear_9 ?_
  refine lv_iconst (v := (0 : Int32)) hx hb d_BlockCode_clear_12 (by decide) ?_
  refine va_put (D := D) (ci := 0) (v := .int (0 : Int32)) (ty := .int) (C := R_Code) (T := T_Code) (N := 7) hx hb hts in_Code ty_Code tyok_Code nm_Code hown hK.1 hP hD hS 2 rfl rfl 5 (by decide) (hts _ a_49) (fun _ h9 => h9) rfl (by decide +kernel) rfl rfl (Nat.le_of_ble_eq_true rfl) d_BlockCode_clear_13 (fun H locs hP hD hS => ?_)
  have hP : va_P D classes (ww_BlockCode_clear cI cJ cZ qt qt_sourceCode qt_resultCode qt_facts qt_symbols qt_sourceWalk qt_resultWalk qt_machine qt_sourceCode_op qt_sourceCode_d qt_sourceCode_a qt_sourceCode_b qt_sourceCode_need qt_resultCode_op qt_resultCode_d qt_resultCode_a qt_resultCode_b qt_resultCode_need t_sealed t_foundAlike (0 : Int32) t_sourceCode_leaders (0 : Int32) t_resultCode_leaders) H := hP
  have hD : va_D A (ww_BlockCode_clear cI cJ cZ qt qt_sourceCode qt_resultCode qt_facts qt_symbols qt_sourceWalk qt_resultWalk qt_machine qt_sourceCode_op qt_sourceCode_d qt_sourceCode_a qt_sourceCode_b qt_sourceCode_need qt_resultCode_op qt_resultCode_d qt_resultCode_a qt_resultCode_b qt_resultCode_need t_sealed t_foundAlike (0 : Int32) t_sourceCode_leaders (0 : Int32) t_resultCode_leaders) := hD
  refine lv_aload_n hx hb d_BlockCode_clear_16 rfl (lv_at hl 0 rfl) ?_
  refine lv_iconst (v := (0 : Int32)) hx hb d_BlockCode_clear_17 (by decide) ?_
  refine va_put (D := D) (ci := 5) (v := .int (0 : Int32)) (ty := .boolean) (C := R_BlockCode) (T := T_BlockCode) (N := 9) hx hb hts in_BlockCode ty_BlockCode tyok_BlockCode nm_BlockCode hown hK.1 hP hD hS 0 rfl rfl 7 (by decide) (hts _ a_166) (fun _ h9 => h9) rfl (by decide +kernel) rfl rfl (Nat.le_of_ble_eq_true rfl) d_BlockCode_clear_18 (fun H locs hP hD hS => ?_)
  have hP : va_P D classes (ww_BlockCode_clear cI cJ cZ qt qt_sourceCode qt_resultCode qt_facts qt_symbols qt_sourceWalk qt_resultWalk qt_machine qt_sourceCode_op qt_sourceCode_d qt_sourceCode_a qt_sourceCode_b qt_sourceCode_need qt_resultCode_op qt_resultCode_d qt_resultCode_a qt_resultCode_b qt_resultCode_need (0 : Int32) t_foundAlike (0 : Int32) t_sourceCode_leaders (0 : Int32) t_resultCode_leaders) H := hP
  have hD : va_D A (ww_BlockCode_clear cI cJ cZ qt qt_sourceCode qt_resultCode qt_facts qt_symbols qt_sourceWalk qt_resultWalk qt_machine qt_sourceCode_op qt_sourceCode_d qt_sourceCode_a qt_sourceCode_b qt_sourceCode_need qt_resultCode_op qt_resultCode_d qt_resultCode_a qt_resultCode_b qt_resultCode_need (0 : Int32) t_foundAlike (0 : Int32) t_sourceCode_leaders (0 : Int32) t_resultCode_leaders) := hD
  refine lv_aload_n hx hb d_BlockCode_clear_21 rfl (lv_at hl 0 rfl) ?_
  refine lv_iconst (v := (0 : Int32)) hx hb d_BlockCode_clear_22 (by decide) ?_
  refine va_put (D := D) (ci := 5) (v := .int (0 : Int32)) (ty := .boolean) (C := R_BlockCode) (T := T_BlockCode) (N := 9) hx hb hts in_BlockCode ty_BlockCode tyok_BlockCode nm_BlockCode hown hK.1 hP hD hS 0 rfl rfl 8 (by decide) (hts _ a_167) (fun _ h9 => h9) rfl (by decide +kernel) rfl rfl (Nat.le_of_ble_eq_true rfl) d_BlockCode_clear_23 (fun H locs hP hD hS => ?_)
  have hP : va_P D classes (ww_BlockCode_clear cI cJ cZ qt qt_sourceCode qt_resultCode qt_facts qt_symbols qt_sourceWalk qt_resultWalk qt_machine qt_sourceCode_op qt_sourceCode_d qt_sourceCode_a qt_sourceCode_b qt_sourceCode_need qt_resultCode_op qt_resultCode_d qt_resultCode_a qt_resultCode_b qt_resultCode_need (0 : Int32) (0 : Int32) (0 : Int32) t_sourceCode_leaders (0 : Int32) t_resultCode_leaders) H := hP
  have hD : va_D A (ww_BlockCode_clear cI cJ cZ qt qt_sourceCode qt_resultCode qt_facts qt_symbols qt_sourceWalk qt_resultWalk qt_machine qt_sourceCode_op qt_sourceCode_d qt_sourceCode_a qt_sourceCode_b qt_sourceCode_need qt_resultCode_op qt_resultCode_d qt_resultCode_a qt_resultCode_b qt_resultCode_need (0 : Int32) (0 : Int32) (0 : Int32) t_sourceCode_leaders (0 : Int32) t_resultCode_leaders) := hD
  cases hm
  exact W.vret hx hb hr (fun t ht hW => hQ t _ _ ht hW hP hS) hS.2.2 d_BlockCode_clear_26 hlk
set_option maxHeartbeats 4000000 in
set_option maxRecDepth 100000 in
theorem c_BlockCode_clear (l : Launch) (D : va_G) (cI cJ cZ : ClassId) (qt : Nat) (qt_sourceCode : Nat) (qt_resultCode : Nat) (qt_facts : Nat) (qt_symbols : Nat) (qt_sourceWalk : Nat) (qt_resultWalk : Nat) (qt_machine : Nat) (qt_sourceCode_op : Nat) (qt_sourceCode_d : Nat) (qt_sourceCode_a : Nat) (qt_sourceCode_b : Nat) (qt_sourceCode_need : Nat) (qt_resultCode_op : Nat) (qt_resultCode_d : Nat) (qt_resultCode_a : Nat) (qt_resultCode_b : Nat) (qt_resultCode_need : Nat) (t_sealed : Int32) (t_foundAlike : Int32) (t_sourceCode_length : Int32) (t_sourceCode_leaders : Int32) (t_resultCode_length : Int32) (t_resultCode_leaders : Int32) (o_t_sourceCode_length : Int32) (o_t_resultCode_length : Int32) (o_t_sealed : Int32) (o_t_foundAlike : Int32) (hm : f_BlockCode_clear t_sourceCode_length t_resultCode_length t_sealed t_foundAlike = some (o_t_sourceCode_length, o_t_resultCode_length, o_t_sealed, o_t_foundAlike)) : MV l y_BlockCode_clear b_BlockCode_clear 1 rm_BlockCode_clear D cI cJ cZ [.ref qt] (ww_BlockCode_clear cI cJ cZ qt qt_sourceCode qt_resultCode qt_facts qt_symbols qt_sourceWalk qt_resultWalk qt_machine qt_sourceCode_op qt_sourceCode_d qt_sourceCode_a qt_sourceCode_b qt_sourceCode_need qt_resultCode_op qt_resultCode_d qt_resultCode_a qt_resultCode_b qt_resultCode_need t_sealed t_foundAlike t_sourceCode_length t_sourceCode_leaders t_resultCode_length t_resultCode_leaders) (ww_BlockCode_clear cI cJ cZ qt qt_sourceCode qt_resultCode qt_facts qt_symbols qt_sourceWalk qt_resultWalk qt_machine qt_sourceCode_op qt_sourceCode_d qt_sourceCode_a qt_sourceCode_b qt_sourceCode_need qt_resultCode_op qt_resultCode_d qt_resultCode_a qt_resultCode_b qt_resultCode_need o_t_sealed o_t_foundAlike o_t_sourceCode_length t_sourceCode_leaders o_t_resultCode_length t_resultCode_leaders) := by
  intro sz
  refine Met.ofW (cc := b_BlockCode_clear) (maxL := 1) (ret := none) (by decide) rfl ?_
  intro p e s m args below meth c s₁ B hml hv
  obtain ⟨rfl, hsz, hP, hK, hD0⟩ := hv
  have hts := atoms_spec (ws := Cond.code y_BlockCode_clear b_BlockCode_clear 1 none :: tbg) B.pre
  have S : CallFix p m c b_BlockCode_clear 1 s ([.ref qt] : List Value).toArray tbg R_BlockCode := ⟨B.exec, B.bytes, hml, findClass_of_methodNamed B.named, fun w hw => hts w (List.mem_cons_of_mem _ hw)⟩
  subst hsz
  have hD := hD0.self (sz := s.heap.size)
  have hl := lv_entry ([.ref qt] : List Value) (n := 1) (Nat.le_of_ble_eq_true rfl)
  rw [lg_entry_eq]
  generalize (lg_sl ([.ref qt] : List Value) ++ List.replicate (1 - (lg_sl ([.ref qt] : List Value)).length) Slot.unset).toArray = ls at hl ⊢
  have hl : lv_has ls 1 [(0, .ref qt)] := hl
  exact w_BlockCode_clear S B.returns B.notSynchronized hK (fun q h => Or.inr h) qt qt_sourceCode qt_resultCode qt_facts qt_symbols qt_sourceWalk qt_resultWalk qt_machine qt_sourceCode_op qt_sourceCode_d qt_sourceCode_a qt_sourceCode_b qt_sourceCode_need qt_resultCode_op qt_resultCode_d qt_resultCode_a qt_resultCode_b qt_resultCode_need t_sourceCode_leaders t_resultCode_leaders o_t_sourceCode_length o_t_resultCode_length o_t_sealed o_t_foundAlike (fun t H locs ht hW hP hS => ⟨⟨(), rfl, trivial, sB_of ht hP⟩, hS.F ht⟩) t_sourceCode_length t_resultCode_length t_sealed t_foundAlike s.heap [] ls hl hP hD va_S.rf hm
set_option maxHeartbeats 4000000 in
set_option maxRecDepth 100000 in
theorem w_Code_endsWell_39 {p : Program} {l : Launch} {e : Env} {s : State} {m : MethodId} {args : Array Value} {below : List Frame} {meth : Method} {c : Code} {D : va_G} {cI cJ cZ : ClassId} {A : Nat → Prop} {Qc : Array Value → State → Outcome → State → Prop} (S : CallFix p m c b_Code_endsWell 1 s args tbg R_Code) (hr : meth.sig.returnType = (some .boolean)) (hlk : meth.locks = false) (hK : kx D cI cJ cZ s) (hA : ∀ q, s.heap.size ≤ q → A q) (qt : Nat) (qt_op : Nat) (qt_d : Nat) (qt_a : Nat) (qt_b : Nat) (qt_need : Nat) (t_op : Nat → Int32) (t_length : Int32) (t_leaders : Int32) (o_r : Int32) (hQ : ∀ (t : State) (H : Heap) (locs : List Loc), t.heap = H → s.WarmedH t.vm → va_P D classes (ww_Code_endsWell cI cJ cZ qt qt_op qt_d qt_a qt_b qt_need t_length t_leaders t_op) H → va_S A s.heap H locs → Qc args s (.returned (some (.int o_r))) t) : ∀ (H : Heap) (locs : List Loc) (ls : Array Slot), lv_has ls 1 [] → va_P D classes (ww_Code_endsWell cI cJ cZ qt qt_op qt_d qt_a qt_b qt_need t_length t_leaders t_op) H → va_D A (ww_Code_endsWell cI cJ cZ qt qt_op qt_d qt_a qt_b qt_need t_length t_leaders t_op) → va_S A s.heap H locs → f_Code_endsWell_39 t_op t_length = some o_r → W p l e rm_Code_endsWell s m args below meth c H locs 0 0 (MQ below Qc args s 0 0 A) (F0 m 39 ls []) := by
  obtain ⟨hx, hb, hml, hown, hts⟩ := id S
  intro H locs ls hl hP hD hS hm
  unfold f_Code_endsWell_39 at hm
  refine lv_iconst (v := (1 : Int32)) hx hb d_Code_endsWell_39 (by decide) ?_
  refine lv_goto (tgt := 44) hx hb d_Code_endsWell_40 (by decide) ?_
  cases hm
  exact W.zret hx hb hr rfl (fun t ht hW => hQ t _ _ ht hW hP hS) hS.2.2 d_Code_endsWell_44 hlk
set_option maxHeartbeats 4000000 in
set_option maxRecDepth 100000 in
theorem w_Code_endsWell {p : Program} {l : Launch} {e : Env} {s : State} {m : MethodId} {args : Array Value} {below : List Frame} {meth : Method} {c : Code} {D : va_G} {cI cJ cZ : ClassId} {A : Nat → Prop} {Qc : Array Value → State → Outcome → State → Prop} (S : CallFix p m c b_Code_endsWell 1 s args tbg R_Code) (hr : meth.sig.returnType = (some .boolean)) (hlk : meth.locks = false) (hK : kx D cI cJ cZ s) (hA : ∀ q, s.heap.size ≤ q → A q) (qt : Nat) (qt_op : Nat) (qt_d : Nat) (qt_a : Nat) (qt_b : Nat) (qt_need : Nat) (t_op : Nat → Int32) (t_length : Int32) (t_leaders : Int32) (o_r : Int32) (hQ : ∀ (t : State) (H : Heap) (locs : List Loc), t.heap = H → s.WarmedH t.vm → va_P D classes (ww_Code_endsWell cI cJ cZ qt qt_op qt_d qt_a qt_b qt_need t_length t_leaders t_op) H → va_S A s.heap H locs → Qc args s (.returned (some (.int o_r))) t) (H : Heap) (locs : List Loc) (ls : Array Slot) (hl : lv_has ls 1 [(0, .ref qt)]) (hP : va_P D classes (ww_Code_endsWell cI cJ cZ qt qt_op qt_d qt_a qt_b qt_need t_length t_leaders t_op) H) (hD : va_D A (ww_Code_endsWell cI cJ cZ qt qt_op qt_d qt_a qt_b qt_need t_length t_leaders t_op)) (hS : va_S A s.heap H locs) (hm : f_Code_endsWell t_op t_length = some o_r) : W p l e rm_Code_endsWell s m args below meth c H locs 0 0 (MQ below Qc args s 0 0 A) (F0 m 0 ls []) := by
  obtain ⟨hx, hb, hml, hown, hts⟩ := id S
  unfold f_Code_endsWell at hm
  refine lv_aload_n hx hb d_Code_endsWell_0 rfl (lv_at hl 0 rfl) ?_
  refine va_get (D := D) (ci := 0) (v := .int t_length) (C := R_Code) (T := T_Code) (N := 7) hx hb hts in_Code hown hK.1 hP 0 rfl rfl 5 (by decide) (hts _ a_48) (fun _ h9 => h9) rfl d_Code_endsWell_1 ?_
  refine lv_if_le (tgt := 43) hx hb d_Code_endsWell_4 (by decide) (fun hc => ?_) (fun hc => ?_)
  · have hm := ift hc hm
    refine lv_iconst (v := (0 : Int32)) hx hb d_Code_endsWell_43 (by decide) ?_
    cases hm
    exact W.zret hx hb hr rfl (fun t ht hW => hQ t _ _ ht hW hP hS) hS.2.2 d_Code_endsWell_44 hlk
  · have hm := iff_ hc hm
    refine lv_aload_n hx hb d_Code_endsWell_7 rfl (lv_at hl 0 rfl) ?_
    refine va_get (D := D) (ci := 0) (v := .ref qt_op) (C := R_Code) (T := T_Code) (N := 7) hx hb hts in_Code hown hK.1 hP 0 rfl rfl 0 (by decide) (hts _ a_27) (fun _ h9 => h9) rfl d_Code_endsWell_8 ?_
    refine lv_aload_n hx hb d_Code_endsWell_11 rfl (lv_at hl 0 rfl) ?_
    refine va_get (D := D) (ci := 0) (v := .int t_length) (C := R_Code) (T := T_Code) (N := 7) hx hb hts in_Code hown hK.1 hP 0 rfl rfl 5 (by decide) (hts _ a_48) (fun _ h9 => h9) rfl d_Code_endsWell_12 ?_
    refine lv_iconst (v := (1 : Int32)) hx hb d_Code_endsWell_15 (by decide) ?_
    refine lv_isub hx hb d_Code_endsWell_16 ?_
    obtain ⟨v1, e_v1, hm⟩ := ob hm
    refine vx_iald hx hb hK hP 1 rfl e_v1 d_Code_endsWell_17 ?_
    refine lv_bipush (v := (8 : Int32)) hx hb d_Code_endsWell_18 (by decide) ?_
    refine lv_icmp_eq (tgt := 39) hx hb d_Code_endsWell_20 (by decide) (fun hc => ?_) (fun hc => ?_)
    · have hm := ift hc hm
      exact w_Code_endsWell_39 S hr hlk hK hA qt qt_op qt_d qt_a qt_b qt_need t_op t_length t_leaders o_r hQ H locs ls (lv_sub hl [] rfl) hP hD hS hm
    · have hm := iff_ hc hm
      refine lv_aload_n hx hb d_Code_endsWell_23 rfl (lv_at hl 0 rfl) ?_
      refine va_get (D := D) (ci := 0) (v := .ref qt_op) (C := R_Code) (T := T_Code) (N := 7) hx hb hts in_Code hown hK.1 hP 0 rfl rfl 0 (by decide) (hts _ a_27) (fun _ h9 => h9) rfl d_Code_endsWell_24 ?_
      refine lv_aload_n hx hb d_Code_endsWell_27 rfl (lv_at hl 0 rfl) ?_
      refine va_get (D := D) (ci := 0) (v := .int t_length) (C := R_Code) (T := T_Code) (N := 7) hx hb hts in_Code hown hK.1 hP 0 rfl rfl 5 (by decide) (hts _ a_48) (fun _ h9 => h9) rfl d_Code_endsWell_28 ?_
      refine lv_iconst (v := (1 : Int32)) hx hb d_Code_endsWell_31 (by decide) ?_
      refine lv_isub hx hb d_Code_endsWell_32 ?_
      obtain ⟨v2, e_v2, hm⟩ := ob hm
      refine vx_iald hx hb hK hP 1 rfl e_v2 d_Code_endsWell_33 ?_
      refine lv_bipush (v := (10 : Int32)) hx hb d_Code_endsWell_34 (by decide) ?_
      refine lv_icmp_ne (tgt := 43) hx hb d_Code_endsWell_36 (by decide) (fun hc => ?_) (fun hc => ?_)
      · have hm := iff_ hc hm
        refine lv_iconst (v := (0 : Int32)) hx hb d_Code_endsWell_43 (by decide) ?_
        cases hm
        exact W.zret hx hb hr rfl (fun t ht hW => hQ t _ _ ht hW hP hS) hS.2.2 d_Code_endsWell_44 hlk
      · have hm := ift hc hm
        exact w_Code_endsWell_39 S hr hlk hK hA qt qt_op qt_d qt_a qt_b qt_need t_op t_length t_leaders o_r hQ H locs ls (lv_sub hl [] rfl) hP hD hS hm
set_option maxHeartbeats 4000000 in
set_option maxRecDepth 100000 in
theorem c_Code_endsWell (l : Launch) (D : va_G) (cI cJ cZ : ClassId) (qt : Nat) (qt_op : Nat) (qt_d : Nat) (qt_a : Nat) (qt_b : Nat) (qt_need : Nat) (t_length : Int32) (t_leaders : Int32) (t_op : Nat → Int32) (o_r : Int32) (hm : f_Code_endsWell t_op t_length = some o_r) : MI l y_Code_endsWell b_Code_endsWell 1 .boolean rm_Code_endsWell D cI cJ cZ [.ref qt] (ww_Code_endsWell cI cJ cZ qt qt_op qt_d qt_a qt_b qt_need t_length t_leaders t_op) (ww_Code_endsWell cI cJ cZ qt qt_op qt_d qt_a qt_b qt_need t_length t_leaders t_op) o_r := by
  intro sz
  refine Met.ofW (cc := b_Code_endsWell) (maxL := 1) (ret := (some .boolean)) (by decide) rfl ?_
  intro p e s m args below meth c s₁ B hml hv
  obtain ⟨rfl, hsz, hP, hK, hD0⟩ := hv
  have hts := atoms_spec (ws := Cond.code y_Code_endsWell b_Code_endsWell 1 (some .boolean) :: tbg) B.pre
  have S : CallFix p m c b_Code_endsWell 1 s ([.ref qt] : List Value).toArray tbg R_Code := ⟨B.exec, B.bytes, hml, findClass_of_methodNamed B.named, fun w hw => hts w (List.mem_cons_of_mem _ hw)⟩
  subst hsz
  have hD := hD0.self (sz := s.heap.size)
  have hl := lv_entry ([.ref qt] : List Value) (n := 1) (Nat.le_of_ble_eq_true rfl)
  rw [lg_entry_eq]
  generalize (lg_sl ([.ref qt] : List Value) ++ List.replicate (1 - (lg_sl ([.ref qt] : List Value)).length) Slot.unset).toArray = ls at hl ⊢
  have hl : lv_has ls 1 [(0, .ref qt)] := hl
  exact w_Code_endsWell S B.returns B.notSynchronized hK (fun q h => Or.inr h) qt qt_op qt_d qt_a qt_b qt_need t_op t_length t_leaders o_r (fun t H locs ht hW hP hS => ⟨⟨_, (), rfl, rfl, sB_of ht hP⟩, hS.F ht⟩) s.heap [] ls hl hP hD va_S.rf hm
set_option maxHeartbeats 4000000 in
set_option maxRecDepth 100000 in
theorem w_Code_canBeSealed_2 {p : Program} {l : Launch} {e : Env} {s : State} {m : MethodId} {args : Array Value} {below : List Frame} {meth : Method} {c : Code} {D : va_G} {cI cJ cZ : ClassId} {A : Nat → Prop} {Qc : Array Value → State → Outcome → State → Prop} (S : CallFix p m c b_Code_canBeSealed 2 s args tbg R_Code) (hr : meth.sig.returnType = (some .boolean)) (hlk : meth.locks = false) (hK : kx D cI cJ cZ s) (hA : ∀ q, s.heap.size ≤ q → A q) (qt : Nat) (qt_op : Nat) (qt_d : Nat) (qt_a : Nat) (qt_b : Nat) (qt_need : Nat) (t_op : Nat → Int32) (t_a : Nat → Int32) (t_b : Nat → Int32) (t_length : Int32) (t_leaders : Int32) (o_r : Int32) (hQ : ∀ (t : State) (H : Heap) (locs : List Loc), t.heap = H → s.WarmedH t.vm → va_P D classes (ww_Code_canBeSealed cI cJ cZ qt qt_op qt_d qt_a qt_b qt_need t_length t_leaders t_op t_a t_b) H → va_S A s.heap H locs → Qc args s (.returned (some (.int o_r))) t) (n : Nat) : ∀ (H : Heap) (locs : List Loc) (ls : Array Slot) (x1 : Int32), lv_has ls 2 [(0, .ref qt), (1, .int x1)] → va_P D classes (ww_Code_canBeSealed cI cJ cZ qt qt_op qt_d qt_a qt_b qt_need t_length t_leaders t_op t_a t_b) H → va_D A (ww_Code_canBeSealed cI cJ cZ qt qt_op qt_d qt_a qt_b qt_need t_length t_leaders t_op t_a t_b) → va_S A s.heap H locs → f_Code_canBeSealed_2 t_op t_a t_b t_length n x1 = some o_r → W p l e rm_Code_canBeSealed s m args below meth c H locs 0 0 (MQ below Qc args s 0 0 A) (F0 m 2 ls []) := by
  obtain ⟨hx, hb, hml, hown, hts⟩ := id S
  induction n with
  | zero =>
    intro H locs ls x1 hl hP hD hS hm
    rw [f_Code_canBeSealed_2] at hm
    cases hm
  | succ n ih =>
    intro H locs ls x1 hl hP hD hS hm
    rw [f_Code_canBeSealed_2] at hm
    refine lv_iload_n hx hb d_Code_canBeSealed_2 rfl (lv_at hl 1 rfl) ?_
    refine lv_aload_n hx hb d_Code_canBeSealed_3 rfl (lv_at hl 0 rfl) ?_
    refine va_get (D := D) (ci := 0) (v := .int t_length) (C := R_Code) (T := T_Code) (N := 7) hx hb hts in_Code hown hK.1 hP 0 rfl rfl 5 (by decide) (hts _ a_48) (fun _ h9 => h9) rfl d_Code_canBeSealed_4 ?_
    refine lv_icmp_ge (tgt := 46) hx hb d_Code_canBeSealed_7 (by decide) (fun hc => ?_) (fun hc => ?_)
    · have hm := ift hc hm
      refine lv_aload_n hx hb d_Code_canBeSealed_46 rfl (lv_at hl 0 rfl) ?_
      obtain ⟨rz1, e_rz1, hm⟩ := ob hm
      have hC : ([0, 1] : List Nat).map (fun i => (ww_Code_canBeSealed cI cJ cZ qt qt_op qt_d qt_a qt_b qt_need t_length t_leaders t_op t_a t_b)[i]?) = (ww_Code_endsWell cI cJ cZ qt qt_op qt_d qt_a qt_b qt_need t_length t_leaders t_op).map some := rfl
      refine vj_i (w1 := (ww_Code_endsWell cI cJ cZ qt qt_op qt_d qt_a qt_b qt_need t_length t_leaders t_op)) (wn := (ww_Code_canBeSealed cI cJ cZ qt qt_op qt_d qt_a qt_b qt_need t_length t_leaders t_op t_a t_b)) (isR := [2, 3]) (nw := 4) (vr_V (C := R_Code) (n := 0) (As := []) S ((c_Code_endsWell l D cI cJ cZ qt qt_op qt_d qt_a qt_b qt_need t_length t_leaders t_op rz1 e_rz1) H.size) a_475 a_265 a_266 a_2 a_267 (by decide +kernel) ⟨rfl, rfl⟩ ⟨Nat.le_of_ble_eq_true rfl, Nat.le_of_ble_eq_true rfl⟩ (ci := 0) (q0 := 0) rfl rfl hK hP hD (by decide) hC rfl hl.1 (Nat.le_of_ble_eq_true rfl) d_Code_canBeSealed_47 ⟨Nat.zero_le _, Nat.zero_le _⟩ rfl) hP hD hS hA hC rfl rfl (vx_c rfl rfl (vx_c rfl rfl vx_n)) rfl (by decide) (fun H locs hP hD hS => ?_)
      obtain ⟨z0, e0, hm⟩ := ob hm
      obtain ⟨⟨n1, n2⟩, rfl⟩ := gzI_of e0
      cases hm
      exact W.zret hx hb hr n1 (fun t ht hW => hQ t _ _ ht hW hP hS) hS.2.2 d_Code_canBeSealed_50 hlk
    · have hm := iff_ hc hm
      refine lv_aload_n hx hb d_Code_canBeSealed_10 rfl (lv_at hl 0 rfl) ?_
      refine va_get (D := D) (ci := 0) (v := .ref qt_op) (C := R_Code) (T := T_Code) (N := 7) hx hb hts in_Code hown hK.1 hP 0 rfl rfl 0 (by decide) (hts _ a_27) (fun _ h9 => h9) rfl d_Code_canBeSealed_11 ?_
      refine lv_iload_n hx hb d_Code_canBeSealed_14 rfl (lv_at hl 1 rfl) ?_
      obtain ⟨v2, e_v2, hm⟩ := ob hm
      refine vx_iald hx hb hK hP 1 rfl e_v2 d_Code_canBeSealed_15 ?_
      refine lv_aload_n hx hb d_Code_canBeSealed_16 rfl (lv_at hl 0 rfl) ?_
      refine va_get (D := D) (ci := 0) (v := .ref qt_a) (C := R_Code) (T := T_Code) (N := 7) hx hb hts in_Code hown hK.1 hP 0 rfl rfl 2 (by decide) (hts _ a_37) (fun _ h9 => h9) rfl d_Code_canBeSealed_17 ?_
      refine lv_iload_n hx hb d_Code_canBeSealed_20 rfl (lv_at hl 1 rfl) ?_
      obtain ⟨v3, e_v3, hm⟩ := ob hm
      refine vx_iald hx hb hK hP 2 rfl e_v3 d_Code_canBeSealed_21 ?_
      refine lv_aload_n hx hb d_Code_canBeSealed_22 rfl (lv_at hl 0 rfl) ?_
      refine va_get (D := D) (ci := 0) (v := .ref qt_b) (C := R_Code) (T := T_Code) (N := 7) hx hb hts in_Code hown hK.1 hP 0 rfl rfl 3 (by decide) (hts _ a_42) (fun _ h9 => h9) rfl d_Code_canBeSealed_23 ?_
      refine lv_iload_n hx hb d_Code_canBeSealed_26 rfl (lv_at hl 1 rfl) ?_
      obtain ⟨v4, e_v4, hm⟩ := ob hm
      refine vx_iald hx hb hK hP 3 rfl e_v4 d_Code_canBeSealed_27 ?_
      obtain ⟨rz5, e_rz5, hm⟩ := ob hm
      have hC : ([] : List Nat).map (fun i => (ww_Code_canBeSealed cI cJ cZ qt qt_op qt_d qt_a qt_b qt_need t_length t_leaders t_op t_a t_b)[i]?) = (ww_BlockCode_namedBy cI cJ cZ).map some := rfl
      refine vj_i (w1 := (ww_BlockCode_namedBy cI cJ cZ)) (wn := (ww_Code_canBeSealed cI cJ cZ qt qt_op qt_d qt_a qt_b qt_need t_length t_leaders t_op t_a t_b)) (isR := [0, 1, 2, 3]) (nw := 4) (vr_SN (host := "BlockCode") (n := 3) (As := [.int v2, .int v3, .int v4]) S ((c_BlockCode_namedBy l D cI cJ cZ v2 v3 v4 rz5 e_rz5) H.size) an_281 a_249 a_1 a_250 (by decide +kernel) ⟨rfl, rfl⟩ ⟨Nat.le_of_ble_eq_true rfl, Nat.le_of_ble_eq_true rfl⟩ hK hP hD (by decide) hC rfl hl.1 (Nat.le_of_ble_eq_true rfl) d_Code_canBeSealed_28 ⟨Nat.zero_le _, Nat.zero_le _⟩ rfl) hP hD hS hA hC rfl rfl (vx_c rfl rfl (vx_c rfl rfl (vx_c rfl rfl (vx_c rfl rfl vx_n)))) rfl (by decide) (fun H locs hP hD hS => ?_)
      refine lv_aload_n hx hb d_Code_canBeSealed_31 rfl (lv_at hl 0 rfl) ?_
      refine va_get (D := D) (ci := 0) (v := .int t_length) (C := R_Code) (T := T_Code) (N := 7) hx hb hts in_Code hown hK.1 hP 0 rfl rfl 5 (by decide) (hts _ a_48) (fun _ h9 => h9) rfl d_Code_canBeSealed_32 ?_
      refine lv_icmp_lt (tgt := 40) hx hb d_Code_canBeSealed_35 (by decide) (fun hc => ?_) (fun hc => ?_)
      · have hm := ift hc hm
        refine lv_iinc (k := 1) (v := (x1 + (1 : Int32))) hx hb d_Code_canBeSealed_40 hl rfl (iinc_v (by decide)) (by decide) rfl (fun ls hl => ?_)
        have hl : lv_has ls 2 [(1, .int (x1 + (1 : Int32))), (0, .ref qt)] := hl
        refine lv_goto (tgt := 2) hx hb d_Code_canBeSealed_43 (by decide) ?_
        exact ih H locs ls (x1 + (1 : Int32)) (lv_sub hl [1, 0] rfl) hP hD hS hm
      · have hm := iff_ hc hm
        refine lv_iconst (v := (0 : Int32)) hx hb d_Code_canBeSealed_38 (by decide) ?_
        cases hm
        exact W.zret hx hb hr rfl (fun t ht hW => hQ t _ _ ht hW hP hS) hS.2.2 d_Code_canBeSealed_39 hlk
set_option maxHeartbeats 4000000 in
set_option maxRecDepth 100000 in
theorem w_Code_canBeSealed {p : Program} {l : Launch} {e : Env} {s : State} {m : MethodId} {args : Array Value} {below : List Frame} {meth : Method} {c : Code} {D : va_G} {cI cJ cZ : ClassId} {A : Nat → Prop} {Qc : Array Value → State → Outcome → State → Prop} (S : CallFix p m c b_Code_canBeSealed 2 s args tbg R_Code) (hr : meth.sig.returnType = (some .boolean)) (hlk : meth.locks = false) (hK : kx D cI cJ cZ s) (hA : ∀ q, s.heap.size ≤ q → A q) (qt : Nat) (qt_op : Nat) (qt_d : Nat) (qt_a : Nat) (qt_b : Nat) (qt_need : Nat) (t_op : Nat → Int32) (t_a : Nat → Int32) (t_b : Nat → Int32) (t_length : Int32) (t_leaders : Int32) (o_r : Int32) (hQ : ∀ (t : State) (H : Heap) (locs : List Loc), t.heap = H → s.WarmedH t.vm → va_P D classes (ww_Code_canBeSealed cI cJ cZ qt qt_op qt_d qt_a qt_b qt_need t_length t_leaders t_op t_a t_b) H → va_S A s.heap H locs → Qc args s (.returned (some (.int o_r))) t) (H : Heap) (locs : List Loc) (ls : Array Slot) (hl : lv_has ls 2 [(0, .ref qt)]) (hP : va_P D classes (ww_Code_canBeSealed cI cJ cZ qt qt_op qt_d qt_a qt_b qt_need t_length t_leaders t_op t_a t_b) H) (hD : va_D A (ww_Code_canBeSealed cI cJ cZ qt qt_op qt_d qt_a qt_b qt_need t_length t_leaders t_op t_a t_b)) (hS : va_S A s.heap H locs) (hm : f_Code_canBeSealed t_op t_a t_b t_length = some o_r) : W p l e rm_Code_canBeSealed s m args below meth c H locs 0 0 (MQ below Qc args s 0 0 A) (F0 m 0 ls []) := by
  obtain ⟨hx, hb, hml, hown, hts⟩ := id S
  unfold f_Code_canBeSealed at hm
  refine lv_iconst (v := (0 : Int32)) hx hb d_Code_canBeSealed_0 (by decide) ?_
  refine lv_istore_n hx hb d_Code_canBeSealed_1 rfl hl (by decide) rfl (fun ls hl => ?_)
  have hl : lv_has ls 2 [(1, .int (0 : Int32)), (0, .ref qt)] := hl
  exact w_Code_canBeSealed_2 S hr hlk hK hA qt qt_op qt_d qt_a qt_b qt_need t_op t_a t_b t_length t_leaders o_r hQ fu H locs ls (0 : Int32) (lv_sub hl [1, 0] rfl) hP hD hS hm
set_option maxHeartbeats 4000000 in
set_option maxRecDepth 100000 in
theorem c_Code_canBeSealed (l : Launch) (D : va_G) (cI cJ cZ : ClassId) (qt : Nat) (qt_op : Nat) (qt_d : Nat) (qt_a : Nat) (qt_b : Nat) (qt_need : Nat) (t_length : Int32) (t_leaders : Int32) (t_op : Nat → Int32) (t_a : Nat → Int32) (t_b : Nat → Int32) (o_r : Int32) (hm : f_Code_canBeSealed t_op t_a t_b t_length = some o_r) : MI l y_Code_canBeSealed b_Code_canBeSealed 2 .boolean rm_Code_canBeSealed D cI cJ cZ [.ref qt] (ww_Code_canBeSealed cI cJ cZ qt qt_op qt_d qt_a qt_b qt_need t_length t_leaders t_op t_a t_b) (ww_Code_canBeSealed cI cJ cZ qt qt_op qt_d qt_a qt_b qt_need t_length t_leaders t_op t_a t_b) o_r := by
  intro sz
  refine Met.ofW (cc := b_Code_canBeSealed) (maxL := 2) (ret := (some .boolean)) (by decide) rfl ?_
  intro p e s m args below meth c s₁ B hml hv
  obtain ⟨rfl, hsz, hP, hK, hD0⟩ := hv
  have hts := atoms_spec (ws := Cond.code y_Code_canBeSealed b_Code_canBeSealed 2 (some .boolean) :: tbg) B.pre
  have S : CallFix p m c b_Code_canBeSealed 2 s ([.ref qt] : List Value).toArray tbg R_Code := ⟨B.exec, B.bytes, hml, findClass_of_methodNamed B.named, fun w hw => hts w (List.mem_cons_of_mem _ hw)⟩
  subst hsz
  have hD := hD0.self (sz := s.heap.size)
  have hl := lv_entry ([.ref qt] : List Value) (n := 2) (Nat.le_of_ble_eq_true rfl)
  rw [lg_entry_eq]
  generalize (lg_sl ([.ref qt] : List Value) ++ List.replicate (2 - (lg_sl ([.ref qt] : List Value)).length) Slot.unset).toArray = ls at hl ⊢
  have hl : lv_has ls 2 [(0, .ref qt)] := hl
  exact w_Code_canBeSealed S B.returns B.notSynchronized hK (fun q h => Or.inr h) qt qt_op qt_d qt_a qt_b qt_need t_op t_a t_b t_length t_leaders o_r (fun t H locs ht hW hP hS => ⟨⟨_, (), rfl, rfl, sB_of ht hP⟩, hS.F ht⟩) s.heap [] ls hl hP hD va_S.rf hm
set_option maxHeartbeats 4000000 in
set_option maxRecDepth 100000 in
theorem w_Code_findLeaders_88 {p : Program} {l : Launch} {e : Env} {s : State} {m : MethodId} {args : Array Value} {below : List Frame} {meth : Method} {c : Code} {D : va_G} {cI cJ cZ : ClassId} {A : Nat → Prop} {Qc : Array Value → State → Outcome → State → Prop} (S : CallFix p m c b_Code_findLeaders 3 s args tbg R_Code) (hr : meth.sig.returnType = none) (hlk : meth.locks = false) (hK : kx D cI cJ cZ s) (hA : ∀ q, s.heap.size ≤ q → A q) (qt : Nat) (qt_op : Nat) (qt_d : Nat) (qt_a : Nat) (qt_b : Nat) (qt_need : Nat) (t_op : Nat → Int32) (t_a : Nat → Int32) (t_b : Nat → Int32) (t_length : Int32) (o_t_leaders : Int32) (hQ : ∀ (t : State) (H : Heap) (locs : List Loc), t.heap = H → s.WarmedH t.vm → va_P D classes (ww_Code_findLeaders cI cJ cZ qt qt_op qt_d qt_a qt_b qt_need t_length o_t_leaders t_op t_a t_b) H → va_S A s.heap H locs → Qc args s (.returned none) t) (k7 : Int32 → Int32 → Option (Int32)) (hk7 : ∀ (H : Heap) (locs : List Loc) (ls : Array Slot) (x1 : Int32) (t_leaders : Int32), lv_has ls 3 [(0, .ref qt), (1, .int x1)] → va_P D classes (ww_Code_findLeaders cI cJ cZ qt qt_op qt_d qt_a qt_b qt_need t_length t_leaders t_op t_a t_b) H → va_D A (ww_Code_findLeaders cI cJ cZ qt qt_op qt_d qt_a qt_b qt_need t_length t_leaders t_op t_a t_b) → va_S A s.heap H locs → k7 x1 t_leaders = some o_t_leaders → W p l e rm_Code_findLeaders s m args below meth c H locs 0 0 (MQ below Qc args s 0 0 A) (F0 m 7 ls [])) : ∀ (H : Heap) (locs : List Loc) (ls : Array Slot) (x1 : Int32) (t_leaders : Int32), lv_has ls 3 [(0, .ref qt), (1, .int x1)] → va_P D classes (ww_Code_findLeaders cI cJ cZ qt qt_op qt_d qt_a qt_b qt_need t_length t_leaders t_op t_a t_b) H → va_D A (ww_Code_findLeaders cI cJ cZ qt qt_op qt_d qt_a qt_b qt_need t_length t_leaders t_op t_a t_b) → va_S A s.heap H locs → f_Code_findLeaders_88 t_op t_a t_b t_length k7 x1 t_leaders = some o_t_leaders → W p l e rm_Code_findLeaders s m args below meth c H locs 0 0 (MQ below Qc args s 0 0 A) (F0 m 88 ls []) := by
  obtain ⟨hx, hb, hml, hown, hts⟩ := id S
  intro H locs ls x1 t_leaders hl hP hD hS hm
  unfold f_Code_findLeaders_88 at hm
  refine lv_iinc (k := 1) (v := (x1 + (1 : Int32))) hx hb d_Code_findLeaders_88 hl rfl (iinc_v (by decide)) (by decide) rfl (fun ls hl => ?_)
  have hl : lv_has ls 3 [(1, .int (x1 + (1 : Int32))), (0, .ref qt)] := hl
  refine lv_goto (tgt := 7) hx hb d_Code_findLeaders_91 (by decide) ?_
  exact hk7 H locs ls (x1 + (1 : Int32)) t_leaders (lv_sub hl [1, 0] rfl) hP hD hS hm
set_option maxHeartbeats 4000000 in
set_option maxRecDepth 100000 in
theorem w_Code_findLeaders_53 {p : Program} {l : Launch} {e : Env} {s : State} {m : MethodId} {args : Array Value} {below : List Frame} {meth : Method} {c : Code} {D : va_G} {cI cJ cZ : ClassId} {A : Nat → Prop} {Qc : Array Value → State → Outcome → State → Prop} (S : CallFix p m c b_Code_findLeaders 3 s args tbg R_Code) (hr : meth.sig.returnType = none) (hlk : meth.locks = false) (hK : kx D cI cJ cZ s) (hA : ∀ q, s.heap.size ≤ q → A q) (qt : Nat) (qt_op : Nat) (qt_d : Nat) (qt_a : Nat) (qt_b : Nat) (qt_need : Nat) (t_op : Nat → Int32) (t_a : Nat → Int32) (t_b : Nat → Int32) (t_length : Int32) (o_t_leaders : Int32) (hQ : ∀ (t : State) (H : Heap) (locs : List Loc), t.heap = H → s.WarmedH t.vm → va_P D classes (ww_Code_findLeaders cI cJ cZ qt qt_op qt_d qt_a qt_b qt_need t_length o_t_leaders t_op t_a t_b) H → va_S A s.heap H locs → Qc args s (.returned none) t) (k7 : Int32 → Int32 → Option (Int32)) (hk7 : ∀ (H : Heap) (locs : List Loc) (ls : Array Slot) (x1 : Int32) (t_leaders : Int32), lv_has ls 3 [(0, .ref qt), (1, .int x1)] → va_P D classes (ww_Code_findLeaders cI cJ cZ qt qt_op qt_d qt_a qt_b qt_need t_length t_leaders t_op t_a t_b) H → va_D A (ww_Code_findLeaders cI cJ cZ qt qt_op qt_d qt_a qt_b qt_need t_length t_leaders t_op t_a t_b) → va_S A s.heap H locs → k7 x1 t_leaders = some o_t_leaders → W p l e rm_Code_findLeaders s m args below meth c H locs 0 0 (MQ below Qc args s 0 0 A) (F0 m 7 ls [])) : ∀ (H : Heap) (locs : List Loc) (ls : Array Slot) (x1 : Int32) (t_leaders : Int32), lv_has ls 3 [(0, .ref qt), (1, .int x1)] → va_P D classes (ww_Code_findLeaders cI cJ cZ qt qt_op qt_d qt_a qt_b qt_need t_length t_leaders t_op t_a t_b) H → va_D A (ww_Code_findLeaders cI cJ cZ qt qt_op qt_d qt_a qt_b qt_need t_length t_leaders t_op t_a t_b) → va_S A s.heap H locs → f_Code_findLeaders_53 t_op t_a t_b t_length k7 x1 t_leaders = some o_t_leaders → W p l e rm_Code_findLeaders s m args below meth c H locs 0 0 (MQ below Qc args s 0 0 A) (F0 m 53 ls []) := by
  obtain ⟨hx, hb, hml, hown, hts⟩ := id S
  intro H locs ls x1 t_leaders hl hP hD hS hm
  unfold f_Code_findLeaders_53 at hm
  refine lv_aload_n hx hb d_Code_findLeaders_53 rfl (lv_at hl 0 rfl) ?_
  refine va_get (D := D) (ci := 0) (v := .ref qt_op) (C := R_Code) (T := T_Code) (N := 7) hx hb hts in_Code hown hK.1 hP 0 rfl rfl 0 (by decide) (hts _ a_27) (fun _ h9 => h9) rfl d_Code_findLeaders_54 ?_
  refine lv_iload_n hx hb d_Code_findLeaders_57 rfl (lv_at hl 1 rfl) ?_
  obtain ⟨v1, e_v1, hm⟩ := ob hm
  refine vx_iald hx hb hK hP 1 rfl e_v1 d_Code_findLeaders_58 ?_
  refine lv_bipush (v := (8 : Int32)) hx hb d_Code_findLeaders_59 (by decide) ?_
  refine lv_icmp_lt (tgt := 88) hx hb d_Code_findLeaders_61 (by decide) (fun hc => ?_) (fun hc => ?_)
  · have hm := ift hc hm
    exact w_Code_findLeaders_88 S hr hlk hK hA qt qt_op qt_d qt_a qt_b qt_need t_op t_a t_b t_length o_t_leaders hQ k7 hk7 H locs ls x1 t_leaders (lv_sub hl [0, 1] rfl) hP hD hS hm
  · have hm := iff_ hc hm
    refine lv_iload_n hx hb d_Code_findLeaders_64 rfl (lv_at hl 1 rfl) ?_
    refine lv_iconst (v := (1 : Int32)) hx hb d_Code_findLeaders_65 (by decide) ?_
    refine lv_iadd hx hb d_Code_findLeaders_66 ?_
    refine lv_aload_n hx hb d_Code_findLeaders_67 rfl (lv_at hl 0 rfl) ?_
    refine va_get (D := D) (ci := 0) (v := .int t_length) (C := R_Code) (T := T_Code) (N := 7) hx hb hts in_Code hown hK.1 hP 0 rfl rfl 5 (by decide) (hts _ a_48) (fun _ h9 => h9) rfl d_Code_findLeaders_68 ?_
    refine lv_icmp_ge (tgt := 88) hx hb d_Code_findLeaders_71 (by decide) (fun hc => ?_) (fun hc => ?_)
    · have hm := ift hc hm
      exact w_Code_findLeaders_88 S hr hlk hK hA qt qt_op qt_d qt_a qt_b qt_need t_op t_a t_b t_length o_t_leaders hQ k7 hk7 H locs ls x1 t_leaders (lv_sub hl [0, 1] rfl) hP hD hS hm
    · have hm := iff_ hc hm
      refine lv_aload_n hx hb d_Code_findLeaders_74 rfl (lv_at hl 0 rfl) ?_
      refine lv_dup hx hb d_Code_findLeaders_75 rfl ?_
      refine va_get (D := D) (ci := 0) (v := .int t_leaders) (C := R_Code) (T := T_Code) (N := 7) hx hb hts in_Code hown hK.1 hP 0 rfl rfl 6 (by decide) (hts _ a_52) (fun _ h9 => h9) rfl d_Code_findLeaders_76 ?_
      refine lv_iconst (v := (1 : Int32)) hx hb d_Code_findLeaders_79 (by decide) ?_
      refine lv_iload_n hx hb d_Code_findLeaders_80 rfl (lv_at hl 1 rfl) ?_
      refine lv_iconst (v := (1 : Int32)) hx hb d_Code_findLeaders_81 (by decide) ?_
      refine lv_iadd hx hb d_Code_findLeaders_82 ?_
      refine lv_ishl hx hb d_Code_findLeaders_83 ?_
      refine lv_ior hx hb d_Code_findLeaders_84 ?_
      refine va_put (D := D) (ci := 0) (v := .int (t_leaders ||| ((1 : Int32) <<< ((x1 + (1 : Int32)) &&& 31)))) (ty := .int) (C := R_Code) (T := T_Code) (N := 7) hx hb hts in_Code ty_Code tyok_Code nm_Code hown hK.1 hP hD hS 0 rfl rfl 6 (by decide) (hts _ a_52) (fun _ h9 => h9) rfl (by decide +kernel) rfl rfl (Nat.le_of_ble_eq_true rfl) d_Code_findLeaders_85 (fun H locs hP hD hS => ?_)
      have hP : va_P D classes (ww_Code_findLeaders cI cJ cZ qt qt_op qt_d qt_a qt_b qt_need t_length (t_leaders ||| ((1 : Int32) <<< ((x1 + (1 : Int32)) &&& 31))) t_op t_a t_b) H := hP
      have hD : va_D A (ww_Code_findLeaders cI cJ cZ qt qt_op qt_d qt_a qt_b qt_need t_length (t_leaders ||| ((1 : Int32) <<< ((x1 + (1 : Int32)) &&& 31))) t_op t_a t_b) := hD
      exact w_Code_findLeaders_88 S hr hlk hK hA qt qt_op qt_d qt_a qt_b qt_need t_op t_a t_b t_length o_t_leaders hQ k7 hk7 H locs ls x1 (t_leaders ||| ((1 : Int32) <<< ((x1 + (1 : Int32)) &&& 31))) (lv_sub hl [0, 1] rfl) hP hD hS hm
set_option maxHeartbeats 4000000 in
set_option maxRecDepth 100000 in
theorem w_Code_findLeaders_7 {p : Program} {l : Launch} {e : Env} {s : State} {m : MethodId} {args : Array Value} {below : List Frame} {meth : Method} {c : Code} {D : va_G} {cI cJ cZ : ClassId} {A : Nat → Prop} {Qc : Array Value → State → Outcome → State → Prop} (S : CallFix p m c b_Code_findLeaders 3 s args tbg R_Code) (hr : meth.sig.returnType = none) (hlk : meth.locks = false) (hK : kx D cI cJ cZ s) (hA : ∀ q, s.heap.size ≤ q → A q) (qt : Nat) (qt_op : Nat) (qt_d : Nat) (qt_a : Nat) (qt_b : Nat) (qt_need : Nat) (t_op : Nat → Int32) (t_a : Nat → Int32) (t_b : Nat → Int32) (t_length : Int32) (o_t_leaders : Int32) (hQ : ∀ (t : State) (H : Heap) (locs : List Loc), t.heap = H → s.WarmedH t.vm → va_P D classes (ww_Code_findLeaders cI cJ cZ qt qt_op qt_d qt_a qt_b qt_need t_length o_t_leaders t_op t_a t_b) H → va_S A s.heap H locs → Qc args s (.returned none) t) (n : Nat) : ∀ (H : Heap) (locs : List Loc) (ls : Array Slot) (x1 : Int32) (t_leaders : Int32), lv_has ls 3 [(0, .ref qt), (1, .int x1)] → va_P D classes (ww_Code_findLeaders cI cJ cZ qt qt_op qt_d qt_a qt_b qt_need t_length t_leaders t_op t_a t_b) H → va_D A (ww_Code_findLeaders cI cJ cZ qt qt_op qt_d qt_a qt_b qt_need t_length t_leaders t_op t_a t_b) → va_S A s.heap H locs → f_Code_findLeaders_7 t_op t_a t_b t_length n x1 t_leaders = some o_t_leaders → W p l e rm_Code_findLeaders s m args below meth c H locs 0 0 (MQ below Qc args s 0 0 A) (F0 m 7 ls []) := by
  obtain ⟨hx, hb, hml, hown, hts⟩ := id S
  induction n with
  | zero =>
    intro H locs ls x1 t_leaders hl hP hD hS hm
    rw [f_Code_findLeaders_7] at hm
    cases hm
  | succ n ih =>
    intro H locs ls x1 t_leaders hl hP hD hS hm
    rw [f_Code_findLeaders_7] at hm
    refine lv_iload_n hx hb d_Code_findLeaders_7 rfl (lv_at hl 1 rfl) ?_
    refine lv_aload_n hx hb d_Code_findLeaders_8 rfl (lv_at hl 0 rfl) ?_
    refine va_get (D := D) (ci := 0) (v := .int t_length) (C := R_Code) (T := T_Code) (N := 7) hx hb hts in_Code hown hK.1 hP 0 rfl rfl 5 (by decide) (hts _ a_48) (fun _ h9 => h9) rfl d_Code_findLeaders_9 ?_
    refine lv_icmp_ge (tgt := 94) hx hb d_Code_findLeaders_12 (by decide) (fun hc => ?_) (fun hc => ?_)
    · have hm := ift hc hm
      cases hm
      exact W.vret hx hb hr (fun t ht hW => hQ t _ _ ht hW hP hS) hS.2.2 d_Code_findLeaders_94 hlk
    · have hm := iff_ hc hm
      refine lv_aload_n hx hb d_Code_findLeaders_15 rfl (lv_at hl 0 rfl) ?_
      refine va_get (D := D) (ci := 0) (v := .ref qt_op) (C := R_Code) (T := T_Code) (N := 7) hx hb hts in_Code hown hK.1 hP 0 rfl rfl 0 (by decide) (hts _ a_27) (fun _ h9 => h9) rfl d_Code_findLeaders_16 ?_
      refine lv_iload_n hx hb d_Code_findLeaders_19 rfl (lv_at hl 1 rfl) ?_
      obtain ⟨v1, e_v1, hm⟩ := ob hm
      refine vx_iald hx hb hK hP 1 rfl e_v1 d_Code_findLeaders_20 ?_
      refine lv_aload_n hx hb d_Code_findLeaders_21 rfl (lv_at hl 0 rfl) ?_
      refine va_get (D := D) (ci := 0) (v := .ref qt_a) (C := R_Code) (T := T_Code) (N := 7) hx hb hts in_Code hown hK.1 hP 0 rfl rfl 2 (by decide) (hts _ a_37) (fun _ h9 => h9) rfl d_Code_findLeaders_22 ?_
      refine lv_iload_n hx hb d_Code_findLeaders_25 rfl (lv_at hl 1 rfl) ?_
      obtain ⟨v2, e_v2, hm⟩ := ob hm
      refine vx_iald hx hb hK hP 2 rfl e_v2 d_Code_findLeaders_26 ?_
      refine lv_aload_n hx hb d_Code_findLeaders_27 rfl (lv_at hl 0 rfl) ?_
      refine va_get (D := D) (ci := 0) (v := .ref qt_b) (C := R_Code) (T := T_Code) (N := 7) hx hb hts in_Code hown hK.1 hP 0 rfl rfl 3 (by decide) (hts _ a_42) (fun _ h9 => h9) rfl d_Code_findLeaders_28 ?_
      refine lv_iload_n hx hb d_Code_findLeaders_31 rfl (lv_at hl 1 rfl) ?_
      obtain ⟨v3, e_v3, hm⟩ := ob hm
      refine vx_iald hx hb hK hP 3 rfl e_v3 d_Code_findLeaders_32 ?_
      obtain ⟨rz4, e_rz4, hm⟩ := ob hm
      have hC : ([] : List Nat).map (fun i => (ww_Code_findLeaders cI cJ cZ qt qt_op qt_d qt_a qt_b qt_need t_length t_leaders t_op t_a t_b)[i]?) = (ww_BlockCode_namedBy cI cJ cZ).map some := rfl
      refine vj_i (w1 := (ww_BlockCode_namedBy cI cJ cZ)) (wn := (ww_Code_findLeaders cI cJ cZ qt qt_op qt_d qt_a qt_b qt_need t_length t_leaders t_op t_a t_b)) (isR := [0, 1, 2, 3]) (nw := 4) (vr_SN (host := "BlockCode") (n := 3) (As := [.int v1, .int v2, .int v3]) S ((c_BlockCode_namedBy l D cI cJ cZ v1 v2 v3 rz4 e_rz4) H.size) an_281 a_249 a_1 a_250 (by decide +kernel) ⟨rfl, rfl⟩ ⟨Nat.le_of_ble_eq_true rfl, Nat.le_of_ble_eq_true rfl⟩ hK hP hD (by decide) hC rfl hl.1 (Nat.le_of_ble_eq_true rfl) d_Code_findLeaders_33 ⟨Nat.zero_le _, Nat.zero_le _⟩ rfl) hP hD hS hA hC rfl rfl (vx_c rfl rfl (vx_c rfl rfl (vx_c rfl rfl (vx_c rfl rfl vx_n)))) rfl (by decide) (fun H locs hP hD hS => ?_)
      refine lv_istore_n hx hb d_Code_findLeaders_36 rfl hl (by decide) rfl (fun ls hl => ?_)
      have hl : lv_has ls 3 [(2, .int rz4), (0, .ref qt), (1, .int x1)] := hl
      refine lv_iload_n hx hb d_Code_findLeaders_37 rfl (lv_at hl 0 rfl) ?_
      refine lv_if_lt (tgt := 53) hx hb d_Code_findLeaders_38 (by decide) (fun hc => ?_) (fun hc => ?_)
      · have hm := ift hc hm
        exact w_Code_findLeaders_53 S hr hlk hK hA qt qt_op qt_d qt_a qt_b qt_need t_op t_a t_b t_length o_t_leaders hQ (f_Code_findLeaders_7 t_op t_a t_b t_length n) ih H locs ls x1 t_leaders (lv_sub hl [1, 2] rfl) hP hD hS hm
      · have hm := iff_ hc hm
        refine lv_aload_n hx hb d_Code_findLeaders_41 rfl (lv_at hl 1 rfl) ?_
        refine lv_dup hx hb d_Code_findLeaders_42 rfl ?_
        refine va_get (D := D) (ci := 0) (v := .int t_leaders) (C := R_Code) (T := T_Code) (N := 7) hx hb hts in_Code hown hK.1 hP 0 rfl rfl 6 (by decide) (hts _ a_52) (fun _ h9 => h9) rfl d_Code_findLeaders_43 ?_
        refine lv_iconst (v := (1 : Int32)) hx hb d_Code_findLeaders_46 (by decide) ?_
        refine lv_iload_n hx hb d_Code_findLeaders_47 rfl (lv_at hl 0 rfl) ?_
        refine lv_ishl hx hb d_Code_findLeaders_48 ?_
        refine lv_ior hx hb d_Code_findLeaders_49 ?_
        refine va_put (D := D) (ci := 0) (v := .int (t_leaders ||| ((1 : Int32) <<< (rz4 &&& 31)))) (ty := .int) (C := R_Code) (T := T_Code) (N := 7) hx hb hts in_Code ty_Code tyok_Code nm_Code hown hK.1 hP hD hS 0 rfl rfl 6 (by decide) (hts _ a_52) (fun _ h9 => h9) rfl (by decide +kernel) rfl rfl (Nat.le_of_ble_eq_true rfl) d_Code_findLeaders_50 (fun H locs hP hD hS => ?_)
        have hP : va_P D classes (ww_Code_findLeaders cI cJ cZ qt qt_op qt_d qt_a qt_b qt_need t_length (t_leaders ||| ((1 : Int32) <<< (rz4 &&& 31))) t_op t_a t_b) H := hP
        have hD : va_D A (ww_Code_findLeaders cI cJ cZ qt qt_op qt_d qt_a qt_b qt_need t_length (t_leaders ||| ((1 : Int32) <<< (rz4 &&& 31))) t_op t_a t_b) := hD
        exact w_Code_findLeaders_53 S hr hlk hK hA qt qt_op qt_d qt_a qt_b qt_need t_op t_a t_b t_length o_t_leaders hQ (f_Code_findLeaders_7 t_op t_a t_b t_length n) ih H locs ls x1 (t_leaders ||| ((1 : Int32) <<< (rz4 &&& 31))) (lv_sub hl [1, 2] rfl) hP hD hS hm
set_option maxHeartbeats 4000000 in
set_option maxRecDepth 100000 in
theorem w_Code_findLeaders {p : Program} {l : Launch} {e : Env} {s : State} {m : MethodId} {args : Array Value} {below : List Frame} {meth : Method} {c : Code} {D : va_G} {cI cJ cZ : ClassId} {A : Nat → Prop} {Qc : Array Value → State → Outcome → State → Prop} (S : CallFix p m c b_Code_findLeaders 3 s args tbg R_Code) (hr : meth.sig.returnType = none) (hlk : meth.locks = false) (hK : kx D cI cJ cZ s) (hA : ∀ q, s.heap.size ≤ q → A q) (qt : Nat) (qt_op : Nat) (qt_d : Nat) (qt_a : Nat) (qt_b : Nat) (qt_need : Nat) (t_op : Nat → Int32) (t_a : Nat → Int32) (t_b : Nat → Int32) (t_length : Int32) (o_t_leaders : Int32) (hQ : ∀ (t : State) (H : Heap) (locs : List Loc), t.heap = H → s.WarmedH t.vm → va_P D classes (ww_Code_findLeaders cI cJ cZ qt qt_op qt_d qt_a qt_b qt_need t_length o_t_leaders t_op t_a t_b) H → va_S A s.heap H locs → Qc args s (.returned none) t) (t_leaders : Int32) (H : Heap) (locs : List Loc) (ls : Array Slot) (hl : lv_has ls 3 [(0, .ref qt)]) (hP : va_P D classes (ww_Code_findLeaders cI cJ cZ qt qt_op qt_d qt_a qt_b qt_need t_length t_leaders t_op t_a t_b) H) (hD : va_D A (ww_Code_findLeaders cI cJ cZ qt qt_op qt_d qt_a qt_b qt_need t_length t_leaders t_op t_a t_b)) (hS : va_S A s.heap H locs) (hm : f_Code_findLeaders t_op t_a t_b t_length t_leaders = some o_t_leaders) : W p l e rm_Code_findLeaders s m args below meth c H locs 0 0 (MQ below Qc args s 0 0 A) (F0 m 0 ls []) := by
  obtain ⟨hx, hb, hml, hown, hts⟩ := id S
  unfold f_Code_findLeaders at hm
  refine lv_aload_n hx hb d_Code_findLeaders_0 rfl (lv_at hl 0 rfl) ?_
  refine lv_iconst (v := (1 : Int32)) hx hb d_Code_findLeaders_1 (by decide) ?_
  refine va_put (D := D) (ci := 0) (v := .int (1 : Int32)) (ty := .int) (C := R_Code) (T := T_Code) (N := 7) hx hb hts in_Code ty_Code tyok_Code nm_Code hown hK.1 hP hD hS 0 rfl rfl 6 (by decide) (hts _ a_52) (fun _ h9 => h9) rfl (by decide +kernel) rfl rfl (Nat.le_of_ble_eq_true rfl) d_Code_findLeaders_2 (fun H locs hP hD hS => ?_)
  have hP : va_P D classes (ww_Code_findLeaders cI cJ cZ qt qt_op qt_d qt_a qt_b qt_need t_length (1 : Int32) t_op t_a t_b) H := hP
  have hD : va_D A (ww_Code_findLeaders cI cJ cZ qt qt_op qt_d qt_a qt_b qt_need t_length (1 : Int32) t_op t_a t_b) := hD
  refine lv_iconst (v := (0 : Int32)) hx hb d_Code_findLeaders_5 (by decide) ?_
  refine lv_istore_n hx hb d_Code_findLeaders_6 rfl hl (by decide) rfl (fun ls hl => ?_)
  have hl : lv_has ls 3 [(1, .int (0 : Int32)), (0, .ref qt)] := hl
  exact w_Code_findLeaders_7 S hr hlk hK hA qt qt_op qt_d qt_a qt_b qt_need t_op t_a t_b t_length o_t_leaders hQ fu H locs ls (0 : Int32) (1 : Int32) (lv_sub hl [1, 0] rfl) hP hD hS hm
set_option maxHeartbeats 4000000 in
set_option maxRecDepth 100000 in
theorem c_Code_findLeaders (l : Launch) (D : va_G) (cI cJ cZ : ClassId) (qt : Nat) (qt_op : Nat) (qt_d : Nat) (qt_a : Nat) (qt_b : Nat) (qt_need : Nat) (t_length : Int32) (t_leaders : Int32) (t_op : Nat → Int32) (t_a : Nat → Int32) (t_b : Nat → Int32) (o_t_leaders : Int32) (hm : f_Code_findLeaders t_op t_a t_b t_length t_leaders = some o_t_leaders) : MV l y_Code_findLeaders b_Code_findLeaders 3 rm_Code_findLeaders D cI cJ cZ [.ref qt] (ww_Code_findLeaders cI cJ cZ qt qt_op qt_d qt_a qt_b qt_need t_length t_leaders t_op t_a t_b) (ww_Code_findLeaders cI cJ cZ qt qt_op qt_d qt_a qt_b qt_need t_length o_t_leaders t_op t_a t_b) := by
  intro sz
  refine Met.ofW (cc := b_Code_findLeaders) (maxL := 3) (ret := none) (by decide) rfl ?_
  intro p e s m args below meth c s₁ B hml hv
  obtain ⟨rfl, hsz, hP, hK, hD0⟩ := hv
  have hts := atoms_spec (ws := Cond.code y_Code_findLeaders b_Code_findLeaders 3 none :: tbg) B.pre
  have S : CallFix p m c b_Code_findLeaders 3 s ([.ref qt] : List Value).toArray tbg R_Code := ⟨B.exec, B.bytes, hml, findClass_of_methodNamed B.named, fun w hw => hts w (List.mem_cons_of_mem _ hw)⟩
  subst hsz
  have hD := hD0.self (sz := s.heap.size)
  have hl := lv_entry ([.ref qt] : List Value) (n := 3) (Nat.le_of_ble_eq_true rfl)
  rw [lg_entry_eq]
  generalize (lg_sl ([.ref qt] : List Value) ++ List.replicate (3 - (lg_sl ([.ref qt] : List Value)).length) Slot.unset).toArray = ls at hl ⊢
  have hl : lv_has ls 3 [(0, .ref qt)] := hl
  exact w_Code_findLeaders S B.returns B.notSynchronized hK (fun q h => Or.inr h) qt qt_op qt_d qt_a qt_b qt_need t_op t_a t_b t_length o_t_leaders (fun t H locs ht hW hP hS => ⟨⟨(), rfl, trivial, sB_of ht hP⟩, hS.F ht⟩) t_leaders s.heap [] ls hl hP hD va_S.rf hm
set_option maxHeartbeats 4000000 in
set_option maxRecDepth 100000 in
theorem w_Code_operandsOf_42 {p : Program} {l : Launch} {e : Env} {s : State} {m : MethodId} {args : Array Value} {below : List Frame} {meth : Method} {c : Code} {D : va_G} {cI cJ cZ : ClassId} {A : Nat → Prop} {Qc : Array Value → State → Outcome → State → Prop} (S : CallFix p m c b_Code_operandsOf 3 s args tbg R_Code) (hr : meth.sig.returnType = (some .int)) (hlk : meth.locks = false) (hK : kx D cI cJ cZ s) (hA : ∀ q, s.heap.size ≤ q → A q) (qt : Nat) (qt_op : Nat) (qt_d : Nat) (qt_a : Nat) (qt_b : Nat) (qt_need : Nat) (p1 : Int32) (t_op : Nat → Int32) (t_a : Nat → Int32) (t_b : Nat → Int32) (t_length : Int32) (t_leaders : Int32) (o_r : Int32) (hQ : ∀ (t : State) (H : Heap) (locs : List Loc), t.heap = H → s.WarmedH t.vm → va_P D classes (ww_Code_operandsOf cI cJ cZ qt qt_op qt_d qt_a qt_b qt_need t_length t_leaders t_op t_a t_b) H → va_S A s.heap H locs → Qc args s (.returned (some (.int o_r))) t) : ∀ (H : Heap) (locs : List Loc) (ls : Array Slot) (s0 : Int32), lv_has ls 3 [(0, .ref qt), (1, .int p1)] → va_P D classes (ww_Code_operandsOf cI cJ cZ qt qt_op qt_d qt_a qt_b qt_need t_length t_leaders t_op t_a t_b) H → va_D A (ww_Code_operandsOf cI cJ cZ qt qt_op qt_d qt_a qt_b qt_need t_length t_leaders t_op t_a t_b) → va_S A s.heap H locs → f_Code_operandsOf_42 p1 t_op t_a t_b s0 = some o_r → W p l e rm_Code_operandsOf s m args below meth c H locs 0 0 (MQ below Qc args s 0 0 A) (F0 m 42 ls [.int s0]) := by
  obtain ⟨hx, hb, hml, hown, hts⟩ := id S
  intro H locs ls s0 hl hP hD hS hm
  unfold f_Code_operandsOf_42 at hm
  refine lv_istore_n hx hb d_Code_operandsOf_42 rfl hl (by decide) rfl (fun ls hl => ?_)
  have hl : lv_has ls 3 [(2, .int s0), (0, .ref qt), (1, .int p1)] := hl
  refine lv_aload_n hx hb d_Code_operandsOf_43 rfl (lv_at hl 1 rfl) ?_
  refine va_get (D := D) (ci := 0) (v := .ref qt_op) (C := R_Code) (T := T_Code) (N := 7) hx hb hts in_Code hown hK.1 hP 0 rfl rfl 0 (by decide) (hts _ a_27) (fun _ h9 => h9) rfl d_Code_operandsOf_44 ?_
  refine lv_iload_n hx hb d_Code_operandsOf_47 rfl (lv_at hl 2 rfl) ?_
  obtain ⟨v1, e_v1, hm⟩ := ob hm
  refine vx_iald hx hb hK hP 1 rfl e_v1 d_Code_operandsOf_48 ?_
  obtain ⟨rz2, e_rz2, hm⟩ := ob hm
  have hC : ([] : List Nat).map (fun i => (ww_Code_operandsOf cI cJ cZ qt qt_op qt_d qt_a qt_b qt_need t_length t_leaders t_op t_a t_b)[i]?) = (ww_BlockCode_combines cI cJ cZ).map some := rfl
  refine vj_i (w1 := (ww_BlockCode_combines cI cJ cZ)) (wn := (ww_Code_operandsOf cI cJ cZ qt qt_op qt_d qt_a qt_b qt_need t_length t_leaders t_op t_a t_b)) (isR := [0, 1, 2, 3]) (nw := 4) (vr_SN (host := "BlockCode") (n := 1) (As := [.int v1]) S ((c_BlockCode_combines l D cI cJ cZ v1 rz2 e_rz2) H.size) an_259 a_246 a_1 a_247 (by decide +kernel) ⟨rfl, rfl⟩ ⟨Nat.le_of_ble_eq_true rfl, Nat.le_of_ble_eq_true rfl⟩ hK hP hD (by decide) hC rfl hl.1 (Nat.le_of_ble_eq_true rfl) d_Code_operandsOf_49 ⟨Nat.zero_le _, Nat.zero_le _⟩ rfl) hP hD hS hA hC rfl rfl (vx_c rfl rfl (vx_c rfl rfl (vx_c rfl rfl (vx_c rfl rfl vx_n)))) rfl (by decide) (fun H locs hP hD hS => ?_)
  refine lv_if_eq (tgt := 68) hx hb d_Code_operandsOf_52 (by decide) (fun hc => ?_) (fun hc => ?_)
  · have hm := ift hc hm
    refine lv_iload_n hx hb d_Code_operandsOf_68 rfl (lv_at hl 0 rfl) ?_
    cases hm
    exact W.iret hx hb hr (fun t ht hW => hQ t _ _ ht hW hP hS) hS.2.2 d_Code_operandsOf_69 hlk
  · have hm := iff_ hc hm
    refine lv_iload_n hx hb d_Code_operandsOf_55 rfl (lv_at hl 0 rfl) ?_
    refine lv_iconst (v := (1 : Int32)) hx hb d_Code_operandsOf_56 (by decide) ?_
    refine lv_aload_n hx hb d_Code_operandsOf_57 rfl (lv_at hl 1 rfl) ?_
    refine va_get (D := D) (ci := 0) (v := .ref qt_b) (C := R_Code) (T := T_Code) (N := 7) hx hb hts in_Code hown hK.1 hP 0 rfl rfl 3 (by decide) (hts _ a_42) (fun _ h9 => h9) rfl d_Code_operandsOf_58 ?_
    refine lv_iload_n hx hb d_Code_operandsOf_61 rfl (lv_at hl 2 rfl) ?_
    obtain ⟨v3, e_v3, hm⟩ := ob hm
    refine vx_iald hx hb hK hP 3 rfl e_v3 d_Code_operandsOf_62 ?_
    refine lv_ishl hx hb d_Code_operandsOf_63 ?_
    refine lv_ior hx hb d_Code_operandsOf_64 ?_
    refine lv_goto (tgt := 69) hx hb d_Code_operandsOf_65 (by decide) ?_
    cases hm
    exact W.iret hx hb hr (fun t ht hW => hQ t _ _ ht hW hP hS) hS.2.2 d_Code_operandsOf_69 hlk
set_option maxHeartbeats 4000000 in
set_option maxRecDepth 100000 in
theorem w_Code_operandsOf {p : Program} {l : Launch} {e : Env} {s : State} {m : MethodId} {args : Array Value} {below : List Frame} {meth : Method} {c : Code} {D : va_G} {cI cJ cZ : ClassId} {A : Nat → Prop} {Qc : Array Value → State → Outcome → State → Prop} (S : CallFix p m c b_Code_operandsOf 3 s args tbg R_Code) (hr : meth.sig.returnType = (some .int)) (hlk : meth.locks = false) (hK : kx D cI cJ cZ s) (hA : ∀ q, s.heap.size ≤ q → A q) (qt : Nat) (qt_op : Nat) (qt_d : Nat) (qt_a : Nat) (qt_b : Nat) (qt_need : Nat) (p1 : Int32) (t_op : Nat → Int32) (t_a : Nat → Int32) (t_b : Nat → Int32) (t_length : Int32) (t_leaders : Int32) (o_r : Int32) (hQ : ∀ (t : State) (H : Heap) (locs : List Loc), t.heap = H → s.WarmedH t.vm → va_P D classes (ww_Code_operandsOf cI cJ cZ qt qt_op qt_d qt_a qt_b qt_need t_length t_leaders t_op t_a t_b) H → va_S A s.heap H locs → Qc args s (.returned (some (.int o_r))) t) (H : Heap) (locs : List Loc) (ls : Array Slot) (hl : lv_has ls 3 [(0, .ref qt), (1, .int p1)]) (hP : va_P D classes (ww_Code_operandsOf cI cJ cZ qt qt_op qt_d qt_a qt_b qt_need t_length t_leaders t_op t_a t_b) H) (hD : va_D A (ww_Code_operandsOf cI cJ cZ qt qt_op qt_d qt_a qt_b qt_need t_length t_leaders t_op t_a t_b)) (hS : va_S A s.heap H locs) (hm : f_Code_operandsOf p1 t_op t_a t_b = some o_r) : W p l e rm_Code_operandsOf s m args below meth c H locs 0 0 (MQ below Qc args s 0 0 A) (F0 m 0 ls []) := by
  obtain ⟨hx, hb, hml, hown, hts⟩ := id S
  unfold f_Code_operandsOf at hm
  refine lv_aload_n hx hb d_Code_operandsOf_0 rfl (lv_at hl 0 rfl) ?_
  refine va_get (D := D) (ci := 0) (v := .ref qt_op) (C := R_Code) (T := T_Code) (N := 7) hx hb hts in_Code hown hK.1 hP 0 rfl rfl 0 (by decide) (hts _ a_27) (fun _ h9 => h9) rfl d_Code_operandsOf_1 ?_
  refine lv_iload_n hx hb d_Code_operandsOf_4 rfl (lv_at hl 1 rfl) ?_
  obtain ⟨v1, e_v1, hm⟩ := ob hm
  refine vx_iald hx hb hK hP 1 rfl e_v1 d_Code_operandsOf_5 ?_
  refine lv_bipush (v := (10 : Int32)) hx hb d_Code_operandsOf_6 (by decide) ?_
  refine lv_icmp_ne (tgt := 18) hx hb d_Code_operandsOf_8 (by decide) (fun hc => ?_) (fun hc => ?_)
  · have hm := iff_ hc hm
    refine lv_aload_n hx hb d_Code_operandsOf_18 rfl (lv_at hl 0 rfl) ?_
    refine va_get (D := D) (ci := 0) (v := .ref qt_op) (C := R_Code) (T := T_Code) (N := 7) hx hb hts in_Code hown hK.1 hP 0 rfl rfl 0 (by decide) (hts _ a_27) (fun _ h9 => h9) rfl d_Code_operandsOf_19 ?_
    refine lv_iload_n hx hb d_Code_operandsOf_22 rfl (lv_at hl 1 rfl) ?_
    obtain ⟨v2, e_v2, hm⟩ := ob hm
    refine vx_iald hx hb hK hP 1 rfl e_v2 d_Code_operandsOf_23 ?_
    obtain ⟨rz3, e_rz3, hm⟩ := ob hm
    have hC : ([] : List Nat).map (fun i => (ww_Code_operandsOf cI cJ cZ qt qt_op qt_d qt_a qt_b qt_need t_length t_leaders t_op t_a t_b)[i]?) = (ww_BlockCode_readsA cI cJ cZ).map some := rfl
    refine vj_i (w1 := (ww_BlockCode_readsA cI cJ cZ)) (wn := (ww_Code_operandsOf cI cJ cZ qt qt_op qt_d qt_a qt_b qt_need t_length t_leaders t_op t_a t_b)) (isR := [0, 1, 2, 3]) (nw := 4) (vr_SN (host := "BlockCode") (n := 1) (As := [.int v2]) S ((c_BlockCode_readsA l D cI cJ cZ v2 rz3 e_rz3) H.size) an_290 a_243 a_1 a_244 (by decide +kernel) ⟨rfl, rfl⟩ ⟨Nat.le_of_ble_eq_true rfl, Nat.le_of_ble_eq_true rfl⟩ hK hP hD (by decide) hC rfl hl.1 (Nat.le_of_ble_eq_true rfl) d_Code_operandsOf_24 ⟨Nat.zero_le _, Nat.zero_le _⟩ rfl) hP hD hS hA hC rfl rfl (vx_c rfl rfl (vx_c rfl rfl (vx_c rfl rfl (vx_c rfl rfl vx_n)))) rfl (by decide) (fun H locs hP hD hS => ?_)
    refine lv_if_eq (tgt := 41) hx hb d_Code_operandsOf_27 (by decide) (fun hc => ?_) (fun hc => ?_)
    · have hm := ift hc hm
      refine lv_iconst (v := (0 : Int32)) hx hb d_Code_operandsOf_41 (by decide) ?_
      exact w_Code_operandsOf_42 S hr hlk hK hA qt qt_op qt_d qt_a qt_b qt_need p1 t_op t_a t_b t_length t_leaders o_r hQ H locs ls (0 : Int32) (lv_sub hl [0, 1] rfl) hP hD hS hm
    · have hm := iff_ hc hm
      refine lv_iconst (v := (1 : Int32)) hx hb d_Code_operandsOf_30 (by decide) ?_
      refine lv_aload_n hx hb d_Code_operandsOf_31 rfl (lv_at hl 0 rfl) ?_
      refine va_get (D := D) (ci := 0) (v := .ref qt_a) (C := R_Code) (T := T_Code) (N := 7) hx hb hts in_Code hown hK.1 hP 0 rfl rfl 2 (by decide) (hts _ a_37) (fun _ h9 => h9) rfl d_Code_operandsOf_32 ?_
      refine lv_iload_n hx hb d_Code_operandsOf_35 rfl (lv_at hl 1 rfl) ?_
      obtain ⟨v4, e_v4, hm⟩ := ob hm
      refine vx_iald hx hb hK hP 2 rfl e_v4 d_Code_operandsOf_36 ?_
      refine lv_ishl hx hb d_Code_operandsOf_37 ?_
      refine lv_goto (tgt := 42) hx hb d_Code_operandsOf_38 (by decide) ?_
      exact w_Code_operandsOf_42 S hr hlk hK hA qt qt_op qt_d qt_a qt_b qt_need p1 t_op t_a t_b t_length t_leaders o_r hQ H locs ls ((1 : Int32) <<< (v4 &&& 31)) (lv_sub hl [0, 1] rfl) hP hD hS hm
  · have hm := ift hc hm
    refine lv_aload_n hx hb d_Code_operandsOf_11 rfl (lv_at hl 0 rfl) ?_
    refine va_get (D := D) (ci := 0) (v := .ref qt_a) (C := R_Code) (T := T_Code) (N := 7) hx hb hts in_Code hown hK.1 hP 0 rfl rfl 2 (by decide) (hts _ a_37) (fun _ h9 => h9) rfl d_Code_operandsOf_12 ?_
    refine lv_iload_n hx hb d_Code_operandsOf_15 rfl (lv_at hl 1 rfl) ?_
    obtain ⟨v5, e_v5, hm⟩ := ob hm
    refine vx_iald hx hb hK hP 2 rfl e_v5 d_Code_operandsOf_16 ?_
    cases hm
    exact W.iret hx hb hr (fun t ht hW => hQ t _ _ ht hW hP hS) hS.2.2 d_Code_operandsOf_17 hlk
set_option maxHeartbeats 4000000 in
set_option maxRecDepth 100000 in
theorem c_Code_operandsOf (l : Launch) (D : va_G) (cI cJ cZ : ClassId) (qt : Nat) (qt_op : Nat) (qt_d : Nat) (qt_a : Nat) (qt_b : Nat) (qt_need : Nat) (t_length : Int32) (t_leaders : Int32) (t_op : Nat → Int32) (t_a : Nat → Int32) (t_b : Nat → Int32) (p1 : Int32) (o_r : Int32) (hm : f_Code_operandsOf p1 t_op t_a t_b = some o_r) : MI l y_Code_operandsOf b_Code_operandsOf 3 .int rm_Code_operandsOf D cI cJ cZ [.ref qt, .int p1] (ww_Code_operandsOf cI cJ cZ qt qt_op qt_d qt_a qt_b qt_need t_length t_leaders t_op t_a t_b) (ww_Code_operandsOf cI cJ cZ qt qt_op qt_d qt_a qt_b qt_need t_length t_leaders t_op t_a t_b) o_r := by
  intro sz
  refine Met.ofW (cc := b_Code_operandsOf) (maxL := 3) (ret := (some .int)) (by decide) rfl ?_
  intro p e s m args below meth c s₁ B hml hv
  obtain ⟨rfl, hsz, hP, hK, hD0⟩ := hv
  have hts := atoms_spec (ws := Cond.code y_Code_operandsOf b_Code_operandsOf 3 (some .int) :: tbg) B.pre
  have S : CallFix p m c b_Code_operandsOf 3 s ([.ref qt, .int p1] : List Value).toArray tbg R_Code := ⟨B.exec, B.bytes, hml, findClass_of_methodNamed B.named, fun w hw => hts w (List.mem_cons_of_mem _ hw)⟩
  subst hsz
  have hD := hD0.self (sz := s.heap.size)
  have hl := lv_entry ([.ref qt, .int p1] : List Value) (n := 3) (Nat.le_of_ble_eq_true rfl)
  rw [lg_entry_eq]
  generalize (lg_sl ([.ref qt, .int p1] : List Value) ++ List.replicate (3 - (lg_sl ([.ref qt, .int p1] : List Value)).length) Slot.unset).toArray = ls at hl ⊢
  have hl : lv_has ls 3 [(0, .ref qt), (1, .int p1)] := hl
  exact w_Code_operandsOf S B.returns B.notSynchronized hK (fun q h => Or.inr h) qt qt_op qt_d qt_a qt_b qt_need p1 t_op t_a t_b t_length t_leaders o_r (fun t H locs ht hW hP hS => ⟨⟨_, (), rfl, rfl, sB_of ht hP⟩, hS.F ht⟩) s.heap [] ls hl hP hD va_S.rf hm
set_option maxHeartbeats 4000000 in
set_option maxRecDepth 100000 in
theorem w_Code_has {p : Program} {l : Launch} {e : Env} {s : State} {m : MethodId} {args : Array Value} {below : List Frame} {meth : Method} {c : Code} {D : va_G} {cI cJ cZ : ClassId} {A : Nat → Prop} {Qc : Array Value → State → Outcome → State → Prop} (S : CallFix p m c b_Code_has 2 s args tbg R_Code) (hr : meth.sig.returnType = (some .boolean)) (hlk : meth.locks = false) (hK : kx D cI cJ cZ s) (hA : ∀ q, s.heap.size ≤ q → A q) (qt : Nat) (qt_op : Nat) (qt_d : Nat) (qt_a : Nat) (qt_b : Nat) (qt_need : Nat) (p1 : Int32) (t_length : Int32) (t_leaders : Int32) (o_r : Int32) (hQ : ∀ (t : State) (H : Heap) (locs : List Loc), t.heap = H → s.WarmedH t.vm → va_P D classes (ww_Code_has cI cJ cZ qt qt_op qt_d qt_a qt_b qt_need t_length t_leaders) H → va_S A s.heap H locs → Qc args s (.returned (some (.int o_r))) t) (H : Heap) (locs : List Loc) (ls : Array Slot) (hl : lv_has ls 2 [(0, .ref qt), (1, .int p1)]) (hP : va_P D classes (ww_Code_has cI cJ cZ qt qt_op qt_d qt_a qt_b qt_need t_length t_leaders) H) (hD : va_D A (ww_Code_has cI cJ cZ qt qt_op qt_d qt_a qt_b qt_need t_length t_leaders)) (hS : va_S A s.heap H locs) (hm : f_Code_has p1 t_length = some o_r) : W p l e rm_Code_has s m args below meth c H locs 0 0 (MQ below Qc args s 0 0 A) (F0 m 0 ls []) := by
  obtain ⟨hx, hb, hml, hown, hts⟩ := id S
  unfold f_Code_has at hm
  refine lv_iload_n hx hb d_Code_has_0 rfl (lv_at hl 1 rfl) ?_
  refine lv_if_lt (tgt := 16) hx hb d_Code_has_1 (by decide) (fun hc => ?_) (fun hc => ?_)
  · have hm := ift hc hm
    refine lv_iconst (v := (0 : Int32)) hx hb d_Code_has_16 (by decide) ?_
    cases hm
    exact W.zret hx hb hr rfl (fun t ht hW => hQ t _ _ ht hW hP hS) hS.2.2 d_Code_has_17 hlk
  · have hm := iff_ hc hm
    refine lv_iload_n hx hb d_Code_has_4 rfl (lv_at hl 1 rfl) ?_
    refine lv_aload_n hx hb d_Code_has_5 rfl (lv_at hl 0 rfl) ?_
    refine va_get (D := D) (ci := 0) (v := .int t_length) (C := R_Code) (T := T_Code) (N := 7) hx hb hts in_Code hown hK.1 hP 0 rfl rfl 5 (by decide) (hts _ a_48) (fun _ h9 => h9) rfl d_Code_has_6 ?_
    refine lv_icmp_ge (tgt := 16) hx hb d_Code_has_9 (by decide) (fun hc => ?_) (fun hc => ?_)
    · have hm := ift hc hm
      refine lv_iconst (v := (0 : Int32)) hx hb d_Code_has_16 (by decide) ?_
      cases hm
      exact W.zret hx hb hr rfl (fun t ht hW => hQ t _ _ ht hW hP hS) hS.2.2 d_Code_has_17 hlk
    · have hm := iff_ hc hm
      refine lv_iconst (v := (1 : Int32)) hx hb d_Code_has_12 (by decide) ?_
      refine lv_goto (tgt := 17) hx hb d_Code_has_13 (by decide) ?_
      cases hm
      exact W.zret hx hb hr rfl (fun t ht hW => hQ t _ _ ht hW hP hS) hS.2.2 d_Code_has_17 hlk
set_option maxHeartbeats 4000000 in
set_option maxRecDepth 100000 in
theorem c_Code_has (l : Launch) (D : va_G) (cI cJ cZ : ClassId) (qt : Nat) (qt_op : Nat) (qt_d : Nat) (qt_a : Nat) (qt_b : Nat) (qt_need : Nat) (t_length : Int32) (t_leaders : Int32) (p1 : Int32) (o_r : Int32) (hm : f_Code_has p1 t_length = some o_r) : MI l y_Code_has b_Code_has 2 .boolean rm_Code_has D cI cJ cZ [.ref qt, .int p1] (ww_Code_has cI cJ cZ qt qt_op qt_d qt_a qt_b qt_need t_length t_leaders) (ww_Code_has cI cJ cZ qt qt_op qt_d qt_a qt_b qt_need t_length t_leaders) o_r := by
  intro sz
  refine Met.ofW (cc := b_Code_has) (maxL := 2) (ret := (some .boolean)) (by decide) rfl ?_
  intro p e s m args below meth c s₁ B hml hv
  obtain ⟨rfl, hsz, hP, hK, hD0⟩ := hv
  have hts := atoms_spec (ws := Cond.code y_Code_has b_Code_has 2 (some .boolean) :: tbg) B.pre
  have S : CallFix p m c b_Code_has 2 s ([.ref qt, .int p1] : List Value).toArray tbg R_Code := ⟨B.exec, B.bytes, hml, findClass_of_methodNamed B.named, fun w hw => hts w (List.mem_cons_of_mem _ hw)⟩
  subst hsz
  have hD := hD0.self (sz := s.heap.size)
  have hl := lv_entry ([.ref qt, .int p1] : List Value) (n := 2) (Nat.le_of_ble_eq_true rfl)
  rw [lg_entry_eq]
  generalize (lg_sl ([.ref qt, .int p1] : List Value) ++ List.replicate (2 - (lg_sl ([.ref qt, .int p1] : List Value)).length) Slot.unset).toArray = ls at hl ⊢
  have hl : lv_has ls 2 [(0, .ref qt), (1, .int p1)] := hl
  exact w_Code_has S B.returns B.notSynchronized hK (fun q h => Or.inr h) qt qt_op qt_d qt_a qt_b qt_need p1 t_length t_leaders o_r (fun t H locs ht hW hP hS => ⟨⟨_, (), rfl, rfl, sB_of ht hP⟩, hS.F ht⟩) s.heap [] ls hl hP hD va_S.rf hm
set_option maxHeartbeats 4000000 in
set_option maxRecDepth 100000 in
theorem w_Code_needAt {p : Program} {l : Launch} {e : Env} {s : State} {m : MethodId} {args : Array Value} {below : List Frame} {meth : Method} {c : Code} {D : va_G} {cI cJ cZ : ClassId} {A : Nat → Prop} {Qc : Array Value → State → Outcome → State → Prop} (S : CallFix p m c b_Code_needAt 2 s args tbg R_Code) (hr : meth.sig.returnType = (some .int)) (hlk : meth.locks = false) (hK : kx D cI cJ cZ s) (hA : ∀ q, s.heap.size ≤ q → A q) (qt : Nat) (qt_op : Nat) (qt_d : Nat) (qt_a : Nat) (qt_b : Nat) (qt_need : Nat) (p1 : Int32) (t_need : Nat → Int32) (t_length : Int32) (t_leaders : Int32) (o_r : Int32) (hQ : ∀ (t : State) (H : Heap) (locs : List Loc), t.heap = H → s.WarmedH t.vm → va_P D classes (ww_Code_needAt cI cJ cZ qt qt_op qt_d qt_a qt_b qt_need t_length t_leaders t_need) H → va_S A s.heap H locs → Qc args s (.returned (some (.int o_r))) t) (H : Heap) (locs : List Loc) (ls : Array Slot) (hl : lv_has ls 2 [(0, .ref qt), (1, .int p1)]) (hP : va_P D classes (ww_Code_needAt cI cJ cZ qt qt_op qt_d qt_a qt_b qt_need t_length t_leaders t_need) H) (hD : va_D A (ww_Code_needAt cI cJ cZ qt qt_op qt_d qt_a qt_b qt_need t_length t_leaders t_need)) (hS : va_S A s.heap H locs) (hm : f_Code_needAt p1 t_need t_length = some o_r) : W p l e rm_Code_needAt s m args below meth c H locs 0 0 (MQ below Qc args s 0 0 A) (F0 m 0 ls []) := by
  obtain ⟨hx, hb, hml, hown, hts⟩ := id S
  unfold f_Code_needAt at hm
  refine lv_aload_n hx hb d_Code_needAt_0 rfl (lv_at hl 0 rfl) ?_
  refine lv_iload_n hx hb d_Code_needAt_1 rfl (lv_at hl 1 rfl) ?_
  obtain ⟨rz1, e_rz1, hm⟩ := ob hm
  have hC : ([0] : List Nat).map (fun i => (ww_Code_needAt cI cJ cZ qt qt_op qt_d qt_a qt_b qt_need t_length t_leaders t_need)[i]?) = (ww_Code_has cI cJ cZ qt qt_op qt_d qt_a qt_b qt_need t_length t_leaders).map some := rfl
  refine vj_i (w1 := (ww_Code_has cI cJ cZ qt qt_op qt_d qt_a qt_b qt_need t_length t_leaders)) (wn := (ww_Code_needAt cI cJ cZ qt qt_op qt_d qt_a qt_b qt_need t_length t_leaders t_need)) (isR := [1]) (nw := 2) (vr_V (C := R_Code) (n := 1) (As := [.int p1]) S ((c_Code_has l D cI cJ cZ qt qt_op qt_d qt_a qt_b qt_need t_length t_leaders p1 rz1 e_rz1) H.size) a_203 a_204 a_205 a_2 a_206 (by decide +kernel) ⟨rfl, rfl⟩ ⟨Nat.le_of_ble_eq_true rfl, Nat.le_of_ble_eq_true rfl⟩ (ci := 0) (q0 := 0) rfl rfl hK hP hD (by decide) hC rfl hl.1 (Nat.le_of_ble_eq_true rfl) d_Code_needAt_2 ⟨Nat.zero_le _, Nat.zero_le _⟩ rfl) hP hD hS hA hC rfl rfl (vx_c rfl rfl vx_n) rfl (by decide) (fun H locs hP hD hS => ?_)
  refine lv_if_eq (tgt := 17) hx hb d_Code_needAt_5 (by decide) (fun hc => ?_) (fun hc => ?_)
  · have hm := ift hc hm
    refine lv_iconst (v := (0 : Int32)) hx hb d_Code_needAt_17 (by decide) ?_
    cases hm
    exact W.iret hx hb hr (fun t ht hW => hQ t _ _ ht hW hP hS) hS.2.2 d_Code_needAt_18 hlk
  · have hm := iff_ hc hm
    refine lv_aload_n hx hb d_Code_needAt_8 rfl (lv_at hl 0 rfl) ?_
    refine va_get (D := D) (ci := 0) (v := .ref qt_need) (C := R_Code) (T := T_Code) (N := 7) hx hb hts in_Code hown hK.1 hP 0 rfl rfl 4 (by decide) (hts _ a_47) (fun _ h9 => h9) rfl d_Code_needAt_9 ?_
    refine lv_iload_n hx hb d_Code_needAt_12 rfl (lv_at hl 1 rfl) ?_
    obtain ⟨v2, e_v2, hm⟩ := ob hm
    refine vx_iald hx hb hK hP 1 rfl e_v2 d_Code_needAt_13 ?_
    refine lv_goto (tgt := 18) hx hb d_Code_needAt_14 (by decide) ?_
    cases hm
    exact W.iret hx hb hr (fun t ht hW => hQ t _ _ ht hW hP hS) hS.2.2 d_Code_needAt_18 hlk
set_option maxHeartbeats 4000000 in
set_option maxRecDepth 100000 in
theorem c_Code_needAt (l : Launch) (D : va_G) (cI cJ cZ : ClassId) (qt : Nat) (qt_op : Nat) (qt_d : Nat) (qt_a : Nat) (qt_b : Nat) (qt_need : Nat) (t_length : Int32) (t_leaders : Int32) (t_need : Nat → Int32) (p1 : Int32) (o_r : Int32) (hm : f_Code_needAt p1 t_need t_length = some o_r) : MI l y_Code_needAt b_Code_needAt 2 .int rm_Code_needAt D cI cJ cZ [.ref qt, .int p1] (ww_Code_needAt cI cJ cZ qt qt_op qt_d qt_a qt_b qt_need t_length t_leaders t_need) (ww_Code_needAt cI cJ cZ qt qt_op qt_d qt_a qt_b qt_need t_length t_leaders t_need) o_r := by
  intro sz
  refine Met.ofW (cc := b_Code_needAt) (maxL := 2) (ret := (some .int)) (by decide) rfl ?_
  intro p e s m args below meth c s₁ B hml hv
  obtain ⟨rfl, hsz, hP, hK, hD0⟩ := hv
  have hts := atoms_spec (ws := Cond.code y_Code_needAt b_Code_needAt 2 (some .int) :: tbg) B.pre
  have S : CallFix p m c b_Code_needAt 2 s ([.ref qt, .int p1] : List Value).toArray tbg R_Code := ⟨B.exec, B.bytes, hml, findClass_of_methodNamed B.named, fun w hw => hts w (List.mem_cons_of_mem _ hw)⟩
  subst hsz
  have hD := hD0.self (sz := s.heap.size)
  have hl := lv_entry ([.ref qt, .int p1] : List Value) (n := 2) (Nat.le_of_ble_eq_true rfl)
  rw [lg_entry_eq]
  generalize (lg_sl ([.ref qt, .int p1] : List Value) ++ List.replicate (2 - (lg_sl ([.ref qt, .int p1] : List Value)).length) Slot.unset).toArray = ls at hl ⊢
  have hl : lv_has ls 2 [(0, .ref qt), (1, .int p1)] := hl
  exact w_Code_needAt S B.returns B.notSynchronized hK (fun q h => Or.inr h) qt qt_op qt_d qt_a qt_b qt_need p1 t_need t_length t_leaders o_r (fun t H locs ht hW hP hS => ⟨⟨_, (), rfl, rfl, sB_of ht hP⟩, hS.F ht⟩) s.heap [] ls hl hP hD va_S.rf hm
set_option maxHeartbeats 4000000 in
set_option maxRecDepth 100000 in
theorem w_Code_needBehind {p : Program} {l : Launch} {e : Env} {s : State} {m : MethodId} {args : Array Value} {below : List Frame} {meth : Method} {c : Code} {D : va_G} {cI cJ cZ : ClassId} {A : Nat → Prop} {Qc : Array Value → State → Outcome → State → Prop} (S : CallFix p m c b_Code_needBehind 2 s args tbg R_Code) (hr : meth.sig.returnType = (some .int)) (hlk : meth.locks = false) (hK : kx D cI cJ cZ s) (hA : ∀ q, s.heap.size ≤ q → A q) (qt : Nat) (qt_op : Nat) (qt_d : Nat) (qt_a : Nat) (qt_b : Nat) (qt_need : Nat) (p1 : Int32) (t_op : Nat → Int32) (t_a : Nat → Int32) (t_b : Nat → Int32) (t_need : Nat → Int32) (t_length : Int32) (t_leaders : Int32) (o_r : Int32) (hQ : ∀ (t : State) (H : Heap) (locs : List Loc), t.heap = H → s.WarmedH t.vm → va_P D classes (ww_Code_needBehind cI cJ cZ qt qt_op qt_d qt_a qt_b qt_need t_length t_leaders t_op t_a t_b t_need) H → va_S A s.heap H locs → Qc args s (.returned (some (.int o_r))) t) (H : Heap) (locs : List Loc) (ls : Array Slot) (hl : lv_has ls 2 [(0, .ref qt), (1, .int p1)]) (hP : va_P D classes (ww_Code_needBehind cI cJ cZ qt qt_op qt_d qt_a qt_b qt_need t_length t_leaders t_op t_a t_b t_need) H) (hD : va_D A (ww_Code_needBehind cI cJ cZ qt qt_op qt_d qt_a qt_b qt_need t_length t_leaders t_op t_a t_b t_need)) (hS : va_S A s.heap H locs) (hm : f_Code_needBehind p1 t_op t_a t_b t_need t_length = some o_r) : W p l e rm_Code_needBehind s m args below meth c H locs 0 0 (MQ below Qc args s 0 0 A) (F0 m 0 ls []) := by
  obtain ⟨hx, hb, hml, hown, hts⟩ := id S
  unfold f_Code_needBehind at hm
  refine lv_aload_n hx hb d_Code_needBehind_0 rfl (lv_at hl 0 rfl) ?_
  refine va_get (D := D) (ci := 0) (v := .ref qt_op) (C := R_Code) (T := T_Code) (N := 7) hx hb hts in_Code hown hK.1 hP 0 rfl rfl 0 (by decide) (hts _ a_27) (fun _ h9 => h9) rfl d_Code_needBehind_1 ?_
  refine lv_iload_n hx hb d_Code_needBehind_4 rfl (lv_at hl 1 rfl) ?_
  obtain ⟨v1, e_v1, hm⟩ := ob hm
  refine vx_iald hx hb hK hP 1 rfl e_v1 d_Code_needBehind_5 ?_
  by_cases hk8 : v1 = (8 : Int32)
  · have hm := ift hk8 hm
    refine lv_tableIn (off := 26) (tgt := 32) hx hb d_Code_needBehind_6 (by rw [hk8]; decide) (by rw [hk8]; decide) (by rw [hk8]; rfl) (by decide) ?_
    refine lv_aload_n hx hb d_Code_needBehind_32 rfl (lv_at hl 0 rfl) ?_
    refine lv_aload_n hx hb d_Code_needBehind_33 rfl (lv_at hl 0 rfl) ?_
    refine va_get (D := D) (ci := 0) (v := .ref qt_a) (C := R_Code) (T := T_Code) (N := 7) hx hb hts in_Code hown hK.1 hP 0 rfl rfl 2 (by decide) (hts _ a_37) (fun _ h9 => h9) rfl d_Code_needBehind_34 ?_
    refine lv_iload_n hx hb d_Code_needBehind_37 rfl (lv_at hl 1 rfl) ?_
    obtain ⟨v2, e_v2, hm⟩ := ob hm
    refine vx_iald hx hb hK hP 2 rfl e_v2 d_Code_needBehind_38 ?_
    obtain ⟨rz3, e_rz3, hm⟩ := ob hm
    have hC : ([0, 4] : List Nat).map (fun i => (ww_Code_needBehind cI cJ cZ qt qt_op qt_d qt_a qt_b qt_need t_length t_leaders t_op t_a t_b t_need)[i]?) = (ww_Code_needAt cI cJ cZ qt qt_op qt_d qt_a qt_b qt_need t_length t_leaders t_need).map some := rfl
    refine vj_i (w1 := (ww_Code_needAt cI cJ cZ qt qt_op qt_d qt_a qt_b qt_need t_length t_leaders t_need)) (wn := (ww_Code_needBehind cI cJ cZ qt qt_op qt_d qt_a qt_b qt_need t_length t_leaders t_op t_a t_b t_need)) (isR := [1, 2, 3]) (nw := 5) (vr_V (C := R_Code) (n := 1) (As := [.int v2]) S ((c_Code_needAt l D cI cJ cZ qt qt_op qt_d qt_a qt_b qt_need t_length t_leaders t_need v2 rz3 e_rz3) H.size) a_295 a_229 a_230 a_2 a_231 (by decide +kernel) ⟨rfl, rfl⟩ ⟨Nat.le_of_ble_eq_true rfl, Nat.le_of_ble_eq_true rfl⟩ (ci := 0) (q0 := 0) rfl rfl hK hP hD (by decide) hC rfl hl.1 (Nat.le_of_ble_eq_true rfl) d_Code_needBehind_39 ⟨Nat.zero_le _, Nat.zero_le _⟩ rfl) hP hD hS hA hC rfl rfl (vx_c rfl rfl (vx_c rfl rfl (vx_c rfl rfl vx_n))) rfl (by decide) (fun H locs hP hD hS => ?_)
    cases hm
    exact W.iret hx hb hr (fun t ht hW => hQ t _ _ ht hW hP hS) hS.2.2 d_Code_needBehind_42 hlk
  have hm := iff_ hk8 hm
  by_cases hk9 : v1 = (9 : Int32)
  · have hm := ift hk9 hm
    refine lv_tableIn (off := 37) (tgt := 43) hx hb d_Code_needBehind_6 (by rw [hk9]; decide) (by rw [hk9]; decide) (by rw [hk9]; rfl) (by decide) ?_
    refine lv_aload_n hx hb d_Code_needBehind_43 rfl (lv_at hl 0 rfl) ?_
    refine lv_aload_n hx hb d_Code_needBehind_44 rfl (lv_at hl 0 rfl) ?_
    refine va_get (D := D) (ci := 0) (v := .ref qt_b) (C := R_Code) (T := T_Code) (N := 7) hx hb hts in_Code hown hK.1 hP 0 rfl rfl 3 (by decide) (hts _ a_42) (fun _ h9 => h9) rfl d_Code_needBehind_45 ?_
    refine lv_iload_n hx hb d_Code_needBehind_48 rfl (lv_at hl 1 rfl) ?_
    obtain ⟨v4, e_v4, hm⟩ := ob hm
    refine vx_iald hx hb hK hP 3 rfl e_v4 d_Code_needBehind_49 ?_
    obtain ⟨rz5, e_rz5, hm⟩ := ob hm
    have hC : ([0, 4] : List Nat).map (fun i => (ww_Code_needBehind cI cJ cZ qt qt_op qt_d qt_a qt_b qt_need t_length t_leaders t_op t_a t_b t_need)[i]?) = (ww_Code_needAt cI cJ cZ qt qt_op qt_d qt_a qt_b qt_need t_length t_leaders t_need).map some := rfl
    refine vj_i (w1 := (ww_Code_needAt cI cJ cZ qt qt_op qt_d qt_a qt_b qt_need t_length t_leaders t_need)) (wn := (ww_Code_needBehind cI cJ cZ qt qt_op qt_d qt_a qt_b qt_need t_length t_leaders t_op t_a t_b t_need)) (isR := [1, 2, 3]) (nw := 5) (vr_V (C := R_Code) (n := 1) (As := [.int v4]) S ((c_Code_needAt l D cI cJ cZ qt qt_op qt_d qt_a qt_b qt_need t_length t_leaders t_need v4 rz5 e_rz5) H.size) a_295 a_229 a_230 a_2 a_231 (by decide +kernel) ⟨rfl, rfl⟩ ⟨Nat.le_of_ble_eq_true rfl, Nat.le_of_ble_eq_true rfl⟩ (ci := 0) (q0 := 0) rfl rfl hK hP hD (by decide) hC rfl hl.1 (Nat.le_of_ble_eq_true rfl) d_Code_needBehind_50 ⟨Nat.zero_le _, Nat.zero_le _⟩ rfl) hP hD hS hA hC rfl rfl (vx_c rfl rfl (vx_c rfl rfl (vx_c rfl rfl vx_n))) rfl (by decide) (fun H locs hP hD hS => ?_)
    refine lv_aload_n hx hb d_Code_needBehind_53 rfl (lv_at hl 0 rfl) ?_
    refine lv_iload_n hx hb d_Code_needBehind_54 rfl (lv_at hl 1 rfl) ?_
    refine lv_iconst (v := (1 : Int32)) hx hb d_Code_needBehind_55 (by decide) ?_
    refine lv_iadd hx hb d_Code_needBehind_56 ?_
    obtain ⟨rz6, e_rz6, hm⟩ := ob hm
    have hC : ([0, 4] : List Nat).map (fun i => (ww_Code_needBehind cI cJ cZ qt qt_op qt_d qt_a qt_b qt_need t_length t_leaders t_op t_a t_b t_need)[i]?) = (ww_Code_needAt cI cJ cZ qt qt_op qt_d qt_a qt_b qt_need t_length t_leaders t_need).map some := rfl
    refine vj_i (w1 := (ww_Code_needAt cI cJ cZ qt qt_op qt_d qt_a qt_b qt_need t_length t_leaders t_need)) (wn := (ww_Code_needBehind cI cJ cZ qt qt_op qt_d qt_a qt_b qt_need t_length t_leaders t_op t_a t_b t_need)) (isR := [1, 2, 3]) (nw := 5) (vr_V (C := R_Code) (n := 1) (As := [.int (p1 + (1 : Int32))]) S ((c_Code_needAt l D cI cJ cZ qt qt_op qt_d qt_a qt_b qt_need t_length t_leaders t_need (p1 + (1 : Int32)) rz6 e_rz6) H.size) a_295 a_229 a_230 a_2 a_231 (by decide +kernel) ⟨rfl, rfl⟩ ⟨Nat.le_of_ble_eq_true rfl, Nat.le_of_ble_eq_true rfl⟩ (ci := 0) (q0 := 0) rfl rfl hK hP hD (by decide) hC rfl hl.1 (Nat.le_of_ble_eq_true rfl) d_Code_needBehind_57 ⟨Nat.zero_le _, Nat.zero_le _⟩ rfl) hP hD hS hA hC rfl rfl (vx_c rfl rfl (vx_c rfl rfl (vx_c rfl rfl vx_n))) rfl (by decide) (fun H locs hP hD hS => ?_)
    refine lv_ior hx hb d_Code_needBehind_60 ?_
    cases hm
    exact W.iret hx hb hr (fun t ht hW => hQ t _ _ ht hW hP hS) hS.2.2 d_Code_needBehind_61 hlk
  have hm := iff_ hk9 hm
  by_cases hk10 : v1 = (10 : Int32)
  · have hm := ift hk10 hm
    refine lv_tableIn (off := 56) (tgt := 62) hx hb d_Code_needBehind_6 (by rw [hk10]; decide) (by rw [hk10]; decide) (by rw [hk10]; rfl) (by decide) ?_
    refine lv_iconst (v := (0 : Int32)) hx hb d_Code_needBehind_62 (by decide) ?_
    cases hm
    exact W.iret hx hb hr (fun t ht hW => hQ t _ _ ht hW hP hS) hS.2.2 d_Code_needBehind_63 hlk
  have hm := iff_ hk10 hm
  refine lv_tableOut (tgt := 64) hx hb d_Code_needBehind_6 (by have nhk8 := lv_neT (a := 8) hk8 (by decide); have nhk9 := lv_neT (a := 9) hk9 (by decide); have nhk10 := lv_neT (a := 10) hk10 (by decide); omega) (by decide) ?_
  refine lv_aload_n hx hb d_Code_needBehind_64 rfl (lv_at hl 0 rfl) ?_
  refine lv_iload_n hx hb d_Code_needBehind_65 rfl (lv_at hl 1 rfl) ?_
  refine lv_iconst (v := (1 : Int32)) hx hb d_Code_needBehind_66 (by decide) ?_
  refine lv_iadd hx hb d_Code_needBehind_67 ?_
  obtain ⟨rz7, e_rz7, hm⟩ := ob hm
  have hC : ([0, 4] : List Nat).map (fun i => (ww_Code_needBehind cI cJ cZ qt qt_op qt_d qt_a qt_b qt_need t_length t_leaders t_op t_a t_b t_need)[i]?) = (ww_Code_needAt cI cJ cZ qt qt_op qt_d qt_a qt_b qt_need t_length t_leaders t_need).map some := rfl
  refine vj_i (w1 := (ww_Code_needAt cI cJ cZ qt qt_op qt_d qt_a qt_b qt_need t_length t_leaders t_need)) (wn := (ww_Code_needBehind cI cJ cZ qt qt_op qt_d qt_a qt_b qt_need t_length t_leaders t_op t_a t_b t_need)) (isR := [1, 2, 3]) (nw := 5) (vr_V (C := R_Code) (n := 1) (As := [.int (p1 + (1 : Int32))]) S ((c_Code_needAt l D cI cJ cZ qt qt_op qt_d qt_a qt_b qt_need t_length t_leaders t_need (p1 + (1 : Int32)) rz7 e_rz7) H.size) a_295 a_229 a_230 a_2 a_231 (by decide +kernel) ⟨rfl, rfl⟩ ⟨Nat.le_of_ble_eq_true rfl, Nat.le_of_ble_eq_true rfl⟩ (ci := 0) (q0 := 0) rfl rfl hK hP hD (by decide) hC rfl hl.1 (Nat.le_of_ble_eq_true rfl) d_Code_needBehind_68 ⟨Nat.zero_le _, Nat.zero_le _⟩ rfl) hP hD hS hA hC rfl rfl (vx_c rfl rfl (vx_c rfl rfl (vx_c rfl rfl vx_n))) rfl (by decide) (fun H locs hP hD hS => ?_)
  cases hm
  exact W.iret hx hb hr (fun t ht hW => hQ t _ _ ht hW hP hS) hS.2.2 d_Code_needBehind_71 hlk
set_option maxHeartbeats 4000000 in
set_option maxRecDepth 100000 in
theorem c_Code_needBehind (l : Launch) (D : va_G) (cI cJ cZ : ClassId) (qt : Nat) (qt_op : Nat) (qt_d : Nat) (qt_a : Nat) (qt_b : Nat) (qt_need : Nat) (t_length : Int32) (t_leaders : Int32) (t_op : Nat → Int32) (t_a : Nat → Int32) (t_b : Nat → Int32) (t_need : Nat → Int32) (p1 : Int32) (o_r : Int32) (hm : f_Code_needBehind p1 t_op t_a t_b t_need t_length = some o_r) : MI l y_Code_needBehind b_Code_needBehind 2 .int rm_Code_needBehind D cI cJ cZ [.ref qt, .int p1] (ww_Code_needBehind cI cJ cZ qt qt_op qt_d qt_a qt_b qt_need t_length t_leaders t_op t_a t_b t_need) (ww_Code_needBehind cI cJ cZ qt qt_op qt_d qt_a qt_b qt_need t_length t_leaders t_op t_a t_b t_need) o_r := by
  intro sz
  refine Met.ofW (cc := b_Code_needBehind) (maxL := 2) (ret := (some .int)) (by decide) rfl ?_
  intro p e s m args below meth c s₁ B hml hv
  obtain ⟨rfl, hsz, hP, hK, hD0⟩ := hv
  have hts := atoms_spec (ws := Cond.code y_Code_needBehind b_Code_needBehind 2 (some .int) :: tbg) B.pre
  have S : CallFix p m c b_Code_needBehind 2 s ([.ref qt, .int p1] : List Value).toArray tbg R_Code := ⟨B.exec, B.bytes, hml, findClass_of_methodNamed B.named, fun w hw => hts w (List.mem_cons_of_mem _ hw)⟩
  subst hsz
  have hD := hD0.self (sz := s.heap.size)
  have hl := lv_entry ([.ref qt, .int p1] : List Value) (n := 2) (Nat.le_of_ble_eq_true rfl)
  rw [lg_entry_eq]
  generalize (lg_sl ([.ref qt, .int p1] : List Value) ++ List.replicate (2 - (lg_sl ([.ref qt, .int p1] : List Value)).length) Slot.unset).toArray = ls at hl ⊢
  have hl : lv_has ls 2 [(0, .ref qt), (1, .int p1)] := hl
  exact w_Code_needBehind S B.returns B.notSynchronized hK (fun q h => Or.inr h) qt qt_op qt_d qt_a qt_b qt_need p1 t_op t_a t_b t_need t_length t_leaders o_r (fun t H locs ht hW hP hS => ⟨⟨_, (), rfl, rfl, sB_of ht hP⟩, hS.F ht⟩) s.heap [] ls hl hP hD va_S.rf hm
set_option maxHeartbeats 4000000 in
set_option maxRecDepth 100000 in
theorem w_Code_madeBy {p : Program} {l : Launch} {e : Env} {s : State} {m : MethodId} {args : Array Value} {below : List Frame} {meth : Method} {c : Code} {D : va_G} {cI cJ cZ : ClassId} {A : Nat → Prop} {Qc : Array Value → State → Outcome → State → Prop} (S : CallFix p m c b_Code_madeBy 2 s args tbg R_Code) (hr : meth.sig.returnType = (some .int)) (hlk : meth.locks = false) (hK : kx D cI cJ cZ s) (hA : ∀ q, s.heap.size ≤ q → A q) (qt : Nat) (qt_op : Nat) (qt_d : Nat) (qt_a : Nat) (qt_b : Nat) (qt_need : Nat) (p1 : Int32) (t_op : Nat → Int32) (t_d : Nat → Int32) (t_length : Int32) (t_leaders : Int32) (o_r : Int32) (hQ : ∀ (t : State) (H : Heap) (locs : List Loc), t.heap = H → s.WarmedH t.vm → va_P D classes (ww_Code_madeBy cI cJ cZ qt qt_op qt_d qt_a qt_b qt_need t_length t_leaders t_op t_d) H → va_S A s.heap H locs → Qc args s (.returned (some (.int o_r))) t) (H : Heap) (locs : List Loc) (ls : Array Slot) (hl : lv_has ls 2 [(0, .ref qt), (1, .int p1)]) (hP : va_P D classes (ww_Code_madeBy cI cJ cZ qt qt_op qt_d qt_a qt_b qt_need t_length t_leaders t_op t_d) H) (hD : va_D A (ww_Code_madeBy cI cJ cZ qt qt_op qt_d qt_a qt_b qt_need t_length t_leaders t_op t_d)) (hS : va_S A s.heap H locs) (hm : f_Code_madeBy p1 t_op t_d = some o_r) : W p l e rm_Code_madeBy s m args below meth c H locs 0 0 (MQ below Qc args s 0 0 A) (F0 m 0 ls []) := by
  obtain ⟨hx, hb, hml, hown, hts⟩ := id S
  unfold f_Code_madeBy at hm
  refine lv_aload_n hx hb d_Code_madeBy_0 rfl (lv_at hl 0 rfl) ?_
  refine va_get (D := D) (ci := 0) (v := .ref qt_op) (C := R_Code) (T := T_Code) (N := 7) hx hb hts in_Code hown hK.1 hP 0 rfl rfl 0 (by decide) (hts _ a_27) (fun _ h9 => h9) rfl d_Code_madeBy_1 ?_
  refine lv_iload_n hx hb d_Code_madeBy_4 rfl (lv_at hl 1 rfl) ?_
  obtain ⟨v1, e_v1, hm⟩ := ob hm
  refine vx_iald hx hb hK hP 1 rfl e_v1 d_Code_madeBy_5 ?_
  obtain ⟨rz2, e_rz2, hm⟩ := ob hm
  have hC : ([] : List Nat).map (fun i => (ww_Code_madeBy cI cJ cZ qt qt_op qt_d qt_a qt_b qt_need t_length t_leaders t_op t_d)[i]?) = (ww_BlockCode_makesRegister cI cJ cZ).map some := rfl
  refine vj_i (w1 := (ww_BlockCode_makesRegister cI cJ cZ)) (wn := (ww_Code_madeBy cI cJ cZ qt qt_op qt_d qt_a qt_b qt_need t_length t_leaders t_op t_d)) (isR := [0, 1, 2]) (nw := 3) (vr_SN (host := "BlockCode") (n := 1) (As := [.int v1]) S ((c_BlockCode_makesRegister l D cI cJ cZ v1 rz2 e_rz2) H.size) an_258 a_240 a_1 a_241 (by decide +kernel) ⟨rfl, rfl⟩ ⟨Nat.le_of_ble_eq_true rfl, Nat.le_of_ble_eq_true rfl⟩ hK hP hD (by decide) hC rfl hl.1 (Nat.le_of_ble_eq_true rfl) d_Code_madeBy_6 ⟨Nat.zero_le _, Nat.zero_le _⟩ rfl) hP hD hS hA hC rfl rfl (vx_c rfl rfl (vx_c rfl rfl (vx_c rfl rfl vx_n))) rfl (by decide) (fun H locs hP hD hS => ?_)
  refine lv_if_eq (tgt := 23) hx hb d_Code_madeBy_9 (by decide) (fun hc => ?_) (fun hc => ?_)
  · have hm := ift hc hm
    refine lv_iconst (v := (0 : Int32)) hx hb d_Code_madeBy_23 (by decide) ?_
    cases hm
    exact W.iret hx hb hr (fun t ht hW => hQ t _ _ ht hW hP hS) hS.2.2 d_Code_madeBy_24 hlk
  · have hm := iff_ hc hm
    refine lv_iconst (v := (1 : Int32)) hx hb d_Code_madeBy_12 (by decide) ?_
    refine lv_aload_n hx hb d_Code_madeBy_13 rfl (lv_at hl 0 rfl) ?_
    refine va_get (D := D) (ci := 0) (v := .ref qt_d) (C := R_Code) (T := T_Code) (N := 7) hx hb hts in_Code hown hK.1 hP 0 rfl rfl 1 (by decide) (hts _ a_32) (fun _ h9 => h9) rfl d_Code_madeBy_14 ?_
    refine lv_iload_n hx hb d_Code_madeBy_17 rfl (lv_at hl 1 rfl) ?_
    obtain ⟨v3, e_v3, hm⟩ := ob hm
    refine vx_iald hx hb hK hP 2 rfl e_v3 d_Code_madeBy_18 ?_
    refine lv_ishl hx hb d_Code_madeBy_19 ?_
    refine lv_goto (tgt := 24) hx hb d_Code_madeBy_20 (by decide) ?_
    cases hm
    exact W.iret hx hb hr (fun t ht hW => hQ t _ _ ht hW hP hS) hS.2.2 d_Code_madeBy_24 hlk
set_option maxHeartbeats 4000000 in
set_option maxRecDepth 100000 in
theorem c_Code_madeBy (l : Launch) (D : va_G) (cI cJ cZ : ClassId) (qt : Nat) (qt_op : Nat) (qt_d : Nat) (qt_a : Nat) (qt_b : Nat) (qt_need : Nat) (t_length : Int32) (t_leaders : Int32) (t_op : Nat → Int32) (t_d : Nat → Int32) (p1 : Int32) (o_r : Int32) (hm : f_Code_madeBy p1 t_op t_d = some o_r) : MI l y_Code_madeBy b_Code_madeBy 2 .int rm_Code_madeBy D cI cJ cZ [.ref qt, .int p1] (ww_Code_madeBy cI cJ cZ qt qt_op qt_d qt_a qt_b qt_need t_length t_leaders t_op t_d) (ww_Code_madeBy cI cJ cZ qt qt_op qt_d qt_a qt_b qt_need t_length t_leaders t_op t_d) o_r := by
  intro sz
  refine Met.ofW (cc := b_Code_madeBy) (maxL := 2) (ret := (some .int)) (by decide) rfl ?_
  intro p e s m args below meth c s₁ B hml hv
  obtain ⟨rfl, hsz, hP, hK, hD0⟩ := hv
  have hts := atoms_spec (ws := Cond.code y_Code_madeBy b_Code_madeBy 2 (some .int) :: tbg) B.pre
  have S : CallFix p m c b_Code_madeBy 2 s ([.ref qt, .int p1] : List Value).toArray tbg R_Code := ⟨B.exec, B.bytes, hml, findClass_of_methodNamed B.named, fun w hw => hts w (List.mem_cons_of_mem _ hw)⟩
  subst hsz
  have hD := hD0.self (sz := s.heap.size)
  have hl := lv_entry ([.ref qt, .int p1] : List Value) (n := 2) (Nat.le_of_ble_eq_true rfl)
  rw [lg_entry_eq]
  generalize (lg_sl ([.ref qt, .int p1] : List Value) ++ List.replicate (2 - (lg_sl ([.ref qt, .int p1] : List Value)).length) Slot.unset).toArray = ls at hl ⊢
  have hl : lv_has ls 2 [(0, .ref qt), (1, .int p1)] := hl
  exact w_Code_madeBy S B.returns B.notSynchronized hK (fun q h => Or.inr h) qt qt_op qt_d qt_a qt_b qt_need p1 t_op t_d t_length t_leaders o_r (fun t H locs ht hW hP hS => ⟨⟨_, (), rfl, rfl, sB_of ht hP⟩, hS.F ht⟩) s.heap [] ls hl hP hD va_S.rf hm
set_option maxHeartbeats 4000000 in
set_option maxRecDepth 100000 in
theorem w_Code_findNeeds_91 {p : Program} {l : Launch} {e : Env} {s : State} {m : MethodId} {args : Array Value} {below : List Frame} {meth : Method} {c : Code} {D : va_G} {cI cJ cZ : ClassId} {A : Nat → Prop} {Qc : Array Value → State → Outcome → State → Prop} (S : CallFix p m c b_Code_findNeeds 5 s args tbg R_Code) (hr : meth.sig.returnType = none) (hlk : meth.locks = false) (hK : kx D cI cJ cZ s) (hA : ∀ q, s.heap.size ≤ q → A q) (qt : Nat) (qt_op : Nat) (qt_d : Nat) (qt_a : Nat) (qt_b : Nat) (qt_need : Nat) (t_op : Nat → Int32) (t_d : Nat → Int32) (t_a : Nat → Int32) (t_b : Nat → Int32) (t_length : Int32) (t_leaders : Int32) (o_t_need : Nat → Int32) (hQ : ∀ (t : State) (H : Heap) (locs : List Loc), t.heap = H → s.WarmedH t.vm → va_P D classes (ww_Code_findNeeds cI cJ cZ qt qt_op qt_d qt_a qt_b qt_need t_length t_leaders t_op t_d t_a t_b o_t_need) H → va_S A s.heap H locs → Qc args s (.returned none) t) (k27 : Int32 → Int32 → (Nat → Int32) → Option ((Nat → Int32))) (hk27 : ∀ (H : Heap) (locs : List Loc) (ls : Array Slot) (x1 : Int32) (x2 : Int32) (t_need : Nat → Int32), lv_has ls 5 [(0, .ref qt), (1, .int x1), (2, .int x2)] → va_P D classes (ww_Code_findNeeds cI cJ cZ qt qt_op qt_d qt_a qt_b qt_need t_length t_leaders t_op t_d t_a t_b t_need) H → va_D A (ww_Code_findNeeds cI cJ cZ qt qt_op qt_d qt_a qt_b qt_need t_length t_leaders t_op t_d t_a t_b t_need) → va_S A s.heap H locs → k27 x1 x2 t_need = some o_t_need → W p l e rm_Code_findNeeds s m args below meth c H locs 0 0 (MQ below Qc args s 0 0 A) (F0 m 27 ls [])) (k46 : Int32 → Int32 → Int32 → (Nat → Int32) → Option ((Nat → Int32))) (hk46 : ∀ (H : Heap) (locs : List Loc) (ls : Array Slot) (x1 : Int32) (x2 : Int32) (x3 : Int32) (t_need : Nat → Int32), lv_has ls 5 [(0, .ref qt), (1, .int x1), (2, .int x2), (3, .int x3)] → va_P D classes (ww_Code_findNeeds cI cJ cZ qt qt_op qt_d qt_a qt_b qt_need t_length t_leaders t_op t_d t_a t_b t_need) H → va_D A (ww_Code_findNeeds cI cJ cZ qt qt_op qt_d qt_a qt_b qt_need t_length t_leaders t_op t_d t_a t_b t_need) → va_S A s.heap H locs → k46 x1 x2 x3 t_need = some o_t_need → W p l e rm_Code_findNeeds s m args below meth c H locs 0 0 (MQ below Qc args s 0 0 A) (F0 m 46 ls [])) : ∀ (H : Heap) (locs : List Loc) (ls : Array Slot) (x2 : Int32) (x3 : Int32) (x4 : Int32) (s0 : Int32) (t_need : Nat → Int32), lv_has ls 5 [(0, .ref qt), (2, .int x2), (3, .int x3), (4, .int x4)] → va_P D classes (ww_Code_findNeeds cI cJ cZ qt qt_op qt_d qt_a qt_b qt_need t_length t_leaders t_op t_d t_a t_b t_need) H → va_D A (ww_Code_findNeeds cI cJ cZ qt qt_op qt_d qt_a qt_b qt_need t_length t_leaders t_op t_d t_a t_b t_need) → va_S A s.heap H locs → f_Code_findNeeds_91 t_op t_d t_a t_b t_length k27 k46 x2 x3 x4 s0 t_need = some o_t_need → W p l e rm_Code_findNeeds s m args below meth c H locs 0 0 (MQ below Qc args s 0 0 A) (F0 m 91 ls [.int s0]) := by
  obtain ⟨hx, hb, hml, hown, hts⟩ := id S
  intro H locs ls x2 x3 x4 s0 t_need hl hP hD hS hm
  unfold f_Code_findNeeds_91 at hm
  refine lv_istore_n hx hb d_Code_findNeeds_91 rfl hl (by decide) rfl (fun ls hl => ?_)
  have hl : lv_has ls 5 [(1, .int s0), (0, .ref qt), (2, .int x2), (3, .int x3), (4, .int x4)] := hl
  refine lv_aload_n hx hb d_Code_findNeeds_92 rfl (lv_at hl 1 rfl) ?_
  refine va_get (D := D) (ci := 0) (v := .ref qt_need) (C := R_Code) (T := T_Code) (N := 7) hx hb hts in_Code hown hK.1 hP 0 rfl rfl 4 (by decide) (hts _ a_47) (fun _ h9 => h9) rfl d_Code_findNeeds_93 ?_
  refine lv_iload_n hx hb d_Code_findNeeds_96 rfl (lv_at hl 3 rfl) ?_
  refine lv_iload hx hb d_Code_findNeeds_97 (lv_at hl 4 rfl) ?_
  obtain ⟨w1, e_w1, hm⟩ := ob hm
  refine vx_iast hx hb hK hP hD hS 5 rfl e_w1 d_Code_findNeeds_99 (fun H locs hP hD hS => ?_)
  have hP : va_P D classes (ww_Code_findNeeds cI cJ cZ qt qt_op qt_d qt_a qt_b qt_need t_length t_leaders t_op t_d t_a t_b w1) H := hP
  have hD : va_D A (ww_Code_findNeeds cI cJ cZ qt qt_op qt_d qt_a qt_b qt_need t_length t_leaders t_op t_d t_a t_b w1) := hD
  refine lv_iinc (k := 3) (v := (x3 + (-1 : Int32))) hx hb d_Code_findNeeds_100 hl rfl (iinc_v (by decide)) (by decide) rfl (fun ls hl => ?_)
  have hl : lv_has ls 5 [(3, .int (x3 + (-1 : Int32))), (1, .int s0), (0, .ref qt), (2, .int x2), (4, .int x4)] := hl
  refine lv_goto (tgt := 46) hx hb d_Code_findNeeds_103 (by decide) ?_
  exact hk46 H locs ls s0 x2 (x3 + (-1 : Int32)) w1 (lv_sub hl [2, 1, 3, 0] rfl) hP hD hS hm
set_option maxHeartbeats 4000000 in
set_option maxRecDepth 100000 in
theorem w_Code_findNeeds_86 {p : Program} {l : Launch} {e : Env} {s : State} {m : MethodId} {args : Array Value} {below : List Frame} {meth : Method} {c : Code} {D : va_G} {cI cJ cZ : ClassId} {A : Nat → Prop} {Qc : Array Value → State → Outcome → State → Prop} (S : CallFix p m c b_Code_findNeeds 5 s args tbg R_Code) (hr : meth.sig.returnType = none) (hlk : meth.locks = false) (hK : kx D cI cJ cZ s) (hA : ∀ q, s.heap.size ≤ q → A q) (qt : Nat) (qt_op : Nat) (qt_d : Nat) (qt_a : Nat) (qt_b : Nat) (qt_need : Nat) (t_op : Nat → Int32) (t_d : Nat → Int32) (t_a : Nat → Int32) (t_b : Nat → Int32) (t_length : Int32) (t_leaders : Int32) (o_t_need : Nat → Int32) (hQ : ∀ (t : State) (H : Heap) (locs : List Loc), t.heap = H → s.WarmedH t.vm → va_P D classes (ww_Code_findNeeds cI cJ cZ qt qt_op qt_d qt_a qt_b qt_need t_length t_leaders t_op t_d t_a t_b o_t_need) H → va_S A s.heap H locs → Qc args s (.returned none) t) (k27 : Int32 → Int32 → (Nat → Int32) → Option ((Nat → Int32))) (hk27 : ∀ (H : Heap) (locs : List Loc) (ls : Array Slot) (x1 : Int32) (x2 : Int32) (t_need : Nat → Int32), lv_has ls 5 [(0, .ref qt), (1, .int x1), (2, .int x2)] → va_P D classes (ww_Code_findNeeds cI cJ cZ qt qt_op qt_d qt_a qt_b qt_need t_length t_leaders t_op t_d t_a t_b t_need) H → va_D A (ww_Code_findNeeds cI cJ cZ qt qt_op qt_d qt_a qt_b qt_need t_length t_leaders t_op t_d t_a t_b t_need) → va_S A s.heap H locs → k27 x1 x2 t_need = some o_t_need → W p l e rm_Code_findNeeds s m args below meth c H locs 0 0 (MQ below Qc args s 0 0 A) (F0 m 27 ls [])) (k46 : Int32 → Int32 → Int32 → (Nat → Int32) → Option ((Nat → Int32))) (hk46 : ∀ (H : Heap) (locs : List Loc) (ls : Array Slot) (x1 : Int32) (x2 : Int32) (x3 : Int32) (t_need : Nat → Int32), lv_has ls 5 [(0, .ref qt), (1, .int x1), (2, .int x2), (3, .int x3)] → va_P D classes (ww_Code_findNeeds cI cJ cZ qt qt_op qt_d qt_a qt_b qt_need t_length t_leaders t_op t_d t_a t_b t_need) H → va_D A (ww_Code_findNeeds cI cJ cZ qt qt_op qt_d qt_a qt_b qt_need t_length t_leaders t_op t_d t_a t_b t_need) → va_S A s.heap H locs → k46 x1 x2 x3 t_need = some o_t_need → W p l e rm_Code_findNeeds s m args below meth c H locs 0 0 (MQ below Qc args s 0 0 A) (F0 m 46 ls [])) : ∀ (H : Heap) (locs : List Loc) (ls : Array Slot) (x2 : Int32) (x3 : Int32) (x4 : Int32) (t_need : Nat → Int32), lv_has ls 5 [(0, .ref qt), (2, .int x2), (3, .int x3), (4, .int x4)] → va_P D classes (ww_Code_findNeeds cI cJ cZ qt qt_op qt_d qt_a qt_b qt_need t_length t_leaders t_op t_d t_a t_b t_need) H → va_D A (ww_Code_findNeeds cI cJ cZ qt qt_op qt_d qt_a qt_b qt_need t_length t_leaders t_op t_d t_a t_b t_need) → va_S A s.heap H locs → f_Code_findNeeds_86 t_op t_d t_a t_b t_length k27 k46 x2 x3 x4 t_need = some o_t_need → W p l e rm_Code_findNeeds s m args below meth c H locs 0 0 (MQ below Qc args s 0 0 A) (F0 m 86 ls []) := by
  obtain ⟨hx, hb, hml, hown, hts⟩ := id S
  intro H locs ls x2 x3 x4 t_need hl hP hD hS hm
  unfold f_Code_findNeeds_86 at hm
  refine lv_iconst (v := (1 : Int32)) hx hb d_Code_findNeeds_86 (by decide) ?_
  refine lv_goto (tgt := 91) hx hb d_Code_findNeeds_87 (by decide) ?_
  exact w_Code_findNeeds_91 S hr hlk hK hA qt qt_op qt_d qt_a qt_b qt_need t_op t_d t_a t_b t_length t_leaders o_t_need hQ k27 hk27 k46 hk46 H locs ls x2 x3 x4 (1 : Int32) t_need (lv_sub hl [0, 1, 2, 3] rfl) hP hD hS hm
set_option maxHeartbeats 4000000 in
set_option maxRecDepth 100000 in
theorem w_Code_findNeeds_46 {p : Program} {l : Launch} {e : Env} {s : State} {m : MethodId} {args : Array Value} {below : List Frame} {meth : Method} {c : Code} {D : va_G} {cI cJ cZ : ClassId} {A : Nat → Prop} {Qc : Array Value → State → Outcome → State → Prop} (S : CallFix p m c b_Code_findNeeds 5 s args tbg R_Code) (hr : meth.sig.returnType = none) (hlk : meth.locks = false) (hK : kx D cI cJ cZ s) (hA : ∀ q, s.heap.size ≤ q → A q) (qt : Nat) (qt_op : Nat) (qt_d : Nat) (qt_a : Nat) (qt_b : Nat) (qt_need : Nat) (t_op : Nat → Int32) (t_d : Nat → Int32) (t_a : Nat → Int32) (t_b : Nat → Int32) (t_length : Int32) (t_leaders : Int32) (o_t_need : Nat → Int32) (hQ : ∀ (t : State) (H : Heap) (locs : List Loc), t.heap = H → s.WarmedH t.vm → va_P D classes (ww_Code_findNeeds cI cJ cZ qt qt_op qt_d qt_a qt_b qt_need t_length t_leaders t_op t_d t_a t_b o_t_need) H → va_S A s.heap H locs → Qc args s (.returned none) t) (k27 : Int32 → Int32 → (Nat → Int32) → Option ((Nat → Int32))) (hk27 : ∀ (H : Heap) (locs : List Loc) (ls : Array Slot) (x1 : Int32) (x2 : Int32) (t_need : Nat → Int32), lv_has ls 5 [(0, .ref qt), (1, .int x1), (2, .int x2)] → va_P D classes (ww_Code_findNeeds cI cJ cZ qt qt_op qt_d qt_a qt_b qt_need t_length t_leaders t_op t_d t_a t_b t_need) H → va_D A (ww_Code_findNeeds cI cJ cZ qt qt_op qt_d qt_a qt_b qt_need t_length t_leaders t_op t_d t_a t_b t_need) → va_S A s.heap H locs → k27 x1 x2 t_need = some o_t_need → W p l e rm_Code_findNeeds s m args below meth c H locs 0 0 (MQ below Qc args s 0 0 A) (F0 m 27 ls [])) (n : Nat) : ∀ (H : Heap) (locs : List Loc) (ls : Array Slot) (x1 : Int32) (x2 : Int32) (x3 : Int32) (t_need : Nat → Int32), lv_has ls 5 [(0, .ref qt), (1, .int x1), (2, .int x2), (3, .int x3)] → va_P D classes (ww_Code_findNeeds cI cJ cZ qt qt_op qt_d qt_a qt_b qt_need t_length t_leaders t_op t_d t_a t_b t_need) H → va_D A (ww_Code_findNeeds cI cJ cZ qt qt_op qt_d qt_a qt_b qt_need t_length t_leaders t_op t_d t_a t_b t_need) → va_S A s.heap H locs → f_Code_findNeeds_46 t_op t_d t_a t_b t_length k27 n x1 x2 x3 t_need = some o_t_need → W p l e rm_Code_findNeeds s m args below meth c H locs 0 0 (MQ below Qc args s 0 0 A) (F0 m 46 ls []) := by
  obtain ⟨hx, hb, hml, hown, hts⟩ := id S
  induction n with
  | zero =>
    intro H locs ls x1 x2 x3 t_need hl hP hD hS hm
    rw [f_Code_findNeeds_46] at hm
    cases hm
  | succ n ih =>
    intro H locs ls x1 x2 x3 t_need hl hP hD hS hm
    rw [f_Code_findNeeds_46] at hm
    refine lv_iload_n hx hb d_Code_findNeeds_46 rfl (lv_at hl 3 rfl) ?_
    refine lv_if_lt (tgt := 106) hx hb d_Code_findNeeds_47 (by decide) (fun hc => ?_) (fun hc => ?_)
    · have hm := ift hc hm
      refine lv_iinc (k := 2) (v := (x2 + (1 : Int32))) hx hb d_Code_findNeeds_106 hl rfl (iinc_v (by decide)) (by decide) rfl (fun ls hl => ?_)
      have hl : lv_has ls 5 [(2, .int (x2 + (1 : Int32))), (0, .ref qt), (1, .int x1), (3, .int x3)] := hl
      refine lv_goto (tgt := 27) hx hb d_Code_findNeeds_109 (by decide) ?_
      exact hk27 H locs ls x1 (x2 + (1 : Int32)) t_need (lv_sub hl [1, 2, 0] rfl) hP hD hS hm
    · have hm := iff_ hc hm
      refine lv_aload_n hx hb d_Code_findNeeds_50 rfl (lv_at hl 0 rfl) ?_
      refine lv_iload_n hx hb d_Code_findNeeds_51 rfl (lv_at hl 3 rfl) ?_
      obtain ⟨rz1, e_rz1, hm⟩ := ob hm
      have hC : ([0, 1, 3, 4] : List Nat).map (fun i => (ww_Code_findNeeds cI cJ cZ qt qt_op qt_d qt_a qt_b qt_need t_length t_leaders t_op t_d t_a t_b t_need)[i]?) = (ww_Code_operandsOf cI cJ cZ qt qt_op qt_d qt_a qt_b qt_need t_length t_leaders t_op t_a t_b).map some := rfl
      refine vj_i (w1 := (ww_Code_operandsOf cI cJ cZ qt qt_op qt_d qt_a qt_b qt_need t_length t_leaders t_op t_a t_b)) (wn := (ww_Code_findNeeds cI cJ cZ qt qt_op qt_d qt_a qt_b qt_need t_length t_leaders t_op t_d t_a t_b t_need)) (isR := [2, 5]) (nw := 6) (vr_V (C := R_Code) (n := 1) (As := [.int x3]) S ((c_Code_operandsOf l D cI cJ cZ qt qt_op qt_d qt_a qt_b qt_need t_length t_leaders t_op t_a t_b x3 rz1 e_rz1) H.size) a_286 a_288 ap_1 a_2 a_289 (by decide +kernel) ⟨rfl, rfl⟩ ⟨Nat.le_of_ble_eq_true rfl, Nat.le_of_ble_eq_true rfl⟩ (ci := 0) (q0 := 0) rfl rfl hK hP hD (by decide) hC rfl hl.1 (Nat.le_of_ble_eq_true rfl) d_Code_findNeeds_52 ⟨Nat.zero_le _, Nat.zero_le _⟩ rfl) hP hD hS hA hC rfl rfl (vx_c rfl rfl (vx_c rfl rfl vx_n)) rfl (by decide) (fun H locs hP hD hS => ?_)
      refine lv_aload_n hx hb d_Code_findNeeds_55 rfl (lv_at hl 0 rfl) ?_
      refine lv_iload_n hx hb d_Code_findNeeds_56 rfl (lv_at hl 3 rfl) ?_
      obtain ⟨rz2, e_rz2, hm⟩ := ob hm
      have hC : ([0, 1, 3, 4, 5] : List Nat).map (fun i => (ww_Code_findNeeds cI cJ cZ qt qt_op qt_d qt_a qt_b qt_need t_length t_leaders t_op t_d t_a t_b t_need)[i]?) = (ww_Code_needBehind cI cJ cZ qt qt_op qt_d qt_a qt_b qt_need t_length t_leaders t_op t_a t_b t_need).map some := rfl
      refine vj_i (w1 := (ww_Code_needBehind cI cJ cZ qt qt_op qt_d qt_a qt_b qt_need t_length t_leaders t_op t_a t_b t_need)) (wn := (ww_Code_findNeeds cI cJ cZ qt qt_op qt_d qt_a qt_b qt_need t_length t_leaders t_op t_d t_a t_b t_need)) (isR := [2]) (nw := 6) (vr_V (C := R_Code) (n := 1) (As := [.int x3]) S ((c_Code_needBehind l D cI cJ cZ qt qt_op qt_d qt_a qt_b qt_need t_length t_leaders t_op t_a t_b t_need x3 rz2 e_rz2) H.size) a_291 a_293 ap_2 a_2 a_294 (by decide +kernel) ⟨rfl, rfl⟩ ⟨Nat.le_of_ble_eq_true rfl, Nat.le_of_ble_eq_true rfl⟩ (ci := 0) (q0 := 0) rfl rfl hK hP hD (by decide) hC rfl hl.1 (Nat.le_of_ble_eq_true rfl) d_Code_findNeeds_57 ⟨Nat.zero_le _, Nat.zero_le _⟩ rfl) hP hD hS hA hC rfl rfl (vx_c rfl rfl vx_n) rfl (by decide) (fun H locs hP hD hS => ?_)
      refine lv_aload_n hx hb d_Code_findNeeds_60 rfl (lv_at hl 0 rfl) ?_
      refine lv_iload_n hx hb d_Code_findNeeds_61 rfl (lv_at hl 3 rfl) ?_
      obtain ⟨rz3, e_rz3, hm⟩ := ob hm
      have hC : ([0, 1, 2] : List Nat).map (fun i => (ww_Code_findNeeds cI cJ cZ qt qt_op qt_d qt_a qt_b qt_need t_length t_leaders t_op t_d t_a t_b t_need)[i]?) = (ww_Code_madeBy cI cJ cZ qt qt_op qt_d qt_a qt_b qt_need t_length t_leaders t_op t_d).map some := rfl
      refine vj_i (w1 := (ww_Code_madeBy cI cJ cZ qt qt_op qt_d qt_a qt_b qt_need t_length t_leaders t_op t_d)) (wn := (ww_Code_findNeeds cI cJ cZ qt qt_op qt_d qt_a qt_b qt_need t_length t_leaders t_op t_d t_a t_b t_need)) (isR := [3, 4, 5]) (nw := 6) (vr_V (C := R_Code) (n := 1) (As := [.int x3]) S ((c_Code_madeBy l D cI cJ cZ qt qt_op qt_d qt_a qt_b qt_need t_length t_leaders t_op t_d x3 rz3 e_rz3) H.size) a_296 a_298 ap_3 a_2 a_299 (by decide +kernel) ⟨rfl, rfl⟩ ⟨Nat.le_of_ble_eq_true rfl, Nat.le_of_ble_eq_true rfl⟩ (ci := 0) (q0 := 0) rfl rfl hK hP hD (by decide) hC rfl hl.1 (Nat.le_of_ble_eq_true rfl) d_Code_findNeeds_62 ⟨Nat.zero_le _, Nat.zero_le _⟩ rfl) hP hD hS hA hC rfl rfl (vx_c rfl rfl (vx_c rfl rfl (vx_c rfl rfl vx_n))) rfl (by decide) (fun H locs hP hD hS => ?_)
      refine lv_iconst (v := (-1 : Int32)) hx hb d_Code_findNeeds_65 (by decide) ?_
      refine lv_ixor hx hb d_Code_findNeeds_66 ?_
      refine lv_iand hx hb d_Code_findNeeds_67 ?_
      refine lv_ior hx hb d_Code_findNeeds_68 ?_
      refine lv_istore hx hb d_Code_findNeeds_69 hl (by decide) rfl (fun ls hl => ?_)
      have hl : lv_has ls 5 [(4, .int (rz1 ||| (rz2 &&& (rz3 ^^^ (-1 : Int32))))), (0, .ref qt), (1, .int x1), (2, .int x2), (3, .int x3)] := hl
      refine lv_iload_n hx hb d_Code_findNeeds_71 rfl (lv_at hl 2 rfl) ?_
      refine lv_if_ne (tgt := 86) hx hb d_Code_findNeeds_72 (by decide) (fun hc => ?_) (fun hc => ?_)
      · have hm := iff_ hc hm
        exact w_Code_findNeeds_86 S hr hlk hK hA qt qt_op qt_d qt_a qt_b qt_need t_op t_d t_a t_b t_length t_leaders o_t_need hQ k27 hk27 (f_Code_findNeeds_46 t_op t_d t_a t_b t_length k27 n) ih H locs ls x2 x3 (rz1 ||| (rz2 &&& (rz3 ^^^ (-1 : Int32)))) t_need (lv_sub hl [1, 3, 4, 0] rfl) hP hD hS hm
      · have hm := ift hc hm
        refine lv_iload hx hb d_Code_findNeeds_75 (lv_at hl 0 rfl) ?_
        refine lv_aload_n hx hb d_Code_findNeeds_77 rfl (lv_at hl 1 rfl) ?_
        refine va_get (D := D) (ci := 0) (v := .ref qt_need) (C := R_Code) (T := T_Code) (N := 7) hx hb hts in_Code hown hK.1 hP 0 rfl rfl 4 (by decide) (hts _ a_47) (fun _ h9 => h9) rfl d_Code_findNeeds_78 ?_
        refine lv_iload_n hx hb d_Code_findNeeds_81 rfl (lv_at hl 4 rfl) ?_
        obtain ⟨v4, e_v4, hm⟩ := ob hm
        refine vx_iald hx hb hK hP 5 rfl e_v4 d_Code_findNeeds_82 ?_
        refine lv_icmp_eq (tgt := 90) hx hb d_Code_findNeeds_83 (by decide) (fun hc => ?_) (fun hc => ?_)
        · have hm := ift hc hm
          refine lv_iconst (v := (0 : Int32)) hx hb d_Code_findNeeds_90 (by decide) ?_
          exact w_Code_findNeeds_91 S hr hlk hK hA qt qt_op qt_d qt_a qt_b qt_need t_op t_d t_a t_b t_length t_leaders o_t_need hQ k27 hk27 (f_Code_findNeeds_46 t_op t_d t_a t_b t_length k27 n) ih H locs ls x2 x3 (rz1 ||| (rz2 &&& (rz3 ^^^ (-1 : Int32)))) (0 : Int32) t_need (lv_sub hl [1, 3, 4, 0] rfl) hP hD hS hm
        · have hm := iff_ hc hm
          exact w_Code_findNeeds_86 S hr hlk hK hA qt qt_op qt_d qt_a qt_b qt_need t_op t_d t_a t_b t_length t_leaders o_t_need hQ k27 hk27 (f_Code_findNeeds_46 t_op t_d t_a t_b t_length k27 n) ih H locs ls x2 x3 (rz1 ||| (rz2 &&& (rz3 ^^^ (-1 : Int32)))) t_need (lv_sub hl [1, 3, 4, 0] rfl) hP hD hS hm
set_option maxHeartbeats 4000000 in
set_option maxRecDepth 100000 in
theorem w_Code_findNeeds_27 {p : Program} {l : Launch} {e : Env} {s : State} {m : MethodId} {args : Array Value} {below : List Frame} {meth : Method} {c : Code} {D : va_G} {cI cJ cZ : ClassId} {A : Nat → Prop} {Qc : Array Value → State → Outcome → State → Prop} (S : CallFix p m c b_Code_findNeeds 5 s args tbg R_Code) (hr : meth.sig.returnType = none) (hlk : meth.locks = false) (hK : kx D cI cJ cZ s) (hA : ∀ q, s.heap.size ≤ q → A q) (qt : Nat) (qt_op : Nat) (qt_d : Nat) (qt_a : Nat) (qt_b : Nat) (qt_need : Nat) (t_op : Nat → Int32) (t_d : Nat → Int32) (t_a : Nat → Int32) (t_b : Nat → Int32) (t_length : Int32) (t_leaders : Int32) (o_t_need : Nat → Int32) (hQ : ∀ (t : State) (H : Heap) (locs : List Loc), t.heap = H → s.WarmedH t.vm → va_P D classes (ww_Code_findNeeds cI cJ cZ qt qt_op qt_d qt_a qt_b qt_need t_length t_leaders t_op t_d t_a t_b o_t_need) H → va_S A s.heap H locs → Qc args s (.returned none) t) (n : Nat) : ∀ (H : Heap) (locs : List Loc) (ls : Array Slot) (x1 : Int32) (x2 : Int32) (t_need : Nat → Int32), lv_has ls 5 [(0, .ref qt), (1, .int x1), (2, .int x2)] → va_P D classes (ww_Code_findNeeds cI cJ cZ qt qt_op qt_d qt_a qt_b qt_need t_length t_leaders t_op t_d t_a t_b t_need) H → va_D A (ww_Code_findNeeds cI cJ cZ qt qt_op qt_d qt_a qt_b qt_need t_length t_leaders t_op t_d t_a t_b t_need) → va_S A s.heap H locs → f_Code_findNeeds_27 t_op t_d t_a t_b t_length n x1 x2 t_need = some o_t_need → W p l e rm_Code_findNeeds s m args below meth c H locs 0 0 (MQ below Qc args s 0 0 A) (F0 m 27 ls []) := by
  obtain ⟨hx, hb, hml, hown, hts⟩ := id S
  induction n with
  | zero =>
    intro H locs ls x1 x2 t_need hl hP hD hS hm
    rw [f_Code_findNeeds_27] at hm
    cases hm
  | succ n ih =>
    intro H locs ls x1 x2 t_need hl hP hD hS hm
    rw [f_Code_findNeeds_27] at hm
    refine lv_iload_n hx hb d_Code_findNeeds_27 rfl (lv_at hl 1 rfl) ?_
    refine lv_if_eq (tgt := 112) hx hb d_Code_findNeeds_28 (by decide) (fun hc => ?_) (fun hc => ?_)
    · have hm := ift hc hm
      cases hm
      exact W.vret hx hb hr (fun t ht hW => hQ t _ _ ht hW hP hS) hS.2.2 d_Code_findNeeds_112 hlk
    · have hm := iff_ hc hm
      refine lv_iload_n hx hb d_Code_findNeeds_31 rfl (lv_at hl 2 rfl) ?_
      refine lv_bipush (v := (101 : Int32)) hx hb d_Code_findNeeds_32 (by decide) ?_
      refine lv_icmp_ge (tgt := 112) hx hb d_Code_findNeeds_34 (by decide) (fun hc => ?_) (fun hc => ?_)
      · have hm := ift hc hm
        cases hm
        exact W.vret hx hb hr (fun t ht hW => hQ t _ _ ht hW hP hS) hS.2.2 d_Code_findNeeds_112 hlk
      · have hm := iff_ hc hm
        refine lv_iconst (v := (0 : Int32)) hx hb d_Code_findNeeds_37 (by decide) ?_
        refine lv_istore_n hx hb d_Code_findNeeds_38 rfl hl (by decide) rfl (fun ls hl => ?_)
        have hl : lv_has ls 5 [(1, .int (0 : Int32)), (0, .ref qt), (2, .int x2)] := hl
        refine lv_aload_n hx hb d_Code_findNeeds_39 rfl (lv_at hl 1 rfl) ?_
        refine va_get (D := D) (ci := 0) (v := .int t_length) (C := R_Code) (T := T_Code) (N := 7) hx hb hts in_Code hown hK.1 hP 0 rfl rfl 5 (by decide) (hts _ a_48) (fun _ h9 => h9) rfl d_Code_findNeeds_40 ?_
        refine lv_iconst (v := (1 : Int32)) hx hb d_Code_findNeeds_43 (by decide) ?_
        refine lv_isub hx hb d_Code_findNeeds_44 ?_
        refine lv_istore_n hx hb d_Code_findNeeds_45 rfl hl (by decide) rfl (fun ls hl => ?_)
        have hl : lv_has ls 5 [(3, .int (t_length - (1 : Int32))), (1, .int (0 : Int32)), (0, .ref qt), (2, .int x2)] := hl
        exact w_Code_findNeeds_46 S hr hlk hK hA qt qt_op qt_d qt_a qt_b qt_need t_op t_d t_a t_b t_length t_leaders o_t_need hQ (f_Code_findNeeds_27 t_op t_d t_a t_b t_length n) ih fu H locs ls (0 : Int32) x2 (t_length - (1 : Int32)) t_need (lv_sub hl [2, 1, 3, 0] rfl) hP hD hS hm
set_option maxHeartbeats 4000000 in
set_option maxRecDepth 100000 in
theorem w_Code_findNeeds_2 {p : Program} {l : Launch} {e : Env} {s : State} {m : MethodId} {args : Array Value} {below : List Frame} {meth : Method} {c : Code} {D : va_G} {cI cJ cZ : ClassId} {A : Nat → Prop} {Qc : Array Value → State → Outcome → State → Prop} (S : CallFix p m c b_Code_findNeeds 5 s args tbg R_Code) (hr : meth.sig.returnType = none) (hlk : meth.locks = false) (hK : kx D cI cJ cZ s) (hA : ∀ q, s.heap.size ≤ q → A q) (qt : Nat) (qt_op : Nat) (qt_d : Nat) (qt_a : Nat) (qt_b : Nat) (qt_need : Nat) (t_op : Nat → Int32) (t_d : Nat → Int32) (t_a : Nat → Int32) (t_b : Nat → Int32) (t_length : Int32) (t_leaders : Int32) (o_t_need : Nat → Int32) (hQ : ∀ (t : State) (H : Heap) (locs : List Loc), t.heap = H → s.WarmedH t.vm → va_P D classes (ww_Code_findNeeds cI cJ cZ qt qt_op qt_d qt_a qt_b qt_need t_length t_leaders t_op t_d t_a t_b o_t_need) H → va_S A s.heap H locs → Qc args s (.returned none) t) (n : Nat) : ∀ (H : Heap) (locs : List Loc) (ls : Array Slot) (x1 : Int32) (t_need : Nat → Int32), lv_has ls 5 [(0, .ref qt), (1, .int x1)] → va_P D classes (ww_Code_findNeeds cI cJ cZ qt qt_op qt_d qt_a qt_b qt_need t_length t_leaders t_op t_d t_a t_b t_need) H → va_D A (ww_Code_findNeeds cI cJ cZ qt qt_op qt_d qt_a qt_b qt_need t_length t_leaders t_op t_d t_a t_b t_need) → va_S A s.heap H locs → f_Code_findNeeds_2 t_op t_d t_a t_b t_length n x1 t_need = some o_t_need → W p l e rm_Code_findNeeds s m args below meth c H locs 0 0 (MQ below Qc args s 0 0 A) (F0 m 2 ls []) := by
  obtain ⟨hx, hb, hml, hown, hts⟩ := id S
  induction n with
  | zero =>
    intro H locs ls x1 t_need hl hP hD hS hm
    rw [f_Code_findNeeds_2] at hm
    cases hm
  | succ n ih =>
    intro H locs ls x1 t_need hl hP hD hS hm
    rw [f_Code_findNeeds_2] at hm
    refine lv_iload_n hx hb d_Code_findNeeds_2 rfl (lv_at hl 1 rfl) ?_
    refine lv_aload_n hx hb d_Code_findNeeds_3 rfl (lv_at hl 0 rfl) ?_
    refine va_get (D := D) (ci := 0) (v := .int t_length) (C := R_Code) (T := T_Code) (N := 7) hx hb hts in_Code hown hK.1 hP 0 rfl rfl 5 (by decide) (hts _ a_48) (fun _ h9 => h9) rfl d_Code_findNeeds_4 ?_
    refine lv_icmp_ge (tgt := 23) hx hb d_Code_findNeeds_7 (by decide) (fun hc => ?_) (fun hc => ?_)
    · have hm := ift hc hm
      refine lv_iconst (v := (1 : Int32)) hx hb d_Code_findNeeds_23 (by decide) ?_
      refine lv_istore_n hx hb d_Code_findNeeds_24 rfl hl (by decide) rfl (fun ls hl => ?_)
      have hl : lv_has ls 5 [(1, .int (1 : Int32)), (0, .ref qt)] := hl
      refine lv_iconst (v := (0 : Int32)) hx hb d_Code_findNeeds_25 (by decide) ?_
      refine lv_istore_n hx hb d_Code_findNeeds_26 rfl hl (by decide) rfl (fun ls hl => ?_)
      have hl : lv_has ls 5 [(2, .int (0 : Int32)), (1, .int (1 : Int32)), (0, .ref qt)] := hl
      exact w_Code_findNeeds_27 S hr hlk hK hA qt qt_op qt_d qt_a qt_b qt_need t_op t_d t_a t_b t_length t_leaders o_t_need hQ fu H locs ls (1 : Int32) (0 : Int32) t_need (lv_sub hl [2, 1, 0] rfl) hP hD hS hm
    · have hm := iff_ hc hm
      refine lv_aload_n hx hb d_Code_findNeeds_10 rfl (lv_at hl 0 rfl) ?_
      refine va_get (D := D) (ci := 0) (v := .ref qt_need) (C := R_Code) (T := T_Code) (N := 7) hx hb hts in_Code hown hK.1 hP 0 rfl rfl 4 (by decide) (hts _ a_47) (fun _ h9 => h9) rfl d_Code_findNeeds_11 ?_
      refine lv_iload_n hx hb d_Code_findNeeds_14 rfl (lv_at hl 1 rfl) ?_
      refine lv_iconst (v := (0 : Int32)) hx hb d_Code_findNeeds_15 (by decide) ?_
      obtain ⟨w1, e_w1, hm⟩ := ob hm
      refine vx_iast hx hb hK hP hD hS 5 rfl e_w1 d_Code_findNeeds_16 (fun H locs hP hD hS => ?_)
      have hP : va_P D classes (ww_Code_findNeeds cI cJ cZ qt qt_op qt_d qt_a qt_b qt_need t_length t_leaders t_op t_d t_a t_b w1) H := hP
      have hD : va_D A (ww_Code_findNeeds cI cJ cZ qt qt_op qt_d qt_a qt_b qt_need t_length t_leaders t_op t_d t_a t_b w1) := hD
      refine lv_iinc (k := 1) (v := (x1 + (1 : Int32))) hx hb d_Code_findNeeds_17 hl rfl (iinc_v (by decide)) (by decide) rfl (fun ls hl => ?_)
      have hl : lv_has ls 5 [(1, .int (x1 + (1 : Int32))), (0, .ref qt)] := hl
      refine lv_goto (tgt := 2) hx hb d_Code_findNeeds_20 (by decide) ?_
      exact ih H locs ls (x1 + (1 : Int32)) w1 (lv_sub hl [1, 0] rfl) hP hD hS hm
set_option maxHeartbeats 4000000 in
set_option maxRecDepth 100000 in
theorem w_Code_findNeeds {p : Program} {l : Launch} {e : Env} {s : State} {m : MethodId} {args : Array Value} {below : List Frame} {meth : Method} {c : Code} {D : va_G} {cI cJ cZ : ClassId} {A : Nat → Prop} {Qc : Array Value → State → Outcome → State → Prop} (S : CallFix p m c b_Code_findNeeds 5 s args tbg R_Code) (hr : meth.sig.returnType = none) (hlk : meth.locks = false) (hK : kx D cI cJ cZ s) (hA : ∀ q, s.heap.size ≤ q → A q) (qt : Nat) (qt_op : Nat) (qt_d : Nat) (qt_a : Nat) (qt_b : Nat) (qt_need : Nat) (t_op : Nat → Int32) (t_d : Nat → Int32) (t_a : Nat → Int32) (t_b : Nat → Int32) (t_length : Int32) (t_leaders : Int32) (o_t_need : Nat → Int32) (hQ : ∀ (t : State) (H : Heap) (locs : List Loc), t.heap = H → s.WarmedH t.vm → va_P D classes (ww_Code_findNeeds cI cJ cZ qt qt_op qt_d qt_a qt_b qt_need t_length t_leaders t_op t_d t_a t_b o_t_need) H → va_S A s.heap H locs → Qc args s (.returned none) t) (t_need : Nat → Int32) (H : Heap) (locs : List Loc) (ls : Array Slot) (hl : lv_has ls 5 [(0, .ref qt)]) (hP : va_P D classes (ww_Code_findNeeds cI cJ cZ qt qt_op qt_d qt_a qt_b qt_need t_length t_leaders t_op t_d t_a t_b t_need) H) (hD : va_D A (ww_Code_findNeeds cI cJ cZ qt qt_op qt_d qt_a qt_b qt_need t_length t_leaders t_op t_d t_a t_b t_need)) (hS : va_S A s.heap H locs) (hm : f_Code_findNeeds t_op t_d t_a t_b t_length t_need = some o_t_need) : W p l e rm_Code_findNeeds s m args below meth c H locs 0 0 (MQ below Qc args s 0 0 A) (F0 m 0 ls []) := by
  obtain ⟨hx, hb, hml, hown, hts⟩ := id S
  unfold f_Code_findNeeds at hm
  refine lv_iconst (v := (0 : Int32)) hx hb d_Code_findNeeds_0 (by decide) ?_
  refine lv_istore_n hx hb d_Code_findNeeds_1 rfl hl (by decide) rfl (fun ls hl => ?_)
  have hl : lv_has ls 5 [(1, .int (0 : Int32)), (0, .ref qt)] := hl
  exact w_Code_findNeeds_2 S hr hlk hK hA qt qt_op qt_d qt_a qt_b qt_need t_op t_d t_a t_b t_length t_leaders o_t_need hQ fu H locs ls (0 : Int32) t_need (lv_sub hl [1, 0] rfl) hP hD hS hm
set_option maxHeartbeats 4000000 in
set_option maxRecDepth 100000 in
theorem c_Code_findNeeds (l : Launch) (D : va_G) (cI cJ cZ : ClassId) (qt : Nat) (qt_op : Nat) (qt_d : Nat) (qt_a : Nat) (qt_b : Nat) (qt_need : Nat) (t_length : Int32) (t_leaders : Int32) (t_op : Nat → Int32) (t_d : Nat → Int32) (t_a : Nat → Int32) (t_b : Nat → Int32) (t_need : Nat → Int32) (o_t_need : Nat → Int32) (hm : f_Code_findNeeds t_op t_d t_a t_b t_length t_need = some o_t_need) : MV l y_Code_findNeeds b_Code_findNeeds 5 rm_Code_findNeeds D cI cJ cZ [.ref qt] (ww_Code_findNeeds cI cJ cZ qt qt_op qt_d qt_a qt_b qt_need t_length t_leaders t_op t_d t_a t_b t_need) (ww_Code_findNeeds cI cJ cZ qt qt_op qt_d qt_a qt_b qt_need t_length t_leaders t_op t_d t_a t_b o_t_need) := by
  intro sz
  refine Met.ofW (cc := b_Code_findNeeds) (maxL := 5) (ret := none) (by decide) rfl ?_
  intro p e s m args below meth c s₁ B hml hv
  obtain ⟨rfl, hsz, hP, hK, hD0⟩ := hv
  have hts := atoms_spec (ws := Cond.code y_Code_findNeeds b_Code_findNeeds 5 none :: tbg) B.pre
  have S : CallFix p m c b_Code_findNeeds 5 s ([.ref qt] : List Value).toArray tbg R_Code := ⟨B.exec, B.bytes, hml, findClass_of_methodNamed B.named, fun w hw => hts w (List.mem_cons_of_mem _ hw)⟩
  subst hsz
  have hD := hD0.self (sz := s.heap.size)
  have hl := lv_entry ([.ref qt] : List Value) (n := 5) (Nat.le_of_ble_eq_true rfl)
  rw [lg_entry_eq]
  generalize (lg_sl ([.ref qt] : List Value) ++ List.replicate (5 - (lg_sl ([.ref qt] : List Value)).length) Slot.unset).toArray = ls at hl ⊢
  have hl : lv_has ls 5 [(0, .ref qt)] := hl
  exact w_Code_findNeeds S B.returns B.notSynchronized hK (fun q h => Or.inr h) qt qt_op qt_d qt_a qt_b qt_need t_op t_d t_a t_b t_length t_leaders o_t_need (fun t H locs ht hW hP hS => ⟨⟨(), rfl, trivial, sB_of ht hP⟩, hS.F ht⟩) t_need s.heap [] ls hl hP hD va_S.rf hm
set_option maxHeartbeats 4000000 in
set_option maxRecDepth 100000 in
theorem w_Facts_at {p : Program} {l : Launch} {e : Env} {s : State} {m : MethodId} {args : Array Value} {below : List Frame} {meth : Method} {c : Code} {D : va_G} {cI cJ cZ : ClassId} {A : Nat → Prop} {Qc : Array Value → State → Outcome → State → Prop} (S : CallFix p m c b_Facts_at 3 s args tbg R_Facts) (hr : meth.sig.returnType = (some .long)) (hlk : meth.locks = false) (hK : kx D cI cJ cZ s) (hA : ∀ q, s.heap.size ≤ q → A q) (qt : Nat) (qt_before : Nat) (qt_flowing : Nat) (p1 : Int32) (p2 : Int32) (t_before : Nat → Int64) (o_r : Int64) (hQ : ∀ (t : State) (H : Heap) (locs : List Loc), t.heap = H → s.WarmedH t.vm → va_P D classes (ww_Facts_at cI cJ cZ qt qt_before qt_flowing t_before) H → va_S A s.heap H locs → Qc args s (.returned (some (.long o_r))) t) (H : Heap) (locs : List Loc) (ls : Array Slot) (hl : lv_has ls 3 [(0, .ref qt), (1, .int p1), (2, .int p2)]) (hP : va_P D classes (ww_Facts_at cI cJ cZ qt qt_before qt_flowing t_before) H) (hD : va_D A (ww_Facts_at cI cJ cZ qt qt_before qt_flowing t_before)) (hS : va_S A s.heap H locs) (hm : f_Facts_at p1 p2 t_before = some o_r) : W p l e rm_Facts_at s m args below meth c H locs 0 0 (MQ below Qc args s 0 0 A) (F0 m 0 ls []) := by
  obtain ⟨hx, hb, hml, hown, hts⟩ := id S
  unfold f_Facts_at at hm
  refine lv_aload_n hx hb d_Facts_at_0 rfl (lv_at hl 0 rfl) ?_
  refine va_get (D := D) (ci := 1) (v := .ref qt_before) (C := R_Facts) (T := T_Facts) (N := 2) hx hb hts in_Facts hown hK.1 hP 0 rfl rfl 0 (by decide) (hts _ a_75) (fun _ h9 => h9) rfl d_Facts_at_1 ?_
  refine lv_iload_n hx hb d_Facts_at_4 rfl (lv_at hl 1 rfl) ?_
  refine lv_iconst (v := (5 : Int32)) hx hb d_Facts_at_5 (by decide) ?_
  refine lv_imul hx hb d_Facts_at_6 ?_
  refine lv_iload_n hx hb d_Facts_at_7 rfl (lv_at hl 2 rfl) ?_
  refine lv_iadd hx hb d_Facts_at_8 ?_
  obtain ⟨v1, e_v1, hm⟩ := ob hm
  refine vx_lald hx hb hK hP 1 rfl e_v1 d_Facts_at_9 ?_
  cases hm
  exact W.lret hx hb hr (fun t ht hW => hQ t _ _ ht hW hP hS) hS.2.2 d_Facts_at_10 hlk
set_option maxHeartbeats 4000000 in
set_option maxRecDepth 100000 in
theorem c_Facts_at (l : Launch) (D : va_G) (cI cJ cZ : ClassId) (qt : Nat) (qt_before : Nat) (qt_flowing : Nat) (t_before : Nat → Int64) (p1 : Int32) (p2 : Int32) (o_r : Int64) (hm : f_Facts_at p1 p2 t_before = some o_r) : ML l y_Facts_at b_Facts_at 3 rm_Facts_at D cI cJ cZ [.ref qt, .int p1, .int p2] (ww_Facts_at cI cJ cZ qt qt_before qt_flowing t_before) (ww_Facts_at cI cJ cZ qt qt_before qt_flowing t_before) o_r := by
  intro sz
  refine Met.ofW (cc := b_Facts_at) (maxL := 3) (ret := (some .long)) (by decide) rfl ?_
  intro p e s m args below meth c s₁ B hml hv
  obtain ⟨rfl, hsz, hP, hK, hD0⟩ := hv
  have hts := atoms_spec (ws := Cond.code y_Facts_at b_Facts_at 3 (some .long) :: tbg) B.pre
  have S : CallFix p m c b_Facts_at 3 s ([.ref qt, .int p1, .int p2] : List Value).toArray tbg R_Facts := ⟨B.exec, B.bytes, hml, findClass_of_methodNamed B.named, fun w hw => hts w (List.mem_cons_of_mem _ hw)⟩
  subst hsz
  have hD := hD0.self (sz := s.heap.size)
  have hl := lv_entry ([.ref qt, .int p1, .int p2] : List Value) (n := 3) (Nat.le_of_ble_eq_true rfl)
  rw [lg_entry_eq]
  generalize (lg_sl ([.ref qt, .int p1, .int p2] : List Value) ++ List.replicate (3 - (lg_sl ([.ref qt, .int p1, .int p2] : List Value)).length) Slot.unset).toArray = ls at hl ⊢
  have hl : lv_has ls 3 [(0, .ref qt), (1, .int p1), (2, .int p2)] := hl
  exact w_Facts_at S B.returns B.notSynchronized hK (fun q h => Or.inr h) qt qt_before qt_flowing p1 p2 t_before o_r (fun t H locs ht hW hP hS => ⟨⟨_, (), rfl, rfl, sB_of ht hP⟩, hS.F ht⟩) s.heap [] ls hl hP hD va_S.rf hm
set_option maxHeartbeats 4000000 in
set_option maxRecDepth 100000 in
theorem w_Facts_reached {p : Program} {l : Launch} {e : Env} {s : State} {m : MethodId} {args : Array Value} {below : List Frame} {meth : Method} {c : Code} {D : va_G} {cI cJ cZ : ClassId} {A : Nat → Prop} {Qc : Array Value → State → Outcome → State → Prop} (S : CallFix p m c b_Facts_reached 2 s args tbg R_Facts) (hr : meth.sig.returnType = (some .boolean)) (hlk : meth.locks = false) (hK : kx D cI cJ cZ s) (hA : ∀ q, s.heap.size ≤ q → A q) (qt : Nat) (qt_before : Nat) (qt_flowing : Nat) (p1 : Int32) (t_before : Nat → Int64) (o_r : Int32) (hQ : ∀ (t : State) (H : Heap) (locs : List Loc), t.heap = H → s.WarmedH t.vm → va_P D classes (ww_Facts_reached cI cJ cZ qt qt_before qt_flowing t_before) H → va_S A s.heap H locs → Qc args s (.returned (some (.int o_r))) t) (H : Heap) (locs : List Loc) (ls : Array Slot) (hl : lv_has ls 2 [(0, .ref qt), (1, .int p1)]) (hP : va_P D classes (ww_Facts_reached cI cJ cZ qt qt_before qt_flowing t_before) H) (hD : va_D A (ww_Facts_reached cI cJ cZ qt qt_before qt_flowing t_before)) (hS : va_S A s.heap H locs) (hm : f_Facts_reached p1 t_before = some o_r) : W p l e rm_Facts_reached s m args below meth c H locs 0 0 (MQ below Qc args s 0 0 A) (F0 m 0 ls []) := by
  obtain ⟨hx, hb, hml, hown, hts⟩ := id S
  unfold f_Facts_reached at hm
  refine lv_aload_n hx hb d_Facts_reached_0 rfl (lv_at hl 0 rfl) ?_
  refine lv_iload_n hx hb d_Facts_reached_1 rfl (lv_at hl 1 rfl) ?_
  refine lv_iconst (v := (0 : Int32)) hx hb d_Facts_reached_2 (by decide) ?_
  obtain ⟨rz1, e_rz1, hm⟩ := ob hm
  have hC : ([0, 1] : List Nat).map (fun i => (ww_Facts_reached cI cJ cZ qt qt_before qt_flowing t_before)[i]?) = (ww_Facts_at cI cJ cZ qt qt_before qt_flowing t_before).map some := rfl
  refine vj_l (w1 := (ww_Facts_at cI cJ cZ qt qt_before qt_flowing t_before)) (wn := (ww_Facts_reached cI cJ cZ qt qt_before qt_flowing t_before)) (isR := []) (nw := 2) (vr_V (C := R_Facts) (n := 2) (As := [.int p1, .int (0 : Int32)]) S ((c_Facts_at l D cI cJ cZ qt qt_before qt_flowing t_before p1 (0 : Int32) rz1 e_rz1) H.size) a_310 a_221 a_222 a_3 a_223 (by decide +kernel) ⟨rfl, rfl⟩ ⟨Nat.le_of_ble_eq_true rfl, Nat.le_of_ble_eq_true rfl⟩ (ci := 1) (q0 := 0) rfl rfl hK hP hD (by decide) hC rfl hl.1 (Nat.le_of_ble_eq_true rfl) d_Facts_reached_3 ⟨Nat.zero_le _, Nat.zero_le _⟩ rfl) hP hD hS hA hC rfl rfl vx_n rfl (by decide) (fun H locs hP hD hS => ?_)
  refine lv_ldc2 (v := (4294967297 : Int64)) hx hb hown (hts _ a_305) d_Facts_reached_6 ?_
  refine W.lcmp hx hb d_Facts_reached_9 ?_
  refine lv_if_eq (tgt := 17) hx hb d_Facts_reached_10 (by decide) (fun hc => ?_) (fun hc => ?_)
  · have hm := ift hc hm
    refine lv_iconst (v := (0 : Int32)) hx hb d_Facts_reached_17 (by decide) ?_
    cases hm
    exact W.zret hx hb hr rfl (fun t ht hW => hQ t _ _ ht hW hP hS) hS.2.2 d_Facts_reached_18 hlk
  · have hm := iff_ hc hm
    refine lv_iconst (v := (1 : Int32)) hx hb d_Facts_reached_13 (by decide) ?_
    refine lv_goto (tgt := 18) hx hb d_Facts_reached_14 (by decide) ?_
    cases hm
    exact W.zret hx hb hr rfl (fun t ht hW => hQ t _ _ ht hW hP hS) hS.2.2 d_Facts_reached_18 hlk
set_option maxHeartbeats 4000000 in
set_option maxRecDepth 100000 in
theorem c_Facts_reached (l : Launch) (D : va_G) (cI cJ cZ : ClassId) (qt : Nat) (qt_before : Nat) (qt_flowing : Nat) (t_before : Nat → Int64) (p1 : Int32) (o_r : Int32) (hm : f_Facts_reached p1 t_before = some o_r) : MI l y_Facts_reached b_Facts_reached 2 .boolean rm_Facts_reached D cI cJ cZ [.ref qt, .int p1] (ww_Facts_reached cI cJ cZ qt qt_before qt_flowing t_before) (ww_Facts_reached cI cJ cZ qt qt_before qt_flowing t_before) o_r := by
  intro sz
  refine Met.ofW (cc := b_Facts_reached) (maxL := 2) (ret := (some .boolean)) (by decide) rfl ?_
  intro p e s m args below meth c s₁ B hml hv
  obtain ⟨rfl, hsz, hP, hK, hD0⟩ := hv
  have hts := atoms_spec (ws := Cond.code y_Facts_reached b_Facts_reached 2 (some .boolean) :: tbg) B.pre
  have S : CallFix p m c b_Facts_reached 2 s ([.ref qt, .int p1] : List Value).toArray tbg R_Facts := ⟨B.exec, B.bytes, hml, findClass_of_methodNamed B.named, fun w hw => hts w (List.mem_cons_of_mem _ hw)⟩
  subst hsz
  have hD := hD0.self (sz := s.heap.size)
  have hl := lv_entry ([.ref qt, .int p1] : List Value) (n := 2) (Nat.le_of_ble_eq_true rfl)
  rw [lg_entry_eq]
  generalize (lg_sl ([.ref qt, .int p1] : List Value) ++ List.replicate (2 - (lg_sl ([.ref qt, .int p1] : List Value)).length) Slot.unset).toArray = ls at hl ⊢
  have hl : lv_has ls 2 [(0, .ref qt), (1, .int p1)] := hl
  exact w_Facts_reached S B.returns B.notSynchronized hK (fun q h => Or.inr h) qt qt_before qt_flowing p1 t_before o_r (fun t H locs ht hW hP hS => ⟨⟨_, (), rfl, rfl, sB_of ht hP⟩, hS.F ht⟩) s.heap [] ls hl hP hD va_S.rf hm
set_option maxHeartbeats 4000000 in
set_option maxRecDepth 100000 in
theorem w_BlockCode_isInt {p : Program} {l : Launch} {e : Env} {s : State} {m : MethodId} {args : Array Value} {below : List Frame} {meth : Method} {c : Code} {D : va_G} {cI cJ cZ : ClassId} {A : Nat → Prop} {Qc : Array Value → State → Outcome → State → Prop} (S : CallFix p m c b_BlockCode_isInt 2 s args tbg R_BlockCode) (hr : meth.sig.returnType = (some .boolean)) (hlk : meth.locks = false) (hK : kx D cI cJ cZ s) (hA : ∀ q, s.heap.size ≤ q → A q) (p0 : Int64) (o_r : Int32) (hQ : ∀ (t : State) (H : Heap) (locs : List Loc), t.heap = H → s.WarmedH t.vm → va_P D classes (ww_BlockCode_isInt cI cJ cZ) H → va_S A s.heap H locs → Qc args s (.returned (some (.int o_r))) t) (H : Heap) (locs : List Loc) (ls : Array Slot) (hl : lv_has ls 2 [(0, .long p0)]) (hP : va_P D classes (ww_BlockCode_isInt cI cJ cZ) H) (hD : va_D A (ww_BlockCode_isInt cI cJ cZ)) (hS : va_S A s.heap H locs) (hm : f_BlockCode_isInt p0 = some o_r) : W p l e rm_BlockCode_isInt s m args below meth c H locs 0 0 (MQ below Qc args s 0 0 A) (F0 m 0 ls []) := by
  obtain ⟨hx, hb, hml, hown, hts⟩ := id S
  unfold f_BlockCode_isInt at hm
  refine lv_lload_n hx hb d_BlockCode_isInt_0 rfl (lv_at hl 0 rfl) ?_
  refine lv_ldc2 (v := (4294967296 : Int64)) hx hb hown (hts _ a_323) d_BlockCode_isInt_1 ?_
  refine W.lcmp hx hb d_BlockCode_isInt_4 ?_
  refine lv_if_ge (tgt := 12) hx hb d_BlockCode_isInt_5 (by decide) (fun hc => ?_) (fun hc => ?_)
  · have hm := ift hc hm
    refine lv_iconst (v := (0 : Int32)) hx hb d_BlockCode_isInt_12 (by decide) ?_
    cases hm
    exact W.zret hx hb hr rfl (fun t ht hW => hQ t _ _ ht hW hP hS) hS.2.2 d_BlockCode_isInt_13 hlk
  · have hm := iff_ hc hm
    refine lv_iconst (v := (1 : Int32)) hx hb d_BlockCode_isInt_8 (by decide) ?_
    refine lv_goto (tgt := 13) hx hb d_BlockCode_isInt_9 (by decide) ?_
    cases hm
    exact W.zret hx hb hr rfl (fun t ht hW => hQ t _ _ ht hW hP hS) hS.2.2 d_BlockCode_isInt_13 hlk
set_option maxHeartbeats 4000000 in
set_option maxRecDepth 100000 in
theorem c_BlockCode_isInt (l : Launch) (D : va_G) (cI cJ cZ : ClassId) (p0 : Int64) (o_r : Int32) (hm : f_BlockCode_isInt p0 = some o_r) : MI l y_BlockCode_isInt b_BlockCode_isInt 2 .boolean rm_BlockCode_isInt D cI cJ cZ [.long p0] (ww_BlockCode_isInt cI cJ cZ) (ww_BlockCode_isInt cI cJ cZ) o_r := by
  intro sz
  refine Met.ofW (cc := b_BlockCode_isInt) (maxL := 2) (ret := (some .boolean)) (by decide) rfl ?_
  intro p e s m args below meth c s₁ B hml hv
  obtain ⟨rfl, hsz, hP, hK, hD0⟩ := hv
  have hts := atoms_spec (ws := Cond.code y_BlockCode_isInt b_BlockCode_isInt 2 (some .boolean) :: tbg) B.pre
  have S : CallFix p m c b_BlockCode_isInt 2 s ([.long p0] : List Value).toArray tbg R_BlockCode := ⟨B.exec, B.bytes, hml, findClass_of_methodNamed B.named, fun w hw => hts w (List.mem_cons_of_mem _ hw)⟩
  subst hsz
  have hD := hD0.self (sz := s.heap.size)
  have hl := lv_entry ([.long p0] : List Value) (n := 2) (Nat.le_of_ble_eq_true rfl)
  rw [lg_entry_eq]
  generalize (lg_sl ([.long p0] : List Value) ++ List.replicate (2 - (lg_sl ([.long p0] : List Value)).length) Slot.unset).toArray = ls at hl ⊢
  have hl : lv_has ls 2 [(0, .long p0)] := hl
  exact w_BlockCode_isInt S B.returns B.notSynchronized hK (fun q h => Or.inr h) p0 o_r (fun t H locs ht hW hP hS => ⟨⟨_, (), rfl, rfl, sB_of ht hP⟩, hS.F ht⟩) s.heap [] ls hl hP hD va_S.rf hm
set_option maxHeartbeats 4000000 in
set_option maxRecDepth 100000 in
theorem w_BlockCode_dividesByZero {p : Program} {l : Launch} {e : Env} {s : State} {m : MethodId} {args : Array Value} {below : List Frame} {meth : Method} {c : Code} {D : va_G} {cI cJ cZ : ClassId} {A : Nat → Prop} {Qc : Array Value → State → Outcome → State → Prop} (S : CallFix p m c b_BlockCode_dividesByZero 2 s args tbg R_BlockCode) (hr : meth.sig.returnType = (some .boolean)) (hlk : meth.locks = false) (hK : kx D cI cJ cZ s) (hA : ∀ q, s.heap.size ≤ q → A q) (p0 : Int32) (p1 : Int32) (o_r : Int32) (hQ : ∀ (t : State) (H : Heap) (locs : List Loc), t.heap = H → s.WarmedH t.vm → va_P D classes (ww_BlockCode_dividesByZero cI cJ cZ) H → va_S A s.heap H locs → Qc args s (.returned (some (.int o_r))) t) (H : Heap) (locs : List Loc) (ls : Array Slot) (hl : lv_has ls 2 [(0, .int p0), (1, .int p1)]) (hP : va_P D classes (ww_BlockCode_dividesByZero cI cJ cZ) H) (hD : va_D A (ww_BlockCode_dividesByZero cI cJ cZ)) (hS : va_S A s.heap H locs) (hm : f_BlockCode_dividesByZero p0 p1 = some o_r) : W p l e rm_BlockCode_dividesByZero s m args below meth c H locs 0 0 (MQ below Qc args s 0 0 A) (F0 m 0 ls []) := by
  obtain ⟨hx, hb, hml, hown, hts⟩ := id S
  unfold f_BlockCode_dividesByZero at hm
  refine lv_iload_n hx hb d_BlockCode_dividesByZero_0 rfl (lv_at hl 0 rfl) ?_
  refine lv_bipush (v := (6 : Int32)) hx hb d_BlockCode_dividesByZero_1 (by decide) ?_
  refine lv_icmp_ne (tgt := 14) hx hb d_BlockCode_dividesByZero_3 (by decide) (fun hc => ?_) (fun hc => ?_)
  · have hm := iff_ hc hm
    refine lv_iconst (v := (0 : Int32)) hx hb d_BlockCode_dividesByZero_14 (by decide) ?_
    cases hm
    exact W.zret hx hb hr rfl (fun t ht hW => hQ t _ _ ht hW hP hS) hS.2.2 d_BlockCode_dividesByZero_15 hlk
  · have hm := ift hc hm
    refine lv_iload_n hx hb d_BlockCode_dividesByZero_6 rfl (lv_at hl 1 rfl) ?_
    refine lv_if_ne (tgt := 14) hx hb d_BlockCode_dividesByZero_7 (by decide) (fun hc => ?_) (fun hc => ?_)
    · have hm := iff_ hc hm
      refine lv_iconst (v := (0 : Int32)) hx hb d_BlockCode_dividesByZero_14 (by decide) ?_
      cases hm
      exact W.zret hx hb hr rfl (fun t ht hW => hQ t _ _ ht hW hP hS) hS.2.2 d_BlockCode_dividesByZero_15 hlk
    · have hm := ift hc hm
      refine lv_iconst (v := (1 : Int32)) hx hb d_BlockCode_dividesByZero_10 (by decide) ?_
      refine lv_goto (tgt := 15) hx hb d_BlockCode_dividesByZero_11 (by decide) ?_
      cases hm
      exact W.zret hx hb hr rfl (fun t ht hW => hQ t _ _ ht hW hP hS) hS.2.2 d_BlockCode_dividesByZero_15 hlk
set_option maxHeartbeats 4000000 in
set_option maxRecDepth 100000 in
theorem c_BlockCode_dividesByZero (l : Launch) (D : va_G) (cI cJ cZ : ClassId) (p0 : Int32) (p1 : Int32) (o_r : Int32) (hm : f_BlockCode_dividesByZero p0 p1 = some o_r) : MI l y_BlockCode_dividesByZero b_BlockCode_dividesByZero 2 .boolean rm_BlockCode_dividesByZero D cI cJ cZ [.int p0, .int p1] (ww_BlockCode_dividesByZero cI cJ cZ) (ww_BlockCode_dividesByZero cI cJ cZ) o_r := by
  intro sz
  refine Met.ofW (cc := b_BlockCode_dividesByZero) (maxL := 2) (ret := (some .boolean)) (by decide) rfl ?_
  intro p e s m args below meth c s₁ B hml hv
  obtain ⟨rfl, hsz, hP, hK, hD0⟩ := hv
  have hts := atoms_spec (ws := Cond.code y_BlockCode_dividesByZero b_BlockCode_dividesByZero 2 (some .boolean) :: tbg) B.pre
  have S : CallFix p m c b_BlockCode_dividesByZero 2 s ([.int p0, .int p1] : List Value).toArray tbg R_BlockCode := ⟨B.exec, B.bytes, hml, findClass_of_methodNamed B.named, fun w hw => hts w (List.mem_cons_of_mem _ hw)⟩
  subst hsz
  have hD := hD0.self (sz := s.heap.size)
  have hl := lv_entry ([.int p0, .int p1] : List Value) (n := 2) (Nat.le_of_ble_eq_true rfl)
  rw [lg_entry_eq]
  generalize (lg_sl ([.int p0, .int p1] : List Value) ++ List.replicate (2 - (lg_sl ([.int p0, .int p1] : List Value)).length) Slot.unset).toArray = ls at hl ⊢
  have hl : lv_has ls 2 [(0, .int p0), (1, .int p1)] := hl
  exact w_BlockCode_dividesByZero S B.returns B.notSynchronized hK (fun q h => Or.inr h) p0 p1 o_r (fun t H locs ht hW hP hS => ⟨⟨_, (), rfl, rfl, sB_of ht hP⟩, hS.F ht⟩) s.heap [] ls hl hP hD va_S.rf hm
set_option maxHeartbeats 4000000 in
set_option maxRecDepth 100000 in
theorem w_BlockCode_combined {p : Program} {l : Launch} {e : Env} {s : State} {m : MethodId} {args : Array Value} {below : List Frame} {meth : Method} {c : Code} {D : va_G} {cI cJ cZ : ClassId} {A : Nat → Prop} {Qc : Array Value → State → Outcome → State → Prop} (S : CallFix p m c b_BlockCode_combined 3 s args tbg R_BlockCode) (hr : meth.sig.returnType = (some .int)) (hlk : meth.locks = false) (hK : kx D cI cJ cZ s) (hA : ∀ q, s.heap.size ≤ q → A q) (p0 : Int32) (p1 : Int32) (p2 : Int32) (o_r : Int32) (hQ : ∀ (t : State) (H : Heap) (locs : List Loc), t.heap = H → s.WarmedH t.vm → va_P D classes (ww_BlockCode_combined cI cJ cZ) H → va_S A s.heap H locs → Qc args s (.returned (some (.int o_r))) t) (H : Heap) (locs : List Loc) (ls : Array Slot) (hl : lv_has ls 3 [(0, .int p0), (1, .int p1), (2, .int p2)]) (hP : va_P D classes (ww_BlockCode_combined cI cJ cZ) H) (hD : va_D A (ww_BlockCode_combined cI cJ cZ)) (hS : va_S A s.heap H locs) (hm : f_BlockCode_combined p0 p1 p2 = some o_r) : W p l e rm_BlockCode_combined s m args below meth c H locs 0 0 (MQ below Qc args s 0 0 A) (F0 m 0 ls []) := by
  obtain ⟨hx, hb, hml, hown, hts⟩ := id S
  unfold f_BlockCode_combined at hm
  refine lv_iload_n hx hb d_BlockCode_combined_0 rfl (lv_at hl 0 rfl) ?_
  by_cases hk3 : p0 = (3 : Int32)
  · have hm := ift hk3 hm
    refine lv_tableIn (off := 31) (tgt := 32) hx hb d_BlockCode_combined_1 (by rw [hk3]; decide) (by rw [hk3]; decide) (by rw [hk3]; rfl) (by decide) ?_
    refine lv_iload_n hx hb d_BlockCode_combined_32 rfl (lv_at hl 1 rfl) ?_
    refine lv_iload_n hx hb d_BlockCode_combined_33 rfl (lv_at hl 2 rfl) ?_
    refine lv_iadd hx hb d_BlockCode_combined_34 ?_
    cases hm
    exact W.iret hx hb hr (fun t ht hW => hQ t _ _ ht hW hP hS) hS.2.2 d_BlockCode_combined_35 hlk
  have hm := iff_ hk3 hm
  by_cases hk4 : p0 = (4 : Int32)
  · have hm := ift hk4 hm
    refine lv_tableIn (off := 35) (tgt := 36) hx hb d_BlockCode_combined_1 (by rw [hk4]; decide) (by rw [hk4]; decide) (by rw [hk4]; rfl) (by decide) ?_
    refine lv_iload_n hx hb d_BlockCode_combined_36 rfl (lv_at hl 1 rfl) ?_
    refine lv_iload_n hx hb d_BlockCode_combined_37 rfl (lv_at hl 2 rfl) ?_
    refine lv_isub hx hb d_BlockCode_combined_38 ?_
    cases hm
    exact W.iret hx hb hr (fun t ht hW => hQ t _ _ ht hW hP hS) hS.2.2 d_BlockCode_combined_39 hlk
  have hm := iff_ hk4 hm
  by_cases hk5 : p0 = (5 : Int32)
  · have hm := ift hk5 hm
    refine lv_tableIn (off := 39) (tgt := 40) hx hb d_BlockCode_combined_1 (by rw [hk5]; decide) (by rw [hk5]; decide) (by rw [hk5]; rfl) (by decide) ?_
    refine lv_iload_n hx hb d_BlockCode_combined_40 rfl (lv_at hl 1 rfl) ?_
    refine lv_iload_n hx hb d_BlockCode_combined_41 rfl (lv_at hl 2 rfl) ?_
    refine lv_imul hx hb d_BlockCode_combined_42 ?_
    cases hm
    exact W.iret hx hb hr (fun t ht hW => hQ t _ _ ht hW hP hS) hS.2.2 d_BlockCode_combined_43 hlk
  have hm := iff_ hk5 hm
  by_cases hk6 : p0 = (6 : Int32)
  · have hm := ift hk6 hm
    refine lv_tableIn (off := 43) (tgt := 44) hx hb d_BlockCode_combined_1 (by rw [hk6]; decide) (by rw [hk6]; decide) (by rw [hk6]; rfl) (by decide) ?_
    refine lv_iload_n hx hb d_BlockCode_combined_44 rfl (lv_at hl 2 rfl) ?_
    refine lv_if_ne (tgt := 52) hx hb d_BlockCode_combined_45 (by decide) (fun hc => ?_) (fun hc => ?_)
    · have hm := iff_ hc hm
      refine lv_iload_n hx hb d_BlockCode_combined_52 rfl (lv_at hl 1 rfl) ?_
      refine lv_iload_n hx hb d_BlockCode_combined_53 rfl (lv_at hl 2 rfl) ?_
      obtain ⟨v1, e_v1, hm⟩ := ob hm
      refine vx_idiv hx hb e_v1 d_BlockCode_combined_54 ?_
      cases hm
      exact W.iret hx hb hr (fun t ht hW => hQ t _ _ ht hW hP hS) hS.2.2 d_BlockCode_combined_55 hlk
    · have hm := ift hc hm
      refine lv_iconst (v := (0 : Int32)) hx hb d_BlockCode_combined_48 (by decide) ?_
      refine lv_goto (tgt := 55) hx hb d_BlockCode_combined_49 (by decide) ?_
      cases hm
      exact W.iret hx hb hr (fun t ht hW => hQ t _ _ ht hW hP hS) hS.2.2 d_BlockCode_combined_55 hlk
  have hm := iff_ hk6 hm
  refine lv_tableOut (tgt := 56) hx hb d_BlockCode_combined_1 (by have nhk3 := lv_neT (a := 3) hk3 (by decide); have nhk4 := lv_neT (a := 4) hk4 (by decide); have nhk5 := lv_neT (a := 5) hk5 (by decide); have nhk6 := lv_neT (a := 6) hk6 (by decide); omega) (by decide) ?_
  refine lv_iload_n hx hb d_BlockCode_combined_56 rfl (lv_at hl 1 rfl) ?_
  refine lv_iload_n hx hb d_BlockCode_combined_57 rfl (lv_at hl 2 rfl) ?_
  refine lv_icmp_ge (tgt := 65) hx hb d_BlockCode_combined_58 (by decide) (fun hc => ?_) (fun hc => ?_)
  · have hm := ift hc hm
    refine lv_iconst (v := (0 : Int32)) hx hb d_BlockCode_combined_65 (by decide) ?_
    cases hm
    exact W.iret hx hb hr (fun t ht hW => hQ t _ _ ht hW hP hS) hS.2.2 d_BlockCode_combined_66 hlk
  · have hm := iff_ hc hm
    refine lv_iconst (v := (1 : Int32)) hx hb d_BlockCode_combined_61 (by decide) ?_
    refine lv_goto (tgt := 66) hx hb d_BlockCode_combined_62 (by decide) ?_
    cases hm
    exact W.iret hx hb hr (fun t ht hW => hQ t _ _ ht hW hP hS) hS.2.2 d_BlockCode_combined_66 hlk
set_option maxHeartbeats 4000000 in
set_option maxRecDepth 100000 in
theorem c_BlockCode_combined (l : Launch) (D : va_G) (cI cJ cZ : ClassId) (p0 : Int32) (p1 : Int32) (p2 : Int32) (o_r : Int32) (hm : f_BlockCode_combined p0 p1 p2 = some o_r) : MI l y_BlockCode_combined b_BlockCode_combined 3 .int rm_BlockCode_combined D cI cJ cZ [.int p0, .int p1, .int p2] (ww_BlockCode_combined cI cJ cZ) (ww_BlockCode_combined cI cJ cZ) o_r := by
  intro sz
  refine Met.ofW (cc := b_BlockCode_combined) (maxL := 3) (ret := (some .int)) (by decide) rfl ?_
  intro p e s m args below meth c s₁ B hml hv
  obtain ⟨rfl, hsz, hP, hK, hD0⟩ := hv
  have hts := atoms_spec (ws := Cond.code y_BlockCode_combined b_BlockCode_combined 3 (some .int) :: tbg) B.pre
  have S : CallFix p m c b_BlockCode_combined 3 s ([.int p0, .int p1, .int p2] : List Value).toArray tbg R_BlockCode := ⟨B.exec, B.bytes, hml, findClass_of_methodNamed B.named, fun w hw => hts w (List.mem_cons_of_mem _ hw)⟩
  subst hsz
  have hD := hD0.self (sz := s.heap.size)
  have hl := lv_entry ([.int p0, .int p1, .int p2] : List Value) (n := 3) (Nat.le_of_ble_eq_true rfl)
  rw [lg_entry_eq]
  generalize (lg_sl ([.int p0, .int p1, .int p2] : List Value) ++ List.replicate (3 - (lg_sl ([.int p0, .int p1, .int p2] : List Value)).length) Slot.unset).toArray = ls at hl ⊢
  have hl : lv_has ls 3 [(0, .int p0), (1, .int p1), (2, .int p2)] := hl
  exact w_BlockCode_combined S B.returns B.notSynchronized hK (fun q h => Or.inr h) p0 p1 p2 o_r (fun t H locs ht hW hP hS => ⟨⟨_, (), rfl, rfl, sB_of ht hP⟩, hS.F ht⟩) s.heap [] ls hl hP hD va_S.rf hm
set_option maxHeartbeats 4000000 in
set_option maxRecDepth 100000 in
theorem w_Facts_madeBy {p : Program} {l : Launch} {e : Env} {s : State} {m : MethodId} {args : Array Value} {below : List Frame} {meth : Method} {c : Code} {D : va_G} {cI cJ cZ : ClassId} {A : Nat → Prop} {Qc : Array Value → State → Outcome → State → Prop} (S : CallFix p m c b_Facts_madeBy 8 s args tbg R_Facts) (hr : meth.sig.returnType = (some .long)) (hlk : meth.locks = false) (hK : kx D cI cJ cZ s) (hA : ∀ q, s.heap.size ≤ q → A q) (qt : Nat) (qt_before : Nat) (qt_flowing : Nat) (qr1 : Nat) (qr1_op : Nat) (qr1_d : Nat) (qr1_a : Nat) (qr1_b : Nat) (qr1_need : Nat) (p2 : Int32) (t_before : Nat → Int64) (r1_op : Nat → Int32) (r1_a : Nat → Int32) (r1_b : Nat → Int32) (r1_length : Int32) (r1_leaders : Int32) (o_r : Int64) (hQ : ∀ (t : State) (H : Heap) (locs : List Loc), t.heap = H → s.WarmedH t.vm → va_P D classes (ww_Facts_madeBy cI cJ cZ qt qt_before qt_flowing qr1 qr1_op qr1_d qr1_a qr1_b qr1_need t_before r1_length r1_leaders r1_op r1_a r1_b) H → va_S A s.heap H locs → Qc args s (.returned (some (.long o_r))) t) (H : Heap) (locs : List Loc) (ls : Array Slot) (hl : lv_has ls 8 [(0, .ref qt), (1, .ref qr1), (2, .int p2)]) (hP : va_P D classes (ww_Facts_madeBy cI cJ cZ qt qt_before qt_flowing qr1 qr1_op qr1_d qr1_a qr1_b qr1_need t_before r1_length r1_leaders r1_op r1_a r1_b) H) (hD : va_D A (ww_Facts_madeBy cI cJ cZ qt qt_before qt_flowing qr1 qr1_op qr1_d qr1_a qr1_b qr1_need t_before r1_length r1_leaders r1_op r1_a r1_b)) (hS : va_S A s.heap H locs) (hm : f_Facts_madeBy p2 t_before r1_op r1_a r1_b = some o_r) : W p l e rm_Facts_madeBy s m args below meth c H locs 0 0 (MQ below Qc args s 0 0 A) (F0 m 0 ls []) := by
  obtain ⟨hx, hb, hml, hown, hts⟩ := id S
  unfold f_Facts_madeBy at hm
  refine lv_aload_n hx hb d_Facts_madeBy_0 rfl (lv_at hl 1 rfl) ?_
  refine va_get (D := D) (ci := 0) (v := .ref qr1_op) (C := R_Code) (T := T_Code) (N := 7) hx hb hts in_Code hown hK.1 hP 2 rfl rfl 0 (by decide) (hts _ a_30) (fun _ h9 => h9) rfl d_Facts_madeBy_1 ?_
  refine lv_iload_n hx hb d_Facts_madeBy_4 rfl (lv_at hl 2 rfl) ?_
  obtain ⟨v1, e_v1, hm⟩ := ob hm
  refine vx_iald hx hb hK hP 3 rfl e_v1 d_Facts_madeBy_5 ?_
  refine lv_istore_n hx hb d_Facts_madeBy_6 rfl hl (by decide) rfl (fun ls hl => ?_)
  have hl : lv_has ls 8 [(3, .int v1), (0, .ref qt), (1, .ref qr1), (2, .int p2)] := hl
  refine lv_iload_n hx hb d_Facts_madeBy_7 rfl (lv_at hl 0 rfl) ?_
  refine lv_iconst (v := (1 : Int32)) hx hb d_Facts_madeBy_8 (by decide) ?_
  refine lv_icmp_ne (tgt := 20) hx hb d_Facts_madeBy_9 (by decide) (fun hc => ?_) (fun hc => ?_)
  · have hm := iff_ hc hm
    refine lv_aload_n hx hb d_Facts_madeBy_20 rfl (lv_at hl 1 rfl) ?_
    refine lv_iload_n hx hb d_Facts_madeBy_21 rfl (lv_at hl 3 rfl) ?_
    refine lv_aload_n hx hb d_Facts_madeBy_22 rfl (lv_at hl 2 rfl) ?_
    refine va_get (D := D) (ci := 0) (v := .ref qr1_a) (C := R_Code) (T := T_Code) (N := 7) hx hb hts in_Code hown hK.1 hP 2 rfl rfl 2 (by decide) (hts _ a_39) (fun _ h9 => h9) rfl d_Facts_madeBy_23 ?_
    refine lv_iload_n hx hb d_Facts_madeBy_26 rfl (lv_at hl 3 rfl) ?_
    obtain ⟨v2, e_v2, hm⟩ := ob hm
    refine vx_iald hx hb hK hP 4 rfl e_v2 d_Facts_madeBy_27 ?_
    obtain ⟨rz3, e_rz3, hm⟩ := ob hm
    have hC : ([0, 1] : List Nat).map (fun i => (ww_Facts_madeBy cI cJ cZ qt qt_before qt_flowing qr1 qr1_op qr1_d qr1_a qr1_b qr1_need t_before r1_length r1_leaders r1_op r1_a r1_b)[i]?) = (ww_Facts_at cI cJ cZ qt qt_before qt_flowing t_before).map some := rfl
    refine vj_l (w1 := (ww_Facts_at cI cJ cZ qt qt_before qt_flowing t_before)) (wn := (ww_Facts_madeBy cI cJ cZ qt qt_before qt_flowing qr1 qr1_op qr1_d qr1_a qr1_b qr1_need t_before r1_length r1_leaders r1_op r1_a r1_b)) (isR := [2, 3, 4, 5]) (nw := 6) (vr_V (C := R_Facts) (n := 2) (As := [.int p2, .int v2]) S ((c_Facts_at l D cI cJ cZ qt qt_before qt_flowing t_before p2 v2 rz3 e_rz3) H.size) a_310 a_221 a_222 a_3 a_223 (by decide +kernel) ⟨rfl, rfl⟩ ⟨Nat.le_of_ble_eq_true rfl, Nat.le_of_ble_eq_true rfl⟩ (ci := 1) (q0 := 0) rfl rfl hK hP hD (by decide) hC rfl hl.1 (Nat.le_of_ble_eq_true rfl) d_Facts_madeBy_28 ⟨Nat.zero_le _, Nat.zero_le _⟩ rfl) hP hD hS hA hC rfl rfl (vx_c rfl rfl (vx_c rfl rfl (vx_c rfl rfl (vx_c rfl rfl vx_n)))) rfl (by decide) (fun H locs hP hD hS => ?_)
    refine lv_lstore hx hb d_Facts_madeBy_31 hl (by decide) rfl (fun ls hl => ?_)
    have hl : lv_has ls 8 [(4, .long rz3), (3, .int v1), (0, .ref qt), (1, .ref qr1), (2, .int p2)] := hl
    refine lv_iload_n hx hb d_Facts_madeBy_33 rfl (lv_at hl 1 rfl) ?_
    refine lv_iconst (v := (2 : Int32)) hx hb d_Facts_madeBy_34 (by decide) ?_
    refine lv_icmp_ne (tgt := 41) hx hb d_Facts_madeBy_35 (by decide) (fun hc => ?_) (fun hc => ?_)
    · have hm := iff_ hc hm
      refine lv_aload_n hx hb d_Facts_madeBy_41 rfl (lv_at hl 2 rfl) ?_
      refine lv_iload_n hx hb d_Facts_madeBy_42 rfl (lv_at hl 4 rfl) ?_
      refine lv_aload_n hx hb d_Facts_madeBy_43 rfl (lv_at hl 3 rfl) ?_
      refine va_get (D := D) (ci := 0) (v := .ref qr1_b) (C := R_Code) (T := T_Code) (N := 7) hx hb hts in_Code hown hK.1 hP 2 rfl rfl 3 (by decide) (hts _ a_44) (fun _ h9 => h9) rfl d_Facts_madeBy_44 ?_
      refine lv_iload_n hx hb d_Facts_madeBy_47 rfl (lv_at hl 4 rfl) ?_
      obtain ⟨v4, e_v4, hm⟩ := ob hm
      refine vx_iald hx hb hK hP 5 rfl e_v4 d_Facts_madeBy_48 ?_
      obtain ⟨rz5, e_rz5, hm⟩ := ob hm
      have hC : ([0, 1] : List Nat).map (fun i => (ww_Facts_madeBy cI cJ cZ qt qt_before qt_flowing qr1 qr1_op qr1_d qr1_a qr1_b qr1_need t_before r1_length r1_leaders r1_op r1_a r1_b)[i]?) = (ww_Facts_at cI cJ cZ qt qt_before qt_flowing t_before).map some := rfl
      refine vj_l (w1 := (ww_Facts_at cI cJ cZ qt qt_before qt_flowing t_before)) (wn := (ww_Facts_madeBy cI cJ cZ qt qt_before qt_flowing qr1 qr1_op qr1_d qr1_a qr1_b qr1_need t_before r1_length r1_leaders r1_op r1_a r1_b)) (isR := [2, 3, 4, 5]) (nw := 6) (vr_V (C := R_Facts) (n := 2) (As := [.int p2, .int v4]) S ((c_Facts_at l D cI cJ cZ qt qt_before qt_flowing t_before p2 v4 rz5 e_rz5) H.size) a_310 a_221 a_222 a_3 a_223 (by decide +kernel) ⟨rfl, rfl⟩ ⟨Nat.le_of_ble_eq_true rfl, Nat.le_of_ble_eq_true rfl⟩ (ci := 1) (q0 := 0) rfl rfl hK hP hD (by decide) hC rfl hl.1 (Nat.le_of_ble_eq_true rfl) d_Facts_madeBy_49 ⟨Nat.zero_le _, Nat.zero_le _⟩ rfl) hP hD hS hA hC rfl rfl (vx_c rfl rfl (vx_c rfl rfl (vx_c rfl rfl (vx_c rfl rfl vx_n)))) rfl (by decide) (fun H locs hP hD hS => ?_)
      refine lv_lstore hx hb d_Facts_madeBy_52 hl (by decide) rfl (fun ls hl => ?_)
      have hl : lv_has ls 8 [(6, .long rz5), (4, .long rz3), (3, .int v1), (0, .ref qt), (1, .ref qr1), (2, .int p2)] := hl
      refine lv_lload hx hb d_Facts_madeBy_54 (lv_at hl 1 rfl) ?_
      obtain ⟨rz6, e_rz6, hm⟩ := ob hm
      have hC : ([] : List Nat).map (fun i => (ww_Facts_madeBy cI cJ cZ qt qt_before qt_flowing qr1 qr1_op qr1_d qr1_a qr1_b qr1_need t_before r1_length r1_leaders r1_op r1_a r1_b)[i]?) = (ww_BlockCode_isInt cI cJ cZ).map some := rfl
      refine vj_i (w1 := (ww_BlockCode_isInt cI cJ cZ)) (wn := (ww_Facts_madeBy cI cJ cZ qt qt_before qt_flowing qr1 qr1_op qr1_d qr1_a qr1_b qr1_need t_before r1_length r1_leaders r1_op r1_a r1_b)) (isR := [0, 1, 2, 3, 4, 5]) (nw := 6) (vr_SN (host := "BlockCode") (n := 1) (As := [.long rz3]) S ((c_BlockCode_isInt l D cI cJ cZ rz3 rz6 e_rz6) H.size) an_320 a_321 a_1 a_322 (by decide +kernel) ⟨rfl, rfl⟩ ⟨Nat.le_of_ble_eq_true rfl, Nat.le_of_ble_eq_true rfl⟩ hK hP hD (by decide) hC rfl hl.1 (Nat.le_of_ble_eq_true rfl) d_Facts_madeBy_56 ⟨Nat.zero_le _, Nat.zero_le _⟩ rfl) hP hD hS hA hC rfl rfl (vx_c rfl rfl (vx_c rfl rfl (vx_c rfl rfl (vx_c rfl rfl (vx_c rfl rfl (vx_c rfl rfl vx_n)))))) rfl (by decide) (fun H locs hP hD hS => ?_)
      refine lv_if_eq (tgt := 80) hx hb d_Facts_madeBy_59 (by decide) (fun hc => ?_) (fun hc => ?_)
      · have hm := ift hc hm
        refine lv_ldc2 (v := (4294967296 : Int64)) hx hb hown (hts _ a_304) d_Facts_madeBy_80 ?_
        cases hm
        exact W.lret hx hb hr (fun t ht hW => hQ t _ _ ht hW hP hS) hS.2.2 d_Facts_madeBy_83 hlk
      · have hm := iff_ hc hm
        refine lv_lload hx hb d_Facts_madeBy_62 (lv_at hl 0 rfl) ?_
        obtain ⟨rz7, e_rz7, hm⟩ := ob hm
        have hC : ([] : List Nat).map (fun i => (ww_Facts_madeBy cI cJ cZ qt qt_before qt_flowing qr1 qr1_op qr1_d qr1_a qr1_b qr1_need t_before r1_length r1_leaders r1_op r1_a r1_b)[i]?) = (ww_BlockCode_isInt cI cJ cZ).map some := rfl
        refine vj_i (w1 := (ww_BlockCode_isInt cI cJ cZ)) (wn := (ww_Facts_madeBy cI cJ cZ qt qt_before qt_flowing qr1 qr1_op qr1_d qr1_a qr1_b qr1_need t_before r1_length r1_leaders r1_op r1_a r1_b)) (isR := [0, 1, 2, 3, 4, 5]) (nw := 6) (vr_SN (host := "BlockCode") (n := 1) (As := [.long rz5]) S ((c_BlockCode_isInt l D cI cJ cZ rz5 rz7 e_rz7) H.size) an_320 a_321 a_1 a_322 (by decide +kernel) ⟨rfl, rfl⟩ ⟨Nat.le_of_ble_eq_true rfl, Nat.le_of_ble_eq_true rfl⟩ hK hP hD (by decide) hC rfl hl.1 (Nat.le_of_ble_eq_true rfl) d_Facts_madeBy_64 ⟨Nat.zero_le _, Nat.zero_le _⟩ rfl) hP hD hS hA hC rfl rfl (vx_c rfl rfl (vx_c rfl rfl (vx_c rfl rfl (vx_c rfl rfl (vx_c rfl rfl (vx_c rfl rfl vx_n)))))) rfl (by decide) (fun H locs hP hD hS => ?_)
        refine lv_if_eq (tgt := 80) hx hb d_Facts_madeBy_67 (by decide) (fun hc => ?_) (fun hc => ?_)
        · have hm := ift hc hm
          refine lv_ldc2 (v := (4294967296 : Int64)) hx hb hown (hts _ a_304) d_Facts_madeBy_80 ?_
          cases hm
          exact W.lret hx hb hr (fun t ht hW => hQ t _ _ ht hW hP hS) hS.2.2 d_Facts_madeBy_83 hlk
        · have hm := iff_ hc hm
          refine lv_iload_n hx hb d_Facts_madeBy_70 rfl (lv_at hl 2 rfl) ?_
          refine lv_lload hx hb d_Facts_madeBy_71 (lv_at hl 0 rfl) ?_
          refine lv_l2i (v := rz5.toInt32) hx hb d_Facts_madeBy_73 rfl ?_
          obtain ⟨rz8, e_rz8, hm⟩ := ob hm
          have hC : ([] : List Nat).map (fun i => (ww_Facts_madeBy cI cJ cZ qt qt_before qt_flowing qr1 qr1_op qr1_d qr1_a qr1_b qr1_need t_before r1_length r1_leaders r1_op r1_a r1_b)[i]?) = (ww_BlockCode_dividesByZero cI cJ cZ).map some := rfl
          refine vj_i (w1 := (ww_BlockCode_dividesByZero cI cJ cZ)) (wn := (ww_Facts_madeBy cI cJ cZ qt qt_before qt_flowing qr1 qr1_op qr1_d qr1_a qr1_b qr1_need t_before r1_length r1_leaders r1_op r1_a r1_b)) (isR := [0, 1, 2, 3, 4, 5]) (nw := 6) (vr_SN (host := "BlockCode") (n := 2) (As := [.int v1, .int rz5.toInt32]) S ((c_BlockCode_dividesByZero l D cI cJ cZ v1 rz5.toInt32 rz8 e_rz8) H.size) an_324 a_325 a_1 a_326 (by decide +kernel) ⟨rfl, rfl⟩ ⟨Nat.le_of_ble_eq_true rfl, Nat.le_of_ble_eq_true rfl⟩ hK hP hD (by decide) hC rfl hl.1 (Nat.le_of_ble_eq_true rfl) d_Facts_madeBy_74 ⟨Nat.zero_le _, Nat.zero_le _⟩ rfl) hP hD hS hA hC rfl rfl (vx_c rfl rfl (vx_c rfl rfl (vx_c rfl rfl (vx_c rfl rfl (vx_c rfl rfl (vx_c rfl rfl vx_n)))))) rfl (by decide) (fun H locs hP hD hS => ?_)
          refine lv_if_eq (tgt := 84) hx hb d_Facts_madeBy_77 (by decide) (fun hc => ?_) (fun hc => ?_)
          · have hm := ift hc hm
            refine lv_iload_n hx hb d_Facts_madeBy_84 rfl (lv_at hl 2 rfl) ?_
            refine lv_lload hx hb d_Facts_madeBy_85 (lv_at hl 1 rfl) ?_
            refine lv_l2i (v := rz3.toInt32) hx hb d_Facts_madeBy_87 rfl ?_
            refine lv_lload hx hb d_Facts_madeBy_88 (lv_at hl 0 rfl) ?_
            refine lv_l2i (v := rz5.toInt32) hx hb d_Facts_madeBy_90 rfl ?_
            obtain ⟨rz9, e_rz9, hm⟩ := ob hm
            have hC : ([] : List Nat).map (fun i => (ww_Facts_madeBy cI cJ cZ qt qt_before qt_flowing qr1 qr1_op qr1_d qr1_a qr1_b qr1_need t_before r1_length r1_leaders r1_op r1_a r1_b)[i]?) = (ww_BlockCode_combined cI cJ cZ).map some := rfl
            refine vj_i (w1 := (ww_BlockCode_combined cI cJ cZ)) (wn := (ww_Facts_madeBy cI cJ cZ qt qt_before qt_flowing qr1 qr1_op qr1_d qr1_a qr1_b qr1_need t_before r1_length r1_leaders r1_op r1_a r1_b)) (isR := [0, 1, 2, 3, 4, 5]) (nw := 6) (vr_SN (host := "BlockCode") (n := 3) (As := [.int v1, .int rz3.toInt32, .int rz5.toInt32]) S ((c_BlockCode_combined l D cI cJ cZ v1 rz3.toInt32 rz5.toInt32 rz9 e_rz9) H.size) an_327 a_328 a_1 a_329 (by decide +kernel) ⟨rfl, rfl⟩ ⟨Nat.le_of_ble_eq_true rfl, Nat.le_of_ble_eq_true rfl⟩ hK hP hD (by decide) hC rfl hl.1 (Nat.le_of_ble_eq_true rfl) d_Facts_madeBy_91 ⟨Nat.zero_le _, Nat.zero_le _⟩ rfl) hP hD hS hA hC rfl rfl (vx_c rfl rfl (vx_c rfl rfl (vx_c rfl rfl (vx_c rfl rfl (vx_c rfl rfl (vx_c rfl rfl vx_n)))))) rfl (by decide) (fun H locs hP hD hS => ?_)
            refine lv_i2l (v := rz9.toInt64) hx hb d_Facts_madeBy_94 rfl ?_
            cases hm
            exact W.lret hx hb hr (fun t ht hW => hQ t _ _ ht hW hP hS) hS.2.2 d_Facts_madeBy_95 hlk
          · have hm := iff_ hc hm
            refine lv_ldc2 (v := (4294967296 : Int64)) hx hb hown (hts _ a_304) d_Facts_madeBy_80 ?_
            cases hm
            exact W.lret hx hb hr (fun t ht hW => hQ t _ _ ht hW hP hS) hS.2.2 d_Facts_madeBy_83 hlk
    · have hm := ift hc hm
      refine lv_lload hx hb d_Facts_madeBy_38 (lv_at hl 0 rfl) ?_
      cases hm
      exact W.lret hx hb hr (fun t ht hW => hQ t _ _ ht hW hP hS) hS.2.2 d_Facts_madeBy_40 hlk
  · have hm := ift hc hm
    refine lv_aload_n hx hb d_Facts_madeBy_12 rfl (lv_at hl 2 rfl) ?_
    refine va_get (D := D) (ci := 0) (v := .ref qr1_a) (C := R_Code) (T := T_Code) (N := 7) hx hb hts in_Code hown hK.1 hP 2 rfl rfl 2 (by decide) (hts _ a_39) (fun _ h9 => h9) rfl d_Facts_madeBy_13 ?_
    refine lv_iload_n hx hb d_Facts_madeBy_16 rfl (lv_at hl 3 rfl) ?_
    obtain ⟨v10, e_v10, hm⟩ := ob hm
    refine vx_iald hx hb hK hP 4 rfl e_v10 d_Facts_madeBy_17 ?_
    refine lv_i2l (v := v10.toInt64) hx hb d_Facts_madeBy_18 rfl ?_
    cases hm
    exact W.lret hx hb hr (fun t ht hW => hQ t _ _ ht hW hP hS) hS.2.2 d_Facts_madeBy_19 hlk
set_option maxHeartbeats 4000000 in
set_option maxRecDepth 100000 in
theorem c_Facts_madeBy (l : Launch) (D : va_G) (cI cJ cZ : ClassId) (qt : Nat) (qt_before : Nat) (qt_flowing : Nat) (qr1 : Nat) (qr1_op : Nat) (qr1_d : Nat) (qr1_a : Nat) (qr1_b : Nat) (qr1_need : Nat) (t_before : Nat → Int64) (r1_length : Int32) (r1_leaders : Int32) (r1_op : Nat → Int32) (r1_a : Nat → Int32) (r1_b : Nat → Int32) (p2 : Int32) (o_r : Int64) (hm : f_Facts_madeBy p2 t_before r1_op r1_a r1_b = some o_r) : ML l y_Facts_madeBy b_Facts_madeBy 8 rm_Facts_madeBy D cI cJ cZ [.ref qt, .ref qr1, .int p2] (ww_Facts_madeBy cI cJ cZ qt qt_before qt_flowing qr1 qr1_op qr1_d qr1_a qr1_b qr1_need t_before r1_length r1_leaders r1_op r1_a r1_b) (ww_Facts_madeBy cI cJ cZ qt qt_before qt_flowing qr1 qr1_op qr1_d qr1_a qr1_b qr1_need t_before r1_length r1_leaders r1_op r1_a r1_b) o_r := by
  intro sz
  refine Met.ofW (cc := b_Facts_madeBy) (maxL := 8) (ret := (some .long)) (by decide) rfl ?_
  intro p e s m args below meth c s₁ B hml hv
  obtain ⟨rfl, hsz, hP, hK, hD0⟩ := hv
  have hts := atoms_spec (ws := Cond.code y_Facts_madeBy b_Facts_madeBy 8 (some .long) :: tbg) B.pre
  have S : CallFix p m c b_Facts_madeBy 8 s ([.ref qt, .ref qr1, .int p2] : List Value).toArray tbg R_Facts := ⟨B.exec, B.bytes, hml, findClass_of_methodNamed B.named, fun w hw => hts w (List.mem_cons_of_mem _ hw)⟩
  subst hsz
  have hD := hD0.self (sz := s.heap.size)
  have hl := lv_entry ([.ref qt, .ref qr1, .int p2] : List Value) (n := 8) (Nat.le_of_ble_eq_true rfl)
  rw [lg_entry_eq]
  generalize (lg_sl ([.ref qt, .ref qr1, .int p2] : List Value) ++ List.replicate (8 - (lg_sl ([.ref qt, .ref qr1, .int p2] : List Value)).length) Slot.unset).toArray = ls at hl ⊢
  have hl : lv_has ls 8 [(0, .ref qt), (1, .ref qr1), (2, .int p2)] := hl
  exact w_Facts_madeBy S B.returns B.notSynchronized hK (fun q h => Or.inr h) qt qt_before qt_flowing qr1 qr1_op qr1_d qr1_a qr1_b qr1_need p2 t_before r1_op r1_a r1_b r1_length r1_leaders o_r (fun t H locs ht hW hP hS => ⟨⟨_, (), rfl, rfl, sB_of ht hP⟩, hS.F ht⟩) s.heap [] ls hl hP hD va_S.rf hm
