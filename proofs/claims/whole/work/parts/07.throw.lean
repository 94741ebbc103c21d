/-! ===== throws: a contract that ends in 'threw', the throw itself, passing on, catching (my own rows over the library's laws) ===== -/
def vt_end (cls : String) (st : State) (o : Outcome) (t : State) (mc ms : Nat) : Prop :=
  ∃ x : Addr, o = .threw x ∧ st.WarmedH t.vm ∧ st.sameButNew ({ t with vm := st.vm } : State) [] mc ms ∧ ∃ cell : Cell, t.heap[x]? = some cell ∧ cell.vm.isStatics = false ∧ st.vm.findClass cls = some cell.cls
def MetT (l : Launch) (y : MethodName) (ws : List Cond) (rm : Room) (Pc : Array Value → State → Prop) (cls : String) (mc ms : Nat) : Prop :=
  MetFree l y (headSpec ws rm) Pc (fun _ _ _ _ _ => True) (fun _ st o t => vt_end cls st o t mc ms)
def TQ (below : List Frame) (cls : String) (s : State) (mc ms : Nat) : State → Prop := fun t => ∃ o, t.status = .running ∧ Ended t below o ∧ vt_end cls s o t mc ms
theorem MetT.ofW {l : Launch} {y : MethodName} {ws ws' : List Cond} {rm : Room} {Pc : Array Value → State → Prop} {cls : String} {mc ms : Nat} {cc : ByteArray} {maxL : Nat} {ret : Option FieldType}
    (hy : plainName y.cls = true) (hw : ws = Cond.code y cc maxL ret :: ws')
    (body : ∀ p e s m args below meth c s₁, BodyLoose p l y (headSpec ws rm) cc maxL ret e s m args below meth c s₁ → c.maxLocals = maxL → Pc args s →
      W p l e (headSpec ws rm).room s m args below meth c s.heap [] 0 0 (TQ below cls s mc ms) (entryFrame m args maxL)) : MetT l y ws rm Pc cls mc ms := by
  refine MetFree.of_bodyS (code := cc) (maxLocals := maxL) (ret := ret) hy ?_ ?_
  · intro args s m h hn
    obtain ⟨meth, c, h1, h2, h3, h4, h5, h6, -, -⟩ := Cond.code_spec hn (atoms_spec (ws := ws) h _ (by rw [hw]; exact List.mem_cons_self))
    exact ⟨meth, c, h1, h2, h3, h4, h5, h6⟩
  · intro p e s m args below meth c s₁ B hml hP _
    have hh0 : s₁.heap = s.heap := by rw [B.state]; rfl
    obtain ⟨t, a1, o, b1, b2, b3⟩ := body p e s m args below meth c s₁ B hml hP s₁ hh0 (Stand.of_body B)
    exact ⟨t, o, a1, b1, b2, b3⟩
/-- old cells stay, to the last slot -/
theorem vt_kept {s t : State} {mc ms : Nat} (h : s.sameButNew t [] mc ms) : s.heap.size ≤ t.heap.size ∧ ∀ q : Nat, q < s.heap.size → t.heap[q]? = s.heap[q]? := by
  refine ⟨h.2.1, fun q hq => ?_⟩
  have h0 : s.heap[q]? = some s.heap[q] := Array.getElem?_eq_getElem hq
  obtain ⟨c', h1, h2, h3, h4⟩ := h.2.2.2.2.2 q _ h0
  have h5 : c'.slots = s.heap[q].slots := Array.ext_getElem? fun i => h4 i (by simp)
  rw [h1, h0, h2, h5]
/-- a static field that holds a reference, in words of the state -/
def vt_pin (o n d : String) (U : State) : Prop :=
  ∃ (c : ClassId) (k : Class) (i : Nat) (f : Field) (a : Addr) (cell : Cell) (v : Value), U.fieldFound? o n d = some (c, k, i, f) ∧ f.isStatic = true ∧ k.statics = some a ∧ U.heap[a]? = some cell ∧ cell.vm.isStatics = true ∧ cell.slots[f.slot]? = some v ∧ v.isRef = true
theorem vt_pin.of {args : Array Value} {s : State} {o n d : String} (h : (Cond.isRef (.static o n d)).before args s = true) : vt_pin o n d s := by
  simp only [Cond.before, Cond.holds, Cond.value, Term.eval, State.fieldNamed?] at h
  cases hf : s.fieldFound? o n d with
  | none => simp [hf] at h
  | some q =>
    obtain ⟨c, k, i, f⟩ := q
    cases hs : f.isStatic with
    | false => simp [hf, hs] at h
    | true =>
      cases hk : k.statics with
      | none => simp [hf, hs, hk] at h
      | some a =>
        cases hc : s.heap[a]? with
        | none => simp [hf, hs, hk, hc] at h
        | some cell =>
          cases hi : cell.vm.isStatics with
          | false => simp [hf, hs, hk, hc, hi] at h
          | true =>
            cases hv : cell.slots[f.slot]? with
            | none => simp [hf, hs, hk, hc, hi, hv] at h
            | some v =>
              refine ⟨c, k, i, f, a, cell, v, hf, hs, hk, hc, hi, hv, ?_⟩
              cases v <;> first | rfl | simp [hf, hs, hk, hc, hi, hv] at h
theorem vt_pin.before {args : Array Value} {s : State} {o n d : String} (h : vt_pin o n d s) : (Cond.isRef (.static o n d)).before args s = true := by
  obtain ⟨c, k, i, f, a, cell, v, hf, hs, hk, hc, hi, hv, hr⟩ := h
  cases v <;> simp [Value.isRef] at hr <;> simp [Cond.before, Cond.holds, Cond.value, Term.eval, State.fieldNamed?, hf, hs, hk, hc, hi, hv]
theorem vt_pin.moved {s U : State} {o n d : String} (hA : s.vm.Alike U.vm) (hk : ∀ q : Nat, q < s.heap.size → U.heap[q]? = s.heap[q]?) (h : vt_pin o n d s) : vt_pin o n d U := by
  obtain ⟨c, k, i, f, a, cell, v, hf, hs, hst, hc, hi, hv, hr⟩ := h
  obtain ⟨k', hf', he⟩ := State.fieldFound?_setVm (s := s) hA hf
  have hf2 : U.fieldFound? o n d = some (c, k', i, f) := hf'
  refine ⟨c, k', i, f, a, cell, v, hf2, hs, by rw [he]; exact hst, ?_, hi, hv, hr⟩
  rw [hk a (Array.getElem?_eq_some_iff.mp hc).1]; exact hc
/-- a static field that its class lays, in words of the state -/
def vt_lay (o n d : String) (U : State) : Prop :=
  ∃ (c : ClassId) (k : Class) (i : Nat) (f : Field) (a : Addr) (cell : Cell), U.vm.findClass o = some c ∧ U.fieldFound? o n d = some (c, k, i, f) ∧ f.isStatic = true ∧ k.statics = some a ∧ U.heap[a]? = some cell ∧ cell.vm.isStatics = true ∧ cell.cls = c ∧ f.slot < cell.slots.size ∧ k.staticTypes[f.slot]? = some f.type
theorem vt_lay.of {args : Array Value} {s : State} {o n d : String} (h : (Cond.laysStatic o n d).before args s = true) : vt_lay o n d s := by
  obtain ⟨c, k, i, f, a, cell, h1, h2, h3, h4, h5, h6, h7, h8, h9⟩ := Cond.laysStatic_spec (args := args) (first := s) (o := none) (s := s) (idx := []) h
  exact ⟨c, k, i, f, a, cell, h1, h2, h3, h4, h5, h6, h7, h8, h9⟩
theorem vt_lay.before {args : Array Value} {s : State} {o n d : String} (h : vt_lay o n d s) : (Cond.laysStatic o n d).before args s = true := by
  obtain ⟨c, k, i, f, a, cell, h1, h2, h3, h4, h5, h6, h7, h8, h9⟩ := h
  subst h7
  simp [Cond.before, Cond.holds, Cond.value, h1, h2, h3, h4, h5, h6, h8, h9]
theorem vt_lay.moved {s U : State} {o n d : String} (hA : s.vm.Alike U.vm) (hk : ∀ q : Nat, q < s.heap.size → U.heap[q]? = s.heap[q]?) (h : vt_lay o n d s) : vt_lay o n d U := by
  obtain ⟨c, k, i, f, a, cell, h1, h2, h3, h4, h5, h6, h7, h8, h9⟩ := h
  obtain ⟨k', hf', he⟩ := State.fieldFound?_setVm (s := s) hA h2
  have hf2 : U.fieldFound? o n d = some (c, k', i, f) := hf'
  refine ⟨c, k', i, f, a, cell, by rw [hA.findClass]; exact h1, hf2, h3, by rw [he]; exact h4, ?_, h6, h7, h8, by rw [he]; exact h9⟩
  rw [hk a (Array.getElem?_eq_some_iff.mp h5).1]; exact h5
/-- the messages' constants, resolved already -/
def strW : List Cond := [.stringRef R_BlockCode 61 "the source is sealed", .stringRef R_BlockCode 78 "the source is sealed already", .stringRef R_BlockCode 196 "the source is not sealed"]
theorem strW_in : ∀ w ∈ strW, w ∈ tables_1 := by
  have h : strW.all (fun w => decide (w ∈ tables_1)) = true := by decide +kernel
  exact fun w hw => of_decide_eq_true (List.all_eq_true.mp h w hw)
theorem str_vm {s U : State} {A A' : Array Value} {c t : String} {i : Nat} (hv : s.vm = U.vm) (h : (Cond.stringRef c i t).before A s = true) : (Cond.stringRef c i t).before A' U = true := by
  cases s; cases U; cases hv; exact h
theorem str_at {w : Cond} (hw : w ∈ strW) : ∃ c i t, w = Cond.stringRef c i t := by
  simp only [strW, List.mem_cons, List.not_mem_nil, or_false] at hw
  rcases hw with rfl | rfl | rfl <;> exact ⟨_, _, _, rfl⟩
def pins (U : State) : Prop := (vt_pin Bundle.tN "UNASSIGNED_STACK" Bundle.steD U ∧ vt_lay Bundle.tN "UNASSIGNED_STACK" Bundle.steD U) ∧ (vt_pin Bundle.tN "SUPPRESSED_SENTINEL" Bundle.listD U ∧ vt_lay Bundle.tN "SUPPRESSED_SENTINEL" Bundle.listD U) ∧ (∀ w ∈ strW, w.before #[] U = true) ∧ ∀ w ∈ lw_tbl, w.onTables = true → w.keepsFace = true → va_Nw w U
theorem pins.moved {s U : State} (hW : s.WarmedH U.vm) (hk : ∀ q : Nat, q < s.heap.size → U.heap[q]? = s.heap[q]?) (h : pins s) : pins U := by
  refine ⟨⟨h.1.1.moved hW.alike hk, h.1.2.moved hW.alike hk⟩, ⟨h.2.1.1.moved hW.alike hk, h.2.1.2.moved hW.alike hk⟩, fun w hw => ?_, fun w hw h1 h2 => ?_⟩
  · have h1 := h.2.2.1 w hw
    obtain ⟨c, i, t, rfl⟩ := str_at hw
    exact str_vm (rfl : (s.setVm U.vm).vm = U.vm) (Cond.stringRef_warmed (args := #[]) hW h1)
  · exact va_tabs h1 (rfl : (s.setVm U.vm).vm = U.vm) (Cond.before_shiftedFace (State.Shifted.of_warmed hW) w h2 (h.2.2.2 w hw h1 h2))
theorem pins.same {s U : State} (hv : s.vm = U.vm) (hk : U.heap = s.heap) (h : pins s) : pins U := by
  have hA : s.vm.Alike U.vm := by rw [hv]; exact Vm.Alike.refl U.vm
  have hk' : ∀ q : Nat, q < s.heap.size → U.heap[q]? = s.heap[q]? := fun q _ => by rw [hk]
  refine ⟨⟨h.1.1.moved hA hk', h.1.2.moved hA hk'⟩, ⟨h.2.1.1.moved hA hk', h.2.1.2.moved hA hk'⟩, fun w hw => ?_, fun w hw h1 h2 => va_Nw.same h1 hv (h.2.2.2 w hw h1 h2)⟩
  have h1 := h.2.2.1 w hw
  obtain ⟨c, i, t, rfl⟩ := str_at hw
  exact str_vm hv h1
section VT
variable {p : Program} {l : Launch} {e : Env} {R : Room} {s : State} {m : MethodId} {args : Array Value} {below : List Frame} {meth : Method} {c : Code} {H : Heap} {locs : List Loc} {cells slots : Nat} {Q : State → Prop}
variable {Ts ws : List Cond} {cc bytes : ByteArray} {nL maxL index n mc ms pc : Nat} {own C cls : String} {y : MethodName} {ret : Option FieldType} {rm : Room} {Pc : Array Value → State → Prop} {b : Addr} {As rest st0 : List Value} {ls : Array Slot}
/-- new X; dup; ldc text; X(String); athrow, in a method that has changed nothing and catches nothing -/
theorem vt_throw (hx : p.tables.exec = Jvm.exec) (hb : c.code = cc) (hml : c.maxLocals = nL) (hown : s.vm.findClass own = some m.cls) (hlk : meth.locks = false) (he : c.exceptionTable.isEmpty = true) (htr : l.stackTraces = false)
    {ix is ic : Nat} {text : String} (h1 : (Cond.classLink own ix xISE).before args s = true) (h2 : (Cond.initialized xISE).before args s = true) (h3 : (Cond.stringRef own is text).before args s = true)
    (h4 : ∀ a ∈ Bundle.ownAtoms own ic xISE xUp, a.before args s = true)
    (d1 : decode cc pc = .ok (.new ix, 3)) (d2 : decode cc (pc + 3) = .ok (.dup, 1)) (d3 : decode cc (pc + 4) = .ok (.ldc is, 2)) (d4 : decode cc (pc + 6) = .ok (.invokespecial ic, 3)) (d5 : decode cc (pc + 9) = .ok (.athrow, 1))
    (hsz : ls.size = nL) (hR : 6 ≤ R.frames ∧ 1 ≤ R.cells ∧ 6 ≤ R.slots ∧ 100 ≤ R.locals) :
    W p l e R s m args below meth c s.heap [] 0 0 (TQ below xISE s 1 6) (F0 m pc ls []) := by
  intro T hT X
  subst hb
  have htr' : e.platform.stackTraces = false := by rw [X.admits.platform]; exact htr
  obtain ⟨vm₁, cX, kX, hfX, hkX, -, -, X₁, st1⟩ := X.newCold hx (own := own) (C := xISE) (index := ix) (n := 6) hown h1 (h4 (.instantiable xISE 6) (by simp [Bundle.ownAtoms])) h2 (g := F0 m pc ls []) rfl d1 (by omega) (by omega)
  generalize hT1 : (T.setVm vm₁).pushCell { cls := cX, slots := kX.instanceTypes.map defaultValue, vm := .none } = T1 at X₁ st1
  have hcellA : T1.heap[T.heap.size]? = some (freshCell cX kX) := by rw [← hT1]; exact State.heap_pushCell_size _ _
  obtain ⟨-, -, -, sa, -, -, -, -, -, hev⟩ := Cond.stringRef_spec hown h3
  obtain ⟨U, hsteps, hrun, hend, hW, hsame, ce, hce, K⟩ := X₁.ctorThrowS hx htr' (own := own) (cls := xISE) (names := xUp) (ic := ic) hown (by decide +kernel) (by decide +kernel) h4 (fun y hy => by cases hy) hfX hkX hcellA (by rw [hT]; exact Nat.le_refl _) (msg := .ref sa) rfl
    (g := F0 m (pc + 6) ls [.ref sa, .ref T.heap.size, .ref T.heap.size]) rfl (hsz.trans hml.symm) rfl rfl (rest := []) rfl d4 d5 (covers_of_empty he _) (by simp only [xUp, List.length_cons, List.length_nil]; omega)
    (by simp only [xUp, List.length_cons, List.length_nil, List.map_cons, List.map_nil, List.sum_cons, List.sum_nil, Value.category, JFrame.monitorRoom]; omega) hlk
  refine ⟨U, ?_, .threw T.heap.size, hrun, hend, _, rfl, hW, by simpa using hsame, ce, hce, by rw [K.vm]; rfl, K.cls⟩
  refine st1 _ ?_
  jvm_step X₁.here [X₁.here.top, hx, d2, Value.category]
  exact X₁.ldcString hx (own := own) (text := text) (index := is) (a := sa) hown h3 hev (g := F0 m (pc + 4) ls [.ref T.heap.size, .ref T.heap.size]) rfl d3 _ hsteps
/-- a virtual call that throws: the note lies over the caller's frame -/
theorem vt_run (S : CallFix p m c cc nL s args Ts own) (hM : MetT l y ws rm Pc cls mc ms) (cw : CallW R s args own C index y bytes maxL ret ws rm mc ms n) (hp : PreV s H C b Pc As)
    (hn : As.length = n) (hsize : ls.size = nL) (hst : st0 = As.reverse ++ .ref b :: rest) (hW : (rest.map fun v => v.category).sum ≤ 8) (hdg : decode cc pc = .ok (.invokevirtual index, 3)) (hf : cells + mc ≤ R.cells ∧ slots + ms ≤ R.slots)
    {T : State} (hT : T.heap = H) (X : Stand p l e R s m args below meth c T locs cells slots) :
    ∃ (x : Addr) (T' : State) (cell : Cell), Stand p l e R s m args below meth c T' locs (cells + mc) (slots + ms) ∧ H.size ≤ T'.heap.size ∧ (∀ q : Nat, q < H.size → T'.heap[q]? = H[q]?) ∧ T'.heap[x]? = some cell ∧ cell.vm.isStatics = false ∧ s.vm.findClass cls = some cell.cls ∧
      Steps p.tables e below (T.setTop (F0 m pc ls st0)) ((T'.setTop (F0 m pc ls rest)).pushFrame (.throwing x)) := by
  obtain ⟨⟨hrc, hrs, hfr, hlo, hws, hcw, hcode, hini, hy, hlen, hl⟩, hin, hse⟩ := cw
  obtain ⟨hx, hb, hml, ho, -⟩ := S
  obtain ⟨hbl, ⟨cellB, hcB, hoB, hclB⟩, hPc⟩ := hp
  subst hb
  obtain ⟨mk, methM, hnamed, hmethM, hstM, habM⟩ := Cond.instanceMethod_spec hin
  obtain ⟨methM', cM, hmethM', hcM, -, hlM, -, -, -, hsigM⟩ := Cond.code_spec hnamed hcode
  cases hmethM.symm.trans hmethM'
  obtain ⟨c2, r2, m2, q1, q2, q3, q4, kP, hkP, hkPi⟩ := Cond.selects_spec hse
  cases hclB.symm.trans q1
  cases (State.methodFound?_of_named hnamed hy).symm.trans q2
  cases hnamed.symm.trans q3
  have hselP : selectMethod e.platform s.vm cellB.cls mk = .method mk := by rw [Launch.admits_selectMethod X.admits]; exact q4
  obtain ⟨vm₁, X₁, hstep₁⟩ := X.invokevirtual hx ho hl hnamed hmethM hstM hkP hkPi hy (a := b) (cell := cellB) (by rw [hT]; exact hcB)
    (fun z h => by rw [h] at hoB; cases hoB) hselP hmethM habM hkP hkPi (g := F0 m pc ls st0) rfl (argsL := As) (rest := rest) (hn.trans (hlen _ hsigM)) hst hdg
  have hnamed₁ := X₁.named hnamed
  obtain ⟨methY, cY, hmY, hcY, -, hlY, -, -, -, -⟩ := Cond.code_spec hnamed₁ (hws _ hcw #[] _ X₁.warmed)
  obtain ⟨kY, hkY, -⟩ := className_of_methodNamed hnamed₁
  have hini₁ : (Cond.initialized y.cls).before #[] (T.setVm vm₁) = true := word_at X₁.warmed (Or.inl (by first | rfl | simp [Cond.onTables, Cond.keeps, Cond.steady])) hini
  have hinitY : kY.init = .initialized := Cond.initialized_spec (findClass_of_methodNamed hnamed₁) hkY hini₁
  have hroom := X₁.room_calling (g := F0 m pc ls rest) (m' := mk) (args' := (Value.ref b :: As).toArray) (R' := rm) (hsize.trans hml.symm) hmY hcY hfr
    (Nat.le_trans (Nat.add_le_add_right (Nat.add_le_add_right (lv_room (m := m) (pc := pc) (ls := ls) (rest := rest) hW) _) _) (by rw [hlY]; exact hlo)) (by rw [hrc]; exact hf.1) (by rw [hrs]; exact hf.2)
  have happ : (headSpec ws rm).appliesLoose y e.platform ((T.setVm vm₁).calling (F0 m pc ls rest) mk (Value.ref b :: As).toArray) = true :=
    Spec.appliesLoose_calling (g := F0 m pc ls rest) X₁.here hdg hnamed₁ hkY hinitY hroom (atoms_intro fun w hw => hws w hw _ _ X₁.warmed)
  obtain ⟨mid, hmid⟩ := X₁.here.above
  have hfr' : ((T.setVm vm₁).setTop (F0 m pc ls rest)).frames = (.java (F0 m pc ls rest) :: mid) ++ below := by rw [State.frames_setTop' _ X₁.here.top, hmid]; rfl
  obtain ⟨o, s₂, hsteps, -, hend, x, rfl, hWs, hsame, cell, g1, g2, g3⟩ := Steps.callFree hM p X.admits X.cas X.clock (acts := []) hfr' happ (hbl _ _ _ _ (hPc (T.setVm vm₁) hT X₁.warmed)) trivial
  rw [State.frames_setTop' _ X₁.here.top, X₁.tail] at hend
  obtain ⟨T', X', hW', hB, ht⟩ := X₁.outOfThrown (g := F0 m pc ls rest) rfl hend hWs hsame
  subst ht
  have hk := vt_kept hB
  rw [List.append_nil] at X'
  have hT1 : (T.setVm vm₁).heap = H := hT
  rw [hT1] at hk
  refine ⟨x, T', cell, X', hk.1, hk.2, ?_, g2, ?_, (hstep₁ _ fun acts => by rw [doInvoke_state]; exact Steps.refl _).trans hsteps⟩
  · rw [Stand.throwing_heap] at g1; exact g1
  · have h9 : (T.setVm vm₁).vm.findClass cls = some cell.cls := g3
    rw [← X₁.warmed.alike.findClass]; exact h9
/-- a virtual call that throws, in a method that has changed nothing and catches nothing: it throws too -/
theorem vt_pass (S : CallFix p m c cc nL s args Ts own) (hlk : meth.locks = false) (he : c.exceptionTable.isEmpty = true) (hM : MetT l y ws rm Pc cls mc ms) (cw : CallW R s args own C index y bytes maxL ret ws rm mc ms n) (hp : PreV s s.heap C b Pc As)
    (hn : As.length = n) (hsize : ls.size = nL) (hst : st0 = As.reverse ++ .ref b :: rest) (hW : (rest.map fun v => v.category).sum ≤ 8) (hdg : decode cc pc = .ok (.invokevirtual index, 3)) (hf : mc ≤ R.cells ∧ ms ≤ R.slots) :
    W p l e R s m args below meth c s.heap [] 0 0 (TQ below cls s mc ms) (F0 m pc ls st0) := by
  intro T hT X
  obtain ⟨x, T', cell, X', -, -, g1, g2, g3, st⟩ := vt_run S hM cw hp hn hsize hst hW hdg (by omega) hT X
  obtain ⟨hw, hr, hE, hWm, hs⟩ := X'.leaveThrown x (g := F0 m pc ls rest) rfl rfl rfl (covers_of_empty he _) hlk
  refine ⟨_, st.trans hw, .threw x, hr, hE, x, rfl, hWm, by simpa using hs, cell, g1, g2, g3⟩
/-- the search through the table where the entry's class is not resolved yet: it is resolved on the way -/
theorem vt_findGo {Q : Handler → Pre} {E : CtlPost} {d : Bool} {acts : List Action} {f : JFrame} {a : Addr} {x : ExceptionTableEntry} {t : List ExceptionTableEntry} {k : ClassId} {cell : Cell} (hx : covers x f.pc = true) (h0 : x.catchType ≠ 0)
    (hl : s.vm.ClassLinks e.platform f.method.cls x.catchType k) (hcell : s.heap[a]? = some cell) (hobj : ∀ k, cell.vm ≠ .statics k)
    (hk : ∃ z, s.vm.classes[cell.cls]? = some z) (hc : ∃ z, s.vm.classes[k]? = some z) (hfit : s.vm.assignable cell.cls k = true) :
    wp (findHandler.go f a (x :: t)) Q E e d acts s ↔ Q (.found x.handlerPc) d acts (s.setVm (s.vm.noted f.method.cls x.catchType (.cls k))) := by
  simp only [covers] at hx
  obtain ⟨ha, ht⟩ := (resolveClass_links e.toSetting hl).op (op := VmOp.resolveClass f.method.cls x.catchType) rfl
  have hal : s.vm.Alike (s.vm.noted f.method.cls x.catchType (.cls k)) := (Vm.Alike.refl s.vm).noted _ _ _
  obtain ⟨k1, hk1⟩ := hk
  obtain ⟨k2, hk2⟩ := hc
  obtain ⟨k1', hk1', -⟩ := hal.2.2 _ _ hk1
  obtain ⟨k2', hk2', -⟩ := hal.2.2 _ _ hk2
  have hfit' : (s.vm.noted f.method.cls x.catchType (.cls k)).assignable cell.cls k = true := by rw [hal.assignable]; exact hfit
  simp [findHandler.go, hx, h0, ha, ht, hcell, hobj, hk1', hk2', hfit', VmOp.dirties, VmOp.acts]
theorem vt_setF (u : State) (v : Vm) (F G : List Frame) : ((u.setFrames F).setVm v).setFrames G = (u.setVm v).setFrames G := by
  have h1 : (u.setFrames F).setVm v = (u.setVm v).setFrames F := rfl
  rw [h1, State.setFrames_setFrames]
/-- the note over the frame of a method whose one entry covers the pc and whose class fits: on at the handler -/
theorem vt_handle {T : State} (X : Stand p l e R s m args below meth c T locs cells slots) (hown : s.vm.findClass own = some m.cls) {x : ExceptionTableEntry} {name : String} {rt : List ExceptionTableEntry}
    (htab : c.exceptionTable.toList = x :: rt) (hcov : covers x pc = true) (h0 : x.catchType ≠ 0) (hlink : (Cond.classLink own x.catchType name).before args s = true)
    {a : Addr} {cell : Cell} (hcell : T.heap[a]? = some cell) (hobj : cell.vm.isStatics = false) (hname : s.vm.findClass name = some cell.cls) :
    ∃ v : Vm, Stand p l e R s m args below meth c (T.setVm v) locs cells slots ∧ ∀ target, Steps p.tables e below ((T.setVm v).setTop (F0 m x.handlerPc ls [.ref a])) target → Steps p.tables e below ((T.setTop (F0 m pc ls rest)).pushFrame (.throwing a)) target := by
  have hpl : e.platform.magicAccessors = ({} : Platform).magicAccessors := by rw [X.admits.platform]
  obtain ⟨k, hk', hcl⟩ := Cond.classLink_spec hown hlink e.platform hpl
  cases hname.symm.trans hk'
  obtain ⟨dk, _, _, kt, hd, _, _, _, _, hkt, _, hopen⟩ := hcl.here
  have hcl₀ := X.warmed.classLinks hcl
  have hW' : s.WarmedH (T.vm.noted m.cls x.catchType (.cls cell.cls)) := X.warmed.noted hd hopen (State.rightAt_cls hcl)
  obtain ⟨kt', hkt', -⟩ := X.warmed.alike.2.2 _ _ hkt
  have hfit : T.vm.assignable cell.cls cell.cls = true := by
    show T.vm.assignableAux (255 + 1) cell.cls cell.cls = true
    rw [Vm.assignableAux]; simp
  refine ⟨_, X.noted hW', fun target hrest => ?_⟩
  have hv : ((T.setTop (F0 m pc ls rest)).pushFrame (.throwing a)).vm = T.vm := Stand.throwing_vm _ _ _
  have hh : ((T.setTop (F0 m pc ls rest)).pushFrame (.throwing a)).heap = T.heap := Stand.throwing_heap _ _ _
  obtain ⟨hgo, hw⟩ := At.throwing (g := F0 m pc ls rest) X.here a
  refine Steps.head hgo hw ?_
  have hIs : (stepThrowing e ((T.setTop (F0 m pc ls rest)).pushFrame (.throwing a)) a (.java (F0 m pc ls rest) :: T.frames.tail)).Is
      ((((T.setTop (F0 m pc ls rest)).pushFrame (.throwing a)).setVm (T.vm.noted m.cls x.catchType (.cls cell.cls))).setFrames (.java (F0 m x.handlerPc ls [.ref a]) :: T.frames.tail)) [] := by
    simp only [stepThrowing, searchFrame, vmDo]
    generalize hr : Sem.go _ e false [] _ = res
    obtain ⟨as, rfl, ha⟩ := Sem.eq_ok_of hr (a := Handler.found x.handlerPc) (s' := ((T.setTop (F0 m pc ls rest)).pushFrame (.throwing a)).setVm (T.vm.noted m.cls x.catchType (.cls cell.cls))) (acts' := []) (by
      have hm9 : ((T.setTop (F0 m pc ls rest)).pushFrame (.throwing a)).vm.method? (F0 m pc ls rest).method = some meth := by rw [hv]; exact X.method'
      have hf : ∀ (Q : Handler → Pre) (E : CtlPost) (d : Bool) (acts : List Action), wp (findHandler (F0 m pc ls rest) a) Q E e d acts ((T.setTop (F0 m pc ls rest)).pushFrame (.throwing a)) ↔
          Q (.found x.handlerPc) d acts (((T.setTop (F0 m pc ls rest)).pushFrame (.throwing a)).setVm (T.vm.noted m.cls x.catchType (.cls cell.cls))) := fun Q E d acts => by
        rw [W.findHandler_eq hm9 X.code, htab]
        have h9 := vt_findGo (s := (T.setTop (F0 m pc ls rest)).pushFrame (.throwing a)) (e := e) (Q := Q) (E := E) (d := d) (acts := acts) (f := F0 m pc ls rest) (t := rt) hcov h0 (by rw [hv]; exact hcl₀) (by rw [hh]; exact hcell) (VmData.ne_statics_of hobj) (by rw [hv]; exact ⟨kt', hkt'⟩) (by rw [hv]; exact ⟨kt', hkt'⟩) (by rw [hv]; exact hfit)
        rw [hv] at h9
        exact h9
      simp [hf])
    exact ⟨rfl, ha⟩
  rw [stepThread_throwing (frames_entered X.here.top _), hIs.1]
  obtain ⟨g₀, hg⟩ := Option.isSome_iff_exists.mp X.here.top
  obtain ⟨r, hr⟩ := State.topJava?_eq_some.mp hg
  have hr' : (T.setVm (T.vm.noted m.cls x.catchType (.cls cell.cls))).frames = .java g₀ :: r := hr
  rw [State.setTop_of_frames _ hr'] at hrest
  rw [hr, List.tail_cons, State.pushFrame, vt_setF, State.setTop_of_frames _ hr, vt_setF]
  exact hrest
/-- a virtual call that throws, under a handler of the method's own -/
theorem vt_catch (S : CallFix p m c cc nL s args Ts own) {x : ExceptionTableEntry} {rt : List ExceptionTableEntry} (htab : c.exceptionTable.toList = x :: rt) (hcov : covers x pc = true) (h0 : x.catchType ≠ 0) (hlink : (Cond.classLink own x.catchType cls).before args s = true)
    (hM : MetT l y ws rm Pc cls mc ms) (cw : CallW R s args own C index y bytes maxL ret ws rm mc ms n) (hp : PreV s H C b Pc As)
    (hn : As.length = n) (hsize : ls.size = nL) (hst : st0 = As.reverse ++ .ref b :: rest) (hW : (rest.map fun v => v.category).sum ≤ 8) (hdg : decode cc pc = .ok (.invokevirtual index, 3)) (hf : cells + mc ≤ R.cells ∧ slots + ms ≤ R.slots)
    (kk : ∀ (a : Nat) (H1 : Heap), H.size ≤ H1.size → (∀ q : Nat, q < H.size → H1[q]? = H[q]?) → W p l e R s m args below meth c H1 locs (cells + mc) (slots + ms) Q (F0 m x.handlerPc ls [.ref a])) :
    W p l e R s m args below meth c H locs cells slots Q (F0 m pc ls st0) := by
  intro T hT X
  obtain ⟨a, T', cell, X', k1, k2, g1, g2, g3, st⟩ := vt_run S hM cw hp hn hsize hst hW hdg hf hT X
  obtain ⟨v, X2, st2⟩ := vt_handle (ls := ls) (rest := rest) (pc := pc) X' S.2.2.2.1 htab hcov h0 hlink g1 g2 g3
  obtain ⟨t, a1, b1⟩ := kk a T'.heap k1 k2 (T'.setVm v) rfl X2
  exact ⟨t, st.trans (st2 t a1), b1⟩
end VT
def sPcT (D : va_G) (cI cJ cZ : ClassId) (av : List Value) (wc : va_W) : Array Value → State → Prop :=
  va_Pc av (fun U => va_P D classes wc U.heap ∧ kx D cI cJ cZ U ∧ pins U)
theorem sPcT_blind {D : va_G} {cI cJ cZ : ClassId} {av : List Value} {wc : va_W} : FrameBlind (sPcT D cI cJ cZ av wc) := by
  intro a U g mk q
  obtain ⟨q0, qP, qK, qp⟩ := q
  exact ⟨q0, qP, qK.same rfl, pins.same (s := U) (U := U.calling g mk a) rfl rfl qp⟩
theorem sPcT_start {s : State} {H : Heap} {D : va_G} {cI cJ cZ : ClassId} {av : List Value} {ws wc : va_W} {is : List Nat} (hP : va_P D classes ws H) (hC : is.map (fun i => ws[i]?) = wc.map some) (hK : kx D cI cJ cZ s) (hk : ∀ q : Nat, q < s.heap.size → H[q]? = s.heap[q]?) (hp : pins s) :
    ∀ U : State, U.heap = H → s.WarmedH U.vm → sPcT D cI cJ cZ av wc av.toArray U :=
  fun U hU hW => ⟨rfl, by rw [hU]; exact vx_subP hP hC, hK.warm hW, pins.moved hW (fun q hq => by rw [hU]; exact hk q hq) hp⟩
abbrev rm_T : Room := { frames := 6, cells := 1, slots := 6, locals := 100 }
abbrev rm_T2 : Room := { frames := 7, cells := 1, slots := 6, locals := 120 }
def ownX : List Cond := [.isRef (.static Bundle.tN "UNASSIGNED_STACK" Bundle.steD), .isRef (.static Bundle.tN "SUPPRESSED_SENTINEL" Bundle.listD), .laysStatic Bundle.tN "UNASSIGNED_STACK" Bundle.steD, .laysStatic Bundle.tN "SUPPRESSED_SENTINEL" Bundle.listD]
theorem own_in : ∀ a ∈ Bundle.ownAtoms R_BlockCode 63 xISE xUp, (a ∈ lw_tbl ∧ a.onTables = true) ∨ a ∈ ownX := by
  have h : (Bundle.ownAtoms R_BlockCode 63 xISE xUp).all (fun a => (decide (a ∈ lw_tbl) && a.onTables) || decide (a ∈ ownX)) = true := by decide +kernel
  intro a ha
  have h1 := List.all_eq_true.mp h a ha
  simp only [Bool.or_eq_true, Bool.and_eq_true, decide_eq_true_eq] at h1
  exact h1
theorem own_ok {args : Array Value} {s : State} (hp : pins s) : ∀ a ∈ Bundle.ownAtoms R_BlockCode 63 xISE xUp, a.before args s = true := by
  intro a ha
  rcases own_in a ha with h | h
  · exact va_Nw.use h.2 (hp.2.2.2 a h.1 h.2 (Bundle.ownAtoms_keepsFace a ha))
  · simp only [ownX, List.mem_cons, List.not_mem_nil, or_false] at h
    rcases h with rfl | rfl | rfl | rfl
    · exact hp.1.1.before
    · exact hp.2.1.1.before
    · exact hp.1.2.before
    · exact hp.2.1.2.before
/-! ### the law's helpers: their code has a handler; they make at most one cell of six slots -/
def sPcP (D : va_G) (cI cJ cZ : ClassId) (av : List Value) (wc : va_W) (sz : Nat) : Array Value → State → Prop :=
  va_Pc av (fun U => U.heap.size = sz ∧ va_P D classes wc U.heap ∧ kx D cI cJ cZ U ∧ va_D (fun _ => True) wc ∧ pins U)
theorem sPcP_blind {D : va_G} {cI cJ cZ : ClassId} {av : List Value} {wc : va_W} {sz : Nat} : FrameBlind (sPcP D cI cJ cZ av wc sz) := by
  intro a U g mk q
  obtain ⟨q0, q1, qP, qK, qD, qp⟩ := q
  exact ⟨q0, q1, qP, qK.same rfl, qD, pins.same (s := U) (U := U.calling g mk a) rfl rfl qp⟩
theorem sPcP_start {s : State} {H : Heap} {A : Nat → Prop} {D : va_G} {cI cJ cZ : ClassId} {av : List Value} {ws wc : va_W} {is : List Nat} (hP : va_P D classes ws H) (hD : va_D A ws) (hnd : va_nd is = true) (hC : is.map (fun i => ws[i]?) = wc.map some) (hK : kx D cI cJ cZ s) (hk : ∀ q : Nat, q < s.heap.size → H[q]? = s.heap[q]?) (hp : pins s) :
    ∀ U : State, U.heap = H → s.WarmedH U.vm → sPcP D cI cJ cZ av wc H.size av.toArray U :=
  fun U hU hW => ⟨rfl, by rw [hU], by rw [hU]; exact vx_subP hP hC, hK.warm hW, (hD.sub is hnd hC).weaken (fun _ _ _ _ => trivial), pins.moved hW (fun q hq => by rw [hU]; exact hk q hq) hp⟩
def MH (l : Launch) (y : MethodName) (bytes : ByteArray) (maxL : Nat) (hh : List (Nat × Nat × Nat × Nat)) (rm : Room) (D : va_G) (cI cJ cZ : ClassId) (av : List Value) (wc w1 : va_W) (r : Int32) : Prop :=
  ∀ sz : Nat, Met l y (.codeWith y bytes maxL (some .int) hh :: tbg) rm (sPcP D cI cJ cZ av wc sz) (va_Qi (fun z (_ : Unit) => z = r) (sB D w1) (va_A wc sz)) 1 6 (va_A wc sz)
section VH
variable {p : Program} {l : Launch} {e : Env} {R : Room} {s : State} {m : MethodId} {args : Array Value} {below : List Frame} {meth : Method} {c : Code} {H : Heap} {locs : List Loc} {cells slots : Nat} {Q : State → Prop}
variable {D : va_G} {cI cJ cZ : ClassId} {y : MethodName} {bytes cc : ByteArray} {maxL nL n index : Nat} {ret : Option FieldType} {hh : List (Nat × Nat × Nat × Nat)} {rm : Room} {own : String} {As rest : List Value} {ws wc w1 : va_W} {pc : Nat} {ls : Array Slot} {Qc : Array Value → State → Outcome → State → Prop} {A : Nat → Prop} {st0 : List Value} {is isR : List Nat} {nw : Nat} {wn : va_W}
theorem vr_H (S : CallFix p m c cc nL s args tbg own) (hM : Met l y (.codeWith y bytes maxL ret hh :: tbg) rm (sPcP D cI cJ cZ As wc H.size) Qc 1 6 (va_A wc H.size))
    (h1 : Cond.methodLink own index y ∈ tbg) (h2 : Cond.static y ∈ tbg) (h4 : Cond.initialized y.cls ∈ tbg) (h5 : Cond.codeWith y bytes maxL ret hh ∈ tbg)
    (hd : y.cls ≠ "java/lang/invoke/MethodHandle" ∧ y.cls ≠ "java/lang/invoke/VarHandle" ∧ (parseMethodDescriptor y.desc).map (fun d => d.parameters.length) = some n) (hrm : rm.cells = 1 ∧ rm.slots = 6) (hR : rm.frames + 1 ≤ R.frames ∧ 8 + (maxL + 11) + rm.locals ≤ R.locals)
    (hK : kx D cI cJ cZ s) (hP : va_P D classes ws H) (hD : va_D A ws) (hnd : va_nd is = true) (hC : is.map (fun i => ws[i]?) = wc.map some) (hk : ∀ q : Nat, q < s.heap.size → H[q]? = s.heap[q]?) (hp : pins s)
    (hn : As.length = n) (hsz : ls.size = nL) (hW : (rest.map fun v => v.category).sum ≤ 8) (hdg : decode cc pc = .ok (.invokestatic index, 3)) (hf : cells + 1 ≤ R.cells ∧ slots + 6 ≤ R.slots) (hst : st0 = As.reverse ++ rest) :
    va_Run p l e R s m args below meth c H locs cells slots 1 6 (F0 m pc ls st0) rest (Qc As.toArray) (va_A wc H.size) := by
  obtain ⟨hx, hb, hml, ho, hts⟩ := S
  have hws : ∀ w ∈ (Cond.codeWith y bytes maxL ret hh :: tbg), ∀ (a' : Array Value) (U : State), s.WarmedH U.vm → w.before a' U = true := pay_in hts (tb_gi (tb_cons h5))
  have hini := hts _ h4
  have hB : Back l R p e below s args y 3 8 (PreOf R 1 6 (sPcP D cI cJ cZ As wc H.size)) (PostOf Qc 1 6 (va_A wc H.size)) :=
    va_backW (hh := hh) (bytes := bytes) (maxL := maxL) (ret := ret) hM sPcP_blind hrm.1 hrm.2 hR.1 hR.2 hws List.mem_cons_self (fun a' U hW => word_at hW (Or.inl (by first | rfl | simp [Cond.onTables, Cond.keeps, Cond.steady])) hini)
  intro T hT X
  subst hb
  obtain ⟨mk, methM, cM, hnamed, hmethM, -, -, -, -, -, -, hsigM⟩ := Cond.codeWith_spec (hts _ h5)
  have hstatic : methM.isStatic = true := Cond.static_spec hnamed hmethM (hts _ h2)
  obtain ⟨kP, hkP, -⟩ := className_of_methodNamed hnamed
  have hinitP : kP.init = .initialized := Cond.initialized_spec (findClass_of_methodNamed hnamed) hkP hini
  have hlen : As.length = methM.sig.parameters.length := by
    have h9 := hd.2.2
    rw [hsigM] at h9
    exact hn.trans (Option.some.inj h9).symm
  obtain ⟨vm₁, X₁, hstep₁⟩ := X.invokestatic hx ho (hts _ h1) hnamed hmethM hstatic hkP hinitP ⟨hd.1, hd.2.1⟩ (g := F0 m pc ls st0) rfl (argsL := As) (rest := rest) hlen hst hdg
  obtain ⟨v, ⟨U', l2, c2, s2⟩, X', ⟨g', mk', t, L, e1, e2, hq, q1, hL, q2, q3⟩, hsteps⟩ := hB m meth c ⟨T.setVm vm₁, locs, cells, slots⟩ (F0 m pc ls rest) (.invokestatic index) mk As.toArray X₁ rfl (hsz.trans hml.symm) hdg (lv_room (m := m) (pc := pc) (ls := ls) (rest := rest) hW) (X₁.named hnamed)
    ⟨hf.1, hf.2, sPcP_start hP hD hnd hC hK hk hp (T.setVm vm₁) hT X₁.warmed⟩
  dsimp only [Pt.U, Pt.locs, Pt.cells, Pt.slots] at X' e1 e2 q1 q2 q3 hsteps
  subst q1; subst q2; subst q3
  exact ⟨v, (T.setVm vm₁).calling g' mk' As.toArray, t, U', L, hT, X', hL, e1, e2, hq, fun tg h => hstep₁ _ fun acts => by rw [doInvoke_state]; exact hsteps.trans h⟩
theorem vj_h {r : Int32} {av : Array Value} (hr : va_Run p l e R s m args below meth c H locs cells slots 1 6 (F0 m pc ls st0) rest (va_Qi (fun z (_ : Unit) => z = r) (sB D w1) (va_A wc H.size) av) (va_A wc H.size))
    (hP : va_P D classes ws H) (hD : va_D A ws) (hS : va_S A s.heap H locs) (hA : ∀ q, s.heap.size ≤ q → A q) (hC : is.map (fun i => ws[i]?) = wc.map some) (hw : w1.map (fun q => q.1) = wc.map (fun q => q.1)) (hN : is.map (fun i => wn[i]?) = w1.map some) (hO : vx_all ws wn isR) (hln : wn.length = nw) (hcov : (List.range nw).all (fun k => is.contains k || isR.contains k) = true)
    (kk : ∀ (H1 : Heap) (locs1 : List Loc), va_P D classes wn H1 → va_D A wn → va_S A s.heap H1 locs1 → W p l e R s m args below meth c H1 locs1 (cells + 1) (slots + 6) Q (F0 m (pc + 3) ls (.int r :: rest))) : W p l e R s m args below meth c H locs cells slots Q (F0 m pc ls st0) := by
  have hF := vj_free (is := is) hD hS hA hC
  refine va_calli hr hS (fun q _ h => hF q h) hF (fun z u t H1 locs1 ht hvm hz hB hz1 hk1 hS1 => ?_)
  subst hz
  have hB' : va_P D classes w1 H1 := by rw [← ht]; exact hB
  obtain ⟨hP1, hD1⟩ := vx_back hP hD hC hw hN hO hln hcov hk1 hB'
  exact kk H1 locs1 hP1 hD1 hS1
/-- the helper's body, the call thrown: the handler of the whole, and the world as it was -/
theorem vt_help {C : String} {b : Addr} {bytesY : ByteArray} {maxY : Nat} {retY : Option FieldType} {rmY : Room} {wy : va_W} {isY : List Nat} {hpc epc ct : Nat} (S : CallFix p m c cc nL s args tbg own) (htab : c.exceptionTable.toList.map (fun h => (h.startPc, h.endPc, h.handlerPc, h.catchType)) = [(0, epc, hpc, ct)])
    (hlt : pc < epc) (hct : ct ≠ 0) (hlink : Cond.classLink own ct xISE ∈ tbg) (hM : MetT l y (.code y bytesY maxY retY :: tbg) rmY (sPcT D cI cJ cZ (.ref b :: As) wy) xISE 1 6)
    (h1 : Cond.methodLink own index y ∈ tbg) (h2 : Cond.instanceMethod y ∈ tbg) (h3 : Cond.selects C y y ∈ tbg) (h4 : Cond.initialized C ∈ tbg) (h5 : Cond.code y bytesY maxY retY ∈ tbg)
    (hd : y.cls = C ∧ y.cls ≠ "java/lang/invoke/MethodHandle" ∧ y.cls ≠ "java/lang/invoke/VarHandle" ∧ (parseMethodDescriptor y.desc).map (fun d => d.parameters.length) = some n) (hrm : rmY.cells = 1 ∧ rmY.slots = 6) (hR : rmY.frames + 1 ≤ R.frames ∧ 8 + (maxY + 11) + rmY.locals ≤ R.locals)
    {ci q0 : Nat} {T : u_T} {N : Nat} {fs : List Value} (hcl : classes[ci]? = some (C, T, N)) (he : ws[q0]? = some (b, .inr (ci, fs)))
    (hK : kx D cI cJ cZ s) (hp : pins s) (hP : va_P D classes ws s.heap) (hC : isY.map (fun i => ws[i]?) = wy.map some)
    (hn : As.length = n) (hsz : ls.size = nL) (hW : (rest.map fun v => v.category).sum ≤ 8) (hdg : decode cc pc = .ok (.invokevirtual index, 3)) (hf : 1 ≤ R.cells ∧ 6 ≤ R.slots) (hst : st0 = As.reverse ++ .ref b :: rest)
    (kk : ∀ (a : Nat) (H1 : Heap), va_P D classes ws H1 → va_S A s.heap H1 [] → W p l e R s m args below meth c H1 [] 1 6 Q (F0 m hpc ls [.ref a])) :
    W p l e R s m args below meth c s.heap [] 0 0 Q (F0 m pc ls st0) := by
  obtain ⟨x, rt, hx1, hx2⟩ : ∃ x rt, c.exceptionTable.toList = x :: rt ∧ (x.startPc, x.endPc, x.handlerPc, x.catchType) = (0, epc, hpc, ct) := by
    cases hq : c.exceptionTable.toList with
    | nil => rw [hq] at htab; cases htab
    | cons x rt => rw [hq] at htab; exact ⟨x, rt, rfl, (List.cons.inj htab).1⟩
  have e1 : x.startPc = 0 := congrArg (fun q => q.1) hx2
  have e2 : x.endPc = epc := congrArg (fun q => q.2.1) hx2
  have e3 : x.handlerPc = hpc := congrArg (fun q => q.2.2.1) hx2
  have e4 : x.catchType = ct := congrArg (fun q => q.2.2.2) hx2
  subst e2 e3 e4
  refine vt_catch (bytes := bytesY) (maxL := maxY) (ret := retY) S hx1 (by simp [covers, e1, hlt]) hct (S.2.2.2.2 _ hlink) hM (cwV n S.2.2.2.2 (tb_gi fun w hw => ?_) rfl hrm.1 hrm.2 hd hR) ⟨sPcT_blind, va_recv hK.1 hP hcl he, sPcT_start hP hC hK (fun _ _ => rfl) hp⟩ hn hsz hst hW hdg (by omega) (fun a H1 k1 k2 => ?_)
  · rcases List.mem_append.mp hw with h | h
    · simp only [List.mem_cons, List.not_mem_nil, or_false] at h
      rcases h with rfl | rfl | rfl | rfl <;> assumption
    · exact tb_cons h5 w h
  · have g := kk a H1 (hP.kept fun k q hq => k2 q.1 (hP k q hq).lt) ⟨k1, fun q h9 _ => k2 q h9, fun _ h9 => by cases h9⟩
    simpa using g
end VH

