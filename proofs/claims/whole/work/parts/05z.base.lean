/-- links into a nest mate's private methods stay too, but by a row of their own -/
def isNest : Cond → Bool
  | .methodLinkNest _ _ _ _ => true
  | _ => false
def kx (D : va_G) (cI cJ cZ : ClassId) (U : State) : Prop := va_K D classes [(cI, .int), (cJ, .long), (cZ, .boolean)] U ∧ ∀ w ∈ tables_1, isNest w = true → va_Nw w U
theorem kx.warm {D : va_G} {cI cJ cZ : ClassId} {s U : State} (h : kx D cI cJ cZ s) (hW : s.WarmedH U.vm) : kx D cI cJ cZ U := by
  refine ⟨va_K.moved hW.alike h.1, fun w hw hn => ?_⟩
  have h1 := h.2 w hw hn
  cases w <;> first | exact va_Nw.warmM hW h1 | (simp [isNest] at hn)
theorem kx.same {D : va_G} {cI cJ cZ : ClassId} {u U : State} (h : kx D cI cJ cZ u) (hv : u.vm = U.vm) : kx D cI cJ cZ U := by
  refine ⟨va_K.moved (by rw [hv]; exact Vm.Alike.refl U.vm) h.1, fun w hw hn => ?_⟩
  have h1 := h.2 w hw hn
  cases w <;> first | exact va_Nw.same rfl hv h1 | (simp [isNest] at hn)
/-- the standard start and end -/
def sPc (D : va_G) (cI cJ cZ : ClassId) (av : List Value) (wc : va_W) (sz : Nat) : Array Value → State → Prop :=
  va_Pc av (fun U => U.heap.size = sz ∧ va_P D classes wc U.heap ∧ kx D cI cJ cZ U ∧ va_D (fun _ => True) wc)
abbrev sB (D : va_G) (w1 : va_W) : Unit → State → Prop := fun _ t => va_P D classes w1 t.heap
theorem sB_of {D : va_G} {w : va_W} {t : State} {H : Heap} (ht : t.heap = H) (hP : va_P D classes w H) : sB D w () t := by
  show va_P D classes w t.heap
  rw [ht]; exact hP
def MI (l : Launch) (y : MethodName) (bytes : ByteArray) (maxL : Nat) (ty : FieldType) (rm : Room) (D : va_G) (cI cJ cZ : ClassId) (av : List Value) (wc w1 : va_W) (r : Int32) : Prop :=
  ∀ sz : Nat, Met l y (.code y bytes maxL (some ty) :: tbg) rm (sPc D cI cJ cZ av wc sz) (va_Qi (fun z (_ : Unit) => z = r) (sB D w1) (va_A wc sz)) 0 0 (va_A wc sz)
def ML (l : Launch) (y : MethodName) (bytes : ByteArray) (maxL : Nat) (rm : Room) (D : va_G) (cI cJ cZ : ClassId) (av : List Value) (wc w1 : va_W) (r : Int64) : Prop :=
  ∀ sz : Nat, Met l y (.code y bytes maxL (some .long) :: tbg) rm (sPc D cI cJ cZ av wc sz) (va_Ql (fun z (_ : Unit) => z = r) (sB D w1) (va_A wc sz)) 0 0 (va_A wc sz)
def MV (l : Launch) (y : MethodName) (bytes : ByteArray) (maxL : Nat) (rm : Room) (D : va_G) (cI cJ cZ : ClassId) (av : List Value) (wc w1 : va_W) : Prop :=
  ∀ sz : Nat, Met l y (.code y bytes maxL none :: tbg) rm (sPc D cI cJ cZ av wc sz) (va_Qv (fun (_ : Unit) => True) (sB D w1) (va_A wc sz)) 0 0 (va_A wc sz)
theorem vx_at {is : List Nat} {ws wc : va_W} (hC : is.map (fun i => ws[i]?) = wc.map some) (k : Nat) (q : Nat × va_E) (hq : wc[k]? = some q) : ∃ i, is[k]? = some i ∧ ws[i]? = some q := by
  have h1 : (is.map (fun i => ws[i]?))[k]? = some (some q) := by rw [hC, List.getElem?_map, hq]; rfl
  rw [List.getElem?_map] at h1
  cases hi : is[k]? with
  | none => rw [hi] at h1; cases h1
  | some i => rw [hi] at h1; exact ⟨i, rfl, Option.some.inj h1⟩
theorem vx_subP {D : va_G} {cl : List vw_C} {ws wc : va_W} {H : Heap} (hP : va_P D cl ws H) {is : List Nat} (hC : is.map (fun i => ws[i]?) = wc.map some) : va_P D cl wc H := fun k q hq => by
  obtain ⟨i, -, h⟩ := vx_at hC k q hq
  exact hP i q h
/-- the cells at these places are the same in both worlds -/
def vx_all (ws wn : va_W) : List Nat → Prop
  | [] => True
  | i :: is => (∃ c, ws[i]? = some c ∧ wn[i]? = some c) ∧ vx_all ws wn is
theorem vx_n {ws wn : va_W} : vx_all ws wn [] := trivial
theorem vx_c {ws wn : va_W} {i : Nat} {is : List Nat} {c : Nat × va_E} (h1 : ws[i]? = some c) (h2 : wn[i]? = some c) (t : vx_all ws wn is) : vx_all ws wn (i :: is) := ⟨⟨c, h1, h2⟩, t⟩
theorem vx_all.at {ws wn : va_W} : ∀ {is : List Nat}, vx_all ws wn is → ∀ k ∈ is, wn[k]? = ws[k]?
  | [], _, k, hk => absurd hk List.not_mem_nil
  | i :: is, h, k, hk => by
    rcases List.mem_cons.mp hk with rfl | hk
    · obtain ⟨c, h1, h2⟩ := h.1
      rw [h1, h2]
    · exact vx_all.at h.2 k hk
/-- behind a call: the caller's world, the callee's cells at their places -/
theorem vx_back {A : Nat → Prop} {D : va_G} {cl : List vw_C} {ws wc w1 wn : va_W} {H H1 : Heap} (hP : va_P D cl ws H) (hD : va_D A ws) {is isR : List Nat} {n : Nat} (hC : is.map (fun i => ws[i]?) = wc.map some) (hw : w1.map (fun q => q.1) = wc.map (fun q => q.1))
    (hN : is.map (fun i => wn[i]?) = w1.map some) (hO : vx_all ws wn isR) (hl : wn.length = n) (hcov : (List.range n).all (fun k => is.contains k || isR.contains k) = true)
    (hk : ∀ q : Nat, q < H.size → ¬ va_A wc H.size q → H1[q]? = H[q]?) (hP1 : va_P D cl w1 H1) : va_P D cl wn H1 ∧ va_D A wn := by
  have get : ∀ (k : Nat) (q : Nat × va_E), wn[k]? = some q → (∃ j : Nat, is[j]? = some k ∧ w1[j]? = some q) ∨ (k ∉ is ∧ ws[k]? = some q) := by
    intro k q hq
    have hkn : k < n := by rw [← hl]; exact (List.getElem?_eq_some_iff.mp hq).1
    have hc := List.all_eq_true.mp hcov k (List.mem_range.mpr hkn)
    by_cases hi : k ∈ is
    · obtain ⟨j, hj⟩ := List.getElem?_of_mem hi
      refine Or.inl ⟨j, hj, ?_⟩
      have h1 : (is.map (fun i => wn[i]?))[j]? = some (some q) := by rw [List.getElem?_map, hj]; exact congrArg some hq
      rw [hN, List.getElem?_map] at h1
      cases hz : w1[j]? with
      | none => rw [hz] at h1; cases h1
      | some z => rw [hz] at h1; exact congrArg some (Option.some.inj (Option.some.inj h1))
    · have hr : k ∈ isR := by
        simp only [Bool.or_eq_true, List.contains_iff_mem] at hc
        exact hc.resolve_left hi
      refine Or.inr ⟨hi, ?_⟩
      rw [← hO.at k hr]; exact hq
  have key : ∀ (k : Nat) (q : Nat × va_E), wn[k]? = some q → ∃ e, ws[k]? = some (q.1, e) := by
    intro k q hq
    rcases get k q hq with ⟨j, h1, h2⟩ | ⟨h1, h2⟩
    · have h3 : (wc.map (fun q => q.1))[j]? = some q.1 := by rw [← hw, List.getElem?_map, h2]; rfl
      rw [List.getElem?_map] at h3
      cases hc : wc[j]? with
      | none => rw [hc] at h3; cases h3
      | some z =>
        rw [hc] at h3
        obtain ⟨i, h4, h5⟩ := vx_at hC j z hc
        have h6 : i = k := Option.some.inj (h4.symm.trans h1)
        subst h6
        have h7 : z.1 = q.1 := Option.some.inj h3
        exact ⟨z.2, by rw [h5, ← h7]⟩
    · exact ⟨q.2, h2⟩
  refine ⟨fun k q hq => ?_, fun i j x y hx hy hxy => ?_, fun k q hq => ?_⟩
  · rcases get k q hq with ⟨j, h1, h2⟩ | ⟨h1, h2⟩
    · exact hP1 j q h2
    · refine (hP k q h2).kept (hk q.1 (hP k q h2).lt fun h => ?_)
      rcases h with ⟨j, e, h⟩ | h
      · obtain ⟨i, h3, h4⟩ := vx_at hC j (q.1, e) h
        have h5 := hD.1 k i q (q.1, e) h2 h4 rfl
        subst h5
        exact h1 (List.mem_of_getElem? h3)
      · exact absurd (hP k q h2).lt (Nat.not_lt.mpr h)
  · obtain ⟨e1, h1⟩ := key i x hx
    obtain ⟨e2, h2⟩ := key j y hy
    exact hD.1 i j _ _ h1 h2 hxy
  · obtain ⟨e1, h1⟩ := key k q hq
    exact hD.2 k (q.1, e1) h1
/-! ### the mirrors' words -/
def fu : Nat := 2000
def rdI (f : Nat → Int32) (n : Nat) (i : Int32) : Option Int32 := if i < 0 ∨ n ≤ i.toNatClampNeg then none else some (f i.toNatClampNeg)
def rdL (f : Nat → Int64) (n : Nat) (i : Int32) : Option Int64 := if i < 0 ∨ n ≤ i.toNatClampNeg then none else some (f i.toNatClampNeg)
def wrI (f : Nat → Int32) (n : Nat) (i x : Int32) : Option (Nat → Int32) := if i < 0 ∨ n ≤ i.toNatClampNeg then none else some (upd f i.toNatClampNeg x)
def wrZ (f : Nat → Int32) (n : Nat) (i x : Int32) : Option (Nat → Int32) := if i < 0 ∨ n ≤ i.toNatClampNeg then none else some (upd f i.toNatClampNeg (vp_nar .boolean x))
def wrL (f : Nat → Int64) (n : Nat) (i : Int32) (x : Int64) : Option (Nat → Int64) := if i < 0 ∨ n ≤ i.toNatClampNeg then none else some (vp_updL f i.toNatClampNeg x)
def dvI (x y : Int32) : Option Int32 := if y = 0 then none else some (x / y)
def gzI (x : Int32) : Option Int32 := if x = 0 ∨ x = 1 then some x else none
theorem rdI_of {f : Nat → Int32} {n : Nat} {i v : Int32} (h : rdI f n i = some v) : vp_in i n ∧ f i.toNatClampNeg = v := by
  unfold rdI at h; split at h
  · cases h
  · next hc => exact ⟨hc, Option.some.inj h⟩
theorem rdL_of {f : Nat → Int64} {n : Nat} {i : Int32} {v : Int64} (h : rdL f n i = some v) : vp_in i n ∧ f i.toNatClampNeg = v := by
  unfold rdL at h; split at h
  · cases h
  · next hc => exact ⟨hc, Option.some.inj h⟩
theorem wrI_of {f g : Nat → Int32} {n : Nat} {i x : Int32} (h : wrI f n i x = some g) : vp_in i n ∧ upd f i.toNatClampNeg x = g := by
  unfold wrI at h; split at h
  · cases h
  · next hc => exact ⟨hc, Option.some.inj h⟩
theorem wrZ_of {f g : Nat → Int32} {n : Nat} {i x : Int32} (h : wrZ f n i x = some g) : vp_in i n ∧ upd f i.toNatClampNeg (vp_nar .boolean x) = g := by
  unfold wrZ at h; split at h
  · cases h
  · next hc => exact ⟨hc, Option.some.inj h⟩
theorem wrL_of {f g : Nat → Int64} {n : Nat} {i : Int32} {x : Int64} (h : wrL f n i x = some g) : vp_in i n ∧ vp_updL f i.toNatClampNeg x = g := by
  unfold wrL at h; split at h
  · cases h
  · next hc => exact ⟨hc, Option.some.inj h⟩
theorem dvI_of {x y v : Int32} (h : dvI x y = some v) : ¬ y = 0 ∧ x / y = v := by
  unfold dvI at h; split at h
  · cases h
  · next hc => exact ⟨hc, Option.some.inj h⟩
theorem gzI_of {x v : Int32} (h : gzI x = some v) : (narrow .boolean (.int x) = .int x ∧ fits .boolean (.int x) = true) ∧ x = v := by
  unfold gzI at h; split at h
  · next hc => refine ⟨?_, Option.some.inj h⟩
               rcases hc with rfl | rfl <;> exact ⟨by decide +kernel, by decide +kernel⟩
  · cases h
theorem ob {α β : Type} {x : Option α} {k : α → Option β} {o : β} (h : x.bind k = some o) : ∃ v, x = some v ∧ k v = some o := by
  cases x with
  | none => cases h
  | some v => exact ⟨v, rfl, h⟩
theorem ift {c : Prop} [Decidable c] {β : Type} {a b : Option β} {o : β} (hc : c) (h : (if c then a else b) = some o) : a = some o := by rwa [if_pos hc] at h
theorem iff_ {c : Prop} [Decidable c] {β : Type} {a b : Option β} {o : β} (hc : ¬ c) (h : (if c then a else b) = some o) : b = some o := by rwa [if_neg hc] at h
theorem iinc_v {x k : Int32} {n : Int} (h : Int32.ofInt n = k) : x + Int32.ofInt n = x + k := by rw [h]
section VX
variable {p : Program} {l : Launch} {e : Env} {R : Room} {s : State} {m : MethodId} {args : Array Value} {below : List Frame} {meth : Method} {c : Code} {H : Heap} {locs : List Loc} {cells slots : Nat} {Q : State → Prop}
variable {D : va_G} {cI cJ cZ : ClassId} {y : MethodName} {bytes cc : ByteArray} {maxL nL n index : Nat} {ret : Option FieldType} {rm : Room} {own C : String} {b : Addr} {As rest : List Value} {ws wc w1 : va_W} {pc : Nat} {ls : Array Slot} {Qc : Array Value → State → Outcome → State → Prop} {A : Nat → Prop} {a : Nat} {st0 : List Value} {is isR : List Nat} {nw : Nat} {wn : va_W}
/-! reads and writes -/
theorem vx_iald (hexec : p.tables.exec = Jvm.exec) (hb : c.code = cc) (hK : kx D cI cJ cZ s) (hP : va_P D classes ws H) (q0 : Nat) {n : Nat} {f : Nat → Int32} (ha : ws[q0]? = some (a, .inl (cI, n, .inl f))) {i v : Int32} (hm : rdI f n i = some v) (hdg : decode cc pc = .ok (.iaload, 1))
    (kk : W p l e R s m args below meth c H locs cells slots Q (F0 m (pc + 1) ls (.int v :: rest))) : W p l e R s m args below meth c H locs cells slots Q (F0 m pc ls (.int i :: .ref a :: rest)) := by
  obtain ⟨h1, rfl⟩ := rdI_of hm
  exact va_iald hexec hb hK.1 hP q0 0 ha rfl h1 hdg kk
theorem vx_zald (hexec : p.tables.exec = Jvm.exec) (hb : c.code = cc) (hK : kx D cI cJ cZ s) (hP : va_P D classes ws H) (q0 : Nat) {n : Nat} {f : Nat → Int32} (ha : ws[q0]? = some (a, .inl (cZ, n, .inl f))) {i v : Int32} (hm : rdI f n i = some v) (hdg : decode cc pc = .ok (.baload, 1))
    (kk : W p l e R s m args below meth c H locs cells slots Q (F0 m (pc + 1) ls (.int v :: rest))) : W p l e R s m args below meth c H locs cells slots Q (F0 m pc ls (.int i :: .ref a :: rest)) := by
  obtain ⟨h1, rfl⟩ := rdI_of hm
  exact va_zald hexec hb hK.1 hP q0 2 ha rfl h1 hdg kk
theorem vx_lald (hexec : p.tables.exec = Jvm.exec) (hb : c.code = cc) (hK : kx D cI cJ cZ s) (hP : va_P D classes ws H) (q0 : Nat) {n : Nat} {f : Nat → Int64} (ha : ws[q0]? = some (a, .inl (cJ, n, .inr (.inl f)))) {i : Int32} {v : Int64} (hm : rdL f n i = some v) (hdg : decode cc pc = .ok (.laload, 1))
    (kk : W p l e R s m args below meth c H locs cells slots Q (F0 m (pc + 1) ls (.long v :: rest))) : W p l e R s m args below meth c H locs cells slots Q (F0 m pc ls (.int i :: .ref a :: rest)) := by
  obtain ⟨h1, rfl⟩ := rdL_of hm
  exact va_lald hexec hb hK.1 hP q0 1 ha rfl h1 hdg kk
theorem vx_iast (hexec : p.tables.exec = Jvm.exec) (hb : c.code = cc) (hK : kx D cI cJ cZ s) (hP : va_P D classes ws H) (hD : va_D A ws) (hS : va_S A s.heap H locs) (q0 : Nat) {n : Nat} {f g : Nat → Int32} (ha : ws[q0]? = some (a, .inl (cI, n, .inl f))) {i x : Int32} (hm : wrI f n i x = some g) (hdg : decode cc pc = .ok (.iastore, 1))
    (kk : ∀ (H1 : Heap) (locs1 : List Loc), va_P D classes (ws.set q0 (a, .inl (cI, n, .inl g))) H1 → va_D A (ws.set q0 (a, .inl (cI, n, .inl g))) → va_S A s.heap H1 locs1 → W p l e R s m args below meth c H1 locs1 cells slots Q (F0 m (pc + 1) ls rest)) : W p l e R s m args below meth c H locs cells slots Q (F0 m pc ls (.int x :: .int i :: .ref a :: rest)) := by
  obtain ⟨h1, rfl⟩ := wrI_of hm
  exact va_iast hexec hb hK.1 hP hD hS q0 0 ha rfl h1 hdg kk
theorem vx_zast (hexec : p.tables.exec = Jvm.exec) (hb : c.code = cc) (hK : kx D cI cJ cZ s) (hP : va_P D classes ws H) (hD : va_D A ws) (hS : va_S A s.heap H locs) (q0 : Nat) {n : Nat} {f g : Nat → Int32} (ha : ws[q0]? = some (a, .inl (cZ, n, .inl f))) {i x : Int32} (hm : wrZ f n i x = some g) (hdg : decode cc pc = .ok (.bastore, 1))
    (kk : ∀ (H1 : Heap) (locs1 : List Loc), va_P D classes (ws.set q0 (a, .inl (cZ, n, .inl g))) H1 → va_D A (ws.set q0 (a, .inl (cZ, n, .inl g))) → va_S A s.heap H1 locs1 → W p l e R s m args below meth c H1 locs1 cells slots Q (F0 m (pc + 1) ls rest)) : W p l e R s m args below meth c H locs cells slots Q (F0 m pc ls (.int x :: .int i :: .ref a :: rest)) := by
  obtain ⟨h1, rfl⟩ := wrZ_of hm
  exact va_zast hexec hb hK.1 hP hD hS q0 2 ha rfl h1 hdg kk
theorem vx_last (hexec : p.tables.exec = Jvm.exec) (hb : c.code = cc) (hK : kx D cI cJ cZ s) (hP : va_P D classes ws H) (hD : va_D A ws) (hS : va_S A s.heap H locs) (q0 : Nat) {n : Nat} {f g : Nat → Int64} (ha : ws[q0]? = some (a, .inl (cJ, n, .inr (.inl f)))) {i : Int32} {x : Int64} (hm : wrL f n i x = some g) (hdg : decode cc pc = .ok (.lastore, 1))
    (kk : ∀ (H1 : Heap) (locs1 : List Loc), va_P D classes (ws.set q0 (a, .inl (cJ, n, .inr (.inl g)))) H1 → va_D A (ws.set q0 (a, .inl (cJ, n, .inr (.inl g)))) → va_S A s.heap H1 locs1 → W p l e R s m args below meth c H1 locs1 cells slots Q (F0 m (pc + 1) ls rest)) : W p l e R s m args below meth c H locs cells slots Q (F0 m pc ls (.long x :: .int i :: .ref a :: rest)) := by
  obtain ⟨h1, rfl⟩ := wrL_of hm
  exact va_last hexec hb hK.1 hP hD hS q0 1 ha rfl h1 hdg kk
theorem vx_idiv (hexec : p.tables.exec = Jvm.exec) (hb : c.code = cc) {x y v : Int32} (hm : dvI x y = some v) (hdg : decode cc pc = .ok (.idiv, 1))
    (kk : W p l e R s m args below meth c H locs cells slots Q (F0 m (pc + 1) ls (.int v :: rest))) : W p l e R s m args below meth c H locs cells slots Q (F0 m pc ls (.int y :: .int x :: rest)) := by
  obtain ⟨h1, rfl⟩ := dvI_of hm
  exact lv_idiv hexec hb hdg h1 kk
/-! starts of a callee -/
theorem sPc_blind {av : List Value} {sz : Nat} : FrameBlind (sPc D cI cJ cZ av wc sz) := by
  intro a U g mk q
  obtain ⟨q0, q1, qP, qK, qD⟩ := q
  exact ⟨q0, q1, qP, qK.same rfl, qD⟩
theorem sPc_start {av : List Value} (hP : va_P D classes ws H) (hD : va_D A ws) (hnd : va_nd is = true) (hC : is.map (fun i => ws[i]?) = wc.map some) (hK : kx D cI cJ cZ s) : ∀ U : State, U.heap = H → s.WarmedH U.vm → sPc D cI cJ cZ av wc H.size av.toArray U :=
  fun U hU hW => ⟨rfl, by rw [hU], by rw [hU]; exact vx_subP hP hC, hK.warm hW, (hD.sub is hnd hC).weaken (fun _ _ _ _ => trivial)⟩
/-! runs: virtual, static, and of a nest mate's private method -/
theorem vr_V (S : CallFix p m c cc nL s args tbg own) (hM : Met l y (.code y bytes maxL ret :: tbg) rm (sPc D cI cJ cZ (.ref b :: As) wc H.size) Qc 0 0 (va_A wc H.size))
    (h1 : Cond.methodLink own index y ∈ tbg) (h2 : Cond.instanceMethod y ∈ tbg) (h3 : Cond.selects C y y ∈ tbg) (h4 : Cond.initialized C ∈ tbg) (h5 : Cond.code y bytes maxL ret ∈ tbg)
    (hd : y.cls = C ∧ y.cls ≠ "java/lang/invoke/MethodHandle" ∧ y.cls ≠ "java/lang/invoke/VarHandle" ∧ (parseMethodDescriptor y.desc).map (fun d => d.parameters.length) = some n) (hrm : rm.cells = 0 ∧ rm.slots = 0) (hR : rm.frames + 1 ≤ R.frames ∧ 8 + (maxL + 11) + rm.locals ≤ R.locals)
    {ci q0 : Nat} {T : u_T} {N : Nat} {fs : List Value} (hcl : classes[ci]? = some (C, T, N)) (he : ws[q0]? = some (b, .inr (ci, fs)))
    (hK : kx D cI cJ cZ s) (hP : va_P D classes ws H) (hD : va_D A ws) (hnd : va_nd is = true) (hC : is.map (fun i => ws[i]?) = wc.map some)
    (hn : As.length = n) (hsz : ls.size = nL) (hW : (rest.map fun v => v.category).sum ≤ 8) (hdg : decode cc pc = .ok (.invokevirtual index, 3)) (hf : cells + 0 ≤ R.cells ∧ slots + 0 ≤ R.slots) (hst : st0 = As.reverse ++ .ref b :: rest) :
    va_Run p l e R s m args below meth c H locs cells slots 0 0 (F0 m pc ls st0) rest (Qc (Value.ref b :: As).toArray) (va_A wc H.size) := by
  refine va_runV (C := C) S hM (cwV n S.2.2.2.2 (tb_gi fun w hw => ?_) rfl hrm.1 hrm.2 hd hR) ⟨sPc_blind, va_recv hK.1 hP hcl he, sPc_start hP hD hnd hC hK⟩ rfl hn hsz hst (lv_room hW) hdg hf
  rcases List.mem_append.mp hw with h | h
  · simp only [List.mem_cons, List.not_mem_nil, or_false] at h
    rcases h with rfl | rfl | rfl | rfl <;> assumption
  · exact tb_cons h5 w h
theorem vr_S (S : CallFix p m c cc nL s args tbg own) (hM : Met l y (.code y bytes maxL ret :: tbg) rm (sPc D cI cJ cZ As wc H.size) Qc 0 0 (va_A wc H.size))
    (h1 : Cond.methodLink own index y ∈ tbg) (h2 : Cond.static y ∈ tbg) (h4 : Cond.initialized own ∈ tbg) (h5 : Cond.code y bytes maxL ret ∈ tbg)
    (hd : y.cls = own ∧ y.cls ≠ "java/lang/invoke/MethodHandle" ∧ y.cls ≠ "java/lang/invoke/VarHandle" ∧ (parseMethodDescriptor y.desc).map (fun d => d.parameters.length) = some n) (hrm : rm.cells = 0 ∧ rm.slots = 0) (hR : rm.frames + 1 ≤ R.frames ∧ 8 + (maxL + 11) + rm.locals ≤ R.locals)
    (hK : kx D cI cJ cZ s) (hP : va_P D classes ws H) (hD : va_D A ws) (hnd : va_nd is = true) (hC : is.map (fun i => ws[i]?) = wc.map some)
    (hn : As.length = n) (hsz : ls.size = nL) (hW : (rest.map fun v => v.category).sum ≤ 8) (hdg : decode cc pc = .ok (.invokestatic index, 3)) (hf : cells + 0 ≤ R.cells ∧ slots + 0 ≤ R.slots) (hst : st0 = As.reverse ++ rest) :
    va_Run p l e R s m args below meth c H locs cells slots 0 0 (F0 m pc ls st0) rest (Qc As.toArray) (va_A wc H.size) := by
  refine va_runS S hM (cwS n S.2.2.2.2 (tb_gi fun w hw => ?_) rfl hrm.1 hrm.2 hd hR) ⟨sPc_blind, sPc_start hP hD hnd hC hK⟩ rfl hn hsz hst (lv_room hW) hdg hf
  rcases List.mem_append.mp hw with h | h
  · simp only [List.mem_cons, List.not_mem_nil, or_false] at h
    rcases h with rfl | rfl | rfl <;> assumption
  · exact tb_cons h5 w h
theorem vr_SX (S : CallFix p m c cc nL s args tbg own) (hM : Met l y (.code y bytes maxL ret :: tbg) rm (sPc D cI cJ cZ As wc H.size) Qc 0 0 (va_A wc H.size))
    (h1 : Cond.methodLink own index y ∈ tbg) (h2 : Cond.static y ∈ tbg) (h4 : Cond.initialized y.cls ∈ tbg) (h5 : Cond.code y bytes maxL ret ∈ tbg)
    (hd : y.cls ≠ "java/lang/invoke/MethodHandle" ∧ y.cls ≠ "java/lang/invoke/VarHandle" ∧ (parseMethodDescriptor y.desc).map (fun d => d.parameters.length) = some n) (hrm : rm.cells = 0 ∧ rm.slots = 0) (hR : rm.frames + 1 ≤ R.frames ∧ 8 + (maxL + 11) + rm.locals ≤ R.locals)
    (hK : kx D cI cJ cZ s) (hP : va_P D classes ws H) (hD : va_D A ws) (hnd : va_nd is = true) (hC : is.map (fun i => ws[i]?) = wc.map some)
    (hn : As.length = n) (hsz : ls.size = nL) (hW : (rest.map fun v => v.category).sum ≤ 8) (hdg : decode cc pc = .ok (.invokestatic index, 3)) (hf : cells + 0 ≤ R.cells ∧ slots + 0 ≤ R.slots) (hst : st0 = As.reverse ++ rest) :
    va_Run p l e R s m args below meth c H locs cells slots 0 0 (F0 m pc ls st0) rest (Qc As.toArray) (va_A wc H.size) :=
  va_runS S hM ⟨callB_of n S.2.2.2.2 (tb_gi (tb_cons h5)) rfl hrm.1 hrm.2 (S.2.2.2.2 _ h4) (S.2.2.2.2 _ h1) hd hR, S.2.2.2.2 _ h2⟩ ⟨sPc_blind, sPc_start hP hD hnd hC hK⟩ rfl hn hsz hst (lv_room hW) hdg hf
theorem vr_SN {host : String} (S : CallFix p m c cc nL s args tbg own) (hM : Met l y (.code y bytes maxL ret :: tbg) rm (sPc D cI cJ cZ As wc H.size) Qc 0 0 (va_A wc H.size))
    (h1 : Cond.methodLinkNest own index y host ∈ tables_1) (h2 : Cond.static y ∈ tbg) (h4 : Cond.initialized y.cls ∈ tbg) (h5 : Cond.code y bytes maxL ret ∈ tbg)
    (hd : y.cls ≠ "java/lang/invoke/MethodHandle" ∧ y.cls ≠ "java/lang/invoke/VarHandle" ∧ (parseMethodDescriptor y.desc).map (fun d => d.parameters.length) = some n) (hrm : rm.cells = 0 ∧ rm.slots = 0) (hR : rm.frames + 1 ≤ R.frames ∧ 8 + (maxL + 11) + rm.locals ≤ R.locals)
    (hK : kx D cI cJ cZ s) (hP : va_P D classes ws H) (hD : va_D A ws) (hnd : va_nd is = true) (hC : is.map (fun i => ws[i]?) = wc.map some)
    (hn : As.length = n) (hsz : ls.size = nL) (hW : (rest.map fun v => v.category).sum ≤ 8) (hdg : decode cc pc = .ok (.invokestatic index, 3)) (hf : cells + 0 ≤ R.cells ∧ slots + 0 ≤ R.slots) (hst : st0 = As.reverse ++ rest) :
    va_Run p l e R s m args below meth c H locs cells slots 0 0 (F0 m pc ls st0) rest (Qc As.toArray) (va_A wc H.size) :=
  va_runSN (host := host) S hM ⟨va_cnB n S.2.2.2.2 (tb_gi (tb_cons h5)) rfl hrm.1 hrm.2 (hK.2 _ h1 rfl) (S.2.2.2.2 _ h4) hd hR, S.2.2.2.2 _ h2, trivial⟩ ⟨sPc_blind, sPc_start hP hD hnd hC hK⟩ rfl hn hsz hst (lv_room hW) hdg hf
theorem vr_VN {host : String} (S : CallFix p m c cc nL s args tbg own) (hM : Met l y (.code y bytes maxL ret :: tbg) rm (sPc D cI cJ cZ (.ref b :: As) wc H.size) Qc 0 0 (va_A wc H.size))
    (h1 : Cond.methodLinkNest own index y host ∈ tables_1) (h2 : Cond.instanceMethod y ∈ tbg) (h3 : Cond.selects C y y ∈ tbg) (h4 : Cond.initialized y.cls ∈ tbg) (h5 : Cond.code y bytes maxL ret ∈ tbg)
    (hd : y.cls ≠ "java/lang/invoke/MethodHandle" ∧ y.cls ≠ "java/lang/invoke/VarHandle" ∧ (parseMethodDescriptor y.desc).map (fun d => d.parameters.length) = some n) (hrm : rm.cells = 0 ∧ rm.slots = 0) (hR : rm.frames + 1 ≤ R.frames ∧ 8 + (maxL + 11) + rm.locals ≤ R.locals)
    {ci q0 : Nat} {T : u_T} {N : Nat} {fs : List Value} (hcl : classes[ci]? = some (C, T, N)) (he : ws[q0]? = some (b, .inr (ci, fs)))
    (hK : kx D cI cJ cZ s) (hP : va_P D classes ws H) (hD : va_D A ws) (hnd : va_nd is = true) (hC : is.map (fun i => ws[i]?) = wc.map some)
    (hn : As.length = n) (hsz : ls.size = nL) (hW : (rest.map fun v => v.category).sum ≤ 8) (hdg : decode cc pc = .ok (.invokevirtual index, 3)) (hf : cells + 0 ≤ R.cells ∧ slots + 0 ≤ R.slots) (hst : st0 = As.reverse ++ .ref b :: rest) :
    va_Run p l e R s m args below meth c H locs cells slots 0 0 (F0 m pc ls st0) rest (Qc (Value.ref b :: As).toArray) (va_A wc H.size) :=
  va_runVN (C := C) (host := host) S hM ⟨va_cnB n S.2.2.2.2 (tb_gi (tb_cons h5)) rfl hrm.1 hrm.2 (hK.2 _ h1 rfl) (S.2.2.2.2 _ h4) hd hR, S.2.2.2.2 _ h2, S.2.2.2.2 _ h3⟩ ⟨sPc_blind, va_recv hK.1 hP hcl he, sPc_start hP hD hnd hC hK⟩ rfl hn hsz hst (lv_room hW) hdg hf
/-! behind a call -/
theorem vj_free (hD : va_D A ws) (hS : va_S A s.heap H locs) (hA : ∀ q, s.heap.size ≤ q → A q) (hC : is.map (fun i => ws[i]?) = wc.map some) : ∀ q, va_A wc H.size q → A q := va_free hD hS hA is hC
theorem vj_i {r : Int32} {av : Array Value} (hr : va_Run p l e R s m args below meth c H locs cells slots 0 0 (F0 m pc ls st0) rest (va_Qi (fun z (_ : Unit) => z = r) (sB D w1) (va_A wc H.size) av) (va_A wc H.size))
    (hP : va_P D classes ws H) (hD : va_D A ws) (hS : va_S A s.heap H locs) (hA : ∀ q, s.heap.size ≤ q → A q) (hC : is.map (fun i => ws[i]?) = wc.map some) (hw : w1.map (fun q => q.1) = wc.map (fun q => q.1)) (hN : is.map (fun i => wn[i]?) = w1.map some) (hO : vx_all ws wn isR) (hln : wn.length = nw) (hcov : (List.range nw).all (fun k => is.contains k || isR.contains k) = true)
    (kk : ∀ (H1 : Heap) (locs1 : List Loc), va_P D classes wn H1 → va_D A wn → va_S A s.heap H1 locs1 → W p l e R s m args below meth c H1 locs1 cells slots Q (F0 m (pc + 3) ls (.int r :: rest))) : W p l e R s m args below meth c H locs cells slots Q (F0 m pc ls st0) := by
  have hF := vj_free (is := is) hD hS hA hC
  refine va_calli hr hS (fun q _ h => hF q h) hF (fun z u t H1 locs1 ht hvm hz hB hz1 hk1 hS1 => ?_)
  subst hz
  have hB' : va_P D classes w1 H1 := by rw [← ht]; exact hB
  obtain ⟨hP1, hD1⟩ := vx_back hP hD hC hw hN hO hln hcov hk1 hB'
  exact kk H1 locs1 hP1 hD1 hS1
theorem vj_l {r : Int64} {av : Array Value} (hr : va_Run p l e R s m args below meth c H locs cells slots 0 0 (F0 m pc ls st0) rest (va_Ql (fun z (_ : Unit) => z = r) (sB D w1) (va_A wc H.size) av) (va_A wc H.size))
    (hP : va_P D classes ws H) (hD : va_D A ws) (hS : va_S A s.heap H locs) (hA : ∀ q, s.heap.size ≤ q → A q) (hC : is.map (fun i => ws[i]?) = wc.map some) (hw : w1.map (fun q => q.1) = wc.map (fun q => q.1)) (hN : is.map (fun i => wn[i]?) = w1.map some) (hO : vx_all ws wn isR) (hln : wn.length = nw) (hcov : (List.range nw).all (fun k => is.contains k || isR.contains k) = true)
    (kk : ∀ (H1 : Heap) (locs1 : List Loc), va_P D classes wn H1 → va_D A wn → va_S A s.heap H1 locs1 → W p l e R s m args below meth c H1 locs1 cells slots Q (F0 m (pc + 3) ls (.long r :: rest))) : W p l e R s m args below meth c H locs cells slots Q (F0 m pc ls st0) := by
  have hF := vj_free (is := is) hD hS hA hC
  refine va_calll hr hS (fun q _ h => hF q h) hF (fun z u t H1 locs1 ht hvm hz hB hz1 hk1 hS1 => ?_)
  subst hz
  have hB' : va_P D classes w1 H1 := by rw [← ht]; exact hB
  obtain ⟨hP1, hD1⟩ := vx_back hP hD hC hw hN hO hln hcov hk1 hB'
  exact kk H1 locs1 hP1 hD1 hS1
theorem vj_v {av : Array Value} (hr : va_Run p l e R s m args below meth c H locs cells slots 0 0 (F0 m pc ls st0) rest (va_Qv (fun (_ : Unit) => True) (sB D w1) (va_A wc H.size) av) (va_A wc H.size))
    (hP : va_P D classes ws H) (hD : va_D A ws) (hS : va_S A s.heap H locs) (hA : ∀ q, s.heap.size ≤ q → A q) (hC : is.map (fun i => ws[i]?) = wc.map some) (hw : w1.map (fun q => q.1) = wc.map (fun q => q.1)) (hN : is.map (fun i => wn[i]?) = w1.map some) (hO : vx_all ws wn isR) (hln : wn.length = nw) (hcov : (List.range nw).all (fun k => is.contains k || isR.contains k) = true)
    (kk : ∀ (H1 : Heap) (locs1 : List Loc), va_P D classes wn H1 → va_D A wn → va_S A s.heap H1 locs1 → W p l e R s m args below meth c H1 locs1 cells slots Q (F0 m (pc + 3) ls rest)) : W p l e R s m args below meth c H locs cells slots Q (F0 m pc ls st0) := by
  have hF := vj_free (is := is) hD hS hA hC
  refine va_callv hr hS (fun q _ h => hF q h) hF (fun u t H1 locs1 ht hvm hz hB hz1 hk1 hS1 => ?_)
  have hB' : va_P D classes w1 H1 := by rw [← ht]; exact hB
  obtain ⟨hP1, hD1⟩ := vx_back hP hD hC hw hN hO hln hcov hk1 hB'
  exact kk H1 locs1 hP1 hD1 hS1
end VX
/-! ### constructors: what comes is new, its places are told behind the call -/
abbrev z_I : Nat → Int32 := fun _ => 0
abbrev z_L : Nat → Int64 := fun _ => 0
def nB {τ : Type} (D : va_G) (A : Nat → Prop) (w : τ → va_W) (u : τ) (t : State) : Prop := va_P D classes (w u) t.heap ∧ va_D A (w u)
def MN {τ : Type} (l : Launch) (y : MethodName) (bytes : ByteArray) (maxL : Nat) (rm : Room) (D : va_G) (cI cJ cZ : ClassId) (av : List Value) (wc : va_W) (w : τ → va_W) (mc ms : Nat) : Prop :=
  ∀ sz : Nat, Met l y (.code y bytes maxL none :: tbg) rm (sPc D cI cJ cZ av wc sz) (va_Qv (fun (_ : τ) => True) (nB D (va_A wc sz) w) (va_A wc sz)) mc ms (va_A wc sz)
section VN
variable {p : Program} {l : Launch} {e : Env} {R : Room} {s : State} {m : MethodId} {args : Array Value} {below : List Frame} {meth : Method} {c : Code} {H : Heap} {locs : List Loc} {cells slots : Nat} {Q : State → Prop}
variable {D : va_G} {cI cJ cZ : ClassId} {y : MethodName} {bytes cc : ByteArray} {maxL nL n index : Nat} {rm : Room} {own C : String} {b : Addr} {As rest : List Value} {ws wc wr w1 : va_W} {pc : Nat} {ls : Array Slot} {Qc : Array Value → State → Outcome → State → Prop} {A : Nat → Prop} {a : Nat} {st0 : List Value} {is isR : List Nat} {mc ms : Nat}
theorem vn_newI (hexec : p.tables.exec = Jvm.exec) (hb : c.code = cc) (harr : (Cond.arrayClass .int).before args s = true) (hK : kx D cI cJ cZ s) (hP : va_P D classes ws H) (hD : va_D A ws) (hS : va_S A s.heap H locs) (hA : ∀ q, s.heap.size ≤ q → A q)
    {n : Int32} {N : Nat} (hn : ¬ n < 0) (hN : n.toNatClampNeg = N) (hby : N * 4 ≤ 536870912) (hc : cells + 1 ≤ R.cells) (hs : slots + N ≤ R.slots) (hdg : decode cc pc = .ok (.newarray .int, 2))
    (kk : ∀ (q : Nat) (H1 : Heap), va_P D classes (ws ++ [(q, .inl (cI, N, .inl z_I))]) H1 → va_D A (ws ++ [(q, .inl (cI, N, .inl z_I))]) → va_S A s.heap H1 locs → W p l e R s m args below meth c H1 locs (cells + 1) (slots + N) Q (F0 m (pc + 2) ls (.ref q :: rest))) : W p l e R s m args below meth c H locs cells slots Q (F0 m pc ls (.int n :: rest)) := by
  refine va_newa (atype := .int) (ty := .int) hexec hb harr rfl hK.1 hP hD hS hA (a0 := (N, .inl z_I)) (fun _ => rfl) hn hN hby hc hs hdg (fun q cA H1 hK1 hP hD hS => ?_)
  have h1 := (hK1.2 3 _ rfl).2
  have h2 := (hK.1.2 0 _ rfl).2
  cases Option.some.inj (h1.symm.trans h2)
  exact kk q H1 hP hD hS
theorem vn_newJ (hexec : p.tables.exec = Jvm.exec) (hb : c.code = cc) (harr : (Cond.arrayClass .long).before args s = true) (hK : kx D cI cJ cZ s) (hP : va_P D classes ws H) (hD : va_D A ws) (hS : va_S A s.heap H locs) (hA : ∀ q, s.heap.size ≤ q → A q)
    {n : Int32} {N : Nat} (hn : ¬ n < 0) (hN : n.toNatClampNeg = N) (hby : N * 8 ≤ 536870912) (hc : cells + 1 ≤ R.cells) (hs : slots + N ≤ R.slots) (hdg : decode cc pc = .ok (.newarray .long, 2))
    (kk : ∀ (q : Nat) (H1 : Heap), va_P D classes (ws ++ [(q, .inl (cJ, N, .inr (.inl z_L)))]) H1 → va_D A (ws ++ [(q, .inl (cJ, N, .inr (.inl z_L)))]) → va_S A s.heap H1 locs → W p l e R s m args below meth c H1 locs (cells + 1) (slots + N) Q (F0 m (pc + 2) ls (.ref q :: rest))) : W p l e R s m args below meth c H locs cells slots Q (F0 m pc ls (.int n :: rest)) := by
  refine va_newa (atype := .long) (ty := .long) hexec hb harr rfl hK.1 hP hD hS hA (a0 := (N, .inr (.inl z_L))) (fun _ => rfl) hn hN hby hc hs hdg (fun q cA H1 hK1 hP hD hS => ?_)
  have h1 := (hK1.2 3 _ rfl).2
  have h2 := (hK.1.2 1 _ rfl).2
  cases Option.some.inj (h1.symm.trans h2)
  exact kk q H1 hP hD hS
theorem vn_newZ (hexec : p.tables.exec = Jvm.exec) (hb : c.code = cc) (harr : (Cond.arrayClass .boolean).before args s = true) (hK : kx D cI cJ cZ s) (hP : va_P D classes ws H) (hD : va_D A ws) (hS : va_S A s.heap H locs) (hA : ∀ q, s.heap.size ≤ q → A q)
    {n : Int32} {N : Nat} (hn : ¬ n < 0) (hN : n.toNatClampNeg = N) (hby : N * 1 ≤ 536870912) (hc : cells + 1 ≤ R.cells) (hs : slots + N ≤ R.slots) (hdg : decode cc pc = .ok (.newarray .boolean, 2))
    (kk : ∀ (q : Nat) (H1 : Heap), va_P D classes (ws ++ [(q, .inl (cZ, N, .inl z_I))]) H1 → va_D A (ws ++ [(q, .inl (cZ, N, .inl z_I))]) → va_S A s.heap H1 locs → W p l e R s m args below meth c H1 locs (cells + 1) (slots + N) Q (F0 m (pc + 2) ls (.ref q :: rest))) : W p l e R s m args below meth c H locs cells slots Q (F0 m pc ls (.int n :: rest)) := by
  refine va_newa (atype := .boolean) (ty := .boolean) hexec hb harr rfl hK.1 hP hD hS hA (a0 := (N, .inl z_I)) (fun _ => rfl) hn hN hby hc hs hdg (fun q cA H1 hK1 hP hD hS => ?_)
  have h1 := (hK1.2 3 _ rfl).2
  have h2 := (hK.1.2 2 _ rfl).2
  cases Option.some.inj (h1.symm.trans h2)
  exact kk q H1 hP hD hS
theorem vr_I (S : CallFix p m c cc nL s args tbg own) (hM : Met l y (.code y bytes maxL none :: tbg) rm (sPc D cI cJ cZ (.ref b :: As) wc H.size) Qc mc ms (va_A wc H.size))
    (h1 : Cond.methodLink own index y ∈ tbg) (h2 : Cond.instanceMethod y ∈ tbg) (h4 : Cond.initialized y.cls ∈ tbg) (h5 : Cond.code y bytes maxL none ∈ tbg) (hy1 : y.name = "<init>")
    (hd : y.cls ≠ "java/lang/invoke/MethodHandle" ∧ y.cls ≠ "java/lang/invoke/VarHandle" ∧ (parseMethodDescriptor y.desc).map (fun d => d.parameters.length) = some n) (hrm : rm.cells = mc ∧ rm.slots = ms) (hR : rm.frames + 1 ≤ R.frames ∧ 8 + (maxL + 11) + rm.locals ≤ R.locals)
    (hK : kx D cI cJ cZ s) (hP : va_P D classes ws H) (hD : va_D A ws) (hnd : va_nd is = true) (hC : is.map (fun i => ws[i]?) = wc.map some)
    (hn : As.length = n) (hsz : ls.size = nL) (hW : (rest.map fun v => v.category).sum ≤ 8) (hdg : decode cc pc = .ok (.invokespecial index, 3)) (hf : cells + mc ≤ R.cells ∧ slots + ms ≤ R.slots) (hst : st0 = As.reverse ++ .ref b :: rest) :
    va_Run p l e R s m args below meth c H locs cells slots mc ms (F0 m pc ls st0) rest (Qc (Value.ref b :: As).toArray) (va_A wc H.size) :=
  va_runI S hM (cwI n S.2.2.2.2 (tb_gi (tb_cons h5)) rfl hrm.1 hrm.2 (S.2.2.2.2 _ h4) (S.2.2.2.2 _ h1) (S.2.2.2.2 _ h2) hy1 hd hR) ⟨sPc_blind, sPc_start hP hD hnd hC hK⟩ rfl hn hsz hst (lv_room hW) hdg hf
theorem vr_IN {host : String} (S : CallFix p m c cc nL s args tbg own) (hM : Met l y (.code y bytes maxL none :: tbg) rm (sPc D cI cJ cZ (.ref b :: As) wc H.size) Qc mc ms (va_A wc H.size))
    (h1 : Cond.methodLinkNest own index y host ∈ tables_1) (h2 : Cond.instanceMethod y ∈ tbg) (h4 : Cond.initialized y.cls ∈ tbg) (h5 : Cond.code y bytes maxL none ∈ tbg) (hy1 : y.name = "<init>")
    (hd : y.cls ≠ "java/lang/invoke/MethodHandle" ∧ y.cls ≠ "java/lang/invoke/VarHandle" ∧ (parseMethodDescriptor y.desc).map (fun d => d.parameters.length) = some n) (hrm : rm.cells = mc ∧ rm.slots = ms) (hR : rm.frames + 1 ≤ R.frames ∧ 8 + (maxL + 11) + rm.locals ≤ R.locals)
    (hK : kx D cI cJ cZ s) (hP : va_P D classes ws H) (hD : va_D A ws) (hnd : va_nd is = true) (hC : is.map (fun i => ws[i]?) = wc.map some)
    (hn : As.length = n) (hsz : ls.size = nL) (hW : (rest.map fun v => v.category).sum ≤ 8) (hdg : decode cc pc = .ok (.invokespecial index, 3)) (hf : cells + mc ≤ R.cells ∧ slots + ms ≤ R.slots) (hst : st0 = As.reverse ++ .ref b :: rest) :
    va_Run p l e R s m args below meth c H locs cells slots mc ms (F0 m pc ls st0) rest (Qc (Value.ref b :: As).toArray) (va_A wc H.size) :=
  va_runIN (host := host) S hM ⟨va_cnB n S.2.2.2.2 (tb_gi (tb_cons h5)) rfl hrm.1 hrm.2 (hK.2 _ h1 rfl) (S.2.2.2.2 _ h4) hd hR, hy1, S.2.2.2.2 _ h2⟩ ⟨sPc_blind, sPc_start hP hD hnd hC hK⟩ rfl hn hsz hst (lv_room hW) hdg hf
theorem vj_n {τ : Type} {w : τ → va_W} {av : Array Value} (hr : va_Run p l e R s m args below meth c H locs cells slots mc ms (F0 m pc ls st0) rest (va_Qv (fun (_ : τ) => True) (nB D (va_A wc H.size) w) (va_A wc H.size) av) (va_A wc H.size))
    (hP : va_P D classes ws H) (hD : va_D A ws) (hS : va_S A s.heap H locs) (hA : ∀ q, s.heap.size ≤ q → A q) (hC : is.map (fun i => ws[i]?) = wc.map some) (hR : isR.map (fun i => ws[i]?) = wr.map some) (hn : va_nd isR = true) (hdis : ∀ i ∈ isR, i ∉ is)
    (kk : ∀ (u : τ) (H1 : Heap) (locs1 : List Loc), va_P D classes (wr ++ w u) H1 → va_D A (wr ++ w u) → va_S A s.heap H1 locs1 → W p l e R s m args below meth c H1 locs1 (cells + mc) (slots + ms) Q (F0 m (pc + 3) ls rest)) : W p l e R s m args below meth c H locs cells slots Q (F0 m pc ls st0) := by
  have hF := vj_free (is := is) hD hS hA hC
  refine va_callv hr hS (fun q _ h => hF q h) hF (fun u t H1 locs1 ht hvm hz hB hz1 hk1 hS1 => ?_)
  obtain ⟨hP1, hD1⟩ := hB
  rw [ht] at hP1
  obtain ⟨hP2, hD2⟩ := va_join hP hD is isR hC hR hn hdis hk1 hF hP1 hD1
  exact kk u H1 locs1 hP2 hD2 hS1
end VN

