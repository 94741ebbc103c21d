abbrev rm_Integer_bitCount : Room := { frames := 0, cells := 0, slots := 0, locals := 0 }
def f_Integer_bitCount (p0 : Int32) : Option Int32 := some ((((((((p0 - ((p0.toUInt32 >>> ((1 : Int32).toUInt32 &&& Int32.toUInt32 31)).toInt32 &&& (1431655765 : Int32))) &&& (858993459 : Int32)) + (((p0 - ((p0.toUInt32 >>> ((1 : Int32).toUInt32 &&& Int32.toUInt32 31)).toInt32 &&& (1431655765 : Int32))).toUInt32 >>> ((2 : Int32).toUInt32 &&& Int32.toUInt32 31)).toInt32 &&& (858993459 : Int32))) + ((((p0 - ((p0.toUInt32 >>> ((1 : Int32).toUInt32 &&& Int32.toUInt32 31)).toInt32 &&& (1431655765 : Int32))) &&& (858993459 : Int32)) + (((p0 - ((p0.toUInt32 >>> ((1 : Int32).toUInt32 &&& Int32.toUInt32 31)).toInt32 &&& (1431655765 : Int32))).toUInt32 >>> ((2 : Int32).toUInt32 &&& Int32.toUInt32 31)).toInt32 &&& (858993459 : Int32))).toUInt32 >>> ((4 : Int32).toUInt32 &&& Int32.toUInt32 31)).toInt32) &&& (252645135 : Int32)) + ((((((p0 - ((p0.toUInt32 >>> ((1 : Int32).toUInt32 &&& Int32.toUInt32 31)).toInt32 &&& (1431655765 : Int32))) &&& (858993459 : Int32)) + (((p0 - ((p0.toUInt32 >>> ((1 : Int32).toUInt32 &&& Int32.toUInt32 31)).toInt32 &&& (1431655765 : Int32))).toUInt32 >>> ((2 : Int32).toUInt32 &&& Int32.toUInt32 31)).toInt32 &&& (858993459 : Int32))) + ((((p0 - ((p0.toUInt32 >>> ((1 : Int32).toUInt32 &&& Int32.toUInt32 31)).toInt32 &&& (1431655765 : Int32))) &&& (858993459 : Int32)) + (((p0 - ((p0.toUInt32 >>> ((1 : Int32).toUInt32 &&& Int32.toUInt32 31)).toInt32 &&& (1431655765 : Int32))).toUInt32 >>> ((2 : Int32).toUInt32 &&& Int32.toUInt32 31)).toInt32 &&& (858993459 : Int32))).toUInt32 >>> ((4 : Int32).toUInt32 &&& Int32.toUInt32 31)).toInt32) &&& (252645135 : Int32)).toUInt32 >>> ((8 : Int32).toUInt32 &&& Int32.toUInt32 31)).toInt32) + (((((((p0 - ((p0.toUInt32 >>> ((1 : Int32).toUInt32 &&& Int32.toUInt32 31)).toInt32 &&& (1431655765 : Int32))) &&& (858993459 : Int32)) + (((p0 - ((p0.toUInt32 >>> ((1 : Int32).toUInt32 &&& Int32.toUInt32 31)).toInt32 &&& (1431655765 : Int32))).toUInt32 >>> ((2 : Int32).toUInt32 &&& Int32.toUInt32 31)).toInt32 &&& (858993459 : Int32))) + ((((p0 - ((p0.toUInt32 >>> ((1 : Int32).toUInt32 &&& Int32.toUInt32 31)).toInt32 &&& (1431655765 : Int32))) &&& (858993459 : Int32)) + (((p0 - ((p0.toUInt32 >>> ((1 : Int32).toUInt32 &&& Int32.toUInt32 31)).toInt32 &&& (1431655765 : Int32))).toUInt32 >>> ((2 : Int32).toUInt32 &&& Int32.toUInt32 31)).toInt32 &&& (858993459 : Int32))).toUInt32 >>> ((4 : Int32).toUInt32 &&& Int32.toUInt32 31)).toInt32) &&& (252645135 : Int32)) + ((((((p0 - ((p0.toUInt32 >>> ((1 : Int32).toUInt32 &&& Int32.toUInt32 31)).toInt32 &&& (1431655765 : Int32))) &&& (858993459 : Int32)) + (((p0 - ((p0.toUInt32 >>> ((1 : Int32).toUInt32 &&& Int32.toUInt32 31)).toInt32 &&& (1431655765 : Int32))).toUInt32 >>> ((2 : Int32).toUInt32 &&& Int32.toUInt32 31)).toInt32 &&& (858993459 : Int32))) + ((((p0 - ((p0.toUInt32 >>> ((1 : Int32).toUInt32 &&& Int32.toUInt32 31)).toInt32 &&& (1431655765 : Int32))) &&& (858993459 : Int32)) + (((p0 - ((p0.toUInt32 >>> ((1 : Int32).toUInt32 &&& Int32.toUInt32 31)).toInt32 &&& (1431655765 : Int32))).toUInt32 >>> ((2 : Int32).toUInt32 &&& Int32.toUInt32 31)).toInt32 &&& (858993459 : Int32))).toUInt32 >>> ((4 : Int32).toUInt32 &&& Int32.toUInt32 31)).toInt32) &&& (252645135 : Int32)).toUInt32 >>> ((8 : Int32).toUInt32 &&& Int32.toUInt32 31)).toInt32).toUInt32 >>> ((16 : Int32).toUInt32 &&& Int32.toUInt32 31)).toInt32) &&& (63 : Int32))
abbrev rm_BlockCode_makesRegister : Room := { frames := 0, cells := 0, slots := 0, locals := 0 }
abbrev ww_BlockCode_makesRegister (cI cJ cZ : ClassId) : va_W := []
def f_BlockCode_makesRegister (p0 : Int32) : Option (Int32) :=
  if p0 < (1 : Int32) then
    some (0 : Int32)
  else
    if (7 : Int32) < p0 then
      some (0 : Int32)
    else
      some (1 : Int32)
abbrev rm_BlockCode_isRegister : Room := { frames := 0, cells := 0, slots := 0, locals := 0 }
abbrev ww_BlockCode_isRegister (cI cJ cZ : ClassId) : va_W := []
def f_BlockCode_isRegister (p0 : Int32) : Option (Int32) :=
  if p0 < (0 : Int32) then
    some (0 : Int32)
  else
    if (5 : Int32) ≤ p0 then
      some (0 : Int32)
    else
      some (1 : Int32)
abbrev rm_BlockCode_readsA : Room := { frames := 0, cells := 0, slots := 0, locals := 0 }
abbrev ww_BlockCode_readsA (cI cJ cZ : ClassId) : va_W := []
def f_BlockCode_readsA_17 (p0 : Int32) : Option (Int32) :=
  some (1 : Int32)
def f_BlockCode_readsA_11 (p0 : Int32) : Option (Int32) :=
  if p0 = (9 : Int32) then
    f_BlockCode_readsA_17 p0
  else
    some (0 : Int32)
def f_BlockCode_readsA (p0 : Int32) : Option (Int32) :=
  if p0 < (2 : Int32) then
    f_BlockCode_readsA_11 p0
  else
    if p0 ≤ (7 : Int32) then
      f_BlockCode_readsA_17 p0
    else
      f_BlockCode_readsA_11 p0
abbrev rm_BlockCode_combines : Room := { frames := 0, cells := 0, slots := 0, locals := 0 }
abbrev ww_BlockCode_combines (cI cJ cZ : ClassId) : va_W := []
def f_BlockCode_combines (p0 : Int32) : Option (Int32) :=
  if p0 < (3 : Int32) then
    some (0 : Int32)
  else
    if (7 : Int32) < p0 then
      some (0 : Int32)
    else
      some (1 : Int32)
abbrev rm_BlockCode_namedBy : Room := { frames := 0, cells := 0, slots := 0, locals := 0 }
abbrev ww_BlockCode_namedBy (cI cJ cZ : ClassId) : va_W := []
def f_BlockCode_namedBy (p0 : Int32) (p1 : Int32) (p2 : Int32) : Option (Int32) :=
  if p0 = (8 : Int32) then
    some p1
  else
    if p0 = (9 : Int32) then
      some p2
    else
      some (-1 : Int32)
abbrev rm_BlockCode_isPlace : Room := { frames := 0, cells := 0, slots := 0, locals := 0 }
abbrev ww_BlockCode_isPlace (cI cJ cZ : ClassId) : va_W := []
def f_BlockCode_isPlace (p0 : Int32) : Option (Int32) :=
  if p0 < (0 : Int32) then
    some (0 : Int32)
  else
    if (20 : Int32) ≤ p0 then
      some (0 : Int32)
    else
      some (1 : Int32)
abbrev rm_BlockCode_hasForm : Room := { frames := 1, cells := 0, slots := 0, locals := 22 }
abbrev ww_BlockCode_hasForm (cI cJ cZ : ClassId) : va_W := []
def f_BlockCode_hasForm_72 (p0 : Int32) (p1 : Int32) (p2 : Int32) (p3 : Int32) : Option (Int32) :=
  (f_BlockCode_namedBy p0 p2 p3).bind fun rz1 =>
  (f_BlockCode_isPlace rz1).bind fun rz2 =>
  (gzI rz2).bind fun z0 => some z0
def f_BlockCode_hasForm_98 (p0 : Int32) (p1 : Int32) (p2 : Int32) (p3 : Int32) : Option (Int32) :=
  some (1 : Int32)
def f_BlockCode_hasForm_60 (p0 : Int32) (p1 : Int32) (p2 : Int32) (p3 : Int32) : Option (Int32) :=
  if p0 = (8 : Int32) then
    f_BlockCode_hasForm_72 p0 p1 p2 p3
  else
    if p0 = (9 : Int32) then
      f_BlockCode_hasForm_72 p0 p1 p2 p3
    else
      if p0 = (10 : Int32) then
        if p2 < (0 : Int32) then
          some (0 : Int32)
        else
          if (32 : Int32) ≤ p2 then
            some (0 : Int32)
          else
            f_BlockCode_hasForm_98 p0 p1 p2 p3
      else
        f_BlockCode_hasForm_98 p0 p1 p2 p3
def f_BlockCode_hasForm_44 (p0 : Int32) (p1 : Int32) (p2 : Int32) (p3 : Int32) : Option (Int32) :=
  (f_BlockCode_combines p0).bind fun rz1 =>
  if rz1 = (0 : Int32) then
    f_BlockCode_hasForm_60 p0 p1 p2 p3
  else
    (f_BlockCode_isRegister p3).bind fun rz2 =>
    if rz2 = (0 : Int32) then
      some (0 : Int32)
    else
      f_BlockCode_hasForm_60 p0 p1 p2 p3
def f_BlockCode_hasForm_28 (p0 : Int32) (p1 : Int32) (p2 : Int32) (p3 : Int32) : Option (Int32) :=
  (f_BlockCode_readsA p0).bind fun rz1 =>
  if rz1 = (0 : Int32) then
    f_BlockCode_hasForm_44 p0 p1 p2 p3
  else
    (f_BlockCode_isRegister p2).bind fun rz2 =>
    if rz2 = (0 : Int32) then
      some (0 : Int32)
    else
      f_BlockCode_hasForm_44 p0 p1 p2 p3
def f_BlockCode_hasForm (p0 : Int32) (p1 : Int32) (p2 : Int32) (p3 : Int32) : Option (Int32) :=
  if p0 < (0 : Int32) then
    some (0 : Int32)
  else
    if p0 ≤ (10 : Int32) then
      (f_BlockCode_makesRegister p0).bind fun rz1 =>
      if rz1 = (0 : Int32) then
        f_BlockCode_hasForm_28 p0 p1 p2 p3
      else
        (f_BlockCode_isRegister p1).bind fun rz2 =>
        if rz2 = (0 : Int32) then
          some (0 : Int32)
        else
          f_BlockCode_hasForm_28 p0 p1 p2 p3
    else
      some (0 : Int32)
abbrev rm_Code_put : Room := { frames := 1, cells := 0, slots := 0, locals := 20 }
abbrev ww_Code_put (cI cJ cZ : ClassId) (qt : Nat) (qt_op : Nat) (qt_d : Nat) (qt_a : Nat) (qt_b : Nat) (qt_need : Nat) (t_length : Int32) (t_leaders : Int32) (t_op : Nat → Int32) (t_d : Nat → Int32) (t_a : Nat → Int32) (t_b : Nat → Int32) : va_W := [(qt, .inr (0, [.ref qt_op, .ref qt_d, .ref qt_a, .ref qt_b, .ref qt_need, .int t_length, .int t_leaders])), (qt_op, .inl (cI, 20, .inl t_op)), (qt_d, .inl (cI, 20, .inl t_d)), (qt_a, .inl (cI, 20, .inl t_a)), (qt_b, .inl (cI, 20, .inl t_b))]
def f_Code_put_65 (p1 : Int32) (p2 : Int32) (p3 : Int32) (p4 : Int32) (p5 : Int32) (s0 : Int32) (s1 : Int32) (t_op : Nat → Int32) (t_d : Nat → Int32) (t_a : Nat → Int32) (t_b : Nat → Int32) : Option ((Nat → Int32) × (Nat → Int32) × (Nat → Int32) × (Nat → Int32)) :=
  (wrI t_b 20 s1 s0).bind fun w1 =>
  some (t_op, t_d, t_a, w1)
def f_Code_put_59 (p1 : Int32) (p2 : Int32) (p3 : Int32) (p4 : Int32) (p5 : Int32) (s0 : Int32) (t_op : Nat → Int32) (t_d : Nat → Int32) (t_a : Nat → Int32) (t_b : Nat → Int32) : Option ((Nat → Int32) × (Nat → Int32) × (Nat → Int32) × (Nat → Int32)) :=
  f_Code_put_65 p1 p2 p3 p4 p5 p5 s0 t_op t_d t_a t_b
def f_Code_put_40 (p1 : Int32) (p2 : Int32) (p3 : Int32) (p4 : Int32) (p5 : Int32) (s0 : Int32) (s1 : Int32) (t_op : Nat → Int32) (t_d : Nat → Int32) (t_a : Nat → Int32) (t_b : Nat → Int32) : Option ((Nat → Int32) × (Nat → Int32) × (Nat → Int32) × (Nat → Int32)) :=
  (wrI t_a 20 s1 s0).bind fun w1 =>
  (f_BlockCode_combines p2).bind fun rz2 =>
  if rz2 = (0 : Int32) then
    if p2 = (9 : Int32) then
      f_Code_put_59 p1 p2 p3 p4 p5 p1 t_op t_d w1 t_b
    else
      f_Code_put_65 p1 p2 p3 p4 p5 (0 : Int32) p1 t_op t_d w1 t_b
  else
    f_Code_put_59 p1 p2 p3 p4 p5 p1 t_op t_d w1 t_b
def f_Code_put_24 (p1 : Int32) (p2 : Int32) (p3 : Int32) (p4 : Int32) (p5 : Int32) (s0 : Int32) (s1 : Int32) (t_op : Nat → Int32) (t_d : Nat → Int32) (t_a : Nat → Int32) (t_b : Nat → Int32) : Option ((Nat → Int32) × (Nat → Int32) × (Nat → Int32) × (Nat → Int32)) :=
  (wrI t_d 20 s1 s0).bind fun w1 =>
  if p2 = (0 : Int32) then
    f_Code_put_40 p1 p2 p3 p4 p5 (0 : Int32) p1 t_op w1 t_a t_b
  else
    f_Code_put_40 p1 p2 p3 p4 p5 p4 p1 t_op w1 t_a t_b
def f_Code_put (p1 : Int32) (p2 : Int32) (p3 : Int32) (p4 : Int32) (p5 : Int32) (t_op : Nat → Int32) (t_d : Nat → Int32) (t_a : Nat → Int32) (t_b : Nat → Int32) : Option ((Nat → Int32) × (Nat → Int32) × (Nat → Int32) × (Nat → Int32)) :=
  (wrI t_op 20 p1 p2).bind fun w1 =>
  (f_BlockCode_makesRegister p2).bind fun rz2 =>
  if rz2 = (0 : Int32) then
    f_Code_put_24 p1 p2 p3 p4 p5 (0 : Int32) p1 w1 t_d t_a t_b
  else
    f_Code_put_24 p1 p2 p3 p4 p5 p3 p1 w1 t_d t_a t_b
abbrev rm_BlockCode_add : Room := { frames := 2, cells := 0, slots := 0, locals := 45 }
abbrev ww_BlockCode_add (cI cJ cZ : ClassId) (qt : Nat) (qt_sourceCode : Nat) (qt_resultCode : Nat) (qt_facts : Nat) (qt_symbols : Nat) (qt_sourceWalk : Nat) (qt_resultWalk : Nat) (qt_machine : Nat) (qt_sourceCode_op : Nat) (qt_sourceCode_d : Nat) (qt_sourceCode_a : Nat) (qt_sourceCode_b : Nat) (qt_sourceCode_need : Nat) (t_sealed : Int32) (t_foundAlike : Int32) (t_sourceCode_length : Int32) (t_sourceCode_leaders : Int32) (t_sourceCode_op : Nat → Int32) (t_sourceCode_d : Nat → Int32) (t_sourceCode_a : Nat → Int32) (t_sourceCode_b : Nat → Int32) : va_W := [(qt, .inr (5, [.ref qt_sourceCode, .ref qt_resultCode, .ref qt_facts, .ref qt_symbols, .ref qt_sourceWalk, .ref qt_resultWalk, .ref qt_machine, .int t_sealed, .int t_foundAlike])), (qt_sourceCode, .inr (0, [.ref qt_sourceCode_op, .ref qt_sourceCode_d, .ref qt_sourceCode_a, .ref qt_sourceCode_b, .ref qt_sourceCode_need, .int t_sourceCode_length, .int t_sourceCode_leaders])), (qt_sourceCode_op, .inl (cI, 20, .inl t_sourceCode_op)), (qt_sourceCode_d, .inl (cI, 20, .inl t_sourceCode_d)), (qt_sourceCode_a, .inl (cI, 20, .inl t_sourceCode_a)), (qt_sourceCode_b, .inl (cI, 20, .inl t_sourceCode_b))]
def f_BlockCode_add (p1 : Int32) (p2 : Int32) (p3 : Int32) (p4 : Int32) (t_sealed : Int32) (t_sourceCode_op : Nat → Int32) (t_sourceCode_d : Nat → Int32) (t_sourceCode_a : Nat → Int32) (t_sourceCode_b : Nat → Int32) (t_sourceCode_length : Int32) : Option (Int32 × (Nat → Int32) × (Nat → Int32) × (Nat → Int32) × (Nat → Int32) × Int32) :=
  if t_sealed = (0 : Int32) then
    (f_BlockCode_hasForm p1 p2 p3 p4).bind fun rz1 =>
    if rz1 = (0 : Int32) then
      some ((-1 : Int32), t_sourceCode_op, t_sourceCode_d, t_sourceCode_a, t_sourceCode_b, t_sourceCode_length)
    else
      if t_sourceCode_length < (20 : Int32) then
        (f_Code_put t_sourceCode_length p1 p2 p3 p4 t_sourceCode_op t_sourceCode_d t_sourceCode_a t_sourceCode_b).bind fun (u2, u3, u4, u5) =>
        some (t_sourceCode_length, u2, u3, u4, u5, (t_sourceCode_length + (1 : Int32)))
      else
        some ((-2 : Int32), t_sourceCode_op, t_sourceCode_d, t_sourceCode_a, t_sourceCode_b, t_sourceCode_length)
  else
    none
abbrev rm_BlockCode_clear : Room := { frames := 0, cells := 0, slots := 0, locals := 0 }
abbrev ww_BlockCode_clear (cI cJ cZ : ClassId) (qt : Nat) (qt_sourceCode : Nat) (qt_resultCode : Nat) (qt_facts : Nat) (qt_symbols : Nat) (qt_sourceWalk : Nat) (qt_resultWalk : Nat) (qt_machine : Nat) (qt_sourceCode_op : Nat) (qt_sourceCode_d : Nat) (qt_sourceCode_a : Nat) (qt_sourceCode_b : Nat) (qt_sourceCode_need : Nat) (qt_resultCode_op : Nat) (qt_resultCode_d : Nat) (qt_resultCode_a : Nat) (qt_resultCode_b : Nat) (qt_resultCode_need : Nat) (t_sealed : Int32) (t_foundAlike : Int32) (t_sourceCode_length : Int32) (t_sourceCode_leaders : Int32) (t_resultCode_length : Int32) (t_resultCode_leaders : Int32) : va_W := [(qt, .inr (5, [.ref qt_sourceCode, .ref qt_resultCode, .ref qt_facts, .ref qt_symbols, .ref qt_sourceWalk, .ref qt_resultWalk, .ref qt_machine, .int t_sealed, .int t_foundAlike])), (qt_sourceCode, .inr (0, [.ref qt_sourceCode_op, .ref qt_sourceCode_d, .ref qt_sourceCode_a, .ref qt_sourceCode_b, .ref qt_sourceCode_need, .int t_sourceCode_length, .int t_sourceCode_leaders])), (qt_resultCode, .inr (0, [.ref qt_resultCode_op, .ref qt_resultCode_d, .ref qt_resultCode_a, .ref qt_resultCode_b, .ref qt_resultCode_need, .int t_resultCode_length, .int t_resultCode_leaders]))]
def f_BlockCode_clear (t_sourceCode_length : Int32) (t_resultCode_length : Int32) (t_sealed : Int32) (t_foundAlike : Int32) : Option (Int32 × Int32 × Int32 × Int32) :=
  some ((0 : Int32), (0 : Int32), (0 : Int32), (0 : Int32))
abbrev rm_Code_endsWell : Room := { frames := 0, cells := 0, slots := 0, locals := 0 }
abbrev ww_Code_endsWell (cI cJ cZ : ClassId) (qt : Nat) (qt_op : Nat) (qt_d : Nat) (qt_a : Nat) (qt_b : Nat) (qt_need : Nat) (t_length : Int32) (t_leaders : Int32) (t_op : Nat → Int32) : va_W := [(qt, .inr (0, [.ref qt_op, .ref qt_d, .ref qt_a, .ref qt_b, .ref qt_need, .int t_length, .int t_leaders])), (qt_op, .inl (cI, 20, .inl t_op))]
def f_Code_endsWell_39 (t_op : Nat → Int32) (t_length : Int32) : Option (Int32) :=
  some (1 : Int32)
def f_Code_endsWell (t_op : Nat → Int32) (t_length : Int32) : Option (Int32) :=
  if t_length ≤ (0 : Int32) then
    some (0 : Int32)
  else
    (rdI t_op 20 (t_length - (1 : Int32))).bind fun v1 =>
    if v1 = (8 : Int32) then
      f_Code_endsWell_39 t_op t_length
    else
      (rdI t_op 20 (t_length - (1 : Int32))).bind fun v2 =>
      if v2 = (10 : Int32) then
        f_Code_endsWell_39 t_op t_length
      else
        some (0 : Int32)
abbrev rm_Code_canBeSealed : Room := { frames := 1, cells := 0, slots := 0, locals := 22 }
abbrev ww_Code_canBeSealed (cI cJ cZ : ClassId) (qt : Nat) (qt_op : Nat) (qt_d : Nat) (qt_a : Nat) (qt_b : Nat) (qt_need : Nat) (t_length : Int32) (t_leaders : Int32) (t_op : Nat → Int32) (t_a : Nat → Int32) (t_b : Nat → Int32) : va_W := [(qt, .inr (0, [.ref qt_op, .ref qt_d, .ref qt_a, .ref qt_b, .ref qt_need, .int t_length, .int t_leaders])), (qt_op, .inl (cI, 20, .inl t_op)), (qt_a, .inl (cI, 20, .inl t_a)), (qt_b, .inl (cI, 20, .inl t_b))]
def f_Code_canBeSealed_2 (t_op : Nat → Int32) (t_a : Nat → Int32) (t_b : Nat → Int32) (t_length : Int32) : Nat → Int32 → Option (Int32)
  | 0, _ => none
  | n + 1, x1 =>
    if t_length ≤ x1 then
      (f_Code_endsWell t_op t_length).bind fun rz1 =>
      (gzI rz1).bind fun z0 => some z0
    else
      (rdI t_op 20 x1).bind fun v2 =>
      (rdI t_a 20 x1).bind fun v3 =>
      (rdI t_b 20 x1).bind fun v4 =>
      (f_BlockCode_namedBy v2 v3 v4).bind fun rz5 =>
      if rz5 < t_length then
        (f_Code_canBeSealed_2 t_op t_a t_b t_length n) (x1 + (1 : Int32))
      else
        some (0 : Int32)
def f_Code_canBeSealed (t_op : Nat → Int32) (t_a : Nat → Int32) (t_b : Nat → Int32) (t_length : Int32) : Option (Int32) :=
  f_Code_canBeSealed_2 t_op t_a t_b t_length fu (0 : Int32)
abbrev rm_Code_findLeaders : Room := { frames := 1, cells := 0, slots := 0, locals := 22 }
abbrev ww_Code_findLeaders (cI cJ cZ : ClassId) (qt : Nat) (qt_op : Nat) (qt_d : Nat) (qt_a : Nat) (qt_b : Nat) (qt_need : Nat) (t_length : Int32) (t_leaders : Int32) (t_op : Nat → Int32) (t_a : Nat → Int32) (t_b : Nat → Int32) : va_W := [(qt, .inr (0, [.ref qt_op, .ref qt_d, .ref qt_a, .ref qt_b, .ref qt_need, .int t_length, .int t_leaders])), (qt_op, .inl (cI, 20, .inl t_op)), (qt_a, .inl (cI, 20, .inl t_a)), (qt_b, .inl (cI, 20, .inl t_b))]
def f_Code_findLeaders_88 (t_op : Nat → Int32) (t_a : Nat → Int32) (t_b : Nat → Int32) (t_length : Int32) (k7 : Int32 → Int32 → Option (Int32)) (x1 : Int32) (t_leaders : Int32) : Option (Int32) :=
  k7 (x1 + (1 : Int32)) t_leaders
def f_Code_findLeaders_53 (t_op : Nat → Int32) (t_a : Nat → Int32) (t_b : Nat → Int32) (t_length : Int32) (k7 : Int32 → Int32 → Option (Int32)) (x1 : Int32) (t_leaders : Int32) : Option (Int32) :=
  (rdI t_op 20 x1).bind fun v1 =>
  if v1 < (8 : Int32) then
    f_Code_findLeaders_88 t_op t_a t_b t_length k7 x1 t_leaders
  else
    if t_length ≤ (x1 + (1 : Int32)) then
      f_Code_findLeaders_88 t_op t_a t_b t_length k7 x1 t_leaders
    else
      f_Code_findLeaders_88 t_op t_a t_b t_length k7 x1 (t_leaders ||| ((1 : Int32) <<< ((x1 + (1 : Int32)) &&& 31)))
def f_Code_findLeaders_7 (t_op : Nat → Int32) (t_a : Nat → Int32) (t_b : Nat → Int32) (t_length : Int32) : Nat → Int32 → Int32 → Option (Int32)
  | 0, _, _ => none
  | n + 1, x1, t_leaders =>
    if t_length ≤ x1 then
      some t_leaders
    else
      (rdI t_op 20 x1).bind fun v1 =>
      (rdI t_a 20 x1).bind fun v2 =>
      (rdI t_b 20 x1).bind fun v3 =>
      (f_BlockCode_namedBy v1 v2 v3).bind fun rz4 =>
      if rz4 < (0 : Int32) then
        f_Code_findLeaders_53 t_op t_a t_b t_length (f_Code_findLeaders_7 t_op t_a t_b t_length n) x1 t_leaders
      else
        f_Code_findLeaders_53 t_op t_a t_b t_length (f_Code_findLeaders_7 t_op t_a t_b t_length n) x1 (t_leaders ||| ((1 : Int32) <<< (rz4 &&& 31)))
def f_Code_findLeaders (t_op : Nat → Int32) (t_a : Nat → Int32) (t_b : Nat → Int32) (t_length : Int32) (t_leaders : Int32) : Option (Int32) :=
  f_Code_findLeaders_7 t_op t_a t_b t_length fu (0 : Int32) (1 : Int32)
abbrev rm_Code_operandsOf : Room := { frames := 1, cells := 0, slots := 0, locals := 20 }
abbrev ww_Code_operandsOf (cI cJ cZ : ClassId) (qt : Nat) (qt_op : Nat) (qt_d : Nat) (qt_a : Nat) (qt_b : Nat) (qt_need : Nat) (t_length : Int32) (t_leaders : Int32) (t_op : Nat → Int32) (t_a : Nat → Int32) (t_b : Nat → Int32) : va_W := [(qt, .inr (0, [.ref qt_op, .ref qt_d, .ref qt_a, .ref qt_b, .ref qt_need, .int t_length, .int t_leaders])), (qt_op, .inl (cI, 20, .inl t_op)), (qt_a, .inl (cI, 20, .inl t_a)), (qt_b, .inl (cI, 20, .inl t_b))]
def f_Code_operandsOf_42 (p1 : Int32) (t_op : Nat → Int32) (t_a : Nat → Int32) (t_b : Nat → Int32) (s0 : Int32) : Option (Int32) :=
  (rdI t_op 20 p1).bind fun v1 =>
  (f_BlockCode_combines v1).bind fun rz2 =>
  if rz2 = (0 : Int32) then
    some s0
  else
    (rdI t_b 20 p1).bind fun v3 =>
    some (s0 ||| ((1 : Int32) <<< (v3 &&& 31)))
def f_Code_operandsOf (p1 : Int32) (t_op : Nat → Int32) (t_a : Nat → Int32) (t_b : Nat → Int32) : Option (Int32) :=
  (rdI t_op 20 p1).bind fun v1 =>
  if v1 = (10 : Int32) then
    (rdI t_a 20 p1).bind fun v5 =>
    some v5
  else
    (rdI t_op 20 p1).bind fun v2 =>
    (f_BlockCode_readsA v2).bind fun rz3 =>
    if rz3 = (0 : Int32) then
      f_Code_operandsOf_42 p1 t_op t_a t_b (0 : Int32)
    else
      (rdI t_a 20 p1).bind fun v4 =>
      f_Code_operandsOf_42 p1 t_op t_a t_b ((1 : Int32) <<< (v4 &&& 31))
abbrev rm_Code_has : Room := { frames := 0, cells := 0, slots := 0, locals := 0 }
abbrev ww_Code_has (cI cJ cZ : ClassId) (qt : Nat) (qt_op : Nat) (qt_d : Nat) (qt_a : Nat) (qt_b : Nat) (qt_need : Nat) (t_length : Int32) (t_leaders : Int32) : va_W := [(qt, .inr (0, [.ref qt_op, .ref qt_d, .ref qt_a, .ref qt_b, .ref qt_need, .int t_length, .int t_leaders]))]
def f_Code_has (p1 : Int32) (t_length : Int32) : Option (Int32) :=
  if p1 < (0 : Int32) then
    some (0 : Int32)
  else
    if t_length ≤ p1 then
      some (0 : Int32)
    else
      some (1 : Int32)
abbrev rm_Code_needAt : Room := { frames := 1, cells := 0, slots := 0, locals := 21 }
abbrev ww_Code_needAt (cI cJ cZ : ClassId) (qt : Nat) (qt_op : Nat) (qt_d : Nat) (qt_a : Nat) (qt_b : Nat) (qt_need : Nat) (t_length : Int32) (t_leaders : Int32) (t_need : Nat → Int32) : va_W := [(qt, .inr (0, [.ref qt_op, .ref qt_d, .ref qt_a, .ref qt_b, .ref qt_need, .int t_length, .int t_leaders])), (qt_need, .inl (cI, 20, .inl t_need))]
def f_Code_needAt (p1 : Int32) (t_need : Nat → Int32) (t_length : Int32) : Option (Int32) :=
  (f_Code_has p1 t_length).bind fun rz1 =>
  if rz1 = (0 : Int32) then
    some (0 : Int32)
  else
    (rdI t_need 20 p1).bind fun v2 =>
    some v2
abbrev rm_Code_needBehind : Room := { frames := 2, cells := 0, slots := 0, locals := 42 }
abbrev ww_Code_needBehind (cI cJ cZ : ClassId) (qt : Nat) (qt_op : Nat) (qt_d : Nat) (qt_a : Nat) (qt_b : Nat) (qt_need : Nat) (t_length : Int32) (t_leaders : Int32) (t_op : Nat → Int32) (t_a : Nat → Int32) (t_b : Nat → Int32) (t_need : Nat → Int32) : va_W := [(qt, .inr (0, [.ref qt_op, .ref qt_d, .ref qt_a, .ref qt_b, .ref qt_need, .int t_length, .int t_leaders])), (qt_op, .inl (cI, 20, .inl t_op)), (qt_a, .inl (cI, 20, .inl t_a)), (qt_b, .inl (cI, 20, .inl t_b)), (qt_need, .inl (cI, 20, .inl t_need))]
def f_Code_needBehind (p1 : Int32) (t_op : Nat → Int32) (t_a : Nat → Int32) (t_b : Nat → Int32) (t_need : Nat → Int32) (t_length : Int32) : Option (Int32) :=
  (rdI t_op 20 p1).bind fun v1 =>
  if v1 = (8 : Int32) then
    (rdI t_a 20 p1).bind fun v2 =>
    (f_Code_needAt v2 t_need t_length).bind fun rz3 =>
    some rz3
  else
  if v1 = (9 : Int32) then
    (rdI t_b 20 p1).bind fun v4 =>
    (f_Code_needAt v4 t_need t_length).bind fun rz5 =>
    (f_Code_needAt (p1 + (1 : Int32)) t_need t_length).bind fun rz6 =>
    some (rz5 ||| rz6)
  else
  if v1 = (10 : Int32) then
    some (0 : Int32)
  else
    (f_Code_needAt (p1 + (1 : Int32)) t_need t_length).bind fun rz7 =>
    some rz7
abbrev rm_Code_madeBy : Room := { frames := 1, cells := 0, slots := 0, locals := 20 }
abbrev ww_Code_madeBy (cI cJ cZ : ClassId) (qt : Nat) (qt_op : Nat) (qt_d : Nat) (qt_a : Nat) (qt_b : Nat) (qt_need : Nat) (t_length : Int32) (t_leaders : Int32) (t_op : Nat → Int32) (t_d : Nat → Int32) : va_W := [(qt, .inr (0, [.ref qt_op, .ref qt_d, .ref qt_a, .ref qt_b, .ref qt_need, .int t_length, .int t_leaders])), (qt_op, .inl (cI, 20, .inl t_op)), (qt_d, .inl (cI, 20, .inl t_d))]
def f_Code_madeBy (p1 : Int32) (t_op : Nat → Int32) (t_d : Nat → Int32) : Option (Int32) :=
  (rdI t_op 20 p1).bind fun v1 =>
  (f_BlockCode_makesRegister v1).bind fun rz2 =>
  if rz2 = (0 : Int32) then
    some (0 : Int32)
  else
    (rdI t_d 20 p1).bind fun v3 =>
    some ((1 : Int32) <<< (v3 &&& 31))
abbrev rm_Code_findNeeds : Room := { frames := 3, cells := 0, slots := 0, locals := 63 }
abbrev ww_Code_findNeeds (cI cJ cZ : ClassId) (qt : Nat) (qt_op : Nat) (qt_d : Nat) (qt_a : Nat) (qt_b : Nat) (qt_need : Nat) (t_length : Int32) (t_leaders : Int32) (t_op : Nat → Int32) (t_d : Nat → Int32) (t_a : Nat → Int32) (t_b : Nat → Int32) (t_need : Nat → Int32) : va_W := [(qt, .inr (0, [.ref qt_op, .ref qt_d, .ref qt_a, .ref qt_b, .ref qt_need, .int t_length, .int t_leaders])), (qt_op, .inl (cI, 20, .inl t_op)), (qt_d, .inl (cI, 20, .inl t_d)), (qt_a, .inl (cI, 20, .inl t_a)), (qt_b, .inl (cI, 20, .inl t_b)), (qt_need, .inl (cI, 20, .inl t_need))]
def f_Code_findNeeds_91 (t_op : Nat → Int32) (t_d : Nat → Int32) (t_a : Nat → Int32) (t_b : Nat → Int32) (t_length : Int32) (k27 : Int32 → Int32 → (Nat → Int32) → Option ((Nat → Int32))) (k46 : Int32 → Int32 → Int32 → (Nat → Int32) → Option ((Nat → Int32))) (x2 : Int32) (x3 : Int32) (x4 : Int32) (s0 : Int32) (t_need : Nat → Int32) : Option ((Nat → Int32)) :=
  (wrI t_need 20 x3 x4).bind fun w1 =>
  k46 s0 x2 (x3 + (-1 : Int32)) w1
def f_Code_findNeeds_86 (t_op : Nat → Int32) (t_d : Nat → Int32) (t_a : Nat → Int32) (t_b : Nat → Int32) (t_length : Int32) (k27 : Int32 → Int32 → (Nat → Int32) → Option ((Nat → Int32))) (k46 : Int32 → Int32 → Int32 → (Nat → Int32) → Option ((Nat → Int32))) (x2 : Int32) (x3 : Int32) (x4 : Int32) (t_need : Nat → Int32) : Option ((Nat → Int32)) :=
  f_Code_findNeeds_91 t_op t_d t_a t_b t_length k27 k46 x2 x3 x4 (1 : Int32) t_need
def f_Code_findNeeds_46 (t_op : Nat → Int32) (t_d : Nat → Int32) (t_a : Nat → Int32) (t_b : Nat → Int32) (t_length : Int32) (k27 : Int32 → Int32 → (Nat → Int32) → Option ((Nat → Int32))) : Nat → Int32 → Int32 → Int32 → (Nat → Int32) → Option ((Nat → Int32))
  | 0, _, _, _, _ => none
  | n + 1, x1, x2, x3, t_need =>
    if x3 < (0 : Int32) then
      k27 x1 (x2 + (1 : Int32)) t_need
    else
      (f_Code_operandsOf x3 t_op t_a t_b).bind fun rz1 =>
      (f_Code_needBehind x3 t_op t_a t_b t_need t_length).bind fun rz2 =>
      (f_Code_madeBy x3 t_op t_d).bind fun rz3 =>
      if x1 = (0 : Int32) then
        (rdI t_need 20 x3).bind fun v4 =>
        if (rz1 ||| (rz2 &&& (rz3 ^^^ (-1 : Int32)))) = v4 then
          f_Code_findNeeds_91 t_op t_d t_a t_b t_length k27 (f_Code_findNeeds_46 t_op t_d t_a t_b t_length k27 n) x2 x3 (rz1 ||| (rz2 &&& (rz3 ^^^ (-1 : Int32)))) (0 : Int32) t_need
        else
          f_Code_findNeeds_86 t_op t_d t_a t_b t_length k27 (f_Code_findNeeds_46 t_op t_d t_a t_b t_length k27 n) x2 x3 (rz1 ||| (rz2 &&& (rz3 ^^^ (-1 : Int32)))) t_need
      else
        f_Code_findNeeds_86 t_op t_d t_a t_b t_length k27 (f_Code_findNeeds_46 t_op t_d t_a t_b t_length k27 n) x2 x3 (rz1 ||| (rz2 &&& (rz3 ^^^ (-1 : Int32)))) t_need
def f_Code_findNeeds_27 (t_op : Nat → Int32) (t_d : Nat → Int32) (t_a : Nat → Int32) (t_b : Nat → Int32) (t_length : Int32) : Nat → Int32 → Int32 → (Nat → Int32) → Option ((Nat → Int32))
  | 0, _, _, _ => none
  | n + 1, x1, x2, t_need =>
    if x1 = (0 : Int32) then
      some t_need
    else
      if (101 : Int32) ≤ x2 then
        some t_need
      else
        f_Code_findNeeds_46 t_op t_d t_a t_b t_length (f_Code_findNeeds_27 t_op t_d t_a t_b t_length n) fu (0 : Int32) x2 (t_length - (1 : Int32)) t_need
def f_Code_findNeeds_2 (t_op : Nat → Int32) (t_d : Nat → Int32) (t_a : Nat → Int32) (t_b : Nat → Int32) (t_length : Int32) : Nat → Int32 → (Nat → Int32) → Option ((Nat → Int32))
  | 0, _, _ => none
  | n + 1, x1, t_need =>
    if t_length ≤ x1 then
      f_Code_findNeeds_27 t_op t_d t_a t_b t_length fu (1 : Int32) (0 : Int32) t_need
    else
      (wrI t_need 20 x1 (0 : Int32)).bind fun w1 =>
      (f_Code_findNeeds_2 t_op t_d t_a t_b t_length n) (x1 + (1 : Int32)) w1
def f_Code_findNeeds (t_op : Nat → Int32) (t_d : Nat → Int32) (t_a : Nat → Int32) (t_b : Nat → Int32) (t_length : Int32) (t_need : Nat → Int32) : Option ((Nat → Int32)) :=
  f_Code_findNeeds_2 t_op t_d t_a t_b t_length fu (0 : Int32) t_need
abbrev rm_Facts_at : Room := { frames := 0, cells := 0, slots := 0, locals := 0 }
abbrev ww_Facts_at (cI cJ cZ : ClassId) (qt : Nat) (qt_before : Nat) (qt_flowing : Nat) (t_before : Nat → Int64) : va_W := [(qt, .inr (1, [.ref qt_before, .ref qt_flowing])), (qt_before, .inl (cJ, 100, .inr (.inl t_before)))]
def f_Facts_at (p1 : Int32) (p2 : Int32) (t_before : Nat → Int64) : Option (Int64) :=
  (rdL t_before 100 ((p1 * (5 : Int32)) + p2)).bind fun v1 =>
  some v1
abbrev rm_Facts_reached : Room := { frames := 1, cells := 0, slots := 0, locals := 22 }
abbrev ww_Facts_reached (cI cJ cZ : ClassId) (qt : Nat) (qt_before : Nat) (qt_flowing : Nat) (t_before : Nat → Int64) : va_W := [(qt, .inr (1, [.ref qt_before, .ref qt_flowing])), (qt_before, .inl (cJ, 100, .inr (.inl t_before)))]
def f_Facts_reached (p1 : Int32) (t_before : Nat → Int64) : Option (Int32) :=
  (f_Facts_at p1 (0 : Int32) t_before).bind fun rz1 =>
  if (lg_cmp rz1 (4294967297 : Int64)) = (0 : Int32) then
    some (0 : Int32)
  else
    some (1 : Int32)
abbrev rm_BlockCode_isInt : Room := { frames := 0, cells := 0, slots := 0, locals := 0 }
abbrev ww_BlockCode_isInt (cI cJ cZ : ClassId) : va_W := []
def f_BlockCode_isInt (p0 : Int64) : Option (Int32) :=
  if (0 : Int32) ≤ (lg_cmp p0 (4294967296 : Int64)) then
    some (0 : Int32)
  else
    some (1 : Int32)
abbrev rm_BlockCode_dividesByZero : Room := { frames := 0, cells := 0, slots := 0, locals := 0 }
abbrev ww_BlockCode_dividesByZero (cI cJ cZ : ClassId) : va_W := []
def f_BlockCode_dividesByZero (p0 : Int32) (p1 : Int32) : Option (Int32) :=
  if p0 = (6 : Int32) then
    if p1 = (0 : Int32) then
      some (1 : Int32)
    else
      some (0 : Int32)
  else
    some (0 : Int32)
abbrev rm_BlockCode_combined : Room := { frames := 0, cells := 0, slots := 0, locals := 0 }
abbrev ww_BlockCode_combined (cI cJ cZ : ClassId) : va_W := []
def f_BlockCode_combined (p0 : Int32) (p1 : Int32) (p2 : Int32) : Option (Int32) :=
  if p0 = (3 : Int32) then
    some (p1 + p2)
  else
  if p0 = (4 : Int32) then
    some (p1 - p2)
  else
  if p0 = (5 : Int32) then
    some (p1 * p2)
  else
  if p0 = (6 : Int32) then
    if p2 = (0 : Int32) then
      some (0 : Int32)
    else
      (dvI p1 p2).bind fun v1 =>
      some v1
  else
    if p2 ≤ p1 then
      some (0 : Int32)
    else
      some (1 : Int32)
abbrev rm_Facts_madeBy : Room := { frames := 1, cells := 0, slots := 0, locals := 22 }
abbrev ww_Facts_madeBy (cI cJ cZ : ClassId) (qt : Nat) (qt_before : Nat) (qt_flowing : Nat) (qr1 : Nat) (qr1_op : Nat) (qr1_d : Nat) (qr1_a : Nat) (qr1_b : Nat) (qr1_need : Nat) (t_before : Nat → Int64) (r1_length : Int32) (r1_leaders : Int32) (r1_op : Nat → Int32) (r1_a : Nat → Int32) (r1_b : Nat → Int32) : va_W := [(qt, .inr (1, [.ref qt_before, .ref qt_flowing])), (qt_before, .inl (cJ, 100, .inr (.inl t_before))), (qr1, .inr (0, [.ref qr1_op, .ref qr1_d, .ref qr1_a, .ref qr1_b, .ref qr1_need, .int r1_length, .int r1_leaders])), (qr1_op, .inl (cI, 20, .inl r1_op)), (qr1_a, .inl (cI, 20, .inl r1_a)), (qr1_b, .inl (cI, 20, .inl r1_b))]
def f_Facts_madeBy (p2 : Int32) (t_before : Nat → Int64) (r1_op : Nat → Int32) (r1_a : Nat → Int32) (r1_b : Nat → Int32) : Option (Int64) :=
  (rdI r1_op 20 p2).bind fun v1 =>
  if v1 = (1 : Int32) then
    (rdI r1_a 20 p2).bind fun v10 =>
    some v10.toInt64
  else
    (rdI r1_a 20 p2).bind fun v2 =>
    (f_Facts_at p2 v2 t_before).bind fun rz3 =>
    if v1 = (2 : Int32) then
      some rz3
    else
      (rdI r1_b 20 p2).bind fun v4 =>
      (f_Facts_at p2 v4 t_before).bind fun rz5 =>
      (f_BlockCode_isInt rz3).bind fun rz6 =>
      if rz6 = (0 : Int32) then
        some (4294967296 : Int64)
      else
        (f_BlockCode_isInt rz5).bind fun rz7 =>
        if rz7 = (0 : Int32) then
          some (4294967296 : Int64)
        else
          (f_BlockCode_dividesByZero v1 rz5.toInt32).bind fun rz8 =>
          if rz8 = (0 : Int32) then
            (f_BlockCode_combined v1 rz3.toInt32 rz5.toInt32).bind fun rz9 =>
            some rz9.toInt64
          else
            some (4294967296 : Int64)
abbrev rm_Facts_flowTo : Room := { frames := 1, cells := 0, slots := 0, locals := 22 }
abbrev ww_Facts_flowTo (cI cJ cZ : ClassId) (qt : Nat) (qt_before : Nat) (qt_flowing : Nat) (t_before : Nat → Int64) (t_flowing : Nat → Int64) : va_W := [(qt, .inr (1, [.ref qt_before, .ref qt_flowing])), (qt_before, .inl (cJ, 100, .inr (.inl t_before))), (qt_flowing, .inl (cJ, 5, .inr (.inl t_flowing)))]
def f_Facts_flowTo_78 (p1 : Int32) (t_flowing : Nat → Int64) (k13 : Int32 → Int32 → (Nat → Int64) → Option (Int32 × (Nat → Int64))) (x3 : Int32) (x6 : Int64) (s0 : Int32) (t_before : Nat → Int64) : Option (Int32 × (Nat → Int64)) :=
  (wrL t_before 100 ((p1 * (5 : Int32)) + x3) x6).bind fun w1 =>
  k13 s0 (x3 + (1 : Int32)) w1
def f_Facts_flowTo_73 (p1 : Int32) (t_flowing : Nat → Int64) (k13 : Int32 → Int32 → (Nat → Int64) → Option (Int32 × (Nat → Int64))) (x3 : Int32) (x6 : Int64) (t_before : Nat → Int64) : Option (Int32 × (Nat → Int64)) :=
  f_Facts_flowTo_78 p1 t_flowing k13 x3 x6 (1 : Int32) t_before
def f_Facts_flowTo_59 (p1 : Int32) (t_flowing : Nat → Int64) (k13 : Int32 → Int32 → (Nat → Int64) → Option (Int32 × (Nat → Int64))) (x2 : Int32) (x3 : Int32) (x4 : Int64) (s0 : Int64) (t_before : Nat → Int64) : Option (Int32 × (Nat → Int64)) :=
  if x2 = (0 : Int32) then
    if (lg_cmp s0 x4) = (0 : Int32) then
      f_Facts_flowTo_78 p1 t_flowing k13 x3 s0 (0 : Int32) t_before
    else
      f_Facts_flowTo_73 p1 t_flowing k13 x3 s0 t_before
  else
    f_Facts_flowTo_73 p1 t_flowing k13 x3 s0 t_before
def f_Facts_flowTo_47 (p1 : Int32) (t_flowing : Nat → Int64) (k13 : Int32 → Int32 → (Nat → Int64) → Option (Int32 × (Nat → Int64))) (x2 : Int32) (x3 : Int32) (x4 : Int64) (t_before : Nat → Int64) : Option (Int32 × (Nat → Int64)) :=
  (rdL t_flowing 5 x3).bind fun v1 =>
  f_Facts_flowTo_59 p1 t_flowing k13 x2 x3 x4 v1 t_before
def f_Facts_flowTo_13 (p1 : Int32) (t_flowing : Nat → Int64) : Nat → Int32 → Int32 → (Nat → Int64) → Option (Int32 × (Nat → Int64))
  | 0, _, _, _ => none
  | n + 1, x2, x3, t_before =>
    if (5 : Int32) ≤ x3 then
      (gzI x2).bind fun z0 => some (z0, t_before)
    else
      (f_Facts_at p1 x3 t_before).bind fun rz1 =>
      if (lg_cmp rz1 (4294967297 : Int64)) = (0 : Int32) then
        f_Facts_flowTo_47 p1 t_flowing (f_Facts_flowTo_13 p1 t_flowing n) x2 x3 rz1 t_before
      else
        (rdL t_flowing 5 x3).bind fun v2 =>
        if (lg_cmp rz1 v2) = (0 : Int32) then
          f_Facts_flowTo_47 p1 t_flowing (f_Facts_flowTo_13 p1 t_flowing n) x2 x3 rz1 t_before
        else
          f_Facts_flowTo_59 p1 t_flowing (f_Facts_flowTo_13 p1 t_flowing n) x2 x3 rz1 (4294967296 : Int64) t_before
def f_Facts_flowTo (p1 : Int32) (t_flowing : Nat → Int64) (t_before : Nat → Int64) : Option (Int32 × (Nat → Int64)) :=
  (f_BlockCode_isPlace p1).bind fun rz1 =>
  if rz1 = (0 : Int32) then
    some ((0 : Int32), t_before)
  else
    f_Facts_flowTo_13 p1 t_flowing fu (0 : Int32) (0 : Int32) t_before
abbrev rm_Facts_flowFromBranch : Room := { frames := 2, cells := 0, slots := 0, locals := 49 }
abbrev ww_Facts_flowFromBranch (cI cJ cZ : ClassId) (qt : Nat) (qt_before : Nat) (qt_flowing : Nat) (qr1 : Nat) (qr1_op : Nat) (qr1_d : Nat) (qr1_a : Nat) (qr1_b : Nat) (qr1_need : Nat) (t_before : Nat → Int64) (t_flowing : Nat → Int64) (r1_length : Int32) (r1_leaders : Int32) (r1_a : Nat → Int32) (r1_b : Nat → Int32) : va_W := [(qt, .inr (1, [.ref qt_before, .ref qt_flowing])), (qt_before, .inl (cJ, 100, .inr (.inl t_before))), (qt_flowing, .inl (cJ, 5, .inr (.inl t_flowing))), (qr1, .inr (0, [.ref qr1_op, .ref qr1_d, .ref qr1_a, .ref qr1_b, .ref qr1_need, .int r1_length, .int r1_leaders])), (qr1_a, .inl (cI, 20, .inl r1_a)), (qr1_b, .inl (cI, 20, .inl r1_b))]
def f_Facts_flowFromBranch_67 (p2 : Int32) (t_flowing : Nat → Int64) (r1_a : Nat → Int32) (r1_b : Nat → Int32) (s0 : Int32) (t_before : Nat → Int64) : Option (Int32 × (Nat → Int64)) :=
  (gzI s0).bind fun z0 => some (z0, t_before)
def f_Facts_flowFromBranch_62 (p2 : Int32) (t_flowing : Nat → Int64) (r1_a : Nat → Int32) (r1_b : Nat → Int32) (t_before : Nat → Int64) : Option (Int32 × (Nat → Int64)) :=
  f_Facts_flowFromBranch_67 p2 t_flowing r1_a r1_b (1 : Int32) t_before
def f_Facts_flowFromBranch_47 (p2 : Int32) (t_flowing : Nat → Int64) (r1_a : Nat → Int32) (r1_b : Nat → Int32) (x5 : Int32) (t_before : Nat → Int64) : Option (Int32 × (Nat → Int64)) :=
  (f_Facts_flowTo (p2 + (1 : Int32)) t_flowing t_before).bind fun (rz1, u2) =>
  if rz1 = (0 : Int32) then
    if x5 = (0 : Int32) then
      f_Facts_flowFromBranch_67 p2 t_flowing r1_a r1_b (0 : Int32) u2
    else
      f_Facts_flowFromBranch_62 p2 t_flowing r1_a r1_b u2
  else
    f_Facts_flowFromBranch_62 p2 t_flowing r1_a r1_b u2
def f_Facts_flowFromBranch_33 (p2 : Int32) (t_flowing : Nat → Int64) (r1_a : Nat → Int32) (r1_b : Nat → Int32) (x3 : Int64) (x5 : Int32) (t_before : Nat → Int64) : Option (Int32 × (Nat → Int64)) :=
  if (lg_cmp x3 (0 : Int64)) = (0 : Int32) then
    f_Facts_flowFromBranch_47 p2 t_flowing r1_a r1_b x5 t_before
  else
    if (lg_cmp x3 (4294967296 : Int64)) = (0 : Int32) then
      f_Facts_flowFromBranch_47 p2 t_flowing r1_a r1_b x5 t_before
    else
      (gzI x5).bind fun z0 => some (z0, t_before)
def f_Facts_flowFromBranch (p2 : Int32) (t_flowing : Nat → Int64) (r1_a : Nat → Int32) (r1_b : Nat → Int32) (t_before : Nat → Int64) : Option (Int32 × (Nat → Int64)) :=
  (rdI r1_a 20 p2).bind fun v1 =>
  (f_Facts_at p2 v1 t_before).bind fun rz2 =>
  if (lg_cmp rz2 (0 : Int64)) = (0 : Int32) then
    f_Facts_flowFromBranch_33 p2 t_flowing r1_a r1_b rz2 (0 : Int32) t_before
  else
    (rdI r1_b 20 p2).bind fun v3 =>
    (f_Facts_flowTo v3 t_flowing t_before).bind fun (rz4, u5) =>
    f_Facts_flowFromBranch_33 p2 t_flowing r1_a r1_b rz2 rz4 u5
abbrev rm_Facts_flowFrom : Room := { frames := 3, cells := 0, slots := 0, locals := 74 }
abbrev ww_Facts_flowFrom (cI cJ cZ : ClassId) (qt : Nat) (qt_before : Nat) (qt_flowing : Nat) (qr1 : Nat) (qr1_op : Nat) (qr1_d : Nat) (qr1_a : Nat) (qr1_b : Nat) (qr1_need : Nat) (t_before : Nat → Int64) (t_flowing : Nat → Int64) (r1_length : Int32) (r1_leaders : Int32) (r1_op : Nat → Int32) (r1_d : Nat → Int32) (r1_a : Nat → Int32) (r1_b : Nat → Int32) : va_W := [(qt, .inr (1, [.ref qt_before, .ref qt_flowing])), (qt_before, .inl (cJ, 100, .inr (.inl t_before))), (qt_flowing, .inl (cJ, 5, .inr (.inl t_flowing))), (qr1, .inr (0, [.ref qr1_op, .ref qr1_d, .ref qr1_a, .ref qr1_b, .ref qr1_need, .int r1_length, .int r1_leaders])), (qr1_op, .inl (cI, 20, .inl r1_op)), (qr1_d, .inl (cI, 20, .inl r1_d)), (qr1_a, .inl (cI, 20, .inl r1_a)), (qr1_b, .inl (cI, 20, .inl r1_b))]
def f_Facts_flowFrom_122 (p2 : Int32) (r1_op : Nat → Int32) (r1_d : Nat → Int32) (r1_a : Nat → Int32) (r1_b : Nat → Int32) (s0 : Int32) (t_before : Nat → Int64) (t_flowing : Nat → Int64) : Option (Int32 × (Nat → Int64) × (Nat → Int64)) :=
  (f_Facts_flowTo s0 t_flowing t_before).bind fun (rz1, u2) =>
  (gzI rz1).bind fun z0 => some (z0, u2, t_flowing)
def f_Facts_flowFrom_90 (p2 : Int32) (r1_op : Nat → Int32) (r1_d : Nat → Int32) (r1_a : Nat → Int32) (r1_b : Nat → Int32) (x3 : Int32) (t_before : Nat → Int64) (t_flowing : Nat → Int64) : Option (Int32 × (Nat → Int64) × (Nat → Int64)) :=
  if x3 = (9 : Int32) then
    (f_Facts_flowFromBranch p2 t_flowing r1_a r1_b t_before).bind fun (rz2, u3) =>
    (gzI rz2).bind fun z0 => some (z0, u3, t_flowing)
  else
    if x3 = (8 : Int32) then
      (rdI r1_a 20 p2).bind fun v1 =>
      f_Facts_flowFrom_122 p2 r1_op r1_d r1_a r1_b v1 t_before t_flowing
    else
      f_Facts_flowFrom_122 p2 r1_op r1_d r1_a r1_b (p2 + (1 : Int32)) t_before t_flowing
def f_Facts_flowFrom_40 (p2 : Int32) (r1_op : Nat → Int32) (r1_d : Nat → Int32) (r1_a : Nat → Int32) (r1_b : Nat → Int32) : Nat → Int32 → Int32 → (Nat → Int64) → (Nat → Int64) → Option (Int32 × (Nat → Int64) × (Nat → Int64))
  | 0, _, _, _, _ => none
  | n + 1, x3, x4, t_before, t_flowing =>
    if (5 : Int32) ≤ x4 then
      (f_BlockCode_makesRegister x3).bind fun rz1 =>
      if rz1 = (0 : Int32) then
        f_Facts_flowFrom_90 p2 r1_op r1_d r1_a r1_b x3 t_before t_flowing
      else
        (rdI r1_d 20 p2).bind fun v2 =>
        (f_Facts_madeBy p2 t_before r1_op r1_a r1_b).bind fun rz3 =>
        (wrL t_flowing 5 v2 rz3).bind fun w4 =>
        f_Facts_flowFrom_90 p2 r1_op r1_d r1_a r1_b x3 t_before w4
    else
      (f_Facts_at p2 x4 t_before).bind fun rz5 =>
      (wrL t_flowing 5 x4 rz5).bind fun w6 =>
      (f_Facts_flowFrom_40 p2 r1_op r1_d r1_a r1_b n) x3 (x4 + (1 : Int32)) t_before w6
def f_Facts_flowFrom_37 (p2 : Int32) (r1_op : Nat → Int32) (r1_d : Nat → Int32) (r1_a : Nat → Int32) (r1_b : Nat → Int32) (x3 : Int32) (t_before : Nat → Int64) (t_flowing : Nat → Int64) : Option (Int32 × (Nat → Int64) × (Nat → Int64)) :=
  f_Facts_flowFrom_40 p2 r1_op r1_d r1_a r1_b fu x3 (0 : Int32) t_before t_flowing
def f_Facts_flowFrom (p2 : Int32) (r1_op : Nat → Int32) (r1_d : Nat → Int32) (r1_a : Nat → Int32) (r1_b : Nat → Int32) (t_before : Nat → Int64) (t_flowing : Nat → Int64) : Option (Int32 × (Nat → Int64) × (Nat → Int64)) :=
  (rdI r1_op 20 p2).bind fun v1 =>
  if v1 = (10 : Int32) then
    some ((0 : Int32), t_before, t_flowing)
  else
    if v1 = (6 : Int32) then
      (rdI r1_b 20 p2).bind fun v2 =>
      (f_Facts_at p2 v2 t_before).bind fun rz3 =>
      if (lg_cmp rz3 (0 : Int64)) = (0 : Int32) then
        some ((0 : Int32), t_before, t_flowing)
      else
        f_Facts_flowFrom_37 p2 r1_op r1_d r1_a r1_b v1 t_before t_flowing
    else
      f_Facts_flowFrom_37 p2 r1_op r1_d r1_a r1_b v1 t_before t_flowing
abbrev rm_Facts_find : Room := { frames := 4, cells := 0, slots := 0, locals := 98 }
abbrev ww_Facts_find (cI cJ cZ : ClassId) (qt : Nat) (qt_before : Nat) (qt_flowing : Nat) (qr1 : Nat) (qr1_op : Nat) (qr1_d : Nat) (qr1_a : Nat) (qr1_b : Nat) (qr1_need : Nat) (t_before : Nat → Int64) (t_flowing : Nat → Int64) (r1_length : Int32) (r1_leaders : Int32) (r1_op : Nat → Int32) (r1_d : Nat → Int32) (r1_a : Nat → Int32) (r1_b : Nat → Int32) : va_W := [(qt, .inr (1, [.ref qt_before, .ref qt_flowing])), (qt_before, .inl (cJ, 100, .inr (.inl t_before))), (qt_flowing, .inl (cJ, 5, .inr (.inl t_flowing))), (qr1, .inr (0, [.ref qr1_op, .ref qr1_d, .ref qr1_a, .ref qr1_b, .ref qr1_need, .int r1_length, .int r1_leaders])), (qr1_op, .inl (cI, 20, .inl r1_op)), (qr1_d, .inl (cI, 20, .inl r1_d)), (qr1_a, .inl (cI, 20, .inl r1_a)), (qr1_b, .inl (cI, 20, .inl r1_b))]
def f_Facts_find_30 (r1_op : Nat → Int32) (r1_d : Nat → Int32) (r1_a : Nat → Int32) (r1_b : Nat → Int32) (r1_length : Int32) (k2 : Int32 → (Nat → Int64) → (Nat → Int64) → Option ((Nat → Int64) × (Nat → Int64))) (x2 : Int32) (s0 : Int64) (s1 : Int32) (t_before : Nat → Int64) (t_flowing : Nat → Int64) : Option ((Nat → Int64) × (Nat → Int64)) :=
  (wrL t_before 100 s1 s0).bind fun w1 =>
  k2 (x2 + (1 : Int32)) w1 t_flowing
def f_Facts_find_87 (r1_op : Nat → Int32) (r1_d : Nat → Int32) (r1_a : Nat → Int32) (r1_b : Nat → Int32) (r1_length : Int32) (k41 : Int32 → Int32 → (Nat → Int64) → (Nat → Int64) → Option ((Nat → Int64) × (Nat → Int64))) (k57 : Int32 → Int32 → Int32 → (Nat → Int64) → (Nat → Int64) → Option ((Nat → Int64) × (Nat → Int64))) (x2 : Int32) (x3 : Int32) (x4 : Int32) (t_before : Nat → Int64) (t_flowing : Nat → Int64) : Option ((Nat → Int64) × (Nat → Int64)) :=
  k57 x2 x3 (x4 + (1 : Int32)) t_before t_flowing
def f_Facts_find_57 (r1_op : Nat → Int32) (r1_d : Nat → Int32) (r1_a : Nat → Int32) (r1_b : Nat → Int32) (r1_length : Int32) (k41 : Int32 → Int32 → (Nat → Int64) → (Nat → Int64) → Option ((Nat → Int64) × (Nat → Int64))) : Nat → Int32 → Int32 → Int32 → (Nat → Int64) → (Nat → Int64) → Option ((Nat → Int64) × (Nat → Int64))
  | 0, _, _, _, _, _ => none
  | n + 1, x2, x3, x4, t_before, t_flowing =>
    if r1_length ≤ x4 then
      k41 x2 (x3 + (1 : Int32)) t_before t_flowing
    else
      (f_Facts_reached x4 t_before).bind fun rz1 =>
      if rz1 = (0 : Int32) then
        f_Facts_find_87 r1_op r1_d r1_a r1_b r1_length k41 (f_Facts_find_57 r1_op r1_d r1_a r1_b r1_length k41 n) x2 x3 x4 t_before t_flowing
      else
        (f_Facts_flowFrom x4 r1_op r1_d r1_a r1_b t_before t_flowing).bind fun (rz2, u3, u4) =>
        if rz2 = (0 : Int32) then
          f_Facts_find_87 r1_op r1_d r1_a r1_b r1_length k41 (f_Facts_find_57 r1_op r1_d r1_a r1_b r1_length k41 n) x2 x3 x4 u3 u4
        else
          f_Facts_find_87 r1_op r1_d r1_a r1_b r1_length k41 (f_Facts_find_57 r1_op r1_d r1_a r1_b r1_length k41 n) (1 : Int32) x3 x4 u3 u4
def f_Facts_find_41 (r1_op : Nat → Int32) (r1_d : Nat → Int32) (r1_a : Nat → Int32) (r1_b : Nat → Int32) (r1_length : Int32) : Nat → Int32 → Int32 → (Nat → Int64) → (Nat → Int64) → Option ((Nat → Int64) × (Nat → Int64))
  | 0, _, _, _, _ => none
  | n + 1, x2, x3, t_before, t_flowing =>
    if x2 = (0 : Int32) then
      some (t_before, t_flowing)
    else
      if (201 : Int32) ≤ x3 then
        some (t_before, t_flowing)
      else
        f_Facts_find_57 r1_op r1_d r1_a r1_b r1_length (f_Facts_find_41 r1_op r1_d r1_a r1_b r1_length n) fu (0 : Int32) x3 (0 : Int32) t_before t_flowing
def f_Facts_find_2 (r1_op : Nat → Int32) (r1_d : Nat → Int32) (r1_a : Nat → Int32) (r1_b : Nat → Int32) (r1_length : Int32) : Nat → Int32 → (Nat → Int64) → (Nat → Int64) → Option ((Nat → Int64) × (Nat → Int64))
  | 0, _, _, _ => none
  | n + 1, x2, t_before, t_flowing =>
    if (100 : Int32) ≤ x2 then
      f_Facts_find_41 r1_op r1_d r1_a r1_b r1_length fu (1 : Int32) (0 : Int32) t_before t_flowing
    else
      if (5 : Int32) ≤ x2 then
        f_Facts_find_30 r1_op r1_d r1_a r1_b r1_length (f_Facts_find_2 r1_op r1_d r1_a r1_b r1_length n) x2 (4294967297 : Int64) x2 t_before t_flowing
      else
        f_Facts_find_30 r1_op r1_d r1_a r1_b r1_length (f_Facts_find_2 r1_op r1_d r1_a r1_b r1_length n) x2 (4294967296 : Int64) x2 t_before t_flowing
def f_Facts_find (r1_op : Nat → Int32) (r1_d : Nat → Int32) (r1_a : Nat → Int32) (r1_b : Nat → Int32) (r1_length : Int32) (t_before : Nat → Int64) (t_flowing : Nat → Int64) : Option ((Nat → Int64) × (Nat → Int64)) :=
  f_Facts_find_2 r1_op r1_d r1_a r1_b r1_length fu (0 : Int32) t_before t_flowing
abbrev rm_BlockCode_studySource : Room := { frames := 5, cells := 0, slots := 0, locals := 122 }
abbrev ww_BlockCode_studySource (cI cJ cZ : ClassId) (qt : Nat) (qt_sourceCode : Nat) (qt_resultCode : Nat) (qt_facts : Nat) (qt_symbols : Nat) (qt_sourceWalk : Nat) (qt_resultWalk : Nat) (qt_machine : Nat) (qt_sourceCode_op : Nat) (qt_sourceCode_d : Nat) (qt_sourceCode_a : Nat) (qt_sourceCode_b : Nat) (qt_sourceCode_need : Nat) (qt_facts_before : Nat) (qt_facts_flowing : Nat) (t_sealed : Int32) (t_foundAlike : Int32) (t_sourceCode_length : Int32) (t_sourceCode_leaders : Int32) (t_sourceCode_op : Nat → Int32) (t_sourceCode_d : Nat → Int32) (t_sourceCode_a : Nat → Int32) (t_sourceCode_b : Nat → Int32) (t_sourceCode_need : Nat → Int32) (t_facts_before : Nat → Int64) (t_facts_flowing : Nat → Int64) : va_W := [(qt, .inr (5, [.ref qt_sourceCode, .ref qt_resultCode, .ref qt_facts, .ref qt_symbols, .ref qt_sourceWalk, .ref qt_resultWalk, .ref qt_machine, .int t_sealed, .int t_foundAlike])), (qt_sourceCode, .inr (0, [.ref qt_sourceCode_op, .ref qt_sourceCode_d, .ref qt_sourceCode_a, .ref qt_sourceCode_b, .ref qt_sourceCode_need, .int t_sourceCode_length, .int t_sourceCode_leaders])), (qt_sourceCode_op, .inl (cI, 20, .inl t_sourceCode_op)), (qt_sourceCode_d, .inl (cI, 20, .inl t_sourceCode_d)), (qt_sourceCode_a, .inl (cI, 20, .inl t_sourceCode_a)), (qt_sourceCode_b, .inl (cI, 20, .inl t_sourceCode_b)), (qt_sourceCode_need, .inl (cI, 20, .inl t_sourceCode_need)), (qt_facts, .inr (1, [.ref qt_facts_before, .ref qt_facts_flowing])), (qt_facts_before, .inl (cJ, 100, .inr (.inl t_facts_before))), (qt_facts_flowing, .inl (cJ, 5, .inr (.inl t_facts_flowing)))]
def f_BlockCode_studySource (t_sourceCode_op : Nat → Int32) (t_sourceCode_d : Nat → Int32) (t_sourceCode_a : Nat → Int32) (t_sourceCode_b : Nat → Int32) (t_sourceCode_length : Int32) (t_sourceCode_need : Nat → Int32) (t_sourceCode_leaders : Int32) (t_facts_before : Nat → Int64) (t_facts_flowing : Nat → Int64) : Option ((Nat → Int32) × Int32 × (Nat → Int64) × (Nat → Int64)) :=
  (f_Code_findLeaders t_sourceCode_op t_sourceCode_a t_sourceCode_b t_sourceCode_length t_sourceCode_leaders).bind fun u1 =>
  (f_Code_findNeeds t_sourceCode_op t_sourceCode_d t_sourceCode_a t_sourceCode_b t_sourceCode_length t_sourceCode_need).bind fun u2 =>
  (f_Facts_find t_sourceCode_op t_sourceCode_d t_sourceCode_a t_sourceCode_b t_sourceCode_length t_facts_before t_facts_flowing).bind fun (u3, u4) =>
  some (u2, u1, u3, u4)
abbrev rm_Code_become : Room := { frames := 2, cells := 0, slots := 0, locals := 45 }
abbrev ww_Code_become (cI cJ cZ : ClassId) (qt : Nat) (qt_op : Nat) (qt_d : Nat) (qt_a : Nat) (qt_b : Nat) (qt_need : Nat) (qr1 : Nat) (qr1_op : Nat) (qr1_d : Nat) (qr1_a : Nat) (qr1_b : Nat) (qr1_need : Nat) (t_length : Int32) (t_leaders : Int32) (t_op : Nat → Int32) (t_d : Nat → Int32) (t_a : Nat → Int32) (t_b : Nat → Int32) (r1_length : Int32) (r1_leaders : Int32) (r1_op : Nat → Int32) (r1_d : Nat → Int32) (r1_a : Nat → Int32) (r1_b : Nat → Int32) : va_W := [(qt, .inr (0, [.ref qt_op, .ref qt_d, .ref qt_a, .ref qt_b, .ref qt_need, .int t_length, .int t_leaders])), (qt_op, .inl (cI, 20, .inl t_op)), (qt_d, .inl (cI, 20, .inl t_d)), (qt_a, .inl (cI, 20, .inl t_a)), (qt_b, .inl (cI, 20, .inl t_b)), (qr1, .inr (0, [.ref qr1_op, .ref qr1_d, .ref qr1_a, .ref qr1_b, .ref qr1_need, .int r1_length, .int r1_leaders])), (qr1_op, .inl (cI, 20, .inl r1_op)), (qr1_d, .inl (cI, 20, .inl r1_d)), (qr1_a, .inl (cI, 20, .inl r1_a)), (qr1_b, .inl (cI, 20, .inl r1_b))]
def f_Code_become_10 (r1_op : Nat → Int32) (r1_d : Nat → Int32) (r1_a : Nat → Int32) (r1_b : Nat → Int32) (r1_length : Int32) : Nat → Int32 → (Nat → Int32) → (Nat → Int32) → (Nat → Int32) → (Nat → Int32) → Int32 → Option ((Nat → Int32) × (Nat → Int32) × (Nat → Int32) × (Nat → Int32) × Int32)
  | 0, _, _, _, _, _, _ => none
  | n + 1, x2, t_op, t_d, t_a, t_b, t_length =>
    if t_length ≤ x2 then
      some (t_op, t_d, t_a, t_b, t_length)
    else
      (rdI r1_op 20 x2).bind fun v1 =>
      (rdI r1_d 20 x2).bind fun v2 =>
      (rdI r1_a 20 x2).bind fun v3 =>
      (rdI r1_b 20 x2).bind fun v4 =>
      (f_Code_put x2 v1 v2 v3 v4 t_op t_d t_a t_b).bind fun (u5, u6, u7, u8) =>
      (f_Code_become_10 r1_op r1_d r1_a r1_b r1_length n) (x2 + (1 : Int32)) u5 u6 u7 u8 t_length
def f_Code_become (r1_op : Nat → Int32) (r1_d : Nat → Int32) (r1_a : Nat → Int32) (r1_b : Nat → Int32) (r1_length : Int32) (t_op : Nat → Int32) (t_d : Nat → Int32) (t_a : Nat → Int32) (t_b : Nat → Int32) (t_length : Int32) : Option ((Nat → Int32) × (Nat → Int32) × (Nat → Int32) × (Nat → Int32) × Int32) :=
  f_Code_become_10 r1_op r1_d r1_a r1_b r1_length fu (0 : Int32) t_op t_d t_a t_b r1_length
abbrev rm_BlockCode_resultBecomesSource : Room := { frames := 3, cells := 0, slots := 0, locals := 67 }
abbrev ww_BlockCode_resultBecomesSource (cI cJ cZ : ClassId) (qt : Nat) (qt_sourceCode : Nat) (qt_resultCode : Nat) (qt_facts : Nat) (qt_symbols : Nat) (qt_sourceWalk : Nat) (qt_resultWalk : Nat) (qt_machine : Nat) (qt_sourceCode_op : Nat) (qt_sourceCode_d : Nat) (qt_sourceCode_a : Nat) (qt_sourceCode_b : Nat) (qt_sourceCode_need : Nat) (qt_resultCode_op : Nat) (qt_resultCode_d : Nat) (qt_resultCode_a : Nat) (qt_resultCode_b : Nat) (qt_resultCode_need : Nat) (t_sealed : Int32) (t_foundAlike : Int32) (t_sourceCode_length : Int32) (t_sourceCode_leaders : Int32) (t_sourceCode_op : Nat → Int32) (t_sourceCode_d : Nat → Int32) (t_sourceCode_a : Nat → Int32) (t_sourceCode_b : Nat → Int32) (t_resultCode_length : Int32) (t_resultCode_leaders : Int32) (t_resultCode_op : Nat → Int32) (t_resultCode_d : Nat → Int32) (t_resultCode_a : Nat → Int32) (t_resultCode_b : Nat → Int32) : va_W := [(qt, .inr (5, [.ref qt_sourceCode, .ref qt_resultCode, .ref qt_facts, .ref qt_symbols, .ref qt_sourceWalk, .ref qt_resultWalk, .ref qt_machine, .int t_sealed, .int t_foundAlike])), (qt_sourceCode, .inr (0, [.ref qt_sourceCode_op, .ref qt_sourceCode_d, .ref qt_sourceCode_a, .ref qt_sourceCode_b, .ref qt_sourceCode_need, .int t_sourceCode_length, .int t_sourceCode_leaders])), (qt_sourceCode_op, .inl (cI, 20, .inl t_sourceCode_op)), (qt_sourceCode_d, .inl (cI, 20, .inl t_sourceCode_d)), (qt_sourceCode_a, .inl (cI, 20, .inl t_sourceCode_a)), (qt_sourceCode_b, .inl (cI, 20, .inl t_sourceCode_b)), (qt_resultCode, .inr (0, [.ref qt_resultCode_op, .ref qt_resultCode_d, .ref qt_resultCode_a, .ref qt_resultCode_b, .ref qt_resultCode_need, .int t_resultCode_length, .int t_resultCode_leaders])), (qt_resultCode_op, .inl (cI, 20, .inl t_resultCode_op)), (qt_resultCode_d, .inl (cI, 20, .inl t_resultCode_d)), (qt_resultCode_a, .inl (cI, 20, .inl t_resultCode_a)), (qt_resultCode_b, .inl (cI, 20, .inl t_resultCode_b))]
def f_BlockCode_resultBecomesSource (t_sourceCode_op : Nat → Int32) (t_sourceCode_d : Nat → Int32) (t_sourceCode_a : Nat → Int32) (t_sourceCode_b : Nat → Int32) (t_sourceCode_length : Int32) (t_resultCode_op : Nat → Int32) (t_resultCode_d : Nat → Int32) (t_resultCode_a : Nat → Int32) (t_resultCode_b : Nat → Int32) (t_resultCode_length : Int32) (t_foundAlike : Int32) : Option ((Nat → Int32) × (Nat → Int32) × (Nat → Int32) × (Nat → Int32) × Int32 × Int32) :=
  (f_Code_become t_sourceCode_op t_sourceCode_d t_sourceCode_a t_sourceCode_b t_sourceCode_length t_resultCode_op t_resultCode_d t_resultCode_a t_resultCode_b t_resultCode_length).bind fun (u1, u2, u3, u4, u5) =>
  some (u1, u2, u3, u4, u5, (0 : Int32))
abbrev rm_BlockCode_seal : Room := { frames := 6, cells := 0, slots := 0, locals := 142 }
abbrev ww_BlockCode_seal (cI cJ cZ : ClassId) (qt : Nat) (qt_sourceCode : Nat) (qt_resultCode : Nat) (qt_facts : Nat) (qt_symbols : Nat) (qt_sourceWalk : Nat) (qt_resultWalk : Nat) (qt_machine : Nat) (qt_sourceCode_op : Nat) (qt_sourceCode_d : Nat) (qt_sourceCode_a : Nat) (qt_sourceCode_b : Nat) (qt_sourceCode_need : Nat) (qt_resultCode_op : Nat) (qt_resultCode_d : Nat) (qt_resultCode_a : Nat) (qt_resultCode_b : Nat) (qt_resultCode_need : Nat) (qt_facts_before : Nat) (qt_facts_flowing : Nat) (t_sealed : Int32) (t_foundAlike : Int32) (t_sourceCode_length : Int32) (t_sourceCode_leaders : Int32) (t_sourceCode_op : Nat → Int32) (t_sourceCode_d : Nat → Int32) (t_sourceCode_a : Nat → Int32) (t_sourceCode_b : Nat → Int32) (t_sourceCode_need : Nat → Int32) (t_resultCode_length : Int32) (t_resultCode_leaders : Int32) (t_resultCode_op : Nat → Int32) (t_resultCode_d : Nat → Int32) (t_resultCode_a : Nat → Int32) (t_resultCode_b : Nat → Int32) (t_facts_before : Nat → Int64) (t_facts_flowing : Nat → Int64) : va_W := [(qt, .inr (5, [.ref qt_sourceCode, .ref qt_resultCode, .ref qt_facts, .ref qt_symbols, .ref qt_sourceWalk, .ref qt_resultWalk, .ref qt_machine, .int t_sealed, .int t_foundAlike])), (qt_sourceCode, .inr (0, [.ref qt_sourceCode_op, .ref qt_sourceCode_d, .ref qt_sourceCode_a, .ref qt_sourceCode_b, .ref qt_sourceCode_need, .int t_sourceCode_length, .int t_sourceCode_leaders])), (qt_sourceCode_op, .inl (cI, 20, .inl t_sourceCode_op)), (qt_sourceCode_d, .inl (cI, 20, .inl t_sourceCode_d)), (qt_sourceCode_a, .inl (cI, 20, .inl t_sourceCode_a)), (qt_sourceCode_b, .inl (cI, 20, .inl t_sourceCode_b)), (qt_sourceCode_need, .inl (cI, 20, .inl t_sourceCode_need)), (qt_resultCode, .inr (0, [.ref qt_resultCode_op, .ref qt_resultCode_d, .ref qt_resultCode_a, .ref qt_resultCode_b, .ref qt_resultCode_need, .int t_resultCode_length, .int t_resultCode_leaders])), (qt_resultCode_op, .inl (cI, 20, .inl t_resultCode_op)), (qt_resultCode_d, .inl (cI, 20, .inl t_resultCode_d)), (qt_resultCode_a, .inl (cI, 20, .inl t_resultCode_a)), (qt_resultCode_b, .inl (cI, 20, .inl t_resultCode_b)), (qt_facts, .inr (1, [.ref qt_facts_before, .ref qt_facts_flowing])), (qt_facts_before, .inl (cJ, 100, .inr (.inl t_facts_before))), (qt_facts_flowing, .inl (cJ, 5, .inr (.inl t_facts_flowing)))]
def f_BlockCode_seal (t_sourceCode_op : Nat → Int32) (t_sourceCode_d : Nat → Int32) (t_sourceCode_a : Nat → Int32) (t_sourceCode_b : Nat → Int32) (t_sourceCode_length : Int32) (t_sourceCode_need : Nat → Int32) (t_sourceCode_leaders : Int32) (t_resultCode_op : Nat → Int32) (t_resultCode_d : Nat → Int32) (t_resultCode_a : Nat → Int32) (t_resultCode_b : Nat → Int32) (t_resultCode_length : Int32) (t_facts_before : Nat → Int64) (t_facts_flowing : Nat → Int64) (t_sealed : Int32) (t_foundAlike : Int32) : Option (Int32 × (Nat → Int32) × Int32 × (Nat → Int32) × (Nat → Int32) × (Nat → Int32) × (Nat → Int32) × Int32 × (Nat → Int64) × (Nat → Int64) × Int32 × Int32) :=
  if t_sealed = (0 : Int32) then
    (f_Code_canBeSealed t_sourceCode_op t_sourceCode_a t_sourceCode_b t_sourceCode_length).bind fun rz1 =>
    if rz1 = (0 : Int32) then
      some ((-1 : Int32), t_sourceCode_need, t_sourceCode_leaders, t_resultCode_op, t_resultCode_d, t_resultCode_a, t_resultCode_b, t_resultCode_length, t_facts_before, t_facts_flowing, t_sealed, t_foundAlike)
    else
      (f_BlockCode_studySource t_sourceCode_op t_sourceCode_d t_sourceCode_a t_sourceCode_b t_sourceCode_length t_sourceCode_need t_sourceCode_leaders t_facts_before t_facts_flowing).bind fun (u2, u3, u4, u5) =>
      (f_BlockCode_resultBecomesSource t_sourceCode_op t_sourceCode_d t_sourceCode_a t_sourceCode_b t_sourceCode_length t_resultCode_op t_resultCode_d t_resultCode_a t_resultCode_b t_resultCode_length t_foundAlike).bind fun (u6, u7, u8, u9, u10, u11) =>
      (f_Integer_bitCount u3).bind fun v12 =>
      some (v12, u2, u3, u6, u7, u8, u9, u10, u4, u5, (1 : Int32), u11)
  else
    none
abbrev rm_BlockCode_size : Room := { frames := 0, cells := 0, slots := 0, locals := 0 }
abbrev ww_BlockCode_size (cI cJ cZ : ClassId) (qt : Nat) (qt_sourceCode : Nat) (qt_resultCode : Nat) (qt_facts : Nat) (qt_symbols : Nat) (qt_sourceWalk : Nat) (qt_resultWalk : Nat) (qt_machine : Nat) (qt_sourceCode_op : Nat) (qt_sourceCode_d : Nat) (qt_sourceCode_a : Nat) (qt_sourceCode_b : Nat) (qt_sourceCode_need : Nat) (t_sealed : Int32) (t_foundAlike : Int32) (t_sourceCode_length : Int32) (t_sourceCode_leaders : Int32) : va_W := [(qt, .inr (5, [.ref qt_sourceCode, .ref qt_resultCode, .ref qt_facts, .ref qt_symbols, .ref qt_sourceWalk, .ref qt_resultWalk, .ref qt_machine, .int t_sealed, .int t_foundAlike])), (qt_sourceCode, .inr (0, [.ref qt_sourceCode_op, .ref qt_sourceCode_d, .ref qt_sourceCode_a, .ref qt_sourceCode_b, .ref qt_sourceCode_need, .int t_sourceCode_length, .int t_sourceCode_leaders]))]
def f_BlockCode_size (t_sourceCode_length : Int32) : Option (Int32) :=
  some t_sourceCode_length
abbrev rm_Code_number : Room := { frames := 1, cells := 0, slots := 0, locals := 21 }
abbrev ww_Code_number (cI cJ cZ : ClassId) (qt : Nat) (qt_op : Nat) (qt_d : Nat) (qt_a : Nat) (qt_b : Nat) (qt_need : Nat) (t_length : Int32) (t_leaders : Int32) (t_op : Nat → Int32) (t_d : Nat → Int32) (t_a : Nat → Int32) (t_b : Nat → Int32) : va_W := [(qt, .inr (0, [.ref qt_op, .ref qt_d, .ref qt_a, .ref qt_b, .ref qt_need, .int t_length, .int t_leaders])), (qt_op, .inl (cI, 20, .inl t_op)), (qt_d, .inl (cI, 20, .inl t_d)), (qt_a, .inl (cI, 20, .inl t_a)), (qt_b, .inl (cI, 20, .inl t_b))]
def f_Code_number (p1 : Int32) (p2 : Int32) (t_op : Nat → Int32) (t_d : Nat → Int32) (t_a : Nat → Int32) (t_b : Nat → Int32) (t_length : Int32) : Option (Int32) :=
  (f_Code_has p1 t_length).bind fun rz1 =>
  if rz1 = (0 : Int32) then
    some (-9 : Int32)
  else
    if p2 = (0 : Int32) then
      (rdI t_op 20 p1).bind fun v2 =>
      some v2
    else
    if p2 = (1 : Int32) then
      (rdI t_d 20 p1).bind fun v3 =>
      some v3
    else
    if p2 = (2 : Int32) then
      (rdI t_a 20 p1).bind fun v4 =>
      some v4
    else
    if p2 = (3 : Int32) then
      (rdI t_b 20 p1).bind fun v5 =>
      some v5
    else
      some (0 : Int32)
abbrev rm_BlockCode_source : Room := { frames := 2, cells := 0, slots := 0, locals := 43 }
abbrev ww_BlockCode_source (cI cJ cZ : ClassId) (qt : Nat) (qt_sourceCode : Nat) (qt_resultCode : Nat) (qt_facts : Nat) (qt_symbols : Nat) (qt_sourceWalk : Nat) (qt_resultWalk : Nat) (qt_machine : Nat) (qt_sourceCode_op : Nat) (qt_sourceCode_d : Nat) (qt_sourceCode_a : Nat) (qt_sourceCode_b : Nat) (qt_sourceCode_need : Nat) (t_sealed : Int32) (t_foundAlike : Int32) (t_sourceCode_length : Int32) (t_sourceCode_leaders : Int32) (t_sourceCode_op : Nat → Int32) (t_sourceCode_d : Nat → Int32) (t_sourceCode_a : Nat → Int32) (t_sourceCode_b : Nat → Int32) : va_W := [(qt, .inr (5, [.ref qt_sourceCode, .ref qt_resultCode, .ref qt_facts, .ref qt_symbols, .ref qt_sourceWalk, .ref qt_resultWalk, .ref qt_machine, .int t_sealed, .int t_foundAlike])), (qt_sourceCode, .inr (0, [.ref qt_sourceCode_op, .ref qt_sourceCode_d, .ref qt_sourceCode_a, .ref qt_sourceCode_b, .ref qt_sourceCode_need, .int t_sourceCode_length, .int t_sourceCode_leaders])), (qt_sourceCode_op, .inl (cI, 20, .inl t_sourceCode_op)), (qt_sourceCode_d, .inl (cI, 20, .inl t_sourceCode_d)), (qt_sourceCode_a, .inl (cI, 20, .inl t_sourceCode_a)), (qt_sourceCode_b, .inl (cI, 20, .inl t_sourceCode_b))]
def f_BlockCode_source (p1 : Int32) (p2 : Int32) (t_sourceCode_op : Nat → Int32) (t_sourceCode_d : Nat → Int32) (t_sourceCode_a : Nat → Int32) (t_sourceCode_b : Nat → Int32) (t_sourceCode_length : Int32) : Option (Int32) :=
  (f_Code_number p1 p2 t_sourceCode_op t_sourceCode_d t_sourceCode_a t_sourceCode_b t_sourceCode_length).bind fun rz1 =>
  some rz1
abbrev rm_BlockCode_result : Room := { frames := 2, cells := 0, slots := 0, locals := 43 }
abbrev ww_BlockCode_result (cI cJ cZ : ClassId) (qt : Nat) (qt_sourceCode : Nat) (qt_resultCode : Nat) (qt_facts : Nat) (qt_symbols : Nat) (qt_sourceWalk : Nat) (qt_resultWalk : Nat) (qt_machine : Nat) (qt_resultCode_op : Nat) (qt_resultCode_d : Nat) (qt_resultCode_a : Nat) (qt_resultCode_b : Nat) (qt_resultCode_need : Nat) (t_sealed : Int32) (t_foundAlike : Int32) (t_resultCode_length : Int32) (t_resultCode_leaders : Int32) (t_resultCode_op : Nat → Int32) (t_resultCode_d : Nat → Int32) (t_resultCode_a : Nat → Int32) (t_resultCode_b : Nat → Int32) : va_W := [(qt, .inr (5, [.ref qt_sourceCode, .ref qt_resultCode, .ref qt_facts, .ref qt_symbols, .ref qt_sourceWalk, .ref qt_resultWalk, .ref qt_machine, .int t_sealed, .int t_foundAlike])), (qt_resultCode, .inr (0, [.ref qt_resultCode_op, .ref qt_resultCode_d, .ref qt_resultCode_a, .ref qt_resultCode_b, .ref qt_resultCode_need, .int t_resultCode_length, .int t_resultCode_leaders])), (qt_resultCode_op, .inl (cI, 20, .inl t_resultCode_op)), (qt_resultCode_d, .inl (cI, 20, .inl t_resultCode_d)), (qt_resultCode_a, .inl (cI, 20, .inl t_resultCode_a)), (qt_resultCode_b, .inl (cI, 20, .inl t_resultCode_b))]
def f_BlockCode_result (p1 : Int32) (p2 : Int32) (t_resultCode_op : Nat → Int32) (t_resultCode_d : Nat → Int32) (t_resultCode_a : Nat → Int32) (t_resultCode_b : Nat → Int32) (t_resultCode_length : Int32) : Option (Int32) :=
  (f_Code_number p1 p2 t_resultCode_op t_resultCode_d t_resultCode_a t_resultCode_b t_resultCode_length).bind fun rz1 =>
  some rz1
abbrev rm_BlockCode_known : Room := { frames := 1, cells := 0, slots := 0, locals := 22 }
abbrev ww_BlockCode_known (cI cJ cZ : ClassId) (qt : Nat) (qt_sourceCode : Nat) (qt_resultCode : Nat) (qt_facts : Nat) (qt_symbols : Nat) (qt_sourceWalk : Nat) (qt_resultWalk : Nat) (qt_machine : Nat) (qt_sourceCode_op : Nat) (qt_sourceCode_d : Nat) (qt_sourceCode_a : Nat) (qt_sourceCode_b : Nat) (qt_sourceCode_need : Nat) (qt_facts_before : Nat) (qt_facts_flowing : Nat) (t_sealed : Int32) (t_foundAlike : Int32) (t_sourceCode_length : Int32) (t_sourceCode_leaders : Int32) (t_facts_before : Nat → Int64) : va_W := [(qt, .inr (5, [.ref qt_sourceCode, .ref qt_resultCode, .ref qt_facts, .ref qt_symbols, .ref qt_sourceWalk, .ref qt_resultWalk, .ref qt_machine, .int t_sealed, .int t_foundAlike])), (qt_sourceCode, .inr (0, [.ref qt_sourceCode_op, .ref qt_sourceCode_d, .ref qt_sourceCode_a, .ref qt_sourceCode_b, .ref qt_sourceCode_need, .int t_sourceCode_length, .int t_sourceCode_leaders])), (qt_facts, .inr (1, [.ref qt_facts_before, .ref qt_facts_flowing])), (qt_facts_before, .inl (cJ, 100, .inr (.inl t_facts_before)))]
def f_BlockCode_known (p1 : Int32) (p2 : Int32) (t_sourceCode_length : Int32) (t_facts_before : Nat → Int64) (t_sealed : Int32) : Option (Int64) :=
  if t_sealed = (0 : Int32) then
    some (4294967298 : Int64)
  else
    (f_Code_has p1 t_sourceCode_length).bind fun rz1 =>
    if rz1 = (0 : Int32) then
      some (4294967298 : Int64)
    else
      (f_BlockCode_isRegister p2).bind fun rz2 =>
      if rz2 = (0 : Int32) then
        some (4294967298 : Int64)
      else
        (f_Facts_at p1 p2 t_facts_before).bind fun rz3 =>
        some rz3
abbrev rm_BlockCode_needed : Room := { frames := 2, cells := 0, slots := 0, locals := 42 }
abbrev ww_BlockCode_needed (cI cJ cZ : ClassId) (qt : Nat) (qt_sourceCode : Nat) (qt_resultCode : Nat) (qt_facts : Nat) (qt_symbols : Nat) (qt_sourceWalk : Nat) (qt_resultWalk : Nat) (qt_machine : Nat) (qt_sourceCode_op : Nat) (qt_sourceCode_d : Nat) (qt_sourceCode_a : Nat) (qt_sourceCode_b : Nat) (qt_sourceCode_need : Nat) (t_sealed : Int32) (t_foundAlike : Int32) (t_sourceCode_length : Int32) (t_sourceCode_leaders : Int32) (t_sourceCode_need : Nat → Int32) : va_W := [(qt, .inr (5, [.ref qt_sourceCode, .ref qt_resultCode, .ref qt_facts, .ref qt_symbols, .ref qt_sourceWalk, .ref qt_resultWalk, .ref qt_machine, .int t_sealed, .int t_foundAlike])), (qt_sourceCode, .inr (0, [.ref qt_sourceCode_op, .ref qt_sourceCode_d, .ref qt_sourceCode_a, .ref qt_sourceCode_b, .ref qt_sourceCode_need, .int t_sourceCode_length, .int t_sourceCode_leaders])), (qt_sourceCode_need, .inl (cI, 20, .inl t_sourceCode_need))]
def f_BlockCode_needed (p1 : Int32) (t_sourceCode_need : Nat → Int32) (t_sourceCode_length : Int32) (t_sealed : Int32) : Option (Int32) :=
  if t_sealed = (0 : Int32) then
    some (-9 : Int32)
  else
    (f_Code_has p1 t_sourceCode_length).bind fun rz1 =>
    if rz1 = (0 : Int32) then
      some (-9 : Int32)
    else
      (f_Code_needAt p1 t_sourceCode_need t_sourceCode_length).bind fun rz2 =>
      some rz2
abbrev rm_BlockCode_requireSealed : Room := { frames := 0, cells := 0, slots := 0, locals := 0 }
abbrev ww_BlockCode_requireSealed (cI cJ cZ : ClassId) (qt : Nat) (qt_sourceCode : Nat) (qt_resultCode : Nat) (qt_facts : Nat) (qt_symbols : Nat) (qt_sourceWalk : Nat) (qt_resultWalk : Nat) (qt_machine : Nat) (t_sealed : Int32) (t_foundAlike : Int32) : va_W := [(qt, .inr (5, [.ref qt_sourceCode, .ref qt_resultCode, .ref qt_facts, .ref qt_symbols, .ref qt_sourceWalk, .ref qt_resultWalk, .ref qt_machine, .int t_sealed, .int t_foundAlike]))]
def f_BlockCode_requireSealed (t_sealed : Int32) : Option (Unit) :=
  if t_sealed = (0 : Int32) then
    none
  else
    some ()
abbrev rm_BlockCode_putSettledBranch : Room := { frames := 2, cells := 0, slots := 0, locals := 45 }
abbrev ww_BlockCode_putSettledBranch (cI cJ cZ : ClassId) (qt : Nat) (qt_sourceCode : Nat) (qt_resultCode : Nat) (qt_facts : Nat) (qt_symbols : Nat) (qt_sourceWalk : Nat) (qt_resultWalk : Nat) (qt_machine : Nat) (qt_sourceCode_op : Nat) (qt_sourceCode_d : Nat) (qt_sourceCode_a : Nat) (qt_sourceCode_b : Nat) (qt_sourceCode_need : Nat) (qt_resultCode_op : Nat) (qt_resultCode_d : Nat) (qt_resultCode_a : Nat) (qt_resultCode_b : Nat) (qt_resultCode_need : Nat) (t_sealed : Int32) (t_foundAlike : Int32) (t_sourceCode_length : Int32) (t_sourceCode_leaders : Int32) (t_sourceCode_b : Nat → Int32) (t_resultCode_length : Int32) (t_resultCode_leaders : Int32) (t_resultCode_op : Nat → Int32) (t_resultCode_d : Nat → Int32) (t_resultCode_a : Nat → Int32) (t_resultCode_b : Nat → Int32) : va_W := [(qt, .inr (5, [.ref qt_sourceCode, .ref qt_resultCode, .ref qt_facts, .ref qt_symbols, .ref qt_sourceWalk, .ref qt_resultWalk, .ref qt_machine, .int t_sealed, .int t_foundAlike])), (qt_sourceCode, .inr (0, [.ref qt_sourceCode_op, .ref qt_sourceCode_d, .ref qt_sourceCode_a, .ref qt_sourceCode_b, .ref qt_sourceCode_need, .int t_sourceCode_length, .int t_sourceCode_leaders])), (qt_sourceCode_b, .inl (cI, 20, .inl t_sourceCode_b)), (qt_resultCode, .inr (0, [.ref qt_resultCode_op, .ref qt_resultCode_d, .ref qt_resultCode_a, .ref qt_resultCode_b, .ref qt_resultCode_need, .int t_resultCode_length, .int t_resultCode_leaders])), (qt_resultCode_op, .inl (cI, 20, .inl t_resultCode_op)), (qt_resultCode_d, .inl (cI, 20, .inl t_resultCode_d)), (qt_resultCode_a, .inl (cI, 20, .inl t_resultCode_a)), (qt_resultCode_b, .inl (cI, 20, .inl t_resultCode_b))]
def f_BlockCode_putSettledBranch (p1 : Int32) (p2 : Int64) (t_sourceCode_b : Nat → Int32) (t_resultCode_op : Nat → Int32) (t_resultCode_d : Nat → Int32) (t_resultCode_a : Nat → Int32) (t_resultCode_b : Nat → Int32) : Option ((Nat → Int32) × (Nat → Int32) × (Nat → Int32) × (Nat → Int32)) :=
  (f_BlockCode_isInt p2).bind fun rz1 =>
  if rz1 = (0 : Int32) then
    some (t_resultCode_op, t_resultCode_d, t_resultCode_a, t_resultCode_b)
  else
    if (lg_cmp p2 (0 : Int64)) = (0 : Int32) then
      (f_Code_put p1 (0 : Int32) (0 : Int32) (0 : Int32) (0 : Int32) t_resultCode_op t_resultCode_d t_resultCode_a t_resultCode_b).bind fun (u2, u3, u4, u5) =>
      some (u2, u3, u4, u5)
    else
      (rdI t_sourceCode_b 20 p1).bind fun v6 =>
      (f_Code_put p1 (8 : Int32) (0 : Int32) v6 (0 : Int32) t_resultCode_op t_resultCode_d t_resultCode_a t_resultCode_b).bind fun (u7, u8, u9, u10) =>
      some (u7, u8, u9, u10)
abbrev rm_BlockCode_putConstant : Room := { frames := 3, cells := 0, slots := 0, locals := 68 }
abbrev ww_BlockCode_putConstant (cI cJ cZ : ClassId) (qt : Nat) (qt_sourceCode : Nat) (qt_resultCode : Nat) (qt_facts : Nat) (qt_symbols : Nat) (qt_sourceWalk : Nat) (qt_resultWalk : Nat) (qt_machine : Nat) (qt_sourceCode_op : Nat) (qt_sourceCode_d : Nat) (qt_sourceCode_a : Nat) (qt_sourceCode_b : Nat) (qt_sourceCode_need : Nat) (qt_resultCode_op : Nat) (qt_resultCode_d : Nat) (qt_resultCode_a : Nat) (qt_resultCode_b : Nat) (qt_resultCode_need : Nat) (qt_facts_before : Nat) (qt_facts_flowing : Nat) (t_sealed : Int32) (t_foundAlike : Int32) (t_sourceCode_length : Int32) (t_sourceCode_leaders : Int32) (t_sourceCode_op : Nat → Int32) (t_sourceCode_d : Nat → Int32) (t_sourceCode_a : Nat → Int32) (t_sourceCode_b : Nat → Int32) (t_resultCode_length : Int32) (t_resultCode_leaders : Int32) (t_resultCode_op : Nat → Int32) (t_resultCode_d : Nat → Int32) (t_resultCode_a : Nat → Int32) (t_resultCode_b : Nat → Int32) (t_facts_before : Nat → Int64) : va_W := [(qt, .inr (5, [.ref qt_sourceCode, .ref qt_resultCode, .ref qt_facts, .ref qt_symbols, .ref qt_sourceWalk, .ref qt_resultWalk, .ref qt_machine, .int t_sealed, .int t_foundAlike])), (qt_sourceCode, .inr (0, [.ref qt_sourceCode_op, .ref qt_sourceCode_d, .ref qt_sourceCode_a, .ref qt_sourceCode_b, .ref qt_sourceCode_need, .int t_sourceCode_length, .int t_sourceCode_leaders])), (qt_sourceCode_op, .inl (cI, 20, .inl t_sourceCode_op)), (qt_sourceCode_d, .inl (cI, 20, .inl t_sourceCode_d)), (qt_sourceCode_a, .inl (cI, 20, .inl t_sourceCode_a)), (qt_sourceCode_b, .inl (cI, 20, .inl t_sourceCode_b)), (qt_resultCode, .inr (0, [.ref qt_resultCode_op, .ref qt_resultCode_d, .ref qt_resultCode_a, .ref qt_resultCode_b, .ref qt_resultCode_need, .int t_resultCode_length, .int t_resultCode_leaders])), (qt_resultCode_op, .inl (cI, 20, .inl t_resultCode_op)), (qt_resultCode_d, .inl (cI, 20, .inl t_resultCode_d)), (qt_resultCode_a, .inl (cI, 20, .inl t_resultCode_a)), (qt_resultCode_b, .inl (cI, 20, .inl t_resultCode_b)), (qt_facts, .inr (1, [.ref qt_facts_before, .ref qt_facts_flowing])), (qt_facts_before, .inl (cJ, 100, .inr (.inl t_facts_before)))]
def f_BlockCode_putConstant (p1 : Int32) (t_sourceCode_op : Nat → Int32) (t_sourceCode_d : Nat → Int32) (t_sourceCode_a : Nat → Int32) (t_sourceCode_b : Nat → Int32) (t_facts_before : Nat → Int64) (t_resultCode_op : Nat → Int32) (t_resultCode_d : Nat → Int32) (t_resultCode_a : Nat → Int32) (t_resultCode_b : Nat → Int32) : Option ((Nat → Int32) × (Nat → Int32) × (Nat → Int32) × (Nat → Int32)) :=
  (rdI t_sourceCode_op 20 p1).bind fun v1 =>
  if v1 = (9 : Int32) then
    (rdI t_sourceCode_a 20 p1).bind fun v10 =>
    (f_Facts_at p1 v10 t_facts_before).bind fun rz11 =>
    (f_BlockCode_putSettledBranch p1 rz11 t_sourceCode_b t_resultCode_op t_resultCode_d t_resultCode_a t_resultCode_b).bind fun (u12, u13, u14, u15) =>
    some (u12, u13, u14, u15)
  else
    if v1 = (1 : Int32) then
      some (t_resultCode_op, t_resultCode_d, t_resultCode_a, t_resultCode_b)
    else
      (f_BlockCode_makesRegister v1).bind fun rz2 =>
      if rz2 = (0 : Int32) then
        some (t_resultCode_op, t_resultCode_d, t_resultCode_a, t_resultCode_b)
      else
        (f_Facts_madeBy p1 t_facts_before t_sourceCode_op t_sourceCode_a t_sourceCode_b).bind fun rz3 =>
        (f_BlockCode_isInt rz3).bind fun rz4 =>
        if rz4 = (0 : Int32) then
          some (t_resultCode_op, t_resultCode_d, t_resultCode_a, t_resultCode_b)
        else
          (rdI t_sourceCode_d 20 p1).bind fun v5 =>
          (f_Code_put p1 (1 : Int32) v5 rz3.toInt32 (0 : Int32) t_resultCode_op t_resultCode_d t_resultCode_a t_resultCode_b).bind fun (u6, u7, u8, u9) =>
          some (u6, u7, u8, u9)
abbrev rm_Code_differencesFrom : Room := { frames := 0, cells := 0, slots := 0, locals := 0 }
abbrev ww_Code_differencesFrom (cI cJ cZ : ClassId) (qt : Nat) (qt_op : Nat) (qt_d : Nat) (qt_a : Nat) (qt_b : Nat) (qt_need : Nat) (qr1 : Nat) (qr1_op : Nat) (qr1_d : Nat) (qr1_a : Nat) (qr1_b : Nat) (qr1_need : Nat) (t_length : Int32) (t_leaders : Int32) (t_op : Nat → Int32) (t_d : Nat → Int32) (t_a : Nat → Int32) (t_b : Nat → Int32) (r1_length : Int32) (r1_leaders : Int32) (r1_op : Nat → Int32) (r1_d : Nat → Int32) (r1_a : Nat → Int32) (r1_b : Nat → Int32) : va_W := [(qt, .inr (0, [.ref qt_op, .ref qt_d, .ref qt_a, .ref qt_b, .ref qt_need, .int t_length, .int t_leaders])), (qt_op, .inl (cI, 20, .inl t_op)), (qt_d, .inl (cI, 20, .inl t_d)), (qt_a, .inl (cI, 20, .inl t_a)), (qt_b, .inl (cI, 20, .inl t_b)), (qr1, .inr (0, [.ref qr1_op, .ref qr1_d, .ref qr1_a, .ref qr1_b, .ref qr1_need, .int r1_length, .int r1_leaders])), (qr1_op, .inl (cI, 20, .inl r1_op)), (qr1_d, .inl (cI, 20, .inl r1_d)), (qr1_a, .inl (cI, 20, .inl r1_a)), (qr1_b, .inl (cI, 20, .inl r1_b))]
def f_Code_differencesFrom_75 (t_op : Nat → Int32) (t_d : Nat → Int32) (t_a : Nat → Int32) (t_b : Nat → Int32) (t_length : Int32) (r1_op : Nat → Int32) (r1_d : Nat → Int32) (r1_a : Nat → Int32) (r1_b : Nat → Int32) (k4 : Int32 → Int32 → Option (Int32)) (x2 : Int32) (x3 : Int32) : Option (Int32) :=
  k4 x2 (x3 + (1 : Int32))
def f_Code_differencesFrom_72 (t_op : Nat → Int32) (t_d : Nat → Int32) (t_a : Nat → Int32) (t_b : Nat → Int32) (t_length : Int32) (r1_op : Nat → Int32) (r1_d : Nat → Int32) (r1_a : Nat → Int32) (r1_b : Nat → Int32) (k4 : Int32 → Int32 → Option (Int32)) (x2 : Int32) (x3 : Int32) : Option (Int32) :=
  f_Code_differencesFrom_75 t_op t_d t_a t_b t_length r1_op r1_d r1_a r1_b k4 (x2 + (1 : Int32)) x3
def f_Code_differencesFrom_4 (t_op : Nat → Int32) (t_d : Nat → Int32) (t_a : Nat → Int32) (t_b : Nat → Int32) (t_length : Int32) (r1_op : Nat → Int32) (r1_d : Nat → Int32) (r1_a : Nat → Int32) (r1_b : Nat → Int32) : Nat → Int32 → Int32 → Option (Int32)
  | 0, _, _ => none
  | n + 1, x2, x3 =>
    if t_length ≤ x3 then
      some x2
    else
      (rdI t_op 20 x3).bind fun v1 =>
      (rdI r1_op 20 x3).bind fun v2 =>
      if v1 = v2 then
        (rdI t_d 20 x3).bind fun v3 =>
        (rdI r1_d 20 x3).bind fun v4 =>
        if v3 = v4 then
          (rdI t_a 20 x3).bind fun v5 =>
          (rdI r1_a 20 x3).bind fun v6 =>
          if v5 = v6 then
            (rdI t_b 20 x3).bind fun v7 =>
            (rdI r1_b 20 x3).bind fun v8 =>
            if v7 = v8 then
              f_Code_differencesFrom_75 t_op t_d t_a t_b t_length r1_op r1_d r1_a r1_b (f_Code_differencesFrom_4 t_op t_d t_a t_b t_length r1_op r1_d r1_a r1_b n) x2 x3
            else
              f_Code_differencesFrom_72 t_op t_d t_a t_b t_length r1_op r1_d r1_a r1_b (f_Code_differencesFrom_4 t_op t_d t_a t_b t_length r1_op r1_d r1_a r1_b n) x2 x3
          else
            f_Code_differencesFrom_72 t_op t_d t_a t_b t_length r1_op r1_d r1_a r1_b (f_Code_differencesFrom_4 t_op t_d t_a t_b t_length r1_op r1_d r1_a r1_b n) x2 x3
        else
          f_Code_differencesFrom_72 t_op t_d t_a t_b t_length r1_op r1_d r1_a r1_b (f_Code_differencesFrom_4 t_op t_d t_a t_b t_length r1_op r1_d r1_a r1_b n) x2 x3
      else
        f_Code_differencesFrom_72 t_op t_d t_a t_b t_length r1_op r1_d r1_a r1_b (f_Code_differencesFrom_4 t_op t_d t_a t_b t_length r1_op r1_d r1_a r1_b n) x2 x3
def f_Code_differencesFrom (t_op : Nat → Int32) (t_d : Nat → Int32) (t_a : Nat → Int32) (t_b : Nat → Int32) (t_length : Int32) (r1_op : Nat → Int32) (r1_d : Nat → Int32) (r1_a : Nat → Int32) (r1_b : Nat → Int32) : Option (Int32) :=
  f_Code_differencesFrom_4 t_op t_d t_a t_b t_length r1_op r1_d r1_a r1_b fu (0 : Int32) (0 : Int32)
abbrev rm_BlockCode_constants : Room := { frames := 4, cells := 0, slots := 0, locals := 92 }
abbrev ww_BlockCode_constants (cI cJ cZ : ClassId) (qt : Nat) (qt_sourceCode : Nat) (qt_resultCode : Nat) (qt_facts : Nat) (qt_symbols : Nat) (qt_sourceWalk : Nat) (qt_resultWalk : Nat) (qt_machine : Nat) (qt_sourceCode_op : Nat) (qt_sourceCode_d : Nat) (qt_sourceCode_a : Nat) (qt_sourceCode_b : Nat) (qt_sourceCode_need : Nat) (qt_resultCode_op : Nat) (qt_resultCode_d : Nat) (qt_resultCode_a : Nat) (qt_resultCode_b : Nat) (qt_resultCode_need : Nat) (qt_facts_before : Nat) (qt_facts_flowing : Nat) (t_sealed : Int32) (t_foundAlike : Int32) (t_sourceCode_length : Int32) (t_sourceCode_leaders : Int32) (t_sourceCode_op : Nat → Int32) (t_sourceCode_d : Nat → Int32) (t_sourceCode_a : Nat → Int32) (t_sourceCode_b : Nat → Int32) (t_resultCode_length : Int32) (t_resultCode_leaders : Int32) (t_resultCode_op : Nat → Int32) (t_resultCode_d : Nat → Int32) (t_resultCode_a : Nat → Int32) (t_resultCode_b : Nat → Int32) (t_facts_before : Nat → Int64) : va_W := [(qt, .inr (5, [.ref qt_sourceCode, .ref qt_resultCode, .ref qt_facts, .ref qt_symbols, .ref qt_sourceWalk, .ref qt_resultWalk, .ref qt_machine, .int t_sealed, .int t_foundAlike])), (qt_sourceCode, .inr (0, [.ref qt_sourceCode_op, .ref qt_sourceCode_d, .ref qt_sourceCode_a, .ref qt_sourceCode_b, .ref qt_sourceCode_need, .int t_sourceCode_length, .int t_sourceCode_leaders])), (qt_sourceCode_op, .inl (cI, 20, .inl t_sourceCode_op)), (qt_sourceCode_d, .inl (cI, 20, .inl t_sourceCode_d)), (qt_sourceCode_a, .inl (cI, 20, .inl t_sourceCode_a)), (qt_sourceCode_b, .inl (cI, 20, .inl t_sourceCode_b)), (qt_resultCode, .inr (0, [.ref qt_resultCode_op, .ref qt_resultCode_d, .ref qt_resultCode_a, .ref qt_resultCode_b, .ref qt_resultCode_need, .int t_resultCode_length, .int t_resultCode_leaders])), (qt_resultCode_op, .inl (cI, 20, .inl t_resultCode_op)), (qt_resultCode_d, .inl (cI, 20, .inl t_resultCode_d)), (qt_resultCode_a, .inl (cI, 20, .inl t_resultCode_a)), (qt_resultCode_b, .inl (cI, 20, .inl t_resultCode_b)), (qt_facts, .inr (1, [.ref qt_facts_before, .ref qt_facts_flowing])), (qt_facts_before, .inl (cJ, 100, .inr (.inl t_facts_before)))]
def f_BlockCode_constants_37 (t_sourceCode_op : Nat → Int32) (t_sourceCode_d : Nat → Int32) (t_sourceCode_a : Nat → Int32) (t_sourceCode_b : Nat → Int32) (t_sourceCode_length : Int32) (t_facts_before : Nat → Int64) (t_sealed : Int32) (k10 : Int32 → (Nat → Int32) → (Nat → Int32) → (Nat → Int32) → (Nat → Int32) → Int32 → Int32 → Option (Int32 × (Nat → Int32) × (Nat → Int32) × (Nat → Int32) × (Nat → Int32) × Int32 × Int32)) (x1 : Int32) (t_resultCode_op : Nat → Int32) (t_resultCode_d : Nat → Int32) (t_resultCode_a : Nat → Int32) (t_resultCode_b : Nat → Int32) (t_resultCode_length : Int32) (t_foundAlike : Int32) : Option (Int32 × (Nat → Int32) × (Nat → Int32) × (Nat → Int32) × (Nat → Int32) × Int32 × Int32) :=
  k10 (x1 + (1 : Int32)) t_resultCode_op t_resultCode_d t_resultCode_a t_resultCode_b t_resultCode_length t_foundAlike
def f_BlockCode_constants_10 (t_sourceCode_op : Nat → Int32) (t_sourceCode_d : Nat → Int32) (t_sourceCode_a : Nat → Int32) (t_sourceCode_b : Nat → Int32) (t_sourceCode_length : Int32) (t_facts_before : Nat → Int64) (t_sealed : Int32) : Nat → Int32 → (Nat → Int32) → (Nat → Int32) → (Nat → Int32) → (Nat → Int32) → Int32 → Int32 → Option (Int32 × (Nat → Int32) × (Nat → Int32) × (Nat → Int32) × (Nat → Int32) × Int32 × Int32)
  | 0, _, _, _, _, _, _, _ => none
  | n + 1, x1, t_resultCode_op, t_resultCode_d, t_resultCode_a, t_resultCode_b, t_resultCode_length, t_foundAlike =>
    if t_sourceCode_length ≤ x1 then
      (f_Code_differencesFrom t_resultCode_op t_resultCode_d t_resultCode_a t_resultCode_b t_resultCode_length t_sourceCode_op t_sourceCode_d t_sourceCode_a t_sourceCode_b).bind fun rz1 =>
      some (rz1, t_resultCode_op, t_resultCode_d, t_resultCode_a, t_resultCode_b, t_resultCode_length, t_foundAlike)
    else
      (f_Facts_reached x1 t_facts_before).bind fun rz2 =>
      if rz2 = (0 : Int32) then
        f_BlockCode_constants_37 t_sourceCode_op t_sourceCode_d t_sourceCode_a t_sourceCode_b t_sourceCode_length t_facts_before t_sealed (f_BlockCode_constants_10 t_sourceCode_op t_sourceCode_d t_sourceCode_a t_sourceCode_b t_sourceCode_length t_facts_before t_sealed n) x1 t_resultCode_op t_resultCode_d t_resultCode_a t_resultCode_b t_resultCode_length t_foundAlike
      else
        (f_BlockCode_putConstant x1 t_sourceCode_op t_sourceCode_d t_sourceCode_a t_sourceCode_b t_facts_before t_resultCode_op t_resultCode_d t_resultCode_a t_resultCode_b).bind fun (u3, u4, u5, u6) =>
        f_BlockCode_constants_37 t_sourceCode_op t_sourceCode_d t_sourceCode_a t_sourceCode_b t_sourceCode_length t_facts_before t_sealed (f_BlockCode_constants_10 t_sourceCode_op t_sourceCode_d t_sourceCode_a t_sourceCode_b t_sourceCode_length t_facts_before t_sealed n) x1 u3 u4 u5 u6 t_resultCode_length t_foundAlike
def f_BlockCode_constants (t_sourceCode_op : Nat → Int32) (t_sourceCode_d : Nat → Int32) (t_sourceCode_a : Nat → Int32) (t_sourceCode_b : Nat → Int32) (t_sourceCode_length : Int32) (t_facts_before : Nat → Int64) (t_sealed : Int32) (t_resultCode_op : Nat → Int32) (t_resultCode_d : Nat → Int32) (t_resultCode_a : Nat → Int32) (t_resultCode_b : Nat → Int32) (t_resultCode_length : Int32) (t_foundAlike : Int32) : Option (Int32 × (Nat → Int32) × (Nat → Int32) × (Nat → Int32) × (Nat → Int32) × Int32 × Int32) :=
  (f_BlockCode_requireSealed t_sealed).bind fun _ =>
  (f_BlockCode_resultBecomesSource t_sourceCode_op t_sourceCode_d t_sourceCode_a t_sourceCode_b t_sourceCode_length t_resultCode_op t_resultCode_d t_resultCode_a t_resultCode_b t_resultCode_length t_foundAlike).bind fun (u1, u2, u3, u4, u5, u6) =>
  f_BlockCode_constants_10 t_sourceCode_op t_sourceCode_d t_sourceCode_a t_sourceCode_b t_sourceCode_length t_facts_before t_sealed fu (0 : Int32) u1 u2 u3 u4 u5 u6
abbrev rm_BlockCode_isIn : Room := { frames := 0, cells := 0, slots := 0, locals := 0 }
abbrev ww_BlockCode_isIn (cI cJ cZ : ClassId) : va_W := []
def f_BlockCode_isIn (p0 : Int32) (p1 : Int32) : Option (Int32) :=
  if ((p1 >>> (p0 &&& 31)) &&& (1 : Int32)) = (0 : Int32) then
    some (0 : Int32)
  else
    some (1 : Int32)
abbrev rm_Code_isLeader : Room := { frames := 1, cells := 0, slots := 0, locals := 21 }
abbrev ww_Code_isLeader (cI cJ cZ : ClassId) (qt : Nat) (qt_op : Nat) (qt_d : Nat) (qt_a : Nat) (qt_b : Nat) (qt_need : Nat) (t_length : Int32) (t_leaders : Int32) : va_W := [(qt, .inr (0, [.ref qt_op, .ref qt_d, .ref qt_a, .ref qt_b, .ref qt_need, .int t_length, .int t_leaders]))]
def f_Code_isLeader (p1 : Int32) (t_leaders : Int32) : Option (Int32) :=
  (f_BlockCode_isIn p1 t_leaders).bind fun rz1 =>
  (gzI rz1).bind fun z0 => some z0
abbrev rm_Symbols_forget : Room := { frames := 0, cells := 0, slots := 0, locals := 0 }
abbrev ww_Symbols_forget (cI cJ cZ : ClassId) (qt : Nat) (qt_kind : Nat) (qt_left : Nat) (qt_right : Nat) (t_count : Int32) : va_W := [(qt, .inr (2, [.ref qt_kind, .ref qt_left, .ref qt_right, .int t_count]))]
def f_Symbols_forget (t_count : Int32) : Option (Int32) :=
  some (0 : Int32)
abbrev rm_Symbols_numberOf : Room := { frames := 0, cells := 0, slots := 0, locals := 0 }
abbrev ww_Symbols_numberOf (cI cJ cZ : ClassId) (qt : Nat) (qt_kind : Nat) (qt_left : Nat) (qt_right : Nat) (t_count : Int32) (t_kind : Nat → Int32) (t_left : Nat → Int32) (t_right : Nat → Int32) : va_W := [(qt, .inr (2, [.ref qt_kind, .ref qt_left, .ref qt_right, .int t_count])), (qt_kind, .inl (cI, 45, .inl t_kind)), (qt_left, .inl (cI, 45, .inl t_left)), (qt_right, .inl (cI, 45, .inl t_right))]
def f_Symbols_numberOf_48 (p1 : Int32) (p2 : Int32) (p3 : Int32) (k3 : Int32 → (Nat → Int32) → (Nat → Int32) → (Nat → Int32) → Int32 → Option (Int32 × (Nat → Int32) × (Nat → Int32) × (Nat → Int32) × Int32)) (x4 : Int32) (t_kind : Nat → Int32) (t_left : Nat → Int32) (t_right : Nat → Int32) (t_count : Int32) : Option (Int32 × (Nat → Int32) × (Nat → Int32) × (Nat → Int32) × Int32) :=
  k3 (x4 + (1 : Int32)) t_kind t_left t_right t_count
def f_Symbols_numberOf_3 (p1 : Int32) (p2 : Int32) (p3 : Int32) : Nat → Int32 → (Nat → Int32) → (Nat → Int32) → (Nat → Int32) → Int32 → Option (Int32 × (Nat → Int32) × (Nat → Int32) × (Nat → Int32) × Int32)
  | 0, _, _, _, _, _ => none
  | n + 1, x4, t_kind, t_left, t_right, t_count =>
    if t_count ≤ x4 then
      (wrI t_kind 45 t_count p1).bind fun w1 =>
      (wrI t_left 45 t_count p2).bind fun w2 =>
      (wrI t_right 45 t_count p3).bind fun w3 =>
      some (t_count, w1, w2, w3, (t_count + (1 : Int32)))
    else
      (rdI t_kind 45 x4).bind fun v4 =>
      if v4 = p1 then
        (rdI t_left 45 x4).bind fun v5 =>
        if v5 = p2 then
          (rdI t_right 45 x4).bind fun v6 =>
          if v6 = p3 then
            some (x4, t_kind, t_left, t_right, t_count)
          else
            f_Symbols_numberOf_48 p1 p2 p3 (f_Symbols_numberOf_3 p1 p2 p3 n) x4 t_kind t_left t_right t_count
        else
          f_Symbols_numberOf_48 p1 p2 p3 (f_Symbols_numberOf_3 p1 p2 p3 n) x4 t_kind t_left t_right t_count
      else
        f_Symbols_numberOf_48 p1 p2 p3 (f_Symbols_numberOf_3 p1 p2 p3 n) x4 t_kind t_left t_right t_count
def f_Symbols_numberOf (p1 : Int32) (p2 : Int32) (p3 : Int32) (t_kind : Nat → Int32) (t_left : Nat → Int32) (t_right : Nat → Int32) (t_count : Int32) : Option (Int32 × (Nat → Int32) × (Nat → Int32) × (Nat → Int32) × Int32) :=
  f_Symbols_numberOf_3 p1 p2 p3 fu (0 : Int32) t_kind t_left t_right t_count
abbrev rm_Symbols_ofRegister : Room := { frames := 1, cells := 0, slots := 0, locals := 24 }
abbrev ww_Symbols_ofRegister (cI cJ cZ : ClassId) (qt : Nat) (qt_kind : Nat) (qt_left : Nat) (qt_right : Nat) (t_count : Int32) (t_kind : Nat → Int32) (t_left : Nat → Int32) (t_right : Nat → Int32) : va_W := [(qt, .inr (2, [.ref qt_kind, .ref qt_left, .ref qt_right, .int t_count])), (qt_kind, .inl (cI, 45, .inl t_kind)), (qt_left, .inl (cI, 45, .inl t_left)), (qt_right, .inl (cI, 45, .inl t_right))]
def f_Symbols_ofRegister (p1 : Int32) (t_kind : Nat → Int32) (t_left : Nat → Int32) (t_right : Nat → Int32) (t_count : Int32) : Option (Int32 × (Nat → Int32) × (Nat → Int32) × (Nat → Int32) × Int32) :=
  (f_Symbols_numberOf (0 : Int32) p1 (0 : Int32) t_kind t_left t_right t_count).bind fun (rz1, u2, u3, u4, u5) =>
  some (rz1, u2, u3, u4, u5)
abbrev rm_Walk_beginUnknown : Room := { frames := 2, cells := 0, slots := 0, locals := 45 }
abbrev ww_Walk_beginUnknown (cI cJ cZ : ClassId) (qt : Nat) (qt_symbols : Nat) (qt_held : Nat) (qt_riskDividend : Nat) (qt_riskDivisor : Nat) (qt_symbols_kind : Nat) (qt_symbols_left : Nat) (qt_symbols_right : Nat) (t_risks : Int32) (t_endKind : Int32) (t_endNumber : Int32) (t_endPlace : Int32) (t_endSymbol : Int32) (t_symbols_count : Int32) (t_symbols_kind : Nat → Int32) (t_symbols_left : Nat → Int32) (t_symbols_right : Nat → Int32) (t_held : Nat → Int32) : va_W := [(qt, .inr (3, [.ref qt_symbols, .ref qt_held, .ref qt_riskDividend, .ref qt_riskDivisor, .int t_risks, .int t_endKind, .int t_endNumber, .int t_endPlace, .int t_endSymbol])), (qt_symbols, .inr (2, [.ref qt_symbols_kind, .ref qt_symbols_left, .ref qt_symbols_right, .int t_symbols_count])), (qt_symbols_kind, .inl (cI, 45, .inl t_symbols_kind)), (qt_symbols_left, .inl (cI, 45, .inl t_symbols_left)), (qt_symbols_right, .inl (cI, 45, .inl t_symbols_right)), (qt_held, .inl (cI, 5, .inl t_held))]
def f_Walk_beginUnknown_2 : Nat → Int32 → (Nat → Int32) → (Nat → Int32) → (Nat → Int32) → Int32 → (Nat → Int32) → Option ((Nat → Int32) × (Nat → Int32) × (Nat → Int32) × Int32 × (Nat → Int32))
  | 0, _, _, _, _, _, _ => none
  | n + 1, x1, t_symbols_kind, t_symbols_left, t_symbols_right, t_symbols_count, t_held =>
    if (5 : Int32) ≤ x1 then
      some (t_symbols_kind, t_symbols_left, t_symbols_right, t_symbols_count, t_held)
    else
      (f_Symbols_ofRegister x1 t_symbols_kind t_symbols_left t_symbols_right t_symbols_count).bind fun (rz1, u2, u3, u4, u5) =>
      (wrI t_held 5 x1 rz1).bind fun w6 =>
      (f_Walk_beginUnknown_2  n) (x1 + (1 : Int32)) u2 u3 u4 u5 w6
def f_Walk_beginUnknown (t_symbols_kind : Nat → Int32) (t_symbols_left : Nat → Int32) (t_symbols_right : Nat → Int32) (t_symbols_count : Int32) (t_held : Nat → Int32) : Option ((Nat → Int32) × (Nat → Int32) × (Nat → Int32) × Int32 × (Nat → Int32)) :=
  f_Walk_beginUnknown_2 fu (0 : Int32) t_symbols_kind t_symbols_left t_symbols_right t_symbols_count t_held
abbrev rm_Symbols_ofInt : Room := { frames := 1, cells := 0, slots := 0, locals := 24 }
abbrev ww_Symbols_ofInt (cI cJ cZ : ClassId) (qt : Nat) (qt_kind : Nat) (qt_left : Nat) (qt_right : Nat) (t_count : Int32) (t_kind : Nat → Int32) (t_left : Nat → Int32) (t_right : Nat → Int32) : va_W := [(qt, .inr (2, [.ref qt_kind, .ref qt_left, .ref qt_right, .int t_count])), (qt_kind, .inl (cI, 45, .inl t_kind)), (qt_left, .inl (cI, 45, .inl t_left)), (qt_right, .inl (cI, 45, .inl t_right))]
def f_Symbols_ofInt (p1 : Int32) (t_kind : Nat → Int32) (t_left : Nat → Int32) (t_right : Nat → Int32) (t_count : Int32) : Option (Int32 × (Nat → Int32) × (Nat → Int32) × (Nat → Int32) × Int32) :=
  (f_Symbols_numberOf (1 : Int32) p1 (0 : Int32) t_kind t_left t_right t_count).bind fun (rz1, u2, u3, u4, u5) =>
  some (rz1, u2, u3, u4, u5)
abbrev rm_Symbols_holdsInt : Room := { frames := 0, cells := 0, slots := 0, locals := 0 }
abbrev ww_Symbols_holdsInt (cI cJ cZ : ClassId) (qt : Nat) (qt_kind : Nat) (qt_left : Nat) (qt_right : Nat) (t_count : Int32) (t_kind : Nat → Int32) : va_W := [(qt, .inr (2, [.ref qt_kind, .ref qt_left, .ref qt_right, .int t_count])), (qt_kind, .inl (cI, 45, .inl t_kind))]
def f_Symbols_holdsInt (p1 : Int32) (t_kind : Nat → Int32) : Option (Int32) :=
  (rdI t_kind 45 p1).bind fun v1 =>
  if v1 = (1 : Int32) then
    some (1 : Int32)
  else
    some (0 : Int32)
abbrev rm_Symbols_intOf : Room := { frames := 0, cells := 0, slots := 0, locals := 0 }
abbrev ww_Symbols_intOf (cI cJ cZ : ClassId) (qt : Nat) (qt_kind : Nat) (qt_left : Nat) (qt_right : Nat) (t_count : Int32) (t_left : Nat → Int32) : va_W := [(qt, .inr (2, [.ref qt_kind, .ref qt_left, .ref qt_right, .int t_count])), (qt_left, .inl (cI, 45, .inl t_left))]
def f_Symbols_intOf (p1 : Int32) (t_left : Nat → Int32) : Option (Int32) :=
  (rdI t_left 45 p1).bind fun v1 =>
  some v1
abbrev rm_Symbols_ofOpFolded : Room := { frames := 1, cells := 0, slots := 0, locals := 24 }
abbrev ww_Symbols_ofOpFolded (cI cJ cZ : ClassId) (qt : Nat) (qt_kind : Nat) (qt_left : Nat) (qt_right : Nat) (t_count : Int32) (t_kind : Nat → Int32) (t_left : Nat → Int32) (t_right : Nat → Int32) : va_W := [(qt, .inr (2, [.ref qt_kind, .ref qt_left, .ref qt_right, .int t_count])), (qt_kind, .inl (cI, 45, .inl t_kind)), (qt_left, .inl (cI, 45, .inl t_left)), (qt_right, .inl (cI, 45, .inl t_right))]
def f_Symbols_ofOpFolded_28 (p1 : Int32) (p2 : Int32) (p3 : Int32) (t_kind : Nat → Int32) (t_left : Nat → Int32) (t_right : Nat → Int32) (t_count : Int32) : Option (Int32 × (Nat → Int32) × (Nat → Int32) × (Nat → Int32) × Int32) :=
  (f_Symbols_numberOf p1 p2 p3 t_kind t_left t_right t_count).bind fun (rz1, u2, u3, u4, u5) =>
  some (rz1, u2, u3, u4, u5)
def f_Symbols_ofOpFolded (p1 : Int32) (p2 : Int32) (p3 : Int32) (t_kind : Nat → Int32) (t_left : Nat → Int32) (t_right : Nat → Int32) (t_count : Int32) : Option (Int32 × (Nat → Int32) × (Nat → Int32) × (Nat → Int32) × Int32) :=
  (f_Symbols_holdsInt p2 t_kind).bind fun rz1 =>
  if rz1 = (0 : Int32) then
    f_Symbols_ofOpFolded_28 p1 p2 p3 t_kind t_left t_right t_count
  else
    (f_Symbols_holdsInt p3 t_kind).bind fun rz2 =>
    if rz2 = (0 : Int32) then
      f_Symbols_ofOpFolded_28 p1 p2 p3 t_kind t_left t_right t_count
    else
      (f_Symbols_intOf p3 t_left).bind fun rz3 =>
      (f_BlockCode_dividesByZero p1 rz3).bind fun rz4 =>
      if rz4 = (0 : Int32) then
        (f_Symbols_intOf p2 t_left).bind fun rz5 =>
        (f_Symbols_intOf p3 t_left).bind fun rz6 =>
        (f_BlockCode_combined p1 rz5 rz6).bind fun rz7 =>
        (f_Symbols_numberOf (1 : Int32) rz7 (0 : Int32) t_kind t_left t_right t_count).bind fun (rz8, u9, u10, u11, u12) =>
        some (rz8, u9, u10, u11, u12)
      else
        f_Symbols_ofOpFolded_28 p1 p2 p3 t_kind t_left t_right t_count
abbrev rm_Symbols_ofOp : Room := { frames := 1, cells := 0, slots := 0, locals := 24 }
abbrev ww_Symbols_ofOp (cI cJ cZ : ClassId) (qt : Nat) (qt_kind : Nat) (qt_left : Nat) (qt_right : Nat) (t_count : Int32) (t_kind : Nat → Int32) (t_left : Nat → Int32) (t_right : Nat → Int32) : va_W := [(qt, .inr (2, [.ref qt_kind, .ref qt_left, .ref qt_right, .int t_count])), (qt_kind, .inl (cI, 45, .inl t_kind)), (qt_left, .inl (cI, 45, .inl t_left)), (qt_right, .inl (cI, 45, .inl t_right))]
def f_Symbols_ofOp (p1 : Int32) (p2 : Int32) (p3 : Int32) (t_kind : Nat → Int32) (t_left : Nat → Int32) (t_right : Nat → Int32) (t_count : Int32) : Option (Int32 × (Nat → Int32) × (Nat → Int32) × (Nat → Int32) × Int32) :=
  (f_Symbols_numberOf p1 p2 p3 t_kind t_left t_right t_count).bind fun (rz1, u2, u3, u4, u5) =>
  some (rz1, u2, u3, u4, u5)
abbrev rm_Walk_madeBy : Room := { frames := 2, cells := 0, slots := 0, locals := 47 }
abbrev ww_Walk_madeBy (cI cJ cZ : ClassId) (qt : Nat) (qt_symbols : Nat) (qt_held : Nat) (qt_riskDividend : Nat) (qt_riskDivisor : Nat) (qt_symbols_kind : Nat) (qt_symbols_left : Nat) (qt_symbols_right : Nat) (qr1 : Nat) (qr1_op : Nat) (qr1_d : Nat) (qr1_a : Nat) (qr1_b : Nat) (qr1_need : Nat) (t_risks : Int32) (t_endKind : Int32) (t_endNumber : Int32) (t_endPlace : Int32) (t_endSymbol : Int32) (t_symbols_count : Int32) (t_symbols_kind : Nat → Int32) (t_symbols_left : Nat → Int32) (t_symbols_right : Nat → Int32) (t_held : Nat → Int32) (r1_length : Int32) (r1_leaders : Int32) (r1_op : Nat → Int32) (r1_a : Nat → Int32) (r1_b : Nat → Int32) : va_W := [(qt, .inr (3, [.ref qt_symbols, .ref qt_held, .ref qt_riskDividend, .ref qt_riskDivisor, .int t_risks, .int t_endKind, .int t_endNumber, .int t_endPlace, .int t_endSymbol])), (qt_symbols, .inr (2, [.ref qt_symbols_kind, .ref qt_symbols_left, .ref qt_symbols_right, .int t_symbols_count])), (qt_symbols_kind, .inl (cI, 45, .inl t_symbols_kind)), (qt_symbols_left, .inl (cI, 45, .inl t_symbols_left)), (qt_symbols_right, .inl (cI, 45, .inl t_symbols_right)), (qt_held, .inl (cI, 5, .inl t_held)), (qr1, .inr (0, [.ref qr1_op, .ref qr1_d, .ref qr1_a, .ref qr1_b, .ref qr1_need, .int r1_length, .int r1_leaders])), (qr1_op, .inl (cI, 20, .inl r1_op)), (qr1_a, .inl (cI, 20, .inl r1_a)), (qr1_b, .inl (cI, 20, .inl r1_b))]
def f_Walk_madeBy (p2 : Int32) (p3 : Int32) (t_held : Nat → Int32) (r1_op : Nat → Int32) (r1_a : Nat → Int32) (r1_b : Nat → Int32) (t_symbols_kind : Nat → Int32) (t_symbols_left : Nat → Int32) (t_symbols_right : Nat → Int32) (t_symbols_count : Int32) : Option (Int32 × (Nat → Int32) × (Nat → Int32) × (Nat → Int32) × Int32) :=
  (rdI r1_op 20 p2).bind fun v1 =>
  if v1 = (1 : Int32) then
    (rdI r1_a 20 p2).bind fun v16 =>
    (f_Symbols_ofInt v16 t_symbols_kind t_symbols_left t_symbols_right t_symbols_count).bind fun (rz17, u18, u19, u20, u21) =>
    some (rz17, u18, u19, u20, u21)
  else
    (rdI r1_a 20 p2).bind fun v2 =>
    (rdI t_held 5 v2).bind fun v3 =>
    if v1 = (2 : Int32) then
      some (v3, t_symbols_kind, t_symbols_left, t_symbols_right, t_symbols_count)
    else
      (rdI r1_b 20 p2).bind fun v4 =>
      (rdI t_held 5 v4).bind fun v5 =>
      if p3 = (0 : Int32) then
        (f_Symbols_ofOp v1 v3 v5 t_symbols_kind t_symbols_left t_symbols_right t_symbols_count).bind fun (rz6, u7, u8, u9, u10) =>
        some (rz6, u7, u8, u9, u10)
      else
        (f_Symbols_ofOpFolded v1 v3 v5 t_symbols_kind t_symbols_left t_symbols_right t_symbols_count).bind fun (rz11, u12, u13, u14, u15) =>
        some (rz11, u12, u13, u14, u15)
abbrev rm_Walk_leastHolder : Room := { frames := 0, cells := 0, slots := 0, locals := 0 }
abbrev ww_Walk_leastHolder (cI cJ cZ : ClassId) (qt : Nat) (qt_symbols : Nat) (qt_held : Nat) (qt_riskDividend : Nat) (qt_riskDivisor : Nat) (t_risks : Int32) (t_endKind : Int32) (t_endNumber : Int32) (t_endPlace : Int32) (t_endSymbol : Int32) (t_held : Nat → Int32) : va_W := [(qt, .inr (3, [.ref qt_symbols, .ref qt_held, .ref qt_riskDividend, .ref qt_riskDivisor, .int t_risks, .int t_endKind, .int t_endNumber, .int t_endPlace, .int t_endSymbol])), (qt_held, .inl (cI, 5, .inl t_held))]
def f_Walk_leastHolder_2 (p1 : Int32) (t_held : Nat → Int32) : Nat → Int32 → Option (Int32)
  | 0, _ => none
  | n + 1, x2 =>
    if (5 : Int32) ≤ x2 then
      some (-1 : Int32)
    else
      (rdI t_held 5 x2).bind fun v1 =>
      if v1 = p1 then
        some x2
      else
        (f_Walk_leastHolder_2 p1 t_held n) (x2 + (1 : Int32))
def f_Walk_leastHolder (p1 : Int32) (t_held : Nat → Int32) : Option (Int32) :=
  f_Walk_leastHolder_2 p1 t_held fu (0 : Int32)
abbrev rm_BlockCode_putRepeat : Room := { frames := 3, cells := 0, slots := 0, locals := 73 }
abbrev ww_BlockCode_putRepeat (cI cJ cZ : ClassId) (qt : Nat) (qt_sourceCode : Nat) (qt_resultCode : Nat) (qt_facts : Nat) (qt_symbols : Nat) (qt_sourceWalk : Nat) (qt_resultWalk : Nat) (qt_machine : Nat) (qt_sourceCode_op : Nat) (qt_sourceCode_d : Nat) (qt_sourceCode_a : Nat) (qt_sourceCode_b : Nat) (qt_sourceCode_need : Nat) (qt_resultCode_op : Nat) (qt_resultCode_d : Nat) (qt_resultCode_a : Nat) (qt_resultCode_b : Nat) (qt_resultCode_need : Nat) (qt_symbols_kind : Nat) (qt_symbols_left : Nat) (qt_symbols_right : Nat) (qt_sourceWalk_held : Nat) (qt_sourceWalk_riskDividend : Nat) (qt_sourceWalk_riskDivisor : Nat) (t_sealed : Int32) (t_foundAlike : Int32) (t_sourceCode_length : Int32) (t_sourceCode_leaders : Int32) (t_sourceCode_op : Nat → Int32) (t_sourceCode_d : Nat → Int32) (t_sourceCode_a : Nat → Int32) (t_sourceCode_b : Nat → Int32) (t_resultCode_length : Int32) (t_resultCode_leaders : Int32) (t_resultCode_op : Nat → Int32) (t_resultCode_d : Nat → Int32) (t_resultCode_a : Nat → Int32) (t_resultCode_b : Nat → Int32) (t_symbols_count : Int32) (t_symbols_kind : Nat → Int32) (t_symbols_left : Nat → Int32) (t_symbols_right : Nat → Int32) (t_sourceWalk_risks : Int32) (t_sourceWalk_endKind : Int32) (t_sourceWalk_endNumber : Int32) (t_sourceWalk_endPlace : Int32) (t_sourceWalk_endSymbol : Int32) (t_sourceWalk_held : Nat → Int32) : va_W := [(qt, .inr (5, [.ref qt_sourceCode, .ref qt_resultCode, .ref qt_facts, .ref qt_symbols, .ref qt_sourceWalk, .ref qt_resultWalk, .ref qt_machine, .int t_sealed, .int t_foundAlike])), (qt_sourceCode, .inr (0, [.ref qt_sourceCode_op, .ref qt_sourceCode_d, .ref qt_sourceCode_a, .ref qt_sourceCode_b, .ref qt_sourceCode_need, .int t_sourceCode_length, .int t_sourceCode_leaders])), (qt_sourceCode_op, .inl (cI, 20, .inl t_sourceCode_op)), (qt_sourceCode_d, .inl (cI, 20, .inl t_sourceCode_d)), (qt_sourceCode_a, .inl (cI, 20, .inl t_sourceCode_a)), (qt_sourceCode_b, .inl (cI, 20, .inl t_sourceCode_b)), (qt_resultCode, .inr (0, [.ref qt_resultCode_op, .ref qt_resultCode_d, .ref qt_resultCode_a, .ref qt_resultCode_b, .ref qt_resultCode_need, .int t_resultCode_length, .int t_resultCode_leaders])), (qt_resultCode_op, .inl (cI, 20, .inl t_resultCode_op)), (qt_resultCode_d, .inl (cI, 20, .inl t_resultCode_d)), (qt_resultCode_a, .inl (cI, 20, .inl t_resultCode_a)), (qt_resultCode_b, .inl (cI, 20, .inl t_resultCode_b)), (qt_symbols, .inr (2, [.ref qt_symbols_kind, .ref qt_symbols_left, .ref qt_symbols_right, .int t_symbols_count])), (qt_symbols_kind, .inl (cI, 45, .inl t_symbols_kind)), (qt_symbols_left, .inl (cI, 45, .inl t_symbols_left)), (qt_symbols_right, .inl (cI, 45, .inl t_symbols_right)), (qt_sourceWalk, .inr (3, [.ref qt_symbols, .ref qt_sourceWalk_held, .ref qt_sourceWalk_riskDividend, .ref qt_sourceWalk_riskDivisor, .int t_sourceWalk_risks, .int t_sourceWalk_endKind, .int t_sourceWalk_endNumber, .int t_sourceWalk_endPlace, .int t_sourceWalk_endSymbol])), (qt_sourceWalk_held, .inl (cI, 5, .inl t_sourceWalk_held))]
def f_BlockCode_putRepeat (p1 : Int32) (t_sourceCode_op : Nat → Int32) (t_sourceCode_d : Nat → Int32) (t_sourceCode_a : Nat → Int32) (t_sourceCode_b : Nat → Int32) (t_sourceWalk_held : Nat → Int32) (t_resultCode_op : Nat → Int32) (t_resultCode_d : Nat → Int32) (t_resultCode_a : Nat → Int32) (t_resultCode_b : Nat → Int32) (t_symbols_kind : Nat → Int32) (t_symbols_left : Nat → Int32) (t_symbols_right : Nat → Int32) (t_symbols_count : Int32) : Option ((Nat → Int32) × (Nat → Int32) × (Nat → Int32) × (Nat → Int32) × (Nat → Int32) × (Nat → Int32) × (Nat → Int32) × Int32) :=
  (rdI t_sourceCode_op 20 p1).bind fun v1 =>
  (f_BlockCode_combines v1).bind fun rz2 =>
  if rz2 = (0 : Int32) then
    some (t_resultCode_op, t_resultCode_d, t_resultCode_a, t_resultCode_b, t_symbols_kind, t_symbols_left, t_symbols_right, t_symbols_count)
  else
    (f_Walk_madeBy p1 (0 : Int32) t_sourceWalk_held t_sourceCode_op t_sourceCode_a t_sourceCode_b t_symbols_kind t_symbols_left t_symbols_right t_symbols_count).bind fun (rz3, u4, u5, u6, u7) =>
    (f_Walk_leastHolder rz3 t_sourceWalk_held).bind fun rz8 =>
    (rdI t_sourceCode_d 20 p1).bind fun v9 =>
    if rz8 = v9 then
      (f_Code_put p1 (0 : Int32) (0 : Int32) (0 : Int32) (0 : Int32) t_resultCode_op t_resultCode_d t_resultCode_a t_resultCode_b).bind fun (u15, u16, u17, u18) =>
      some (u15, u16, u17, u18, u4, u5, u6, u7)
    else
      if rz8 < (0 : Int32) then
        some (t_resultCode_op, t_resultCode_d, t_resultCode_a, t_resultCode_b, u4, u5, u6, u7)
      else
        (rdI t_sourceCode_d 20 p1).bind fun v10 =>
        (f_Code_put p1 (2 : Int32) v10 rz8 (0 : Int32) t_resultCode_op t_resultCode_d t_resultCode_a t_resultCode_b).bind fun (u11, u12, u13, u14) =>
        some (u11, u12, u13, u14, u4, u5, u6, u7)
abbrev rm_Walk_follow : Room := { frames := 3, cells := 0, slots := 0, locals := 73 }
abbrev ww_Walk_follow (cI cJ cZ : ClassId) (qt : Nat) (qt_symbols : Nat) (qt_held : Nat) (qt_riskDividend : Nat) (qt_riskDivisor : Nat) (qt_symbols_kind : Nat) (qt_symbols_left : Nat) (qt_symbols_right : Nat) (qr1 : Nat) (qr1_op : Nat) (qr1_d : Nat) (qr1_a : Nat) (qr1_b : Nat) (qr1_need : Nat) (t_risks : Int32) (t_endKind : Int32) (t_endNumber : Int32) (t_endPlace : Int32) (t_endSymbol : Int32) (t_symbols_count : Int32) (t_symbols_kind : Nat → Int32) (t_symbols_left : Nat → Int32) (t_symbols_right : Nat → Int32) (t_held : Nat → Int32) (r1_length : Int32) (r1_leaders : Int32) (r1_op : Nat → Int32) (r1_d : Nat → Int32) (r1_a : Nat → Int32) (r1_b : Nat → Int32) : va_W := [(qt, .inr (3, [.ref qt_symbols, .ref qt_held, .ref qt_riskDividend, .ref qt_riskDivisor, .int t_risks, .int t_endKind, .int t_endNumber, .int t_endPlace, .int t_endSymbol])), (qt_symbols, .inr (2, [.ref qt_symbols_kind, .ref qt_symbols_left, .ref qt_symbols_right, .int t_symbols_count])), (qt_symbols_kind, .inl (cI, 45, .inl t_symbols_kind)), (qt_symbols_left, .inl (cI, 45, .inl t_symbols_left)), (qt_symbols_right, .inl (cI, 45, .inl t_symbols_right)), (qt_held, .inl (cI, 5, .inl t_held)), (qr1, .inr (0, [.ref qr1_op, .ref qr1_d, .ref qr1_a, .ref qr1_b, .ref qr1_need, .int r1_length, .int r1_leaders])), (qr1_op, .inl (cI, 20, .inl r1_op)), (qr1_d, .inl (cI, 20, .inl r1_d)), (qr1_a, .inl (cI, 20, .inl r1_a)), (qr1_b, .inl (cI, 20, .inl r1_b))]
def f_Walk_follow (p2 : Int32) (p3 : Int32) (r1_op : Nat → Int32) (r1_d : Nat → Int32) (r1_a : Nat → Int32) (r1_b : Nat → Int32) (t_symbols_kind : Nat → Int32) (t_symbols_left : Nat → Int32) (t_symbols_right : Nat → Int32) (t_symbols_count : Int32) (t_held : Nat → Int32) : Option ((Nat → Int32) × (Nat → Int32) × (Nat → Int32) × Int32 × (Nat → Int32)) :=
  (rdI r1_op 20 p2).bind fun v1 =>
  (f_BlockCode_makesRegister v1).bind fun rz2 =>
  if rz2 = (0 : Int32) then
    some (t_symbols_kind, t_symbols_left, t_symbols_right, t_symbols_count, t_held)
  else
    (rdI r1_d 20 p2).bind fun v3 =>
    (f_Walk_madeBy p2 p3 t_held r1_op r1_a r1_b t_symbols_kind t_symbols_left t_symbols_right t_symbols_count).bind fun (rz4, u5, u6, u7, u8) =>
    (wrI t_held 5 v3 rz4).bind fun w9 =>
    some (u5, u6, u7, u8, w9)
abbrev rm_BlockCode_repeats : Room := { frames := 4, cells := 0, slots := 0, locals := 96 }
abbrev ww_BlockCode_repeats (cI cJ cZ : ClassId) (qt : Nat) (qt_sourceCode : Nat) (qt_resultCode : Nat) (qt_facts : Nat) (qt_symbols : Nat) (qt_sourceWalk : Nat) (qt_resultWalk : Nat) (qt_machine : Nat) (qt_sourceCode_op : Nat) (qt_sourceCode_d : Nat) (qt_sourceCode_a : Nat) (qt_sourceCode_b : Nat) (qt_sourceCode_need : Nat) (qt_resultCode_op : Nat) (qt_resultCode_d : Nat) (qt_resultCode_a : Nat) (qt_resultCode_b : Nat) (qt_resultCode_need : Nat) (qt_symbols_kind : Nat) (qt_symbols_left : Nat) (qt_symbols_right : Nat) (qt_sourceWalk_held : Nat) (qt_sourceWalk_riskDividend : Nat) (qt_sourceWalk_riskDivisor : Nat) (t_sealed : Int32) (t_foundAlike : Int32) (t_sourceCode_length : Int32) (t_sourceCode_leaders : Int32) (t_sourceCode_op : Nat → Int32) (t_sourceCode_d : Nat → Int32) (t_sourceCode_a : Nat → Int32) (t_sourceCode_b : Nat → Int32) (t_resultCode_length : Int32) (t_resultCode_leaders : Int32) (t_resultCode_op : Nat → Int32) (t_resultCode_d : Nat → Int32) (t_resultCode_a : Nat → Int32) (t_resultCode_b : Nat → Int32) (t_symbols_count : Int32) (t_symbols_kind : Nat → Int32) (t_symbols_left : Nat → Int32) (t_symbols_right : Nat → Int32) (t_sourceWalk_risks : Int32) (t_sourceWalk_endKind : Int32) (t_sourceWalk_endNumber : Int32) (t_sourceWalk_endPlace : Int32) (t_sourceWalk_endSymbol : Int32) (t_sourceWalk_held : Nat → Int32) : va_W := [(qt, .inr (5, [.ref qt_sourceCode, .ref qt_resultCode, .ref qt_facts, .ref qt_symbols, .ref qt_sourceWalk, .ref qt_resultWalk, .ref qt_machine, .int t_sealed, .int t_foundAlike])), (qt_sourceCode, .inr (0, [.ref qt_sourceCode_op, .ref qt_sourceCode_d, .ref qt_sourceCode_a, .ref qt_sourceCode_b, .ref qt_sourceCode_need, .int t_sourceCode_length, .int t_sourceCode_leaders])), (qt_sourceCode_op, .inl (cI, 20, .inl t_sourceCode_op)), (qt_sourceCode_d, .inl (cI, 20, .inl t_sourceCode_d)), (qt_sourceCode_a, .inl (cI, 20, .inl t_sourceCode_a)), (qt_sourceCode_b, .inl (cI, 20, .inl t_sourceCode_b)), (qt_resultCode, .inr (0, [.ref qt_resultCode_op, .ref qt_resultCode_d, .ref qt_resultCode_a, .ref qt_resultCode_b, .ref qt_resultCode_need, .int t_resultCode_length, .int t_resultCode_leaders])), (qt_resultCode_op, .inl (cI, 20, .inl t_resultCode_op)), (qt_resultCode_d, .inl (cI, 20, .inl t_resultCode_d)), (qt_resultCode_a, .inl (cI, 20, .inl t_resultCode_a)), (qt_resultCode_b, .inl (cI, 20, .inl t_resultCode_b)), (qt_symbols, .inr (2, [.ref qt_symbols_kind, .ref qt_symbols_left, .ref qt_symbols_right, .int t_symbols_count])), (qt_symbols_kind, .inl (cI, 45, .inl t_symbols_kind)), (qt_symbols_left, .inl (cI, 45, .inl t_symbols_left)), (qt_symbols_right, .inl (cI, 45, .inl t_symbols_right)), (qt_sourceWalk, .inr (3, [.ref qt_symbols, .ref qt_sourceWalk_held, .ref qt_sourceWalk_riskDividend, .ref qt_sourceWalk_riskDivisor, .int t_sourceWalk_risks, .int t_sourceWalk_endKind, .int t_sourceWalk_endNumber, .int t_sourceWalk_endPlace, .int t_sourceWalk_endSymbol])), (qt_sourceWalk_held, .inl (cI, 5, .inl t_sourceWalk_held))]
def f_BlockCode_repeats_46 (t_sourceCode_op : Nat → Int32) (t_sourceCode_d : Nat → Int32) (t_sourceCode_a : Nat → Int32) (t_sourceCode_b : Nat → Int32) (t_sourceCode_length : Int32) (t_sourceCode_leaders : Int32) (t_sealed : Int32) (k10 : Int32 → (Nat → Int32) → (Nat → Int32) → (Nat → Int32) → (Nat → Int32) → Int32 → (Nat → Int32) → (Nat → Int32) → (Nat → Int32) → Int32 → (Nat → Int32) → Int32 → Option (Int32 × (Nat → Int32) × (Nat → Int32) × (Nat → Int32) × (Nat → Int32) × Int32 × (Nat → Int32) × (Nat → Int32) × (Nat → Int32) × Int32 × (Nat → Int32) × Int32)) (x1 : Int32) (t_resultCode_op : Nat → Int32) (t_resultCode_d : Nat → Int32) (t_resultCode_a : Nat → Int32) (t_resultCode_b : Nat → Int32) (t_resultCode_length : Int32) (t_symbols_kind : Nat → Int32) (t_symbols_left : Nat → Int32) (t_symbols_right : Nat → Int32) (t_symbols_count : Int32) (t_sourceWalk_held : Nat → Int32) (t_foundAlike : Int32) : Option (Int32 × (Nat → Int32) × (Nat → Int32) × (Nat → Int32) × (Nat → Int32) × Int32 × (Nat → Int32) × (Nat → Int32) × (Nat → Int32) × Int32 × (Nat → Int32) × Int32) :=
  (f_BlockCode_putRepeat x1 t_sourceCode_op t_sourceCode_d t_sourceCode_a t_sourceCode_b t_sourceWalk_held t_resultCode_op t_resultCode_d t_resultCode_a t_resultCode_b t_symbols_kind t_symbols_left t_symbols_right t_symbols_count).bind fun (u1, u2, u3, u4, u5, u6, u7, u8) =>
  (f_Walk_follow x1 (0 : Int32) t_sourceCode_op t_sourceCode_d t_sourceCode_a t_sourceCode_b u5 u6 u7 u8 t_sourceWalk_held).bind fun (u9, u10, u11, u12, u13) =>
  k10 (x1 + (1 : Int32)) u1 u2 u3 u4 t_resultCode_length u9 u10 u11 u12 u13 t_foundAlike
def f_BlockCode_repeats_10 (t_sourceCode_op : Nat → Int32) (t_sourceCode_d : Nat → Int32) (t_sourceCode_a : Nat → Int32) (t_sourceCode_b : Nat → Int32) (t_sourceCode_length : Int32) (t_sourceCode_leaders : Int32) (t_sealed : Int32) : Nat → Int32 → (Nat → Int32) → (Nat → Int32) → (Nat → Int32) → (Nat → Int32) → Int32 → (Nat → Int32) → (Nat → Int32) → (Nat → Int32) → Int32 → (Nat → Int32) → Int32 → Option (Int32 × (Nat → Int32) × (Nat → Int32) × (Nat → Int32) × (Nat → Int32) × Int32 × (Nat → Int32) × (Nat → Int32) × (Nat → Int32) × Int32 × (Nat → Int32) × Int32)
  | 0, _, _, _, _, _, _, _, _, _, _, _, _ => none
  | n + 1, x1, t_resultCode_op, t_resultCode_d, t_resultCode_a, t_resultCode_b, t_resultCode_length, t_symbols_kind, t_symbols_left, t_symbols_right, t_symbols_count, t_sourceWalk_held, t_foundAlike =>
    if t_sourceCode_length ≤ x1 then
      (f_Code_differencesFrom t_resultCode_op t_resultCode_d t_resultCode_a t_resultCode_b t_resultCode_length t_sourceCode_op t_sourceCode_d t_sourceCode_a t_sourceCode_b).bind fun rz1 =>
      some (rz1, t_resultCode_op, t_resultCode_d, t_resultCode_a, t_resultCode_b, t_resultCode_length, t_symbols_kind, t_symbols_left, t_symbols_right, t_symbols_count, t_sourceWalk_held, t_foundAlike)
    else
      (f_Code_isLeader x1 t_sourceCode_leaders).bind fun rz2 =>
      if rz2 = (0 : Int32) then
        f_BlockCode_repeats_46 t_sourceCode_op t_sourceCode_d t_sourceCode_a t_sourceCode_b t_sourceCode_length t_sourceCode_leaders t_sealed (f_BlockCode_repeats_10 t_sourceCode_op t_sourceCode_d t_sourceCode_a t_sourceCode_b t_sourceCode_length t_sourceCode_leaders t_sealed n) x1 t_resultCode_op t_resultCode_d t_resultCode_a t_resultCode_b t_resultCode_length t_symbols_kind t_symbols_left t_symbols_right t_symbols_count t_sourceWalk_held t_foundAlike
      else
        (f_Symbols_forget t_symbols_count).bind fun u3 =>
        (f_Walk_beginUnknown t_symbols_kind t_symbols_left t_symbols_right u3 t_sourceWalk_held).bind fun (u4, u5, u6, u7, u8) =>
        f_BlockCode_repeats_46 t_sourceCode_op t_sourceCode_d t_sourceCode_a t_sourceCode_b t_sourceCode_length t_sourceCode_leaders t_sealed (f_BlockCode_repeats_10 t_sourceCode_op t_sourceCode_d t_sourceCode_a t_sourceCode_b t_sourceCode_length t_sourceCode_leaders t_sealed n) x1 t_resultCode_op t_resultCode_d t_resultCode_a t_resultCode_b t_resultCode_length u4 u5 u6 u7 u8 t_foundAlike
def f_BlockCode_repeats (t_sourceCode_op : Nat → Int32) (t_sourceCode_d : Nat → Int32) (t_sourceCode_a : Nat → Int32) (t_sourceCode_b : Nat → Int32) (t_sourceCode_length : Int32) (t_sourceCode_leaders : Int32) (t_sealed : Int32) (t_resultCode_op : Nat → Int32) (t_resultCode_d : Nat → Int32) (t_resultCode_a : Nat → Int32) (t_resultCode_b : Nat → Int32) (t_resultCode_length : Int32) (t_symbols_kind : Nat → Int32) (t_symbols_left : Nat → Int32) (t_symbols_right : Nat → Int32) (t_symbols_count : Int32) (t_sourceWalk_held : Nat → Int32) (t_foundAlike : Int32) : Option (Int32 × (Nat → Int32) × (Nat → Int32) × (Nat → Int32) × (Nat → Int32) × Int32 × (Nat → Int32) × (Nat → Int32) × (Nat → Int32) × Int32 × (Nat → Int32) × Int32) :=
  (f_BlockCode_requireSealed t_sealed).bind fun _ =>
  (f_BlockCode_resultBecomesSource t_sourceCode_op t_sourceCode_d t_sourceCode_a t_sourceCode_b t_sourceCode_length t_resultCode_op t_resultCode_d t_resultCode_a t_resultCode_b t_resultCode_length t_foundAlike).bind fun (u1, u2, u3, u4, u5, u6) =>
  f_BlockCode_repeats_10 t_sourceCode_op t_sourceCode_d t_sourceCode_a t_sourceCode_b t_sourceCode_length t_sourceCode_leaders t_sealed fu (0 : Int32) u1 u2 u3 u4 u5 t_symbols_kind t_symbols_left t_symbols_right t_symbols_count t_sourceWalk_held u6
abbrev rm_BlockCode_unneeded : Room := { frames := 4, cells := 0, slots := 0, locals := 87 }
abbrev ww_BlockCode_unneeded (cI cJ cZ : ClassId) (qt : Nat) (qt_sourceCode : Nat) (qt_resultCode : Nat) (qt_facts : Nat) (qt_symbols : Nat) (qt_sourceWalk : Nat) (qt_resultWalk : Nat) (qt_machine : Nat) (qt_sourceCode_op : Nat) (qt_sourceCode_d : Nat) (qt_sourceCode_a : Nat) (qt_sourceCode_b : Nat) (qt_sourceCode_need : Nat) (qt_resultCode_op : Nat) (qt_resultCode_d : Nat) (qt_resultCode_a : Nat) (qt_resultCode_b : Nat) (qt_resultCode_need : Nat) (t_sealed : Int32) (t_foundAlike : Int32) (t_sourceCode_length : Int32) (t_sourceCode_leaders : Int32) (t_sourceCode_op : Nat → Int32) (t_sourceCode_d : Nat → Int32) (t_sourceCode_a : Nat → Int32) (t_sourceCode_b : Nat → Int32) (t_sourceCode_need : Nat → Int32) (t_resultCode_length : Int32) (t_resultCode_leaders : Int32) (t_resultCode_op : Nat → Int32) (t_resultCode_d : Nat → Int32) (t_resultCode_a : Nat → Int32) (t_resultCode_b : Nat → Int32) : va_W := [(qt, .inr (5, [.ref qt_sourceCode, .ref qt_resultCode, .ref qt_facts, .ref qt_symbols, .ref qt_sourceWalk, .ref qt_resultWalk, .ref qt_machine, .int t_sealed, .int t_foundAlike])), (qt_sourceCode, .inr (0, [.ref qt_sourceCode_op, .ref qt_sourceCode_d, .ref qt_sourceCode_a, .ref qt_sourceCode_b, .ref qt_sourceCode_need, .int t_sourceCode_length, .int t_sourceCode_leaders])), (qt_sourceCode_op, .inl (cI, 20, .inl t_sourceCode_op)), (qt_sourceCode_d, .inl (cI, 20, .inl t_sourceCode_d)), (qt_sourceCode_a, .inl (cI, 20, .inl t_sourceCode_a)), (qt_sourceCode_b, .inl (cI, 20, .inl t_sourceCode_b)), (qt_sourceCode_need, .inl (cI, 20, .inl t_sourceCode_need)), (qt_resultCode, .inr (0, [.ref qt_resultCode_op, .ref qt_resultCode_d, .ref qt_resultCode_a, .ref qt_resultCode_b, .ref qt_resultCode_need, .int t_resultCode_length, .int t_resultCode_leaders])), (qt_resultCode_op, .inl (cI, 20, .inl t_resultCode_op)), (qt_resultCode_d, .inl (cI, 20, .inl t_resultCode_d)), (qt_resultCode_a, .inl (cI, 20, .inl t_resultCode_a)), (qt_resultCode_b, .inl (cI, 20, .inl t_resultCode_b))]
def f_BlockCode_unneeded_91 (t_sourceCode_op : Nat → Int32) (t_sourceCode_d : Nat → Int32) (t_sourceCode_a : Nat → Int32) (t_sourceCode_b : Nat → Int32) (t_sourceCode_need : Nat → Int32) (t_sourceCode_length : Int32) (t_sealed : Int32) (k10 : Int32 → (Nat → Int32) → (Nat → Int32) → (Nat → Int32) → (Nat → Int32) → Int32 → Int32 → Option (Int32 × (Nat → Int32) × (Nat → Int32) × (Nat → Int32) × (Nat → Int32) × Int32 × Int32)) (x1 : Int32) (t_resultCode_op : Nat → Int32) (t_resultCode_d : Nat → Int32) (t_resultCode_a : Nat → Int32) (t_resultCode_b : Nat → Int32) (t_resultCode_length : Int32) (t_foundAlike : Int32) : Option (Int32 × (Nat → Int32) × (Nat → Int32) × (Nat → Int32) × (Nat → Int32) × Int32 × Int32) :=
  k10 (x1 + (1 : Int32)) t_resultCode_op t_resultCode_d t_resultCode_a t_resultCode_b t_resultCode_length t_foundAlike
def f_BlockCode_unneeded_49 (t_sourceCode_op : Nat → Int32) (t_sourceCode_d : Nat → Int32) (t_sourceCode_a : Nat → Int32) (t_sourceCode_b : Nat → Int32) (t_sourceCode_need : Nat → Int32) (t_sourceCode_length : Int32) (t_sealed : Int32) (k10 : Int32 → (Nat → Int32) → (Nat → Int32) → (Nat → Int32) → (Nat → Int32) → Int32 → Int32 → Option (Int32 × (Nat → Int32) × (Nat → Int32) × (Nat → Int32) × (Nat → Int32) × Int32 × Int32)) (x1 : Int32) (s0 : Int32) (t_resultCode_op : Nat → Int32) (t_resultCode_d : Nat → Int32) (t_resultCode_a : Nat → Int32) (t_resultCode_b : Nat → Int32) (t_resultCode_length : Int32) (t_foundAlike : Int32) : Option (Int32 × (Nat → Int32) × (Nat → Int32) × (Nat → Int32) × (Nat → Int32) × Int32 × Int32) :=
  if s0 = (0 : Int32) then
    f_BlockCode_unneeded_91 t_sourceCode_op t_sourceCode_d t_sourceCode_a t_sourceCode_b t_sourceCode_need t_sourceCode_length t_sealed k10 x1 t_resultCode_op t_resultCode_d t_resultCode_a t_resultCode_b t_resultCode_length t_foundAlike
  else
    (rdI t_sourceCode_d 20 x1).bind fun v1 =>
    (f_Code_needAt (x1 + (1 : Int32)) t_sourceCode_need t_sourceCode_length).bind fun rz2 =>
    (f_BlockCode_isIn v1 rz2).bind fun rz3 =>
    if rz3 = (0 : Int32) then
      (f_Code_put x1 (0 : Int32) (0 : Int32) (0 : Int32) (0 : Int32) t_resultCode_op t_resultCode_d t_resultCode_a t_resultCode_b).bind fun (u4, u5, u6, u7) =>
      f_BlockCode_unneeded_91 t_sourceCode_op t_sourceCode_d t_sourceCode_a t_sourceCode_b t_sourceCode_need t_sourceCode_length t_sealed k10 x1 u4 u5 u6 u7 t_resultCode_length t_foundAlike
    else
      f_BlockCode_unneeded_91 t_sourceCode_op t_sourceCode_d t_sourceCode_a t_sourceCode_b t_sourceCode_need t_sourceCode_length t_sealed k10 x1 t_resultCode_op t_resultCode_d t_resultCode_a t_resultCode_b t_resultCode_length t_foundAlike
def f_BlockCode_unneeded_48 (t_sourceCode_op : Nat → Int32) (t_sourceCode_d : Nat → Int32) (t_sourceCode_a : Nat → Int32) (t_sourceCode_b : Nat → Int32) (t_sourceCode_need : Nat → Int32) (t_sourceCode_length : Int32) (t_sealed : Int32) (k10 : Int32 → (Nat → Int32) → (Nat → Int32) → (Nat → Int32) → (Nat → Int32) → Int32 → Int32 → Option (Int32 × (Nat → Int32) × (Nat → Int32) × (Nat → Int32) × (Nat → Int32) × Int32 × Int32)) (x1 : Int32) (t_resultCode_op : Nat → Int32) (t_resultCode_d : Nat → Int32) (t_resultCode_a : Nat → Int32) (t_resultCode_b : Nat → Int32) (t_resultCode_length : Int32) (t_foundAlike : Int32) : Option (Int32 × (Nat → Int32) × (Nat → Int32) × (Nat → Int32) × (Nat → Int32) × Int32 × Int32) :=
  f_BlockCode_unneeded_49 t_sourceCode_op t_sourceCode_d t_sourceCode_a t_sourceCode_b t_sourceCode_need t_sourceCode_length t_sealed k10 x1 (0 : Int32) t_resultCode_op t_resultCode_d t_resultCode_a t_resultCode_b t_resultCode_length t_foundAlike
def f_BlockCode_unneeded_10 (t_sourceCode_op : Nat → Int32) (t_sourceCode_d : Nat → Int32) (t_sourceCode_a : Nat → Int32) (t_sourceCode_b : Nat → Int32) (t_sourceCode_need : Nat → Int32) (t_sourceCode_length : Int32) (t_sealed : Int32) : Nat → Int32 → (Nat → Int32) → (Nat → Int32) → (Nat → Int32) → (Nat → Int32) → Int32 → Int32 → Option (Int32 × (Nat → Int32) × (Nat → Int32) × (Nat → Int32) × (Nat → Int32) × Int32 × Int32)
  | 0, _, _, _, _, _, _, _ => none
  | n + 1, x1, t_resultCode_op, t_resultCode_d, t_resultCode_a, t_resultCode_b, t_resultCode_length, t_foundAlike =>
    if t_sourceCode_length ≤ x1 then
      (f_Code_differencesFrom t_resultCode_op t_resultCode_d t_resultCode_a t_resultCode_b t_resultCode_length t_sourceCode_op t_sourceCode_d t_sourceCode_a t_sourceCode_b).bind fun rz1 =>
      some (rz1, t_resultCode_op, t_resultCode_d, t_resultCode_a, t_resultCode_b, t_resultCode_length, t_foundAlike)
    else
      (rdI t_sourceCode_op 20 x1).bind fun v2 =>
      (f_BlockCode_makesRegister v2).bind fun rz3 =>
      if rz3 = (0 : Int32) then
        f_BlockCode_unneeded_48 t_sourceCode_op t_sourceCode_d t_sourceCode_a t_sourceCode_b t_sourceCode_need t_sourceCode_length t_sealed (f_BlockCode_unneeded_10 t_sourceCode_op t_sourceCode_d t_sourceCode_a t_sourceCode_b t_sourceCode_need t_sourceCode_length t_sealed n) x1 t_resultCode_op t_resultCode_d t_resultCode_a t_resultCode_b t_resultCode_length t_foundAlike
      else
        if v2 = (6 : Int32) then
          f_BlockCode_unneeded_48 t_sourceCode_op t_sourceCode_d t_sourceCode_a t_sourceCode_b t_sourceCode_need t_sourceCode_length t_sealed (f_BlockCode_unneeded_10 t_sourceCode_op t_sourceCode_d t_sourceCode_a t_sourceCode_b t_sourceCode_need t_sourceCode_length t_sealed n) x1 t_resultCode_op t_resultCode_d t_resultCode_a t_resultCode_b t_resultCode_length t_foundAlike
        else
          f_BlockCode_unneeded_49 t_sourceCode_op t_sourceCode_d t_sourceCode_a t_sourceCode_b t_sourceCode_need t_sourceCode_length t_sealed (f_BlockCode_unneeded_10 t_sourceCode_op t_sourceCode_d t_sourceCode_a t_sourceCode_b t_sourceCode_need t_sourceCode_length t_sealed n) x1 (1 : Int32) t_resultCode_op t_resultCode_d t_resultCode_a t_resultCode_b t_resultCode_length t_foundAlike
def f_BlockCode_unneeded (t_sourceCode_op : Nat → Int32) (t_sourceCode_d : Nat → Int32) (t_sourceCode_a : Nat → Int32) (t_sourceCode_b : Nat → Int32) (t_sourceCode_need : Nat → Int32) (t_sourceCode_length : Int32) (t_sealed : Int32) (t_resultCode_op : Nat → Int32) (t_resultCode_d : Nat → Int32) (t_resultCode_a : Nat → Int32) (t_resultCode_b : Nat → Int32) (t_resultCode_length : Int32) (t_foundAlike : Int32) : Option (Int32 × (Nat → Int32) × (Nat → Int32) × (Nat → Int32) × (Nat → Int32) × Int32 × Int32) :=
  (f_BlockCode_requireSealed t_sealed).bind fun _ =>
  (f_BlockCode_resultBecomesSource t_sourceCode_op t_sourceCode_d t_sourceCode_a t_sourceCode_b t_sourceCode_length t_resultCode_op t_resultCode_d t_resultCode_a t_resultCode_b t_resultCode_length t_foundAlike).bind fun (u1, u2, u3, u4, u5, u6) =>
  f_BlockCode_unneeded_10 t_sourceCode_op t_sourceCode_d t_sourceCode_a t_sourceCode_b t_sourceCode_need t_sourceCode_length t_sealed fu (0 : Int32) u1 u2 u3 u4 u5 u6
abbrev rm_BlockCode_poke : Room := { frames := 2, cells := 0, slots := 0, locals := 45 }
abbrev ww_BlockCode_poke (cI cJ cZ : ClassId) (qt : Nat) (qt_sourceCode : Nat) (qt_resultCode : Nat) (qt_facts : Nat) (qt_symbols : Nat) (qt_sourceWalk : Nat) (qt_resultWalk : Nat) (qt_machine : Nat) (qt_sourceCode_op : Nat) (qt_sourceCode_d : Nat) (qt_sourceCode_a : Nat) (qt_sourceCode_b : Nat) (qt_sourceCode_need : Nat) (qt_resultCode_op : Nat) (qt_resultCode_d : Nat) (qt_resultCode_a : Nat) (qt_resultCode_b : Nat) (qt_resultCode_need : Nat) (t_sealed : Int32) (t_foundAlike : Int32) (t_sourceCode_length : Int32) (t_sourceCode_leaders : Int32) (t_resultCode_length : Int32) (t_resultCode_leaders : Int32) (t_resultCode_op : Nat → Int32) (t_resultCode_d : Nat → Int32) (t_resultCode_a : Nat → Int32) (t_resultCode_b : Nat → Int32) : va_W := [(qt, .inr (5, [.ref qt_sourceCode, .ref qt_resultCode, .ref qt_facts, .ref qt_symbols, .ref qt_sourceWalk, .ref qt_resultWalk, .ref qt_machine, .int t_sealed, .int t_foundAlike])), (qt_sourceCode, .inr (0, [.ref qt_sourceCode_op, .ref qt_sourceCode_d, .ref qt_sourceCode_a, .ref qt_sourceCode_b, .ref qt_sourceCode_need, .int t_sourceCode_length, .int t_sourceCode_leaders])), (qt_resultCode, .inr (0, [.ref qt_resultCode_op, .ref qt_resultCode_d, .ref qt_resultCode_a, .ref qt_resultCode_b, .ref qt_resultCode_need, .int t_resultCode_length, .int t_resultCode_leaders])), (qt_resultCode_op, .inl (cI, 20, .inl t_resultCode_op)), (qt_resultCode_d, .inl (cI, 20, .inl t_resultCode_d)), (qt_resultCode_a, .inl (cI, 20, .inl t_resultCode_a)), (qt_resultCode_b, .inl (cI, 20, .inl t_resultCode_b))]
def f_BlockCode_poke (p1 : Int32) (p2 : Int32) (p3 : Int32) (p4 : Int32) (p5 : Int32) (t_sourceCode_length : Int32) (t_resultCode_length : Int32) (t_resultCode_op : Nat → Int32) (t_resultCode_d : Nat → Int32) (t_resultCode_a : Nat → Int32) (t_resultCode_b : Nat → Int32) (t_foundAlike : Int32) : Option (Int32 × (Nat → Int32) × (Nat → Int32) × (Nat → Int32) × (Nat → Int32) × Int32) :=
  (f_Code_has p1 t_resultCode_length).bind fun rz1 =>
  if rz1 = (0 : Int32) then
    some ((0 : Int32), t_resultCode_op, t_resultCode_d, t_resultCode_a, t_resultCode_b, t_foundAlike)
  else
    (f_BlockCode_hasForm p2 p3 p4 p5).bind fun rz2 =>
    if rz2 = (0 : Int32) then
      some ((0 : Int32), t_resultCode_op, t_resultCode_d, t_resultCode_a, t_resultCode_b, t_foundAlike)
    else
      (f_BlockCode_namedBy p2 p4 p5).bind fun rz3 =>
      if rz3 < t_sourceCode_length then
        (f_Code_put p1 p2 p3 p4 p5 t_resultCode_op t_resultCode_d t_resultCode_a t_resultCode_b).bind fun (u4, u5, u6, u7) =>
        some ((1 : Int32), u4, u5, u6, u7, (0 : Int32))
      else
        some ((0 : Int32), t_resultCode_op, t_resultCode_d, t_resultCode_a, t_resultCode_b, t_foundAlike)
abbrev rm_Code_lastOfBlock : Room := { frames := 2, cells := 0, slots := 0, locals := 42 }
abbrev ww_Code_lastOfBlock (cI cJ cZ : ClassId) (qt : Nat) (qt_op : Nat) (qt_d : Nat) (qt_a : Nat) (qt_b : Nat) (qt_need : Nat) (t_length : Int32) (t_leaders : Int32) : va_W := [(qt, .inr (0, [.ref qt_op, .ref qt_d, .ref qt_a, .ref qt_b, .ref qt_need, .int t_length, .int t_leaders]))]
def f_Code_lastOfBlock_2 (p1 : Int32) (t_length : Int32) (t_leaders : Int32) : Nat → Int32 → Option (Int32)
  | 0, _ => none
  | n + 1, x2 =>
    if t_length ≤ (x2 + (1 : Int32)) then
      some x2
    else
      (f_Code_isLeader (x2 + (1 : Int32)) t_leaders).bind fun rz1 =>
      if rz1 = (0 : Int32) then
        (f_Code_lastOfBlock_2 p1 t_length t_leaders n) (x2 + (1 : Int32))
      else
        some x2
def f_Code_lastOfBlock (p1 : Int32) (t_length : Int32) (t_leaders : Int32) : Option (Int32) :=
  f_Code_lastOfBlock_2 p1 t_length t_leaders fu p1
abbrev rm_Walk_beginKnown : Room := { frames := 2, cells := 0, slots := 0, locals := 45 }
abbrev ww_Walk_beginKnown (cI cJ cZ : ClassId) (qt : Nat) (qt_symbols : Nat) (qt_held : Nat) (qt_riskDividend : Nat) (qt_riskDivisor : Nat) (qt_symbols_kind : Nat) (qt_symbols_left : Nat) (qt_symbols_right : Nat) (qr1 : Nat) (qr1_before : Nat) (qr1_flowing : Nat) (t_risks : Int32) (t_endKind : Int32) (t_endNumber : Int32) (t_endPlace : Int32) (t_endSymbol : Int32) (t_symbols_count : Int32) (t_symbols_kind : Nat → Int32) (t_symbols_left : Nat → Int32) (t_symbols_right : Nat → Int32) (t_held : Nat → Int32) (r1_before : Nat → Int64) : va_W := [(qt, .inr (3, [.ref qt_symbols, .ref qt_held, .ref qt_riskDividend, .ref qt_riskDivisor, .int t_risks, .int t_endKind, .int t_endNumber, .int t_endPlace, .int t_endSymbol])), (qt_symbols, .inr (2, [.ref qt_symbols_kind, .ref qt_symbols_left, .ref qt_symbols_right, .int t_symbols_count])), (qt_symbols_kind, .inl (cI, 45, .inl t_symbols_kind)), (qt_symbols_left, .inl (cI, 45, .inl t_symbols_left)), (qt_symbols_right, .inl (cI, 45, .inl t_symbols_right)), (qt_held, .inl (cI, 5, .inl t_held)), (qr1, .inr (1, [.ref qr1_before, .ref qr1_flowing])), (qr1_before, .inl (cJ, 100, .inr (.inl r1_before)))]
def f_Walk_beginKnown_54 (p2 : Int32) (r1_before : Nat → Int64) (k7 : Int32 → (Nat → Int32) → (Nat → Int32) → (Nat → Int32) → Int32 → (Nat → Int32) → Int32 → Option ((Nat → Int32) × (Nat → Int32) × (Nat → Int32) × Int32 × (Nat → Int32) × Int32)) (x3 : Int32) (s0 : Int32) (s1 : Int32) (t_symbols_kind : Nat → Int32) (t_symbols_left : Nat → Int32) (t_symbols_right : Nat → Int32) (t_symbols_count : Int32) (t_held : Nat → Int32) (t_risks : Int32) : Option ((Nat → Int32) × (Nat → Int32) × (Nat → Int32) × Int32 × (Nat → Int32) × Int32) :=
  (wrI t_held 5 s1 s0).bind fun w1 =>
  k7 (x3 + (1 : Int32)) t_symbols_kind t_symbols_left t_symbols_right t_symbols_count w1 t_risks
def f_Walk_beginKnown_7 (p2 : Int32) (r1_before : Nat → Int64) : Nat → Int32 → (Nat → Int32) → (Nat → Int32) → (Nat → Int32) → Int32 → (Nat → Int32) → Int32 → Option ((Nat → Int32) × (Nat → Int32) × (Nat → Int32) × Int32 × (Nat → Int32) × Int32)
  | 0, _, _, _, _, _, _, _ => none
  | n + 1, x3, t_symbols_kind, t_symbols_left, t_symbols_right, t_symbols_count, t_held, t_risks =>
    if (5 : Int32) ≤ x3 then
      some (t_symbols_kind, t_symbols_left, t_symbols_right, t_symbols_count, t_held, t_risks)
    else
      (f_Facts_at p2 x3 r1_before).bind fun rz1 =>
      (f_BlockCode_isInt rz1).bind fun rz2 =>
      if rz2 = (0 : Int32) then
        (f_Symbols_ofRegister x3 t_symbols_kind t_symbols_left t_symbols_right t_symbols_count).bind fun (rz3, u4, u5, u6, u7) =>
        f_Walk_beginKnown_54 p2 r1_before (f_Walk_beginKnown_7 p2 r1_before n) x3 rz3 x3 u4 u5 u6 u7 t_held t_risks
      else
        (f_Symbols_ofInt rz1.toInt32 t_symbols_kind t_symbols_left t_symbols_right t_symbols_count).bind fun (rz8, u9, u10, u11, u12) =>
        f_Walk_beginKnown_54 p2 r1_before (f_Walk_beginKnown_7 p2 r1_before n) x3 rz8 x3 u9 u10 u11 u12 t_held t_risks
def f_Walk_beginKnown (p2 : Int32) (r1_before : Nat → Int64) (t_symbols_kind : Nat → Int32) (t_symbols_left : Nat → Int32) (t_symbols_right : Nat → Int32) (t_symbols_count : Int32) (t_held : Nat → Int32) (t_risks : Int32) : Option ((Nat → Int32) × (Nat → Int32) × (Nat → Int32) × Int32 × (Nat → Int32) × Int32) :=
  f_Walk_beginKnown_7 p2 r1_before fu (0 : Int32) t_symbols_kind t_symbols_left t_symbols_right t_symbols_count t_held (0 : Int32)
abbrev rm_Walk_endBy : Room := { frames := 0, cells := 0, slots := 0, locals := 0 }
abbrev ww_Walk_endBy (cI cJ cZ : ClassId) (qt : Nat) (qt_symbols : Nat) (qt_held : Nat) (qt_riskDividend : Nat) (qt_riskDivisor : Nat) (t_risks : Int32) (t_endKind : Int32) (t_endNumber : Int32) (t_endPlace : Int32) (t_endSymbol : Int32) : va_W := [(qt, .inr (3, [.ref qt_symbols, .ref qt_held, .ref qt_riskDividend, .ref qt_riskDivisor, .int t_risks, .int t_endKind, .int t_endNumber, .int t_endPlace, .int t_endSymbol]))]
def f_Walk_endBy (p1 : Int32) (p2 : Int32) (t_endKind : Int32) (t_endNumber : Int32) (t_endPlace : Int32) (t_endSymbol : Int32) : Option (Int32 × Int32 × Int32 × Int32) :=
  some (p1, p2, (0 : Int32), (0 : Int32))
abbrev rm_Walk_endAtBranch : Room := { frames := 1, cells := 0, slots := 0, locals := 22 }
abbrev ww_Walk_endAtBranch (cI cJ cZ : ClassId) (qt : Nat) (qt_symbols : Nat) (qt_held : Nat) (qt_riskDividend : Nat) (qt_riskDivisor : Nat) (qt_symbols_kind : Nat) (qt_symbols_left : Nat) (qt_symbols_right : Nat) (t_risks : Int32) (t_endKind : Int32) (t_endNumber : Int32) (t_endPlace : Int32) (t_endSymbol : Int32) (t_symbols_count : Int32) (t_symbols_kind : Nat → Int32) (t_symbols_left : Nat → Int32) : va_W := [(qt, .inr (3, [.ref qt_symbols, .ref qt_held, .ref qt_riskDividend, .ref qt_riskDivisor, .int t_risks, .int t_endKind, .int t_endNumber, .int t_endPlace, .int t_endSymbol])), (qt_symbols, .inr (2, [.ref qt_symbols_kind, .ref qt_symbols_left, .ref qt_symbols_right, .int t_symbols_count])), (qt_symbols_kind, .inl (cI, 45, .inl t_symbols_kind)), (qt_symbols_left, .inl (cI, 45, .inl t_symbols_left))]
def f_Walk_endAtBranch_32 (p1 : Int32) (p2 : Int32) (p3 : Int32) (t_symbols_kind : Nat → Int32) (t_symbols_left : Nat → Int32) (s0 : Int32) (s1 : Int32) (t_endKind : Int32) (t_endNumber : Int32) (t_endPlace : Int32) (t_endSymbol : Int32) : Option (Int32 × Int32 × Int32 × Int32) :=
  (f_Walk_endBy s1 s0 t_endKind t_endNumber t_endPlace t_endSymbol).bind fun (u1, u2, u3, u4) =>
  some (u1, u2, u3, u4)
def f_Walk_endAtBranch (p1 : Int32) (p2 : Int32) (p3 : Int32) (t_symbols_kind : Nat → Int32) (t_symbols_left : Nat → Int32) (t_endKind : Int32) (t_endNumber : Int32) (t_endPlace : Int32) (t_endSymbol : Int32) : Option (Int32 × Int32 × Int32 × Int32) :=
  (f_Symbols_holdsInt p2 t_symbols_kind).bind fun rz1 =>
  if rz1 = (0 : Int32) then
    if p3 = (p1 + (1 : Int32)) then
      (f_Walk_endBy (8 : Int32) p3 t_endKind t_endNumber t_endPlace t_endSymbol).bind fun (u6, u7, u8, u9) =>
      some (u6, u7, u8, u9)
    else
      (f_Walk_endBy (9 : Int32) p3 t_endKind t_endNumber t_endPlace t_endSymbol).bind fun (u2, u3, u4, u5) =>
      some (u2, u3, p1, p2)
  else
    (f_Symbols_intOf p2 t_symbols_left).bind fun rz10 =>
    if rz10 = (0 : Int32) then
      f_Walk_endAtBranch_32 p1 p2 p3 t_symbols_kind t_symbols_left (p1 + (1 : Int32)) (8 : Int32) t_endKind t_endNumber t_endPlace t_endSymbol
    else
      f_Walk_endAtBranch_32 p1 p2 p3 t_symbols_kind t_symbols_left p3 (8 : Int32) t_endKind t_endNumber t_endPlace t_endSymbol
abbrev rm_Walk_endAt : Room := { frames := 2, cells := 0, slots := 0, locals := 45 }
abbrev ww_Walk_endAt (cI cJ cZ : ClassId) (qt : Nat) (qt_symbols : Nat) (qt_held : Nat) (qt_riskDividend : Nat) (qt_riskDivisor : Nat) (qt_symbols_kind : Nat) (qt_symbols_left : Nat) (qt_symbols_right : Nat) (qr1 : Nat) (qr1_op : Nat) (qr1_d : Nat) (qr1_a : Nat) (qr1_b : Nat) (qr1_need : Nat) (t_risks : Int32) (t_endKind : Int32) (t_endNumber : Int32) (t_endPlace : Int32) (t_endSymbol : Int32) (t_symbols_count : Int32) (t_symbols_kind : Nat → Int32) (t_symbols_left : Nat → Int32) (t_held : Nat → Int32) (r1_length : Int32) (r1_leaders : Int32) (r1_op : Nat → Int32) (r1_a : Nat → Int32) (r1_b : Nat → Int32) : va_W := [(qt, .inr (3, [.ref qt_symbols, .ref qt_held, .ref qt_riskDividend, .ref qt_riskDivisor, .int t_risks, .int t_endKind, .int t_endNumber, .int t_endPlace, .int t_endSymbol])), (qt_symbols, .inr (2, [.ref qt_symbols_kind, .ref qt_symbols_left, .ref qt_symbols_right, .int t_symbols_count])), (qt_symbols_kind, .inl (cI, 45, .inl t_symbols_kind)), (qt_symbols_left, .inl (cI, 45, .inl t_symbols_left)), (qt_held, .inl (cI, 5, .inl t_held)), (qr1, .inr (0, [.ref qr1_op, .ref qr1_d, .ref qr1_a, .ref qr1_b, .ref qr1_need, .int r1_length, .int r1_leaders])), (qr1_op, .inl (cI, 20, .inl r1_op)), (qr1_a, .inl (cI, 20, .inl r1_a)), (qr1_b, .inl (cI, 20, .inl r1_b))]
def f_Walk_endAt (p2 : Int32) (t_symbols_kind : Nat → Int32) (t_symbols_left : Nat → Int32) (t_held : Nat → Int32) (r1_op : Nat → Int32) (r1_a : Nat → Int32) (r1_b : Nat → Int32) (t_endKind : Int32) (t_endNumber : Int32) (t_endPlace : Int32) (t_endSymbol : Int32) : Option (Int32 × Int32 × Int32 × Int32) :=
  (rdI r1_op 20 p2).bind fun v1 =>
  if v1 = (9 : Int32) then
    (rdI r1_a 20 p2).bind fun v8 =>
    (rdI t_held 5 v8).bind fun v9 =>
    (rdI r1_b 20 p2).bind fun v10 =>
    (f_Walk_endAtBranch p2 v9 v10 t_symbols_kind t_symbols_left t_endKind t_endNumber t_endPlace t_endSymbol).bind fun (u11, u12, u13, u14) =>
    some (u11, u12, u13, u14)
  else
    (rdI r1_op 20 p2).bind fun v2 =>
    (rdI r1_a 20 p2).bind fun v3 =>
    (f_Walk_endBy v2 v3 t_endKind t_endNumber t_endPlace t_endSymbol).bind fun (u4, u5, u6, u7) =>
    some (u4, u5, u6, u7)
abbrev rm_Walk_hasRisk : Room := { frames := 0, cells := 0, slots := 0, locals := 0 }
abbrev ww_Walk_hasRisk (cI cJ cZ : ClassId) (qt : Nat) (qt_symbols : Nat) (qt_held : Nat) (qt_riskDividend : Nat) (qt_riskDivisor : Nat) (t_risks : Int32) (t_endKind : Int32) (t_endNumber : Int32) (t_endPlace : Int32) (t_endSymbol : Int32) (t_riskDividend : Nat → Int32) (t_riskDivisor : Nat → Int32) : va_W := [(qt, .inr (3, [.ref qt_symbols, .ref qt_held, .ref qt_riskDividend, .ref qt_riskDivisor, .int t_risks, .int t_endKind, .int t_endNumber, .int t_endPlace, .int t_endSymbol])), (qt_riskDividend, .inl (cI, 20, .inl t_riskDividend)), (qt_riskDivisor, .inl (cI, 20, .inl t_riskDivisor))]
def f_Walk_hasRisk_32 (p1 : Int32) (p2 : Int32) (t_riskDividend : Nat → Int32) (t_riskDivisor : Nat → Int32) (t_risks : Int32) (k2 : Int32 → Option (Int32)) (x3 : Int32) : Option (Int32) :=
  k2 (x3 + (1 : Int32))
def f_Walk_hasRisk_2 (p1 : Int32) (p2 : Int32) (t_riskDividend : Nat → Int32) (t_riskDivisor : Nat → Int32) (t_risks : Int32) : Nat → Int32 → Option (Int32)
  | 0, _ => none
  | n + 1, x3 =>
    if t_risks ≤ x3 then
      some (0 : Int32)
    else
      (rdI t_riskDividend 20 x3).bind fun v1 =>
      if v1 = p1 then
        (rdI t_riskDivisor 20 x3).bind fun v2 =>
        if v2 = p2 then
          some (1 : Int32)
        else
          f_Walk_hasRisk_32 p1 p2 t_riskDividend t_riskDivisor t_risks (f_Walk_hasRisk_2 p1 p2 t_riskDividend t_riskDivisor t_risks n) x3
      else
        f_Walk_hasRisk_32 p1 p2 t_riskDividend t_riskDivisor t_risks (f_Walk_hasRisk_2 p1 p2 t_riskDividend t_riskDivisor t_risks n) x3
def f_Walk_hasRisk (p1 : Int32) (p2 : Int32) (t_riskDividend : Nat → Int32) (t_riskDivisor : Nat → Int32) (t_risks : Int32) : Option (Int32) :=
  f_Walk_hasRisk_2 p1 p2 t_riskDividend t_riskDivisor t_risks fu (0 : Int32)
abbrev rm_Walk_noteRisk : Room := { frames := 1, cells := 0, slots := 0, locals := 23 }
abbrev ww_Walk_noteRisk (cI cJ cZ : ClassId) (qt : Nat) (qt_symbols : Nat) (qt_held : Nat) (qt_riskDividend : Nat) (qt_riskDivisor : Nat) (qt_symbols_kind : Nat) (qt_symbols_left : Nat) (qt_symbols_right : Nat) (qr1 : Nat) (qr1_op : Nat) (qr1_d : Nat) (qr1_a : Nat) (qr1_b : Nat) (qr1_need : Nat) (t_risks : Int32) (t_endKind : Int32) (t_endNumber : Int32) (t_endPlace : Int32) (t_endSymbol : Int32) (t_symbols_count : Int32) (t_symbols_kind : Nat → Int32) (t_symbols_left : Nat → Int32) (t_held : Nat → Int32) (t_riskDividend : Nat → Int32) (t_riskDivisor : Nat → Int32) (r1_length : Int32) (r1_leaders : Int32) (r1_op : Nat → Int32) (r1_a : Nat → Int32) (r1_b : Nat → Int32) : va_W := [(qt, .inr (3, [.ref qt_symbols, .ref qt_held, .ref qt_riskDividend, .ref qt_riskDivisor, .int t_risks, .int t_endKind, .int t_endNumber, .int t_endPlace, .int t_endSymbol])), (qt_symbols, .inr (2, [.ref qt_symbols_kind, .ref qt_symbols_left, .ref qt_symbols_right, .int t_symbols_count])), (qt_symbols_kind, .inl (cI, 45, .inl t_symbols_kind)), (qt_symbols_left, .inl (cI, 45, .inl t_symbols_left)), (qt_held, .inl (cI, 5, .inl t_held)), (qt_riskDividend, .inl (cI, 20, .inl t_riskDividend)), (qt_riskDivisor, .inl (cI, 20, .inl t_riskDivisor)), (qr1, .inr (0, [.ref qr1_op, .ref qr1_d, .ref qr1_a, .ref qr1_b, .ref qr1_need, .int r1_length, .int r1_leaders])), (qr1_op, .inl (cI, 20, .inl r1_op)), (qr1_a, .inl (cI, 20, .inl r1_a)), (qr1_b, .inl (cI, 20, .inl r1_b))]
def f_Walk_noteRisk_62 (p2 : Int32) (t_symbols_kind : Nat → Int32) (t_symbols_left : Nat → Int32) (t_held : Nat → Int32) (r1_op : Nat → Int32) (r1_a : Nat → Int32) (r1_b : Nat → Int32) (x3 : Int32) (x4 : Int32) (t_riskDividend : Nat → Int32) (t_riskDivisor : Nat → Int32) (t_risks : Int32) : Option ((Nat → Int32) × (Nat → Int32) × Int32) :=
  (f_Walk_hasRisk x3 x4 t_riskDividend t_riskDivisor t_risks).bind fun rz1 =>
  if rz1 = (0 : Int32) then
    (wrI t_riskDividend 20 t_risks x3).bind fun w2 =>
    (wrI t_riskDivisor 20 t_risks x4).bind fun w3 =>
    some (w2, w3, (t_risks + (1 : Int32)))
  else
    some (t_riskDividend, t_riskDivisor, t_risks)
def f_Walk_noteRisk (p2 : Int32) (t_symbols_kind : Nat → Int32) (t_symbols_left : Nat → Int32) (t_held : Nat → Int32) (r1_op : Nat → Int32) (r1_a : Nat → Int32) (r1_b : Nat → Int32) (t_riskDividend : Nat → Int32) (t_riskDivisor : Nat → Int32) (t_risks : Int32) : Option ((Nat → Int32) × (Nat → Int32) × Int32) :=
  (rdI r1_op 20 p2).bind fun v1 =>
  if v1 = (6 : Int32) then
    (rdI r1_a 20 p2).bind fun v2 =>
    (rdI t_held 5 v2).bind fun v3 =>
    (rdI r1_b 20 p2).bind fun v4 =>
    (rdI t_held 5 v4).bind fun v5 =>
    (f_Symbols_holdsInt v5 t_symbols_kind).bind fun rz6 =>
    if rz6 = (0 : Int32) then
      f_Walk_noteRisk_62 p2 t_symbols_kind t_symbols_left t_held r1_op r1_a r1_b v3 v5 t_riskDividend t_riskDivisor t_risks
    else
      (f_Symbols_intOf v5 t_symbols_left).bind fun rz7 =>
      if rz7 = (0 : Int32) then
        f_Walk_noteRisk_62 p2 t_symbols_kind t_symbols_left t_held r1_op r1_a r1_b v3 v5 t_riskDividend t_riskDivisor t_risks
      else
        some (t_riskDividend, t_riskDivisor, t_risks)
  else
    some (t_riskDividend, t_riskDivisor, t_risks)
abbrev rm_Walk_goThrough : Room := { frames := 4, cells := 0, slots := 0, locals := 96 }
abbrev ww_Walk_goThrough (cI cJ cZ : ClassId) (qt : Nat) (qt_symbols : Nat) (qt_held : Nat) (qt_riskDividend : Nat) (qt_riskDivisor : Nat) (qt_symbols_kind : Nat) (qt_symbols_left : Nat) (qt_symbols_right : Nat) (qr1 : Nat) (qr1_op : Nat) (qr1_d : Nat) (qr1_a : Nat) (qr1_b : Nat) (qr1_need : Nat) (t_risks : Int32) (t_endKind : Int32) (t_endNumber : Int32) (t_endPlace : Int32) (t_endSymbol : Int32) (t_symbols_count : Int32) (t_symbols_kind : Nat → Int32) (t_symbols_left : Nat → Int32) (t_symbols_right : Nat → Int32) (t_held : Nat → Int32) (t_riskDividend : Nat → Int32) (t_riskDivisor : Nat → Int32) (r1_length : Int32) (r1_leaders : Int32) (r1_op : Nat → Int32) (r1_d : Nat → Int32) (r1_a : Nat → Int32) (r1_b : Nat → Int32) : va_W := [(qt, .inr (3, [.ref qt_symbols, .ref qt_held, .ref qt_riskDividend, .ref qt_riskDivisor, .int t_risks, .int t_endKind, .int t_endNumber, .int t_endPlace, .int t_endSymbol])), (qt_symbols, .inr (2, [.ref qt_symbols_kind, .ref qt_symbols_left, .ref qt_symbols_right, .int t_symbols_count])), (qt_symbols_kind, .inl (cI, 45, .inl t_symbols_kind)), (qt_symbols_left, .inl (cI, 45, .inl t_symbols_left)), (qt_symbols_right, .inl (cI, 45, .inl t_symbols_right)), (qt_held, .inl (cI, 5, .inl t_held)), (qt_riskDividend, .inl (cI, 20, .inl t_riskDividend)), (qt_riskDivisor, .inl (cI, 20, .inl t_riskDivisor)), (qr1, .inr (0, [.ref qr1_op, .ref qr1_d, .ref qr1_a, .ref qr1_b, .ref qr1_need, .int r1_length, .int r1_leaders])), (qr1_op, .inl (cI, 20, .inl r1_op)), (qr1_d, .inl (cI, 20, .inl r1_d)), (qr1_a, .inl (cI, 20, .inl r1_a)), (qr1_b, .inl (cI, 20, .inl r1_b))]
def f_Walk_goThrough_3 (p2 : Int32) (p3 : Int32) (r1_op : Nat → Int32) (r1_d : Nat → Int32) (r1_a : Nat → Int32) (r1_b : Nat → Int32) : Nat → Int32 → (Nat → Int32) → (Nat → Int32) → (Nat → Int32) → Int32 → (Nat → Int32) → (Nat → Int32) → (Nat → Int32) → Int32 → Int32 → Int32 → Int32 → Int32 → Option ((Nat → Int32) × (Nat → Int32) × (Nat → Int32) × Int32 × (Nat → Int32) × (Nat → Int32) × (Nat → Int32) × Int32 × Int32 × Int32 × Int32 × Int32)
  | 0, _, _, _, _, _, _, _, _, _, _, _, _, _ => none
  | n + 1, x4, t_symbols_kind, t_symbols_left, t_symbols_right, t_symbols_count, t_held, t_riskDividend, t_riskDivisor, t_risks, t_endKind, t_endNumber, t_endPlace, t_endSymbol =>
    if p3 < x4 then
      (f_Walk_endBy (8 : Int32) (p3 + (1 : Int32)) t_endKind t_endNumber t_endPlace t_endSymbol).bind fun (u1, u2, u3, u4) =>
      some (t_symbols_kind, t_symbols_left, t_symbols_right, t_symbols_count, t_held, t_riskDividend, t_riskDivisor, t_risks, u1, u2, u3, u4)
    else
      (rdI r1_op 20 x4).bind fun v5 =>
      if v5 < (8 : Int32) then
        (f_Walk_noteRisk x4 t_symbols_kind t_symbols_left t_held r1_op r1_a r1_b t_riskDividend t_riskDivisor t_risks).bind fun (u6, u7, u8) =>
        (f_Walk_follow x4 (1 : Int32) r1_op r1_d r1_a r1_b t_symbols_kind t_symbols_left t_symbols_right t_symbols_count t_held).bind fun (u9, u10, u11, u12, u13) =>
        (f_Walk_goThrough_3 p2 p3 r1_op r1_d r1_a r1_b n) (x4 + (1 : Int32)) u9 u10 u11 u12 u13 u6 u7 u8 t_endKind t_endNumber t_endPlace t_endSymbol
      else
        (f_Walk_endAt x4 t_symbols_kind t_symbols_left t_held r1_op r1_a r1_b t_endKind t_endNumber t_endPlace t_endSymbol).bind fun (u14, u15, u16, u17) =>
        some (t_symbols_kind, t_symbols_left, t_symbols_right, t_symbols_count, t_held, t_riskDividend, t_riskDivisor, t_risks, u14, u15, u16, u17)
def f_Walk_goThrough (p2 : Int32) (p3 : Int32) (r1_op : Nat → Int32) (r1_d : Nat → Int32) (r1_a : Nat → Int32) (r1_b : Nat → Int32) (t_symbols_kind : Nat → Int32) (t_symbols_left : Nat → Int32) (t_symbols_right : Nat → Int32) (t_symbols_count : Int32) (t_held : Nat → Int32) (t_riskDividend : Nat → Int32) (t_riskDivisor : Nat → Int32) (t_risks : Int32) (t_endKind : Int32) (t_endNumber : Int32) (t_endPlace : Int32) (t_endSymbol : Int32) : Option ((Nat → Int32) × (Nat → Int32) × (Nat → Int32) × Int32 × (Nat → Int32) × (Nat → Int32) × (Nat → Int32) × Int32 × Int32 × Int32 × Int32 × Int32) :=
  f_Walk_goThrough_3 p2 p3 r1_op r1_d r1_a r1_b fu p2 t_symbols_kind t_symbols_left t_symbols_right t_symbols_count t_held t_riskDividend t_riskDivisor t_risks t_endKind t_endNumber t_endPlace t_endSymbol
abbrev rm_Walk_hasRisksOf : Room := { frames := 0, cells := 0, slots := 0, locals := 0 }
abbrev ww_Walk_hasRisksOf (cI cJ cZ : ClassId) (qt : Nat) (qt_symbols : Nat) (qt_held : Nat) (qt_riskDividend : Nat) (qt_riskDivisor : Nat) (qr1 : Nat) (qr1_symbols : Nat) (qr1_held : Nat) (qr1_riskDividend : Nat) (qr1_riskDivisor : Nat) (t_risks : Int32) (t_endKind : Int32) (t_endNumber : Int32) (t_endPlace : Int32) (t_endSymbol : Int32) (t_riskDividend : Nat → Int32) (t_riskDivisor : Nat → Int32) (r1_risks : Int32) (r1_endKind : Int32) (r1_endNumber : Int32) (r1_endPlace : Int32) (r1_endSymbol : Int32) (r1_riskDividend : Nat → Int32) (r1_riskDivisor : Nat → Int32) : va_W := [(qt, .inr (3, [.ref qt_symbols, .ref qt_held, .ref qt_riskDividend, .ref qt_riskDivisor, .int t_risks, .int t_endKind, .int t_endNumber, .int t_endPlace, .int t_endSymbol])), (qt_riskDividend, .inl (cI, 20, .inl t_riskDividend)), (qt_riskDivisor, .inl (cI, 20, .inl t_riskDivisor)), (qr1, .inr (3, [.ref qr1_symbols, .ref qr1_held, .ref qr1_riskDividend, .ref qr1_riskDivisor, .int r1_risks, .int r1_endKind, .int r1_endNumber, .int r1_endPlace, .int r1_endSymbol])), (qr1_riskDividend, .inl (cI, 20, .inl r1_riskDividend)), (qr1_riskDivisor, .inl (cI, 20, .inl r1_riskDivisor))]
def f_Walk_hasRisksOf_15 (t_riskDividend : Nat → Int32) (t_riskDivisor : Nat → Int32) (t_risks : Int32) (r1_riskDividend : Nat → Int32) (r1_riskDivisor : Nat → Int32) (r1_risks : Int32) : Nat → Int32 → Option (Int32)
  | 0, _ => none
  | n + 1, x2 =>
    if t_risks ≤ x2 then
      some (1 : Int32)
    else
      (rdI t_riskDividend 20 x2).bind fun v1 =>
      (rdI r1_riskDividend 20 x2).bind fun v2 =>
      if v1 = v2 then
        (rdI t_riskDivisor 20 x2).bind fun v3 =>
        (rdI r1_riskDivisor 20 x2).bind fun v4 =>
        if v3 = v4 then
          (f_Walk_hasRisksOf_15 t_riskDividend t_riskDivisor t_risks r1_riskDividend r1_riskDivisor r1_risks n) (x2 + (1 : Int32))
        else
          some (0 : Int32)
      else
        some (0 : Int32)
def f_Walk_hasRisksOf (t_riskDividend : Nat → Int32) (t_riskDivisor : Nat → Int32) (t_risks : Int32) (r1_riskDividend : Nat → Int32) (r1_riskDivisor : Nat → Int32) (r1_risks : Int32) : Option (Int32) :=
  if t_risks = r1_risks then
    f_Walk_hasRisksOf_15 t_riskDividend t_riskDivisor t_risks r1_riskDividend r1_riskDivisor r1_risks fu (0 : Int32)
  else
    some (0 : Int32)
abbrev rm_Walk_hasEndOf : Room := { frames := 0, cells := 0, slots := 0, locals := 0 }
abbrev ww_Walk_hasEndOf (cI cJ cZ : ClassId) (qt : Nat) (qt_symbols : Nat) (qt_held : Nat) (qt_riskDividend : Nat) (qt_riskDivisor : Nat) (qr1 : Nat) (qr1_symbols : Nat) (qr1_held : Nat) (qr1_riskDividend : Nat) (qr1_riskDivisor : Nat) (t_risks : Int32) (t_endKind : Int32) (t_endNumber : Int32) (t_endPlace : Int32) (t_endSymbol : Int32) (r1_risks : Int32) (r1_endKind : Int32) (r1_endNumber : Int32) (r1_endPlace : Int32) (r1_endSymbol : Int32) : va_W := [(qt, .inr (3, [.ref qt_symbols, .ref qt_held, .ref qt_riskDividend, .ref qt_riskDivisor, .int t_risks, .int t_endKind, .int t_endNumber, .int t_endPlace, .int t_endSymbol])), (qr1, .inr (3, [.ref qr1_symbols, .ref qr1_held, .ref qr1_riskDividend, .ref qr1_riskDivisor, .int r1_risks, .int r1_endKind, .int r1_endNumber, .int r1_endPlace, .int r1_endSymbol]))]
def f_Walk_hasEndOf (t_endKind : Int32) (t_endNumber : Int32) (t_endPlace : Int32) (t_endSymbol : Int32) (r1_endKind : Int32) (r1_endNumber : Int32) (r1_endPlace : Int32) (r1_endSymbol : Int32) : Option (Int32) :=
  if t_endKind = r1_endKind then
    if t_endNumber = r1_endNumber then
      if t_endPlace = r1_endPlace then
        if t_endSymbol = r1_endSymbol then
          some (1 : Int32)
        else
          some (0 : Int32)
      else
        some (0 : Int32)
    else
      some (0 : Int32)
  else
    some (0 : Int32)
abbrev rm_Walk_countingRegisters : Room := { frames := 2, cells := 0, slots := 0, locals := 42 }
abbrev ww_Walk_countingRegisters (cI cJ cZ : ClassId) (qt : Nat) (qt_symbols : Nat) (qt_held : Nat) (qt_riskDividend : Nat) (qt_riskDivisor : Nat) (qr1 : Nat) (qr1_op : Nat) (qr1_d : Nat) (qr1_a : Nat) (qr1_b : Nat) (qr1_need : Nat) (t_risks : Int32) (t_endKind : Int32) (t_endNumber : Int32) (t_endPlace : Int32) (t_endSymbol : Int32) (r1_length : Int32) (r1_leaders : Int32) (r1_need : Nat → Int32) : va_W := [(qt, .inr (3, [.ref qt_symbols, .ref qt_held, .ref qt_riskDividend, .ref qt_riskDivisor, .int t_risks, .int t_endKind, .int t_endNumber, .int t_endPlace, .int t_endSymbol])), (qr1, .inr (0, [.ref qr1_op, .ref qr1_d, .ref qr1_a, .ref qr1_b, .ref qr1_need, .int r1_length, .int r1_leaders])), (qr1_need, .inl (cI, 20, .inl r1_need))]
def f_Walk_countingRegisters (t_endKind : Int32) (t_endNumber : Int32) (t_endPlace : Int32) (r1_need : Nat → Int32) (r1_length : Int32) : Option (Int32) :=
  if t_endKind = (10 : Int32) then
    some t_endNumber
  else
    (f_Code_needAt t_endNumber r1_need r1_length).bind fun rz1 =>
    if t_endKind = (9 : Int32) then
      (f_Code_needAt (t_endPlace + (1 : Int32)) r1_need r1_length).bind fun rz2 =>
      some (rz1 ||| rz2)
    else
      some rz1
abbrev rm_Walk_holdsAlike : Room := { frames := 1, cells := 0, slots := 0, locals := 21 }
abbrev ww_Walk_holdsAlike (cI cJ cZ : ClassId) (qt : Nat) (qt_symbols : Nat) (qt_held : Nat) (qt_riskDividend : Nat) (qt_riskDivisor : Nat) (qr1 : Nat) (qr1_symbols : Nat) (qr1_held : Nat) (qr1_riskDividend : Nat) (qr1_riskDivisor : Nat) (t_risks : Int32) (t_endKind : Int32) (t_endNumber : Int32) (t_endPlace : Int32) (t_endSymbol : Int32) (t_held : Nat → Int32) (r1_risks : Int32) (r1_endKind : Int32) (r1_endNumber : Int32) (r1_endPlace : Int32) (r1_endSymbol : Int32) (r1_held : Nat → Int32) : va_W := [(qt, .inr (3, [.ref qt_symbols, .ref qt_held, .ref qt_riskDividend, .ref qt_riskDivisor, .int t_risks, .int t_endKind, .int t_endNumber, .int t_endPlace, .int t_endSymbol])), (qt_held, .inl (cI, 5, .inl t_held)), (qr1, .inr (3, [.ref qr1_symbols, .ref qr1_held, .ref qr1_riskDividend, .ref qr1_riskDivisor, .int r1_risks, .int r1_endKind, .int r1_endNumber, .int r1_endPlace, .int r1_endSymbol])), (qr1_held, .inl (cI, 5, .inl r1_held))]
def f_Walk_holdsAlike_32 (p2 : Int32) (t_held : Nat → Int32) (r1_held : Nat → Int32) (k2 : Int32 → Option (Int32)) (x3 : Int32) : Option (Int32) :=
  k2 (x3 + (1 : Int32))
def f_Walk_holdsAlike_2 (p2 : Int32) (t_held : Nat → Int32) (r1_held : Nat → Int32) : Nat → Int32 → Option (Int32)
  | 0, _ => none
  | n + 1, x3 =>
    if (5 : Int32) ≤ x3 then
      some (1 : Int32)
    else
      (f_BlockCode_isIn x3 p2).bind fun rz1 =>
      if rz1 = (0 : Int32) then
        f_Walk_holdsAlike_32 p2 t_held r1_held (f_Walk_holdsAlike_2 p2 t_held r1_held n) x3
      else
        (rdI t_held 5 x3).bind fun v2 =>
        (rdI r1_held 5 x3).bind fun v3 =>
        if v2 = v3 then
          f_Walk_holdsAlike_32 p2 t_held r1_held (f_Walk_holdsAlike_2 p2 t_held r1_held n) x3
        else
          some (0 : Int32)
def f_Walk_holdsAlike (p2 : Int32) (t_held : Nat → Int32) (r1_held : Nat → Int32) : Option (Int32) :=
  f_Walk_holdsAlike_2 p2 t_held r1_held fu (0 : Int32)
abbrev rm_BlockCode_isBlockAlike : Room := { frames := 5, cells := 0, slots := 0, locals := 120 }
abbrev ww_BlockCode_isBlockAlike (cI cJ cZ : ClassId) (qt : Nat) (qt_sourceCode : Nat) (qt_resultCode : Nat) (qt_facts : Nat) (qt_symbols : Nat) (qt_sourceWalk : Nat) (qt_resultWalk : Nat) (qt_machine : Nat) (qt_sourceCode_op : Nat) (qt_sourceCode_d : Nat) (qt_sourceCode_a : Nat) (qt_sourceCode_b : Nat) (qt_sourceCode_need : Nat) (qt_resultCode_op : Nat) (qt_resultCode_d : Nat) (qt_resultCode_a : Nat) (qt_resultCode_b : Nat) (qt_resultCode_need : Nat) (qt_facts_before : Nat) (qt_facts_flowing : Nat) (qt_symbols_kind : Nat) (qt_symbols_left : Nat) (qt_symbols_right : Nat) (qt_sourceWalk_held : Nat) (qt_sourceWalk_riskDividend : Nat) (qt_sourceWalk_riskDivisor : Nat) (qt_resultWalk_held : Nat) (qt_resultWalk_riskDividend : Nat) (qt_resultWalk_riskDivisor : Nat) (t_sealed : Int32) (t_foundAlike : Int32) (t_sourceCode_length : Int32) (t_sourceCode_leaders : Int32) (t_sourceCode_op : Nat → Int32) (t_sourceCode_d : Nat → Int32) (t_sourceCode_a : Nat → Int32) (t_sourceCode_b : Nat → Int32) (t_resultCode_length : Int32) (t_resultCode_leaders : Int32) (t_resultCode_op : Nat → Int32) (t_resultCode_d : Nat → Int32) (t_resultCode_a : Nat → Int32) (t_resultCode_b : Nat → Int32) (t_resultCode_need : Nat → Int32) (t_facts_before : Nat → Int64) (t_symbols_count : Int32) (t_symbols_kind : Nat → Int32) (t_symbols_left : Nat → Int32) (t_symbols_right : Nat → Int32) (t_sourceWalk_risks : Int32) (t_sourceWalk_endKind : Int32) (t_sourceWalk_endNumber : Int32) (t_sourceWalk_endPlace : Int32) (t_sourceWalk_endSymbol : Int32) (t_sourceWalk_held : Nat → Int32) (t_sourceWalk_riskDividend : Nat → Int32) (t_sourceWalk_riskDivisor : Nat → Int32) (t_resultWalk_risks : Int32) (t_resultWalk_endKind : Int32) (t_resultWalk_endNumber : Int32) (t_resultWalk_endPlace : Int32) (t_resultWalk_endSymbol : Int32) (t_resultWalk_held : Nat → Int32) (t_resultWalk_riskDividend : Nat → Int32) (t_resultWalk_riskDivisor : Nat → Int32) : va_W := [(qt, .inr (5, [.ref qt_sourceCode, .ref qt_resultCode, .ref qt_facts, .ref qt_symbols, .ref qt_sourceWalk, .ref qt_resultWalk, .ref qt_machine, .int t_sealed, .int t_foundAlike])), (qt_sourceCode, .inr (0, [.ref qt_sourceCode_op, .ref qt_sourceCode_d, .ref qt_sourceCode_a, .ref qt_sourceCode_b, .ref qt_sourceCode_need, .int t_sourceCode_length, .int t_sourceCode_leaders])), (qt_sourceCode_op, .inl (cI, 20, .inl t_sourceCode_op)), (qt_sourceCode_d, .inl (cI, 20, .inl t_sourceCode_d)), (qt_sourceCode_a, .inl (cI, 20, .inl t_sourceCode_a)), (qt_sourceCode_b, .inl (cI, 20, .inl t_sourceCode_b)), (qt_resultCode, .inr (0, [.ref qt_resultCode_op, .ref qt_resultCode_d, .ref qt_resultCode_a, .ref qt_resultCode_b, .ref qt_resultCode_need, .int t_resultCode_length, .int t_resultCode_leaders])), (qt_resultCode_op, .inl (cI, 20, .inl t_resultCode_op)), (qt_resultCode_d, .inl (cI, 20, .inl t_resultCode_d)), (qt_resultCode_a, .inl (cI, 20, .inl t_resultCode_a)), (qt_resultCode_b, .inl (cI, 20, .inl t_resultCode_b)), (qt_resultCode_need, .inl (cI, 20, .inl t_resultCode_need)), (qt_facts, .inr (1, [.ref qt_facts_before, .ref qt_facts_flowing])), (qt_facts_before, .inl (cJ, 100, .inr (.inl t_facts_before))), (qt_symbols, .inr (2, [.ref qt_symbols_kind, .ref qt_symbols_left, .ref qt_symbols_right, .int t_symbols_count])), (qt_symbols_kind, .inl (cI, 45, .inl t_symbols_kind)), (qt_symbols_left, .inl (cI, 45, .inl t_symbols_left)), (qt_symbols_right, .inl (cI, 45, .inl t_symbols_right)), (qt_sourceWalk, .inr (3, [.ref qt_symbols, .ref qt_sourceWalk_held, .ref qt_sourceWalk_riskDividend, .ref qt_sourceWalk_riskDivisor, .int t_sourceWalk_risks, .int t_sourceWalk_endKind, .int t_sourceWalk_endNumber, .int t_sourceWalk_endPlace, .int t_sourceWalk_endSymbol])), (qt_sourceWalk_held, .inl (cI, 5, .inl t_sourceWalk_held)), (qt_sourceWalk_riskDividend, .inl (cI, 20, .inl t_sourceWalk_riskDividend)), (qt_sourceWalk_riskDivisor, .inl (cI, 20, .inl t_sourceWalk_riskDivisor)), (qt_resultWalk, .inr (3, [.ref qt_symbols, .ref qt_resultWalk_held, .ref qt_resultWalk_riskDividend, .ref qt_resultWalk_riskDivisor, .int t_resultWalk_risks, .int t_resultWalk_endKind, .int t_resultWalk_endNumber, .int t_resultWalk_endPlace, .int t_resultWalk_endSymbol])), (qt_resultWalk_held, .inl (cI, 5, .inl t_resultWalk_held)), (qt_resultWalk_riskDividend, .inl (cI, 20, .inl t_resultWalk_riskDividend)), (qt_resultWalk_riskDivisor, .inl (cI, 20, .inl t_resultWalk_riskDivisor))]
def f_BlockCode_isBlockAlike (p1 : Int32) (t_sourceCode_op : Nat → Int32) (t_sourceCode_d : Nat → Int32) (t_sourceCode_a : Nat → Int32) (t_sourceCode_b : Nat → Int32) (t_sourceCode_length : Int32) (t_sourceCode_leaders : Int32) (t_resultCode_op : Nat → Int32) (t_resultCode_d : Nat → Int32) (t_resultCode_a : Nat → Int32) (t_resultCode_b : Nat → Int32) (t_resultCode_need : Nat → Int32) (t_resultCode_length : Int32) (t_facts_before : Nat → Int64) (t_symbols_kind : Nat → Int32) (t_symbols_left : Nat → Int32) (t_symbols_right : Nat → Int32) (t_symbols_count : Int32) (t_sourceWalk_held : Nat → Int32) (t_sourceWalk_riskDividend : Nat → Int32) (t_sourceWalk_riskDivisor : Nat → Int32) (t_sourceWalk_risks : Int32) (t_sourceWalk_endKind : Int32) (t_sourceWalk_endNumber : Int32) (t_sourceWalk_endPlace : Int32) (t_sourceWalk_endSymbol : Int32) (t_resultWalk_held : Nat → Int32) (t_resultWalk_riskDividend : Nat → Int32) (t_resultWalk_riskDivisor : Nat → Int32) (t_resultWalk_risks : Int32) (t_resultWalk_endKind : Int32) (t_resultWalk_endNumber : Int32) (t_resultWalk_endPlace : Int32) (t_resultWalk_endSymbol : Int32) : Option (Int32 × (Nat → Int32) × (Nat → Int32) × (Nat → Int32) × Int32 × (Nat → Int32) × (Nat → Int32) × (Nat → Int32) × Int32 × Int32 × Int32 × Int32 × Int32 × (Nat → Int32) × (Nat → Int32) × (Nat → Int32) × Int32 × Int32 × Int32 × Int32 × Int32) :=
  (f_Code_lastOfBlock p1 t_sourceCode_length t_sourceCode_leaders).bind fun rz1 =>
  (f_Symbols_forget t_symbols_count).bind fun u2 =>
  (f_Walk_beginKnown p1 t_facts_before t_symbols_kind t_symbols_left t_symbols_right u2 t_sourceWalk_held t_sourceWalk_risks).bind fun (u3, u4, u5, u6, u7, u8) =>
  (f_Walk_goThrough p1 rz1 t_sourceCode_op t_sourceCode_d t_sourceCode_a t_sourceCode_b u3 u4 u5 u6 u7 t_sourceWalk_riskDividend t_sourceWalk_riskDivisor u8 t_sourceWalk_endKind t_sourceWalk_endNumber t_sourceWalk_endPlace t_sourceWalk_endSymbol).bind fun (u9, u10, u11, u12, u13, u14, u15, u16, u17, u18, u19, u20) =>
  (f_Walk_beginKnown p1 t_facts_before u9 u10 u11 u12 t_resultWalk_held t_resultWalk_risks).bind fun (u21, u22, u23, u24, u25, u26) =>
  (f_Walk_goThrough p1 rz1 t_resultCode_op t_resultCode_d t_resultCode_a t_resultCode_b u21 u22 u23 u24 u25 t_resultWalk_riskDividend t_resultWalk_riskDivisor u26 t_resultWalk_endKind t_resultWalk_endNumber t_resultWalk_endPlace t_resultWalk_endSymbol).bind fun (u27, u28, u29, u30, u31, u32, u33, u34, u35, u36, u37, u38) =>
  (f_Walk_hasRisksOf u14 u15 u16 u32 u33 u34).bind fun rz39 =>
  if rz39 = (0 : Int32) then
    some ((0 : Int32), u27, u28, u29, u30, u13, u14, u15, u16, u17, u18, u19, u20, u31, u32, u33, u34, u35, u36, u37, u38)
  else
    (f_Walk_hasEndOf u17 u18 u19 u20 u35 u36 u37 u38).bind fun rz40 =>
    if rz40 = (0 : Int32) then
      some ((0 : Int32), u27, u28, u29, u30, u13, u14, u15, u16, u17, u18, u19, u20, u31, u32, u33, u34, u35, u36, u37, u38)
    else
      (f_Walk_countingRegisters u35 u36 u37 t_resultCode_need t_resultCode_length).bind fun rz41 =>
      (f_Walk_holdsAlike rz41 u13 u31).bind fun rz42 =>
      if rz42 = (0 : Int32) then
        some ((0 : Int32), u27, u28, u29, u30, u13, u14, u15, u16, u17, u18, u19, u20, u31, u32, u33, u34, u35, u36, u37, u38)
      else
        some ((1 : Int32), u27, u28, u29, u30, u13, u14, u15, u16, u17, u18, u19, u20, u31, u32, u33, u34, u35, u36, u37, u38)
abbrev rm_BlockCode_compare : Room := { frames := 6, cells := 0, slots := 0, locals := 142 }
abbrev ww_BlockCode_compare (cI cJ cZ : ClassId) (qt : Nat) (qt_sourceCode : Nat) (qt_resultCode : Nat) (qt_facts : Nat) (qt_symbols : Nat) (qt_sourceWalk : Nat) (qt_resultWalk : Nat) (qt_machine : Nat) (qt_sourceCode_op : Nat) (qt_sourceCode_d : Nat) (qt_sourceCode_a : Nat) (qt_sourceCode_b : Nat) (qt_sourceCode_need : Nat) (qt_resultCode_op : Nat) (qt_resultCode_d : Nat) (qt_resultCode_a : Nat) (qt_resultCode_b : Nat) (qt_resultCode_need : Nat) (qt_facts_before : Nat) (qt_facts_flowing : Nat) (qt_symbols_kind : Nat) (qt_symbols_left : Nat) (qt_symbols_right : Nat) (qt_sourceWalk_held : Nat) (qt_sourceWalk_riskDividend : Nat) (qt_sourceWalk_riskDivisor : Nat) (qt_resultWalk_held : Nat) (qt_resultWalk_riskDividend : Nat) (qt_resultWalk_riskDivisor : Nat) (t_sealed : Int32) (t_foundAlike : Int32) (t_sourceCode_length : Int32) (t_sourceCode_leaders : Int32) (t_sourceCode_op : Nat → Int32) (t_sourceCode_d : Nat → Int32) (t_sourceCode_a : Nat → Int32) (t_sourceCode_b : Nat → Int32) (t_resultCode_length : Int32) (t_resultCode_leaders : Int32) (t_resultCode_op : Nat → Int32) (t_resultCode_d : Nat → Int32) (t_resultCode_a : Nat → Int32) (t_resultCode_b : Nat → Int32) (t_resultCode_need : Nat → Int32) (t_facts_before : Nat → Int64) (t_symbols_count : Int32) (t_symbols_kind : Nat → Int32) (t_symbols_left : Nat → Int32) (t_symbols_right : Nat → Int32) (t_sourceWalk_risks : Int32) (t_sourceWalk_endKind : Int32) (t_sourceWalk_endNumber : Int32) (t_sourceWalk_endPlace : Int32) (t_sourceWalk_endSymbol : Int32) (t_sourceWalk_held : Nat → Int32) (t_sourceWalk_riskDividend : Nat → Int32) (t_sourceWalk_riskDivisor : Nat → Int32) (t_resultWalk_risks : Int32) (t_resultWalk_endKind : Int32) (t_resultWalk_endNumber : Int32) (t_resultWalk_endPlace : Int32) (t_resultWalk_endSymbol : Int32) (t_resultWalk_held : Nat → Int32) (t_resultWalk_riskDividend : Nat → Int32) (t_resultWalk_riskDivisor : Nat → Int32) : va_W := [(qt, .inr (5, [.ref qt_sourceCode, .ref qt_resultCode, .ref qt_facts, .ref qt_symbols, .ref qt_sourceWalk, .ref qt_resultWalk, .ref qt_machine, .int t_sealed, .int t_foundAlike])), (qt_sourceCode, .inr (0, [.ref qt_sourceCode_op, .ref qt_sourceCode_d, .ref qt_sourceCode_a, .ref qt_sourceCode_b, .ref qt_sourceCode_need, .int t_sourceCode_length, .int t_sourceCode_leaders])), (qt_sourceCode_op, .inl (cI, 20, .inl t_sourceCode_op)), (qt_sourceCode_d, .inl (cI, 20, .inl t_sourceCode_d)), (qt_sourceCode_a, .inl (cI, 20, .inl t_sourceCode_a)), (qt_sourceCode_b, .inl (cI, 20, .inl t_sourceCode_b)), (qt_resultCode, .inr (0, [.ref qt_resultCode_op, .ref qt_resultCode_d, .ref qt_resultCode_a, .ref qt_resultCode_b, .ref qt_resultCode_need, .int t_resultCode_length, .int t_resultCode_leaders])), (qt_resultCode_op, .inl (cI, 20, .inl t_resultCode_op)), (qt_resultCode_d, .inl (cI, 20, .inl t_resultCode_d)), (qt_resultCode_a, .inl (cI, 20, .inl t_resultCode_a)), (qt_resultCode_b, .inl (cI, 20, .inl t_resultCode_b)), (qt_resultCode_need, .inl (cI, 20, .inl t_resultCode_need)), (qt_facts, .inr (1, [.ref qt_facts_before, .ref qt_facts_flowing])), (qt_facts_before, .inl (cJ, 100, .inr (.inl t_facts_before))), (qt_symbols, .inr (2, [.ref qt_symbols_kind, .ref qt_symbols_left, .ref qt_symbols_right, .int t_symbols_count])), (qt_symbols_kind, .inl (cI, 45, .inl t_symbols_kind)), (qt_symbols_left, .inl (cI, 45, .inl t_symbols_left)), (qt_symbols_right, .inl (cI, 45, .inl t_symbols_right)), (qt_sourceWalk, .inr (3, [.ref qt_symbols, .ref qt_sourceWalk_held, .ref qt_sourceWalk_riskDividend, .ref qt_sourceWalk_riskDivisor, .int t_sourceWalk_risks, .int t_sourceWalk_endKind, .int t_sourceWalk_endNumber, .int t_sourceWalk_endPlace, .int t_sourceWalk_endSymbol])), (qt_sourceWalk_held, .inl (cI, 5, .inl t_sourceWalk_held)), (qt_sourceWalk_riskDividend, .inl (cI, 20, .inl t_sourceWalk_riskDividend)), (qt_sourceWalk_riskDivisor, .inl (cI, 20, .inl t_sourceWalk_riskDivisor)), (qt_resultWalk, .inr (3, [.ref qt_symbols, .ref qt_resultWalk_held, .ref qt_resultWalk_riskDividend, .ref qt_resultWalk_riskDivisor, .int t_resultWalk_risks, .int t_resultWalk_endKind, .int t_resultWalk_endNumber, .int t_resultWalk_endPlace, .int t_resultWalk_endSymbol])), (qt_resultWalk_held, .inl (cI, 5, .inl t_resultWalk_held)), (qt_resultWalk_riskDividend, .inl (cI, 20, .inl t_resultWalk_riskDividend)), (qt_resultWalk_riskDivisor, .inl (cI, 20, .inl t_resultWalk_riskDivisor))]
def f_BlockCode_compare_58 (t_sourceCode_op : Nat → Int32) (t_sourceCode_d : Nat → Int32) (t_sourceCode_a : Nat → Int32) (t_sourceCode_b : Nat → Int32) (t_sourceCode_length : Int32) (t_sourceCode_leaders : Int32) (t_resultCode_op : Nat → Int32) (t_resultCode_d : Nat → Int32) (t_resultCode_a : Nat → Int32) (t_resultCode_b : Nat → Int32) (t_resultCode_length : Int32) (t_facts_before : Nat → Int64) (t_sealed : Int32) (k13 : Int32 → (Nat → Int32) → (Nat → Int32) → (Nat → Int32) → (Nat → Int32) → Int32 → (Nat → Int32) → (Nat → Int32) → (Nat → Int32) → Int32 → Int32 → Int32 → Int32 → Int32 → (Nat → Int32) → (Nat → Int32) → (Nat → Int32) → Int32 → Int32 → Int32 → Int32 → Int32 → Int32 → Option (Int32 × (Nat → Int32) × (Nat → Int32) × (Nat → Int32) × (Nat → Int32) × Int32 × (Nat → Int32) × (Nat → Int32) × (Nat → Int32) × Int32 × Int32 × Int32 × Int32 × Int32 × (Nat → Int32) × (Nat → Int32) × (Nat → Int32) × Int32 × Int32 × Int32 × Int32 × Int32 × Int32)) (x1 : Int32) (t_resultCode_need : Nat → Int32) (t_symbols_kind : Nat → Int32) (t_symbols_left : Nat → Int32) (t_symbols_right : Nat → Int32) (t_symbols_count : Int32) (t_sourceWalk_held : Nat → Int32) (t_sourceWalk_riskDividend : Nat → Int32) (t_sourceWalk_riskDivisor : Nat → Int32) (t_sourceWalk_risks : Int32) (t_sourceWalk_endKind : Int32) (t_sourceWalk_endNumber : Int32) (t_sourceWalk_endPlace : Int32) (t_sourceWalk_endSymbol : Int32) (t_resultWalk_held : Nat → Int32) (t_resultWalk_riskDividend : Nat → Int32) (t_resultWalk_riskDivisor : Nat → Int32) (t_resultWalk_risks : Int32) (t_resultWalk_endKind : Int32) (t_resultWalk_endNumber : Int32) (t_resultWalk_endPlace : Int32) (t_resultWalk_endSymbol : Int32) (t_foundAlike : Int32) : Option (Int32 × (Nat → Int32) × (Nat → Int32) × (Nat → Int32) × (Nat → Int32) × Int32 × (Nat → Int32) × (Nat → Int32) × (Nat → Int32) × Int32 × Int32 × Int32 × Int32 × Int32 × (Nat → Int32) × (Nat → Int32) × (Nat → Int32) × Int32 × Int32 × Int32 × Int32 × Int32 × Int32) :=
  k13 (x1 + (1 : Int32)) t_resultCode_need t_symbols_kind t_symbols_left t_symbols_right t_symbols_count t_sourceWalk_held t_sourceWalk_riskDividend t_sourceWalk_riskDivisor t_sourceWalk_risks t_sourceWalk_endKind t_sourceWalk_endNumber t_sourceWalk_endPlace t_sourceWalk_endSymbol t_resultWalk_held t_resultWalk_riskDividend t_resultWalk_riskDivisor t_resultWalk_risks t_resultWalk_endKind t_resultWalk_endNumber t_resultWalk_endPlace t_resultWalk_endSymbol t_foundAlike
def f_BlockCode_compare_13 (t_sourceCode_op : Nat → Int32) (t_sourceCode_d : Nat → Int32) (t_sourceCode_a : Nat → Int32) (t_sourceCode_b : Nat → Int32) (t_sourceCode_length : Int32) (t_sourceCode_leaders : Int32) (t_resultCode_op : Nat → Int32) (t_resultCode_d : Nat → Int32) (t_resultCode_a : Nat → Int32) (t_resultCode_b : Nat → Int32) (t_resultCode_length : Int32) (t_facts_before : Nat → Int64) (t_sealed : Int32) : Nat → Int32 → (Nat → Int32) → (Nat → Int32) → (Nat → Int32) → (Nat → Int32) → Int32 → (Nat → Int32) → (Nat → Int32) → (Nat → Int32) → Int32 → Int32 → Int32 → Int32 → Int32 → (Nat → Int32) → (Nat → Int32) → (Nat → Int32) → Int32 → Int32 → Int32 → Int32 → Int32 → Int32 → Option (Int32 × (Nat → Int32) × (Nat → Int32) × (Nat → Int32) × (Nat → Int32) × Int32 × (Nat → Int32) × (Nat → Int32) × (Nat → Int32) × Int32 × Int32 × Int32 × Int32 × Int32 × (Nat → Int32) × (Nat → Int32) × (Nat → Int32) × Int32 × Int32 × Int32 × Int32 × Int32 × Int32)
  | 0, _, _, _, _, _, _, _, _, _, _, _, _, _, _, _, _, _, _, _, _, _, _, _ => none
  | n + 1, x1, t_resultCode_need, t_symbols_kind, t_symbols_left, t_symbols_right, t_symbols_count, t_sourceWalk_held, t_sourceWalk_riskDividend, t_sourceWalk_riskDivisor, t_sourceWalk_risks, t_sourceWalk_endKind, t_sourceWalk_endNumber, t_sourceWalk_endPlace, t_sourceWalk_endSymbol, t_resultWalk_held, t_resultWalk_riskDividend, t_resultWalk_riskDivisor, t_resultWalk_risks, t_resultWalk_endKind, t_resultWalk_endNumber, t_resultWalk_endPlace, t_resultWalk_endSymbol, t_foundAlike =>
    if t_sourceCode_length ≤ x1 then
      some ((0 : Int32), t_resultCode_need, t_symbols_kind, t_symbols_left, t_symbols_right, t_symbols_count, t_sourceWalk_held, t_sourceWalk_riskDividend, t_sourceWalk_riskDivisor, t_sourceWalk_risks, t_sourceWalk_endKind, t_sourceWalk_endNumber, t_sourceWalk_endPlace, t_sourceWalk_endSymbol, t_resultWalk_held, t_resultWalk_riskDividend, t_resultWalk_riskDivisor, t_resultWalk_risks, t_resultWalk_endKind, t_resultWalk_endNumber, t_resultWalk_endPlace, t_resultWalk_endSymbol, (1 : Int32))
    else
      (f_Code_isLeader x1 t_sourceCode_leaders).bind fun rz1 =>
      if rz1 = (0 : Int32) then
        f_BlockCode_compare_58 t_sourceCode_op t_sourceCode_d t_sourceCode_a t_sourceCode_b t_sourceCode_length t_sourceCode_leaders t_resultCode_op t_resultCode_d t_resultCode_a t_resultCode_b t_resultCode_length t_facts_before t_sealed (f_BlockCode_compare_13 t_sourceCode_op t_sourceCode_d t_sourceCode_a t_sourceCode_b t_sourceCode_length t_sourceCode_leaders t_resultCode_op t_resultCode_d t_resultCode_a t_resultCode_b t_resultCode_length t_facts_before t_sealed n) x1 t_resultCode_need t_symbols_kind t_symbols_left t_symbols_right t_symbols_count t_sourceWalk_held t_sourceWalk_riskDividend t_sourceWalk_riskDivisor t_sourceWalk_risks t_sourceWalk_endKind t_sourceWalk_endNumber t_sourceWalk_endPlace t_sourceWalk_endSymbol t_resultWalk_held t_resultWalk_riskDividend t_resultWalk_riskDivisor t_resultWalk_risks t_resultWalk_endKind t_resultWalk_endNumber t_resultWalk_endPlace t_resultWalk_endSymbol t_foundAlike
      else
        (f_Facts_reached x1 t_facts_before).bind fun rz2 =>
        if rz2 = (0 : Int32) then
          f_BlockCode_compare_58 t_sourceCode_op t_sourceCode_d t_sourceCode_a t_sourceCode_b t_sourceCode_length t_sourceCode_leaders t_resultCode_op t_resultCode_d t_resultCode_a t_resultCode_b t_resultCode_length t_facts_before t_sealed (f_BlockCode_compare_13 t_sourceCode_op t_sourceCode_d t_sourceCode_a t_sourceCode_b t_sourceCode_length t_sourceCode_leaders t_resultCode_op t_resultCode_d t_resultCode_a t_resultCode_b t_resultCode_length t_facts_before t_sealed n) x1 t_resultCode_need t_symbols_kind t_symbols_left t_symbols_right t_symbols_count t_sourceWalk_held t_sourceWalk_riskDividend t_sourceWalk_riskDivisor t_sourceWalk_risks t_sourceWalk_endKind t_sourceWalk_endNumber t_sourceWalk_endPlace t_sourceWalk_endSymbol t_resultWalk_held t_resultWalk_riskDividend t_resultWalk_riskDivisor t_resultWalk_risks t_resultWalk_endKind t_resultWalk_endNumber t_resultWalk_endPlace t_resultWalk_endSymbol t_foundAlike
        else
          (f_BlockCode_isBlockAlike x1 t_sourceCode_op t_sourceCode_d t_sourceCode_a t_sourceCode_b t_sourceCode_length t_sourceCode_leaders t_resultCode_op t_resultCode_d t_resultCode_a t_resultCode_b t_resultCode_need t_resultCode_length t_facts_before t_symbols_kind t_symbols_left t_symbols_right t_symbols_count t_sourceWalk_held t_sourceWalk_riskDividend t_sourceWalk_riskDivisor t_sourceWalk_risks t_sourceWalk_endKind t_sourceWalk_endNumber t_sourceWalk_endPlace t_sourceWalk_endSymbol t_resultWalk_held t_resultWalk_riskDividend t_resultWalk_riskDivisor t_resultWalk_risks t_resultWalk_endKind t_resultWalk_endNumber t_resultWalk_endPlace t_resultWalk_endSymbol).bind fun (rz3, u4, u5, u6, u7, u8, u9, u10, u11, u12, u13, u14, u15, u16, u17, u18, u19, u20, u21, u22, u23) =>
          if rz3 = (0 : Int32) then
            some (((1 : Int32) + x1), t_resultCode_need, u4, u5, u6, u7, u8, u9, u10, u11, u12, u13, u14, u15, u16, u17, u18, u19, u20, u21, u22, u23, t_foundAlike)
          else
            f_BlockCode_compare_58 t_sourceCode_op t_sourceCode_d t_sourceCode_a t_sourceCode_b t_sourceCode_length t_sourceCode_leaders t_resultCode_op t_resultCode_d t_resultCode_a t_resultCode_b t_resultCode_length t_facts_before t_sealed (f_BlockCode_compare_13 t_sourceCode_op t_sourceCode_d t_sourceCode_a t_sourceCode_b t_sourceCode_length t_sourceCode_leaders t_resultCode_op t_resultCode_d t_resultCode_a t_resultCode_b t_resultCode_length t_facts_before t_sealed n) x1 t_resultCode_need u4 u5 u6 u7 u8 u9 u10 u11 u12 u13 u14 u15 u16 u17 u18 u19 u20 u21 u22 u23 t_foundAlike
def f_BlockCode_compare (t_sourceCode_op : Nat → Int32) (t_sourceCode_d : Nat → Int32) (t_sourceCode_a : Nat → Int32) (t_sourceCode_b : Nat → Int32) (t_sourceCode_length : Int32) (t_sourceCode_leaders : Int32) (t_resultCode_op : Nat → Int32) (t_resultCode_d : Nat → Int32) (t_resultCode_a : Nat → Int32) (t_resultCode_b : Nat → Int32) (t_resultCode_length : Int32) (t_facts_before : Nat → Int64) (t_sealed : Int32) (t_resultCode_need : Nat → Int32) (t_symbols_kind : Nat → Int32) (t_symbols_left : Nat → Int32) (t_symbols_right : Nat → Int32) (t_symbols_count : Int32) (t_sourceWalk_held : Nat → Int32) (t_sourceWalk_riskDividend : Nat → Int32) (t_sourceWalk_riskDivisor : Nat → Int32) (t_sourceWalk_risks : Int32) (t_sourceWalk_endKind : Int32) (t_sourceWalk_endNumber : Int32) (t_sourceWalk_endPlace : Int32) (t_sourceWalk_endSymbol : Int32) (t_resultWalk_held : Nat → Int32) (t_resultWalk_riskDividend : Nat → Int32) (t_resultWalk_riskDivisor : Nat → Int32) (t_resultWalk_risks : Int32) (t_resultWalk_endKind : Int32) (t_resultWalk_endNumber : Int32) (t_resultWalk_endPlace : Int32) (t_resultWalk_endSymbol : Int32) (t_foundAlike : Int32) : Option (Int32 × (Nat → Int32) × (Nat → Int32) × (Nat → Int32) × (Nat → Int32) × Int32 × (Nat → Int32) × (Nat → Int32) × (Nat → Int32) × Int32 × Int32 × Int32 × Int32 × Int32 × (Nat → Int32) × (Nat → Int32) × (Nat → Int32) × Int32 × Int32 × Int32 × Int32 × Int32 × Int32) :=
  (f_BlockCode_requireSealed t_sealed).bind fun _ =>
  (f_Code_findNeeds t_resultCode_op t_resultCode_d t_resultCode_a t_resultCode_b t_resultCode_length t_resultCode_need).bind fun u1 =>
  f_BlockCode_compare_13 t_sourceCode_op t_sourceCode_d t_sourceCode_a t_sourceCode_b t_sourceCode_length t_sourceCode_leaders t_resultCode_op t_resultCode_d t_resultCode_a t_resultCode_b t_resultCode_length t_facts_before t_sealed fu (0 : Int32) u1 t_symbols_kind t_symbols_left t_symbols_right t_symbols_count t_sourceWalk_held t_sourceWalk_riskDividend t_sourceWalk_riskDivisor t_sourceWalk_risks t_sourceWalk_endKind t_sourceWalk_endNumber t_sourceWalk_endPlace t_sourceWalk_endSymbol t_resultWalk_held t_resultWalk_riskDividend t_resultWalk_riskDivisor t_resultWalk_risks t_resultWalk_endKind t_resultWalk_endNumber t_resultWalk_endPlace t_resultWalk_endSymbol t_foundAlike
abbrev rm_BlockCode_commit : Room := { frames := 6, cells := 0, slots := 0, locals := 142 }
abbrev ww_BlockCode_commit (cI cJ cZ : ClassId) (qt : Nat) (qt_sourceCode : Nat) (qt_resultCode : Nat) (qt_facts : Nat) (qt_symbols : Nat) (qt_sourceWalk : Nat) (qt_resultWalk : Nat) (qt_machine : Nat) (qt_sourceCode_op : Nat) (qt_sourceCode_d : Nat) (qt_sourceCode_a : Nat) (qt_sourceCode_b : Nat) (qt_sourceCode_need : Nat) (qt_resultCode_op : Nat) (qt_resultCode_d : Nat) (qt_resultCode_a : Nat) (qt_resultCode_b : Nat) (qt_resultCode_need : Nat) (qt_facts_before : Nat) (qt_facts_flowing : Nat) (t_sealed : Int32) (t_foundAlike : Int32) (t_sourceCode_length : Int32) (t_sourceCode_leaders : Int32) (t_sourceCode_op : Nat → Int32) (t_sourceCode_d : Nat → Int32) (t_sourceCode_a : Nat → Int32) (t_sourceCode_b : Nat → Int32) (t_sourceCode_need : Nat → Int32) (t_resultCode_length : Int32) (t_resultCode_leaders : Int32) (t_resultCode_op : Nat → Int32) (t_resultCode_d : Nat → Int32) (t_resultCode_a : Nat → Int32) (t_resultCode_b : Nat → Int32) (t_facts_before : Nat → Int64) (t_facts_flowing : Nat → Int64) : va_W := [(qt, .inr (5, [.ref qt_sourceCode, .ref qt_resultCode, .ref qt_facts, .ref qt_symbols, .ref qt_sourceWalk, .ref qt_resultWalk, .ref qt_machine, .int t_sealed, .int t_foundAlike])), (qt_sourceCode, .inr (0, [.ref qt_sourceCode_op, .ref qt_sourceCode_d, .ref qt_sourceCode_a, .ref qt_sourceCode_b, .ref qt_sourceCode_need, .int t_sourceCode_length, .int t_sourceCode_leaders])), (qt_sourceCode_op, .inl (cI, 20, .inl t_sourceCode_op)), (qt_sourceCode_d, .inl (cI, 20, .inl t_sourceCode_d)), (qt_sourceCode_a, .inl (cI, 20, .inl t_sourceCode_a)), (qt_sourceCode_b, .inl (cI, 20, .inl t_sourceCode_b)), (qt_sourceCode_need, .inl (cI, 20, .inl t_sourceCode_need)), (qt_resultCode, .inr (0, [.ref qt_resultCode_op, .ref qt_resultCode_d, .ref qt_resultCode_a, .ref qt_resultCode_b, .ref qt_resultCode_need, .int t_resultCode_length, .int t_resultCode_leaders])), (qt_resultCode_op, .inl (cI, 20, .inl t_resultCode_op)), (qt_resultCode_d, .inl (cI, 20, .inl t_resultCode_d)), (qt_resultCode_a, .inl (cI, 20, .inl t_resultCode_a)), (qt_resultCode_b, .inl (cI, 20, .inl t_resultCode_b)), (qt_facts, .inr (1, [.ref qt_facts_before, .ref qt_facts_flowing])), (qt_facts_before, .inl (cJ, 100, .inr (.inl t_facts_before))), (qt_facts_flowing, .inl (cJ, 5, .inr (.inl t_facts_flowing)))]
def f_BlockCode_commit (t_resultCode_op : Nat → Int32) (t_resultCode_d : Nat → Int32) (t_resultCode_a : Nat → Int32) (t_resultCode_b : Nat → Int32) (t_resultCode_length : Int32) (t_sealed : Int32) (t_sourceCode_op : Nat → Int32) (t_sourceCode_d : Nat → Int32) (t_sourceCode_a : Nat → Int32) (t_sourceCode_b : Nat → Int32) (t_sourceCode_need : Nat → Int32) (t_sourceCode_length : Int32) (t_sourceCode_leaders : Int32) (t_facts_before : Nat → Int64) (t_facts_flowing : Nat → Int64) (t_foundAlike : Int32) : Option (Int32 × (Nat → Int32) × (Nat → Int32) × (Nat → Int32) × (Nat → Int32) × (Nat → Int32) × Int32 × Int32 × (Nat → Int64) × (Nat → Int64) × Int32) :=
  if t_sealed = (0 : Int32) then
    some ((0 : Int32), t_sourceCode_op, t_sourceCode_d, t_sourceCode_a, t_sourceCode_b, t_sourceCode_need, t_sourceCode_length, t_sourceCode_leaders, t_facts_before, t_facts_flowing, t_foundAlike)
  else
    if t_foundAlike = (0 : Int32) then
      some ((0 : Int32), t_sourceCode_op, t_sourceCode_d, t_sourceCode_a, t_sourceCode_b, t_sourceCode_need, t_sourceCode_length, t_sourceCode_leaders, t_facts_before, t_facts_flowing, t_foundAlike)
    else
      (f_Code_endsWell t_resultCode_op t_resultCode_length).bind fun rz1 =>
      if rz1 = (0 : Int32) then
        some ((0 : Int32), t_sourceCode_op, t_sourceCode_d, t_sourceCode_a, t_sourceCode_b, t_sourceCode_need, t_sourceCode_length, t_sourceCode_leaders, t_facts_before, t_facts_flowing, t_foundAlike)
      else
        (f_Code_become t_resultCode_op t_resultCode_d t_resultCode_a t_resultCode_b t_resultCode_length t_sourceCode_op t_sourceCode_d t_sourceCode_a t_sourceCode_b t_sourceCode_length).bind fun (u2, u3, u4, u5, u6) =>
        (f_BlockCode_studySource u2 u3 u4 u5 u6 t_sourceCode_need t_sourceCode_leaders t_facts_before t_facts_flowing).bind fun (u7, u8, u9, u10) =>
        some ((1 : Int32), u2, u3, u4, u5, u7, u6, u8, u9, u10, (0 : Int32))
abbrev rm_BlockCode_input : Room := { frames := 1, cells := 0, slots := 0, locals := 20 }
abbrev ww_BlockCode_input (cI cJ cZ : ClassId) (qt : Nat) (qt_sourceCode : Nat) (qt_resultCode : Nat) (qt_facts : Nat) (qt_symbols : Nat) (qt_sourceWalk : Nat) (qt_resultWalk : Nat) (qt_machine : Nat) (qt_machine_inputs : Nat) (qt_machine_registers : Nat) (t_sealed : Int32) (t_foundAlike : Int32) (t_machine_toldSet : Int32) (t_machine_done : Int32) (t_machine_inputs : Nat → Int32) : va_W := [(qt, .inr (5, [.ref qt_sourceCode, .ref qt_resultCode, .ref qt_facts, .ref qt_symbols, .ref qt_sourceWalk, .ref qt_resultWalk, .ref qt_machine, .int t_sealed, .int t_foundAlike])), (qt_machine, .inr (4, [.ref qt_machine_inputs, .ref qt_machine_registers, .int t_machine_toldSet, .int t_machine_done])), (qt_machine_inputs, .inl (cI, 5, .inl t_machine_inputs))]
def f_BlockCode_input (p1 : Int32) (p2 : Int32) (t_machine_inputs : Nat → Int32) : Option (Int32 × (Nat → Int32)) :=
  (f_BlockCode_isRegister p1).bind fun rz1 =>
  if rz1 = (0 : Int32) then
    some ((0 : Int32), t_machine_inputs)
  else
    (wrI t_machine_inputs 5 p1 p2).bind fun w2 =>
    some ((1 : Int32), w2)
abbrev rm_Machine_begin : Room := { frames := 0, cells := 0, slots := 0, locals := 0 }
abbrev ww_Machine_begin (cI cJ cZ : ClassId) (qt : Nat) (qt_inputs : Nat) (qt_registers : Nat) (t_toldSet : Int32) (t_done : Int32) (t_inputs : Nat → Int32) (t_registers : Nat → Int32) : va_W := [(qt, .inr (4, [.ref qt_inputs, .ref qt_registers, .int t_toldSet, .int t_done])), (qt_inputs, .inl (cI, 5, .inl t_inputs)), (qt_registers, .inl (cI, 5, .inl t_registers))]
def f_Machine_begin_12 (t_inputs : Nat → Int32) : Nat → Int32 → (Nat → Int32) → Int32 → Int32 → Option ((Nat → Int32) × Int32 × Int32)
  | 0, _, _, _, _ => none
  | n + 1, x1, t_registers, t_toldSet, t_done =>
    if (5 : Int32) ≤ x1 then
      some (t_registers, t_toldSet, t_done)
    else
      (rdI t_inputs 5 x1).bind fun v1 =>
      (wrI t_registers 5 x1 v1).bind fun w2 =>
      (f_Machine_begin_12 t_inputs n) (x1 + (1 : Int32)) w2 t_toldSet t_done
def f_Machine_begin (t_inputs : Nat → Int32) (t_registers : Nat → Int32) (t_toldSet : Int32) (t_done : Int32) : Option ((Nat → Int32) × Int32 × Int32) :=
  f_Machine_begin_12 t_inputs fu (0 : Int32) t_registers (0 : Int32) (0 : Int32)
abbrev rm_Machine_breaksOff : Room := { frames := 0, cells := 0, slots := 0, locals := 0 }
abbrev ww_Machine_breaksOff (cI cJ cZ : ClassId) (qt : Nat) (qt_inputs : Nat) (qt_registers : Nat) (qr1 : Nat) (qr1_op : Nat) (qr1_d : Nat) (qr1_a : Nat) (qr1_b : Nat) (qr1_need : Nat) (t_toldSet : Int32) (t_done : Int32) (t_registers : Nat → Int32) (r1_length : Int32) (r1_leaders : Int32) (r1_op : Nat → Int32) (r1_b : Nat → Int32) : va_W := [(qt, .inr (4, [.ref qt_inputs, .ref qt_registers, .int t_toldSet, .int t_done])), (qt_registers, .inl (cI, 5, .inl t_registers)), (qr1, .inr (0, [.ref qr1_op, .ref qr1_d, .ref qr1_a, .ref qr1_b, .ref qr1_need, .int r1_length, .int r1_leaders])), (qr1_op, .inl (cI, 20, .inl r1_op)), (qr1_b, .inl (cI, 20, .inl r1_b))]
def f_Machine_breaksOff (p2 : Int32) (t_registers : Nat → Int32) (r1_op : Nat → Int32) (r1_b : Nat → Int32) : Option (Int32) :=
  (rdI r1_op 20 p2).bind fun v1 =>
  if v1 = (6 : Int32) then
    (rdI r1_b 20 p2).bind fun v2 =>
    (rdI t_registers 5 v2).bind fun v3 =>
    if v3 = (0 : Int32) then
      some (1 : Int32)
    else
      some (0 : Int32)
  else
    some (0 : Int32)
abbrev rm_Machine_perform : Room := { frames := 1, cells := 0, slots := 0, locals := 22 }
abbrev ww_Machine_perform (cI cJ cZ : ClassId) (qt : Nat) (qt_inputs : Nat) (qt_registers : Nat) (qr1 : Nat) (qr1_op : Nat) (qr1_d : Nat) (qr1_a : Nat) (qr1_b : Nat) (qr1_need : Nat) (t_toldSet : Int32) (t_done : Int32) (t_registers : Nat → Int32) (r1_length : Int32) (r1_leaders : Int32) (r1_op : Nat → Int32) (r1_d : Nat → Int32) (r1_a : Nat → Int32) (r1_b : Nat → Int32) : va_W := [(qt, .inr (4, [.ref qt_inputs, .ref qt_registers, .int t_toldSet, .int t_done])), (qt_registers, .inl (cI, 5, .inl t_registers)), (qr1, .inr (0, [.ref qr1_op, .ref qr1_d, .ref qr1_a, .ref qr1_b, .ref qr1_need, .int r1_length, .int r1_leaders])), (qr1_op, .inl (cI, 20, .inl r1_op)), (qr1_d, .inl (cI, 20, .inl r1_d)), (qr1_a, .inl (cI, 20, .inl r1_a)), (qr1_b, .inl (cI, 20, .inl r1_b))]
def f_Machine_perform (p2 : Int32) (r1_op : Nat → Int32) (r1_d : Nat → Int32) (r1_a : Nat → Int32) (r1_b : Nat → Int32) (t_registers : Nat → Int32) : Option ((Nat → Int32)) :=
  (rdI r1_op 20 p2).bind fun v1 =>
  if v1 = (1 : Int32) then
    (rdI r1_d 20 p2).bind fun v14 =>
    (rdI r1_a 20 p2).bind fun v15 =>
    (wrI t_registers 5 v14 v15).bind fun w16 =>
    some w16
  else
    if v1 = (2 : Int32) then
      (rdI r1_d 20 p2).bind fun v10 =>
      (rdI r1_a 20 p2).bind fun v11 =>
      (rdI t_registers 5 v11).bind fun v12 =>
      (wrI t_registers 5 v10 v12).bind fun w13 =>
      some w13
    else
      (f_BlockCode_combines v1).bind fun rz2 =>
      if rz2 = (0 : Int32) then
        some t_registers
      else
        (rdI r1_a 20 p2).bind fun v3 =>
        (rdI t_registers 5 v3).bind fun v4 =>
        (rdI r1_b 20 p2).bind fun v5 =>
        (rdI t_registers 5 v5).bind fun v6 =>
        (rdI r1_d 20 p2).bind fun v7 =>
        (f_BlockCode_combined v1 v4 v6).bind fun rz8 =>
        (wrI t_registers 5 v7 rz8).bind fun w9 =>
        some w9
abbrev rm_Machine_placeAfter : Room := { frames := 0, cells := 0, slots := 0, locals := 0 }
abbrev ww_Machine_placeAfter (cI cJ cZ : ClassId) (qt : Nat) (qt_inputs : Nat) (qt_registers : Nat) (qr1 : Nat) (qr1_op : Nat) (qr1_d : Nat) (qr1_a : Nat) (qr1_b : Nat) (qr1_need : Nat) (t_toldSet : Int32) (t_done : Int32) (t_registers : Nat → Int32) (r1_length : Int32) (r1_leaders : Int32) (r1_op : Nat → Int32) (r1_a : Nat → Int32) (r1_b : Nat → Int32) : va_W := [(qt, .inr (4, [.ref qt_inputs, .ref qt_registers, .int t_toldSet, .int t_done])), (qt_registers, .inl (cI, 5, .inl t_registers)), (qr1, .inr (0, [.ref qr1_op, .ref qr1_d, .ref qr1_a, .ref qr1_b, .ref qr1_need, .int r1_length, .int r1_leaders])), (qr1_op, .inl (cI, 20, .inl r1_op)), (qr1_a, .inl (cI, 20, .inl r1_a)), (qr1_b, .inl (cI, 20, .inl r1_b))]
def f_Machine_placeAfter_47 (p2 : Int32) (t_registers : Nat → Int32) (r1_op : Nat → Int32) (r1_a : Nat → Int32) (r1_b : Nat → Int32) : Option (Int32) :=
  some (p2 + (1 : Int32))
def f_Machine_placeAfter (p2 : Int32) (t_registers : Nat → Int32) (r1_op : Nat → Int32) (r1_a : Nat → Int32) (r1_b : Nat → Int32) : Option (Int32) :=
  (rdI r1_op 20 p2).bind fun v1 =>
  if v1 = (8 : Int32) then
    (rdI r1_a 20 p2).bind fun v5 =>
    some v5
  else
    if v1 = (9 : Int32) then
      (rdI r1_a 20 p2).bind fun v2 =>
      (rdI t_registers 5 v2).bind fun v3 =>
      if v3 = (0 : Int32) then
        f_Machine_placeAfter_47 p2 t_registers r1_op r1_a r1_b
      else
        (rdI r1_b 20 p2).bind fun v4 =>
        some v4
    else
      f_Machine_placeAfter_47 p2 t_registers r1_op r1_a r1_b
abbrev rm_Machine_run : Room := { frames := 2, cells := 0, slots := 0, locals := 47 }
abbrev ww_Machine_run (cI cJ cZ : ClassId) (qt : Nat) (qt_inputs : Nat) (qt_registers : Nat) (qr1 : Nat) (qr1_op : Nat) (qr1_d : Nat) (qr1_a : Nat) (qr1_b : Nat) (qr1_need : Nat) (t_toldSet : Int32) (t_done : Int32) (t_inputs : Nat → Int32) (t_registers : Nat → Int32) (r1_length : Int32) (r1_leaders : Int32) (r1_op : Nat → Int32) (r1_d : Nat → Int32) (r1_a : Nat → Int32) (r1_b : Nat → Int32) : va_W := [(qt, .inr (4, [.ref qt_inputs, .ref qt_registers, .int t_toldSet, .int t_done])), (qt_inputs, .inl (cI, 5, .inl t_inputs)), (qt_registers, .inl (cI, 5, .inl t_registers)), (qr1, .inr (0, [.ref qr1_op, .ref qr1_d, .ref qr1_a, .ref qr1_b, .ref qr1_need, .int r1_length, .int r1_leaders])), (qr1_op, .inl (cI, 20, .inl r1_op)), (qr1_d, .inl (cI, 20, .inl r1_d)), (qr1_a, .inl (cI, 20, .inl r1_a)), (qr1_b, .inl (cI, 20, .inl r1_b))]
def f_Machine_run_9 (p2 : Int32) (t_inputs : Nat → Int32) (r1_op : Nat → Int32) (r1_d : Nat → Int32) (r1_a : Nat → Int32) (r1_b : Nat → Int32) (r1_length : Int32) : Nat → Int32 → Int32 → (Nat → Int32) → Int32 → Int32 → Option (Int32 × (Nat → Int32) × Int32 × Int32)
  | 0, _, _, _, _, _ => none
  | n + 1, x3, x4, t_registers, t_toldSet, t_done =>
    if p2 < x4 then
      (f_Code_has x3 r1_length).bind fun rz1 =>
      if rz1 = (0 : Int32) then
        some ((1 : Int32), t_registers, t_toldSet, t_done)
      else
        some ((2 : Int32), t_registers, t_toldSet, t_done)
    else
      (f_Code_has x3 r1_length).bind fun rz2 =>
      if rz2 = (0 : Int32) then
        some ((1 : Int32), t_registers, t_toldSet, t_done)
      else
        (rdI r1_op 20 x3).bind fun v3 =>
        if v3 = (10 : Int32) then
          (rdI r1_a 20 x3).bind fun v7 =>
          some ((0 : Int32), t_registers, v7, x4)
        else
          (f_Machine_breaksOff x3 t_registers r1_op r1_b).bind fun rz4 =>
          if rz4 = (0 : Int32) then
            (f_Machine_perform x3 r1_op r1_d r1_a r1_b t_registers).bind fun u5 =>
            (f_Machine_placeAfter x3 u5 r1_op r1_a r1_b).bind fun rz6 =>
            (f_Machine_run_9 p2 t_inputs r1_op r1_d r1_a r1_b r1_length n) rz6 (x4 + (1 : Int32)) u5 t_toldSet x4
          else
            some ((1 : Int32), t_registers, t_toldSet, x4)
def f_Machine_run (p2 : Int32) (t_inputs : Nat → Int32) (r1_op : Nat → Int32) (r1_d : Nat → Int32) (r1_a : Nat → Int32) (r1_b : Nat → Int32) (r1_length : Int32) (t_registers : Nat → Int32) (t_toldSet : Int32) (t_done : Int32) : Option (Int32 × (Nat → Int32) × Int32 × Int32) :=
  (f_Machine_begin t_inputs t_registers t_toldSet t_done).bind fun (u1, u2, u3) =>
  f_Machine_run_9 p2 t_inputs r1_op r1_d r1_a r1_b r1_length fu (0 : Int32) (1 : Int32) u1 u2 u3
abbrev rm_BlockCode_runCode : Room := { frames := 3, cells := 0, slots := 0, locals := 71 }
abbrev ww_BlockCode_runCode (cI cJ cZ : ClassId) (qt : Nat) (qt_sourceCode : Nat) (qt_resultCode : Nat) (qt_facts : Nat) (qt_symbols : Nat) (qt_sourceWalk : Nat) (qt_resultWalk : Nat) (qt_machine : Nat) (qt_machine_inputs : Nat) (qt_machine_registers : Nat) (qr1 : Nat) (qr1_op : Nat) (qr1_d : Nat) (qr1_a : Nat) (qr1_b : Nat) (qr1_need : Nat) (t_sealed : Int32) (t_foundAlike : Int32) (t_machine_toldSet : Int32) (t_machine_done : Int32) (t_machine_inputs : Nat → Int32) (t_machine_registers : Nat → Int32) (r1_length : Int32) (r1_leaders : Int32) (r1_op : Nat → Int32) (r1_d : Nat → Int32) (r1_a : Nat → Int32) (r1_b : Nat → Int32) : va_W := [(qt, .inr (5, [.ref qt_sourceCode, .ref qt_resultCode, .ref qt_facts, .ref qt_symbols, .ref qt_sourceWalk, .ref qt_resultWalk, .ref qt_machine, .int t_sealed, .int t_foundAlike])), (qt_machine, .inr (4, [.ref qt_machine_inputs, .ref qt_machine_registers, .int t_machine_toldSet, .int t_machine_done])), (qt_machine_inputs, .inl (cI, 5, .inl t_machine_inputs)), (qt_machine_registers, .inl (cI, 5, .inl t_machine_registers)), (qr1, .inr (0, [.ref qr1_op, .ref qr1_d, .ref qr1_a, .ref qr1_b, .ref qr1_need, .int r1_length, .int r1_leaders])), (qr1_op, .inl (cI, 20, .inl r1_op)), (qr1_d, .inl (cI, 20, .inl r1_d)), (qr1_a, .inl (cI, 20, .inl r1_a)), (qr1_b, .inl (cI, 20, .inl r1_b))]
def f_BlockCode_runCode (p2 : Int32) (t_machine_inputs : Nat → Int32) (t_sealed : Int32) (r1_op : Nat → Int32) (r1_d : Nat → Int32) (r1_a : Nat → Int32) (r1_b : Nat → Int32) (r1_length : Int32) (t_machine_registers : Nat → Int32) (t_machine_toldSet : Int32) (t_machine_done : Int32) : Option (Int32 × (Nat → Int32) × Int32 × Int32) :=
  if t_sealed = (0 : Int32) then
    some ((-1 : Int32), t_machine_registers, t_machine_toldSet, t_machine_done)
  else
    if p2 < (0 : Int32) then
      some ((-1 : Int32), t_machine_registers, t_machine_toldSet, t_machine_done)
    else
      if p2 ≤ (1000 : Int32) then
        (f_Machine_run p2 t_machine_inputs r1_op r1_d r1_a r1_b r1_length t_machine_registers t_machine_toldSet t_machine_done).bind fun (rz1, u2, u3, u4) =>
        some (rz1, u2, u3, u4)
      else
        some ((-1 : Int32), t_machine_registers, t_machine_toldSet, t_machine_done)
abbrev rm_BlockCode_runSource : Room := { frames := 4, cells := 0, slots := 0, locals := 93 }
abbrev ww_BlockCode_runSource (cI cJ cZ : ClassId) (qt : Nat) (qt_sourceCode : Nat) (qt_resultCode : Nat) (qt_facts : Nat) (qt_symbols : Nat) (qt_sourceWalk : Nat) (qt_resultWalk : Nat) (qt_machine : Nat) (qt_sourceCode_op : Nat) (qt_sourceCode_d : Nat) (qt_sourceCode_a : Nat) (qt_sourceCode_b : Nat) (qt_sourceCode_need : Nat) (qt_machine_inputs : Nat) (qt_machine_registers : Nat) (t_sealed : Int32) (t_foundAlike : Int32) (t_sourceCode_length : Int32) (t_sourceCode_leaders : Int32) (t_sourceCode_op : Nat → Int32) (t_sourceCode_d : Nat → Int32) (t_sourceCode_a : Nat → Int32) (t_sourceCode_b : Nat → Int32) (t_machine_toldSet : Int32) (t_machine_done : Int32) (t_machine_inputs : Nat → Int32) (t_machine_registers : Nat → Int32) : va_W := [(qt, .inr (5, [.ref qt_sourceCode, .ref qt_resultCode, .ref qt_facts, .ref qt_symbols, .ref qt_sourceWalk, .ref qt_resultWalk, .ref qt_machine, .int t_sealed, .int t_foundAlike])), (qt_sourceCode, .inr (0, [.ref qt_sourceCode_op, .ref qt_sourceCode_d, .ref qt_sourceCode_a, .ref qt_sourceCode_b, .ref qt_sourceCode_need, .int t_sourceCode_length, .int t_sourceCode_leaders])), (qt_sourceCode_op, .inl (cI, 20, .inl t_sourceCode_op)), (qt_sourceCode_d, .inl (cI, 20, .inl t_sourceCode_d)), (qt_sourceCode_a, .inl (cI, 20, .inl t_sourceCode_a)), (qt_sourceCode_b, .inl (cI, 20, .inl t_sourceCode_b)), (qt_machine, .inr (4, [.ref qt_machine_inputs, .ref qt_machine_registers, .int t_machine_toldSet, .int t_machine_done])), (qt_machine_inputs, .inl (cI, 5, .inl t_machine_inputs)), (qt_machine_registers, .inl (cI, 5, .inl t_machine_registers))]
def f_BlockCode_runSource (p1 : Int32) (t_sourceCode_op : Nat → Int32) (t_sourceCode_d : Nat → Int32) (t_sourceCode_a : Nat → Int32) (t_sourceCode_b : Nat → Int32) (t_sourceCode_length : Int32) (t_machine_inputs : Nat → Int32) (t_sealed : Int32) (t_machine_registers : Nat → Int32) (t_machine_toldSet : Int32) (t_machine_done : Int32) : Option (Int32 × (Nat → Int32) × Int32 × Int32) :=
  (f_BlockCode_runCode p1 t_machine_inputs t_sealed t_sourceCode_op t_sourceCode_d t_sourceCode_a t_sourceCode_b t_sourceCode_length t_machine_registers t_machine_toldSet t_machine_done).bind fun (rz1, u2, u3, u4) =>
  some (rz1, u2, u3, u4)
abbrev rm_BlockCode_runResult : Room := { frames := 4, cells := 0, slots := 0, locals := 93 }
abbrev ww_BlockCode_runResult (cI cJ cZ : ClassId) (qt : Nat) (qt_sourceCode : Nat) (qt_resultCode : Nat) (qt_facts : Nat) (qt_symbols : Nat) (qt_sourceWalk : Nat) (qt_resultWalk : Nat) (qt_machine : Nat) (qt_resultCode_op : Nat) (qt_resultCode_d : Nat) (qt_resultCode_a : Nat) (qt_resultCode_b : Nat) (qt_resultCode_need : Nat) (qt_machine_inputs : Nat) (qt_machine_registers : Nat) (t_sealed : Int32) (t_foundAlike : Int32) (t_resultCode_length : Int32) (t_resultCode_leaders : Int32) (t_resultCode_op : Nat → Int32) (t_resultCode_d : Nat → Int32) (t_resultCode_a : Nat → Int32) (t_resultCode_b : Nat → Int32) (t_machine_toldSet : Int32) (t_machine_done : Int32) (t_machine_inputs : Nat → Int32) (t_machine_registers : Nat → Int32) : va_W := [(qt, .inr (5, [.ref qt_sourceCode, .ref qt_resultCode, .ref qt_facts, .ref qt_symbols, .ref qt_sourceWalk, .ref qt_resultWalk, .ref qt_machine, .int t_sealed, .int t_foundAlike])), (qt_resultCode, .inr (0, [.ref qt_resultCode_op, .ref qt_resultCode_d, .ref qt_resultCode_a, .ref qt_resultCode_b, .ref qt_resultCode_need, .int t_resultCode_length, .int t_resultCode_leaders])), (qt_resultCode_op, .inl (cI, 20, .inl t_resultCode_op)), (qt_resultCode_d, .inl (cI, 20, .inl t_resultCode_d)), (qt_resultCode_a, .inl (cI, 20, .inl t_resultCode_a)), (qt_resultCode_b, .inl (cI, 20, .inl t_resultCode_b)), (qt_machine, .inr (4, [.ref qt_machine_inputs, .ref qt_machine_registers, .int t_machine_toldSet, .int t_machine_done])), (qt_machine_inputs, .inl (cI, 5, .inl t_machine_inputs)), (qt_machine_registers, .inl (cI, 5, .inl t_machine_registers))]
def f_BlockCode_runResult (p1 : Int32) (t_resultCode_op : Nat → Int32) (t_resultCode_d : Nat → Int32) (t_resultCode_a : Nat → Int32) (t_resultCode_b : Nat → Int32) (t_resultCode_length : Int32) (t_machine_inputs : Nat → Int32) (t_sealed : Int32) (t_machine_registers : Nat → Int32) (t_machine_toldSet : Int32) (t_machine_done : Int32) : Option (Int32 × (Nat → Int32) × Int32 × Int32) :=
  (f_BlockCode_runCode p1 t_machine_inputs t_sealed t_resultCode_op t_resultCode_d t_resultCode_a t_resultCode_b t_resultCode_length t_machine_registers t_machine_toldSet t_machine_done).bind fun (rz1, u2, u3, u4) =>
  some (rz1, u2, u3, u4)
abbrev rm_BlockCode_told : Room := { frames := 1, cells := 0, slots := 0, locals := 21 }
abbrev ww_BlockCode_told (cI cJ cZ : ClassId) (qt : Nat) (qt_sourceCode : Nat) (qt_resultCode : Nat) (qt_facts : Nat) (qt_symbols : Nat) (qt_sourceWalk : Nat) (qt_resultWalk : Nat) (qt_machine : Nat) (qt_machine_inputs : Nat) (qt_machine_registers : Nat) (t_sealed : Int32) (t_foundAlike : Int32) (t_machine_toldSet : Int32) (t_machine_done : Int32) (t_machine_registers : Nat → Int32) : va_W := [(qt, .inr (5, [.ref qt_sourceCode, .ref qt_resultCode, .ref qt_facts, .ref qt_symbols, .ref qt_sourceWalk, .ref qt_resultWalk, .ref qt_machine, .int t_sealed, .int t_foundAlike])), (qt_machine, .inr (4, [.ref qt_machine_inputs, .ref qt_machine_registers, .int t_machine_toldSet, .int t_machine_done])), (qt_machine_registers, .inl (cI, 5, .inl t_machine_registers))]
def f_BlockCode_told (p1 : Int32) (t_machine_registers : Nat → Int32) (t_machine_toldSet : Int32) : Option (Int32) :=
  (f_BlockCode_isRegister p1).bind fun rz1 =>
  if rz1 = (0 : Int32) then
    some (0 : Int32)
  else
    (f_BlockCode_isIn p1 t_machine_toldSet).bind fun rz2 =>
    if rz2 = (0 : Int32) then
      some (0 : Int32)
    else
      (rdI t_machine_registers 5 p1).bind fun v3 =>
      some v3
abbrev rm_BlockCode_steps : Room := { frames := 0, cells := 0, slots := 0, locals := 0 }
abbrev ww_BlockCode_steps (cI cJ cZ : ClassId) (qt : Nat) (qt_sourceCode : Nat) (qt_resultCode : Nat) (qt_facts : Nat) (qt_symbols : Nat) (qt_sourceWalk : Nat) (qt_resultWalk : Nat) (qt_machine : Nat) (qt_machine_inputs : Nat) (qt_machine_registers : Nat) (t_sealed : Int32) (t_foundAlike : Int32) (t_machine_toldSet : Int32) (t_machine_done : Int32) : va_W := [(qt, .inr (5, [.ref qt_sourceCode, .ref qt_resultCode, .ref qt_facts, .ref qt_symbols, .ref qt_sourceWalk, .ref qt_resultWalk, .ref qt_machine, .int t_sealed, .int t_foundAlike])), (qt_machine, .inr (4, [.ref qt_machine_inputs, .ref qt_machine_registers, .int t_machine_toldSet, .int t_machine_done]))]
def f_BlockCode_steps (t_machine_done : Int32) : Option (Int32) :=
  some t_machine_done
abbrev rm_BlockCodeModel_thrown : Room := { frames := 0, cells := 0, slots := 0, locals := 0 }
abbrev ww_BlockCodeModel_thrown (cI cJ cZ : ClassId) (qt : Nat) (qt_code : Nat) (qt_inputs : Nat) (qt_reached : Nat) (qt_isInt : Nat) (qt_fact : Nat) (qt_need : Nat) (qt_leader : Nat) (qt_kind : Nat) (qt_left : Nat) (qt_right : Nat) (qt_hold : Nat) (qt_risk : Nat) (qt_risks : Nat) (qt_end : Nat) (qt_to : Nat) (qt_symbol : Nat) (qt_place : Nat) (qt_register : Nat) (t_size : Int32) (t_thrown : Int32) (t_sealed : Int32) (t_good : Int32) (t_symbols : Int32) (t_set : Int32) (t_steps : Int32) (t_ended : Int32) : va_W := [(qt, .inr (6, [.ref qt_code, .int t_size, .int t_thrown, .int t_sealed, .int t_good, .ref qt_inputs, .ref qt_reached, .ref qt_isInt, .ref qt_fact, .ref qt_need, .ref qt_leader, .ref qt_kind, .ref qt_left, .ref qt_right, .int t_symbols, .ref qt_hold, .ref qt_risk, .ref qt_risks, .ref qt_end, .ref qt_to, .ref qt_symbol, .ref qt_place, .ref qt_register, .int t_set, .int t_steps, .int t_ended]))]
def f_BlockCodeModel_thrown (t_thrown : Int32) : Option (Int32) :=
  some t_thrown
abbrev rm_BlockCodeModel_within : Room := { frames := 0, cells := 0, slots := 0, locals := 0 }
abbrev ww_BlockCodeModel_within (cI cJ cZ : ClassId) : va_W := []
def f_BlockCodeModel_within (p0 : Int32) (p1 : Int32) (p2 : Int32) : Option (Int32) :=
  if p0 < p1 then
    some (0 : Int32)
  else
    if p2 < p0 then
      some (0 : Int32)
    else
      some (1 : Int32)
abbrev rm_BlockCodeModel_says : Room := { frames := 1, cells := 0, slots := 0, locals := 22 }
abbrev ww_BlockCodeModel_says (cI cJ cZ : ClassId) : va_W := []
def f_BlockCodeModel_says_42 (p0 : Int32) (p1 : Int32) : Option (Int32) :=
  some (1 : Int32)
def f_BlockCodeModel_says (p0 : Int32) (p1 : Int32) : Option (Int32) :=
  if p1 = (1 : Int32) then
    (f_BlockCodeModel_within p0 (1 : Int32) (7 : Int32)).bind fun rz3 =>
    (gzI rz3).bind fun z0 => some z0
  else
    if p1 = (2 : Int32) then
      (f_BlockCodeModel_within p0 (1 : Int32) (10 : Int32)).bind fun rz2 =>
      (gzI rz2).bind fun z0 => some z0
    else
      (f_BlockCodeModel_within p0 (3 : Int32) (7 : Int32)).bind fun rz1 =>
      if rz1 = (0 : Int32) then
        if p0 = (9 : Int32) then
          f_BlockCodeModel_says_42 p0 p1
        else
          some (0 : Int32)
      else
        f_BlockCodeModel_says_42 p0 p1
abbrev rm_BlockCodeModel_hasForm : Room := { frames := 1, cells := 0, slots := 0, locals := 22 }
abbrev ww_BlockCodeModel_hasForm (cI cJ cZ : ClassId) : va_W := []
def f_BlockCodeModel_hasForm_131 (p0 : Int32) (p1 : Int32) (p2 : Int32) (p3 : Int32) : Option (Int32) :=
  some (1 : Int32)
def f_BlockCodeModel_hasForm_115 (p0 : Int32) (p1 : Int32) (p2 : Int32) (p3 : Int32) : Option (Int32) :=
  if p0 = (10 : Int32) then
    (f_BlockCodeModel_within p2 (0 : Int32) (31 : Int32)).bind fun rz1 =>
    if rz1 = (0 : Int32) then
      some (0 : Int32)
    else
      f_BlockCodeModel_hasForm_131 p0 p1 p2 p3
  else
    f_BlockCodeModel_hasForm_131 p0 p1 p2 p3
def f_BlockCodeModel_hasForm_97 (p0 : Int32) (p1 : Int32) (p2 : Int32) (p3 : Int32) : Option (Int32) :=
  if p0 = (9 : Int32) then
    (f_BlockCodeModel_within p3 (0 : Int32) (19 : Int32)).bind fun rz1 =>
    if rz1 = (0 : Int32) then
      some (0 : Int32)
    else
      f_BlockCodeModel_hasForm_115 p0 p1 p2 p3
  else
    f_BlockCodeModel_hasForm_115 p0 p1 p2 p3
def f_BlockCodeModel_hasForm_81 (p0 : Int32) (p1 : Int32) (p2 : Int32) (p3 : Int32) : Option (Int32) :=
  if p0 = (8 : Int32) then
    (f_BlockCodeModel_within p2 (0 : Int32) (19 : Int32)).bind fun rz1 =>
    if rz1 = (0 : Int32) then
      some (0 : Int32)
    else
      f_BlockCodeModel_hasForm_97 p0 p1 p2 p3
  else
    f_BlockCodeModel_hasForm_97 p0 p1 p2 p3
def f_BlockCodeModel_hasForm_60 (p0 : Int32) (p1 : Int32) (p2 : Int32) (p3 : Int32) : Option (Int32) :=
  (f_BlockCodeModel_within p0 (3 : Int32) (7 : Int32)).bind fun rz1 =>
  if rz1 = (0 : Int32) then
    f_BlockCodeModel_hasForm_81 p0 p1 p2 p3
  else
    (f_BlockCodeModel_within p3 (0 : Int32) (4 : Int32)).bind fun rz2 =>
    if rz2 = (0 : Int32) then
      some (0 : Int32)
    else
      f_BlockCodeModel_hasForm_81 p0 p1 p2 p3
def f_BlockCodeModel_hasForm_49 (p0 : Int32) (p1 : Int32) (p2 : Int32) (p3 : Int32) : Option (Int32) :=
  (f_BlockCodeModel_within p2 (0 : Int32) (4 : Int32)).bind fun rz1 =>
  if rz1 = (0 : Int32) then
    some (0 : Int32)
  else
    f_BlockCodeModel_hasForm_60 p0 p1 p2 p3
def f_BlockCodeModel_hasForm_33 (p0 : Int32) (p1 : Int32) (p2 : Int32) (p3 : Int32) : Option (Int32) :=
  (f_BlockCodeModel_within p0 (2 : Int32) (7 : Int32)).bind fun rz1 =>
  if rz1 = (0 : Int32) then
    if p0 = (9 : Int32) then
      f_BlockCodeModel_hasForm_49 p0 p1 p2 p3
    else
      f_BlockCodeModel_hasForm_60 p0 p1 p2 p3
  else
    f_BlockCodeModel_hasForm_49 p0 p1 p2 p3
def f_BlockCodeModel_hasForm (p0 : Int32) (p1 : Int32) (p2 : Int32) (p3 : Int32) : Option (Int32) :=
  (f_BlockCodeModel_within p0 (0 : Int32) (10 : Int32)).bind fun rz1 =>
  if rz1 = (0 : Int32) then
    some (0 : Int32)
  else
    (f_BlockCodeModel_within p0 (1 : Int32) (7 : Int32)).bind fun rz2 =>
    if rz2 = (0 : Int32) then
      f_BlockCodeModel_hasForm_33 p0 p1 p2 p3
    else
      (f_BlockCodeModel_within p1 (0 : Int32) (4 : Int32)).bind fun rz3 =>
      if rz3 = (0 : Int32) then
        some (0 : Int32)
      else
        f_BlockCodeModel_hasForm_33 p0 p1 p2 p3
abbrev rm_BlockCodeModel_put : Room := { frames := 2, cells := 0, slots := 0, locals := 43 }
abbrev ww_BlockCodeModel_put (cI cJ cZ : ClassId) (qt : Nat) (qt_code : Nat) (qt_inputs : Nat) (qt_reached : Nat) (qt_isInt : Nat) (qt_fact : Nat) (qt_need : Nat) (qt_leader : Nat) (qt_kind : Nat) (qt_left : Nat) (qt_right : Nat) (qt_hold : Nat) (qt_risk : Nat) (qt_risks : Nat) (qt_end : Nat) (qt_to : Nat) (qt_symbol : Nat) (qt_place : Nat) (qt_register : Nat) (t_size : Int32) (t_thrown : Int32) (t_sealed : Int32) (t_good : Int32) (t_symbols : Int32) (t_set : Int32) (t_steps : Int32) (t_ended : Int32) (t_code : Nat → Int32) : va_W := [(qt, .inr (6, [.ref qt_code, .int t_size, .int t_thrown, .int t_sealed, .int t_good, .ref qt_inputs, .ref qt_reached, .ref qt_isInt, .ref qt_fact, .ref qt_need, .ref qt_leader, .ref qt_kind, .ref qt_left, .ref qt_right, .int t_symbols, .ref qt_hold, .ref qt_risk, .ref qt_risks, .ref qt_end, .ref qt_to, .ref qt_symbol, .ref qt_place, .ref qt_register, .int t_set, .int t_steps, .int t_ended])), (qt_code, .inl (cI, 160, .inl t_code))]
def f_BlockCodeModel_put_71 (p1 : Int32) (p2 : Int32) (p3 : Int32) (p4 : Int32) (p5 : Int32) (s0 : Int32) (s1 : Int32) (t_code : Nat → Int32) : Option ((Nat → Int32)) :=
  (wrI t_code 160 s1 s0).bind fun w1 =>
  some w1
def f_BlockCodeModel_put_49 (p1 : Int32) (p2 : Int32) (p3 : Int32) (p4 : Int32) (p5 : Int32) (s0 : Int32) (s1 : Int32) (t_code : Nat → Int32) : Option ((Nat → Int32)) :=
  (wrI t_code 160 s1 s0).bind fun w1 =>
  (f_BlockCodeModel_says p2 (3 : Int32)).bind fun rz2 =>
  if rz2 = (0 : Int32) then
    f_BlockCodeModel_put_71 p1 p2 p3 p4 p5 (0 : Int32) (p1 + (3 : Int32)) w1
  else
    f_BlockCodeModel_put_71 p1 p2 p3 p4 p5 p5 (p1 + (3 : Int32)) w1
def f_BlockCodeModel_put_27 (p1 : Int32) (p2 : Int32) (p3 : Int32) (p4 : Int32) (p5 : Int32) (s0 : Int32) (s1 : Int32) (t_code : Nat → Int32) : Option ((Nat → Int32)) :=
  (wrI t_code 160 s1 s0).bind fun w1 =>
  (f_BlockCodeModel_says p2 (2 : Int32)).bind fun rz2 =>
  if rz2 = (0 : Int32) then
    f_BlockCodeModel_put_49 p1 p2 p3 p4 p5 (0 : Int32) (p1 + (2 : Int32)) w1
  else
    f_BlockCodeModel_put_49 p1 p2 p3 p4 p5 p4 (p1 + (2 : Int32)) w1
def f_BlockCodeModel_put (p1 : Int32) (p2 : Int32) (p3 : Int32) (p4 : Int32) (p5 : Int32) (t_code : Nat → Int32) : Option ((Nat → Int32)) :=
  (wrI t_code 160 p1 p2).bind fun w1 =>
  (f_BlockCodeModel_says p2 (1 : Int32)).bind fun rz2 =>
  if rz2 = (0 : Int32) then
    f_BlockCodeModel_put_27 p1 p2 p3 p4 p5 (0 : Int32) (p1 + (1 : Int32)) w1
  else
    f_BlockCodeModel_put_27 p1 p2 p3 p4 p5 p3 (p1 + (1 : Int32)) w1
abbrev rm_BlockCodeModel_add : Room := { frames := 3, cells := 0, slots := 0, locals := 68 }
abbrev ww_BlockCodeModel_add (cI cJ cZ : ClassId) (qt : Nat) (qt_code : Nat) (qt_inputs : Nat) (qt_reached : Nat) (qt_isInt : Nat) (qt_fact : Nat) (qt_need : Nat) (qt_leader : Nat) (qt_kind : Nat) (qt_left : Nat) (qt_right : Nat) (qt_hold : Nat) (qt_risk : Nat) (qt_risks : Nat) (qt_end : Nat) (qt_to : Nat) (qt_symbol : Nat) (qt_place : Nat) (qt_register : Nat) (t_size : Int32) (t_thrown : Int32) (t_sealed : Int32) (t_good : Int32) (t_symbols : Int32) (t_set : Int32) (t_steps : Int32) (t_ended : Int32) (t_code : Nat → Int32) : va_W := [(qt, .inr (6, [.ref qt_code, .int t_size, .int t_thrown, .int t_sealed, .int t_good, .ref qt_inputs, .ref qt_reached, .ref qt_isInt, .ref qt_fact, .ref qt_need, .ref qt_leader, .ref qt_kind, .ref qt_left, .ref qt_right, .int t_symbols, .ref qt_hold, .ref qt_risk, .ref qt_risks, .ref qt_end, .ref qt_to, .ref qt_symbol, .ref qt_place, .ref qt_register, .int t_set, .int t_steps, .int t_ended])), (qt_code, .inl (cI, 160, .inl t_code))]
def f_BlockCodeModel_add_13 (p1 : Int32) (p2 : Int32) (p3 : Int32) (p4 : Int32) (t_sealed : Int32) (s0 : Int32) (t_code : Nat → Int32) (t_size : Int32) (t_thrown : Int32) : Option (Int32 × (Nat → Int32) × Int32 × Int32) :=
  if t_sealed = (0 : Int32) then
    (f_BlockCodeModel_hasForm p1 p2 p3 p4).bind fun rz1 =>
    if rz1 = (0 : Int32) then
      some ((-1 : Int32), t_code, t_size, s0)
    else
      if t_size = (20 : Int32) then
        some ((-2 : Int32), t_code, t_size, s0)
      else
        (f_BlockCodeModel_put ((4 : Int32) * t_size) p1 p2 p3 p4 t_code).bind fun u2 =>
        some (((t_size + (1 : Int32)) - (1 : Int32)), u2, (t_size + (1 : Int32)), s0)
  else
    some ((0 : Int32), t_code, t_size, s0)
def f_BlockCodeModel_add (p1 : Int32) (p2 : Int32) (p3 : Int32) (p4 : Int32) (t_sealed : Int32) (t_code : Nat → Int32) (t_size : Int32) (t_thrown : Int32) : Option (Int32 × (Nat → Int32) × Int32 × Int32) :=
  if t_sealed = (0 : Int32) then
    f_BlockCodeModel_add_13 p1 p2 p3 p4 t_sealed (0 : Int32) t_code t_size t_thrown
  else
    f_BlockCodeModel_add_13 p1 p2 p3 p4 t_sealed (1 : Int32) t_code t_size t_thrown
abbrev rm_BlockCodeModel_clear : Room := { frames := 0, cells := 0, slots := 0, locals := 0 }
abbrev ww_BlockCodeModel_clear (cI cJ cZ : ClassId) (qt : Nat) (qt_code : Nat) (qt_inputs : Nat) (qt_reached : Nat) (qt_isInt : Nat) (qt_fact : Nat) (qt_need : Nat) (qt_leader : Nat) (qt_kind : Nat) (qt_left : Nat) (qt_right : Nat) (qt_hold : Nat) (qt_risk : Nat) (qt_risks : Nat) (qt_end : Nat) (qt_to : Nat) (qt_symbol : Nat) (qt_place : Nat) (qt_register : Nat) (t_size : Int32) (t_thrown : Int32) (t_sealed : Int32) (t_good : Int32) (t_symbols : Int32) (t_set : Int32) (t_steps : Int32) (t_ended : Int32) : va_W := [(qt, .inr (6, [.ref qt_code, .int t_size, .int t_thrown, .int t_sealed, .int t_good, .ref qt_inputs, .ref qt_reached, .ref qt_isInt, .ref qt_fact, .ref qt_need, .ref qt_leader, .ref qt_kind, .ref qt_left, .ref qt_right, .int t_symbols, .ref qt_hold, .ref qt_risk, .ref qt_risks, .ref qt_end, .ref qt_to, .ref qt_symbol, .ref qt_place, .ref qt_register, .int t_set, .int t_steps, .int t_ended]))]
def f_BlockCodeModel_clear (t_size : Int32) (t_thrown : Int32) (t_sealed : Int32) (t_good : Int32) : Option (Int32 × Int32 × Int32 × Int32) :=
  some ((0 : Int32), (0 : Int32), (0 : Int32), (0 : Int32))
abbrev rm_BlockCodeModel_copy : Room := { frames := 0, cells := 0, slots := 0, locals := 0 }
abbrev ww_BlockCodeModel_copy (cI cJ cZ : ClassId) (qt : Nat) (qt_code : Nat) (qt_inputs : Nat) (qt_reached : Nat) (qt_isInt : Nat) (qt_fact : Nat) (qt_need : Nat) (qt_leader : Nat) (qt_kind : Nat) (qt_left : Nat) (qt_right : Nat) (qt_hold : Nat) (qt_risk : Nat) (qt_risks : Nat) (qt_end : Nat) (qt_to : Nat) (qt_symbol : Nat) (qt_place : Nat) (qt_register : Nat) (t_size : Int32) (t_thrown : Int32) (t_sealed : Int32) (t_good : Int32) (t_symbols : Int32) (t_set : Int32) (t_steps : Int32) (t_ended : Int32) (t_code : Nat → Int32) : va_W := [(qt, .inr (6, [.ref qt_code, .int t_size, .int t_thrown, .int t_sealed, .int t_good, .ref qt_inputs, .ref qt_reached, .ref qt_isInt, .ref qt_fact, .ref qt_need, .ref qt_leader, .ref qt_kind, .ref qt_left, .ref qt_right, .int t_symbols, .ref qt_hold, .ref qt_risk, .ref qt_risks, .ref qt_end, .ref qt_to, .ref qt_symbol, .ref qt_place, .ref qt_register, .int t_set, .int t_steps, .int t_ended])), (qt_code, .inl (cI, 160, .inl t_code))]
def f_BlockCodeModel_copy_2 (p1 : Int32) (p2 : Int32) (t_size : Int32) : Nat → Int32 → (Nat → Int32) → Option ((Nat → Int32))
  | 0, _, _ => none
  | n + 1, x3, t_code =>
    if ((4 : Int32) * t_size) ≤ x3 then
      some t_code
    else
      (rdI t_code 160 (((80 : Int32) * p1) + x3)).bind fun v1 =>
      (wrI t_code 160 (((80 : Int32) * p2) + x3) v1).bind fun w2 =>
      (f_BlockCodeModel_copy_2 p1 p2 t_size n) (x3 + (1 : Int32)) w2
def f_BlockCodeModel_copy (p1 : Int32) (p2 : Int32) (t_size : Int32) (t_code : Nat → Int32) : Option ((Nat → Int32)) :=
  f_BlockCodeModel_copy_2 p1 p2 t_size fu (0 : Int32) t_code
abbrev rm_BlockCodeModel_ends : Room := { frames := 0, cells := 0, slots := 0, locals := 0 }
abbrev ww_BlockCodeModel_ends (cI cJ cZ : ClassId) : va_W := []
def f_BlockCodeModel_ends_12 (p0 : Int32) : Option (Int32) :=
  some (1 : Int32)
def f_BlockCodeModel_ends (p0 : Int32) : Option (Int32) :=
  if p0 = (8 : Int32) then
    f_BlockCodeModel_ends_12 p0
  else
    if p0 = (10 : Int32) then
      f_BlockCodeModel_ends_12 p0
    else
      some (0 : Int32)
abbrev rm_BlockCodeModel_findLeaders : Room := { frames := 0, cells := 0, slots := 0, locals := 0 }
abbrev ww_BlockCodeModel_findLeaders (cI cJ cZ : ClassId) (qt : Nat) (qt_code : Nat) (qt_inputs : Nat) (qt_reached : Nat) (qt_isInt : Nat) (qt_fact : Nat) (qt_need : Nat) (qt_leader : Nat) (qt_kind : Nat) (qt_left : Nat) (qt_right : Nat) (qt_hold : Nat) (qt_risk : Nat) (qt_risks : Nat) (qt_end : Nat) (qt_to : Nat) (qt_symbol : Nat) (qt_place : Nat) (qt_register : Nat) (t_size : Int32) (t_thrown : Int32) (t_sealed : Int32) (t_good : Int32) (t_symbols : Int32) (t_set : Int32) (t_steps : Int32) (t_ended : Int32) (t_code : Nat → Int32) (t_leader : Nat → Int32) : va_W := [(qt, .inr (6, [.ref qt_code, .int t_size, .int t_thrown, .int t_sealed, .int t_good, .ref qt_inputs, .ref qt_reached, .ref qt_isInt, .ref qt_fact, .ref qt_need, .ref qt_leader, .ref qt_kind, .ref qt_left, .ref qt_right, .int t_symbols, .ref qt_hold, .ref qt_risk, .ref qt_risks, .ref qt_end, .ref qt_to, .ref qt_symbol, .ref qt_place, .ref qt_register, .int t_set, .int t_steps, .int t_ended])), (qt_code, .inl (cI, 160, .inl t_code)), (qt_leader, .inl (cZ, 21, .inl t_leader))]
def f_BlockCodeModel_findLeaders_22 (t_code : Nat → Int32) (t_size : Int32) (k2 : Int32 → (Nat → Int32) → Option ((Nat → Int32))) (x1 : Int32) (s0 : Int32) (s1 : Int32) (t_leader : Nat → Int32) : Option ((Nat → Int32)) :=
  (wrZ t_leader 21 s1 s0).bind fun w1 =>
  k2 (x1 + (1 : Int32)) w1
def f_BlockCodeModel_findLeaders_107 (t_code : Nat → Int32) (t_size : Int32) (k31 : Int32 → (Nat → Int32) → Option ((Nat → Int32))) (x1 : Int32) (t_leader : Nat → Int32) : Option ((Nat → Int32)) :=
  k31 (x1 + (1 : Int32)) t_leader
def f_BlockCodeModel_findLeaders_92 (t_code : Nat → Int32) (t_size : Int32) (k31 : Int32 → (Nat → Int32) → Option ((Nat → Int32))) (x1 : Int32) (x2 : Int32) (t_leader : Nat → Int32) : Option ((Nat → Int32)) :=
  if x2 < (8 : Int32) then
    f_BlockCodeModel_findLeaders_107 t_code t_size k31 x1 t_leader
  else
    (wrZ t_leader 21 (x1 + (1 : Int32)) (1 : Int32)).bind fun w1 =>
    f_BlockCodeModel_findLeaders_107 t_code t_size k31 x1 w1
def f_BlockCodeModel_findLeaders_70 (t_code : Nat → Int32) (t_size : Int32) (k31 : Int32 → (Nat → Int32) → Option ((Nat → Int32))) (x1 : Int32) (x2 : Int32) (t_leader : Nat → Int32) : Option ((Nat → Int32)) :=
  if x2 = (9 : Int32) then
    (rdI t_code 160 (((4 : Int32) * x1) + (3 : Int32))).bind fun v1 =>
    (wrZ t_leader 21 v1 (1 : Int32)).bind fun w2 =>
    f_BlockCodeModel_findLeaders_92 t_code t_size k31 x1 x2 w2
  else
    f_BlockCodeModel_findLeaders_92 t_code t_size k31 x1 x2 t_leader
def f_BlockCodeModel_findLeaders_31 (t_code : Nat → Int32) (t_size : Int32) : Nat → Int32 → (Nat → Int32) → Option ((Nat → Int32))
  | 0, _, _ => none
  | n + 1, x1, t_leader =>
    if t_size ≤ x1 then
      some t_leader
    else
      (rdI t_code 160 ((4 : Int32) * x1)).bind fun v1 =>
      if v1 = (8 : Int32) then
        (rdI t_code 160 (((4 : Int32) * x1) + (2 : Int32))).bind fun v2 =>
        (wrZ t_leader 21 v2 (1 : Int32)).bind fun w3 =>
        f_BlockCodeModel_findLeaders_70 t_code t_size (f_BlockCodeModel_findLeaders_31 t_code t_size n) x1 v1 w3
      else
        f_BlockCodeModel_findLeaders_70 t_code t_size (f_BlockCodeModel_findLeaders_31 t_code t_size n) x1 v1 t_leader
def f_BlockCodeModel_findLeaders_2 (t_code : Nat → Int32) (t_size : Int32) : Nat → Int32 → (Nat → Int32) → Option ((Nat → Int32))
  | 0, _, _ => none
  | n + 1, x1, t_leader =>
    if (20 : Int32) < x1 then
      f_BlockCodeModel_findLeaders_31 t_code t_size fu (0 : Int32) t_leader
    else
      if x1 = (0 : Int32) then
        f_BlockCodeModel_findLeaders_22 t_code t_size (f_BlockCodeModel_findLeaders_2 t_code t_size n) x1 (1 : Int32) x1 t_leader
      else
        f_BlockCodeModel_findLeaders_22 t_code t_size (f_BlockCodeModel_findLeaders_2 t_code t_size n) x1 (0 : Int32) x1 t_leader
def f_BlockCodeModel_findLeaders (t_code : Nat → Int32) (t_size : Int32) (t_leader : Nat → Int32) : Option ((Nat → Int32)) :=
  f_BlockCodeModel_findLeaders_2 t_code t_size fu (0 : Int32) t_leader
abbrev rm_BlockCodeModel_seal : Room := { frames := 1, cells := 0, slots := 0, locals := 23 }
abbrev ww_BlockCodeModel_seal (cI cJ cZ : ClassId) (qt : Nat) (qt_code : Nat) (qt_inputs : Nat) (qt_reached : Nat) (qt_isInt : Nat) (qt_fact : Nat) (qt_need : Nat) (qt_leader : Nat) (qt_kind : Nat) (qt_left : Nat) (qt_right : Nat) (qt_hold : Nat) (qt_risk : Nat) (qt_risks : Nat) (qt_end : Nat) (qt_to : Nat) (qt_symbol : Nat) (qt_place : Nat) (qt_register : Nat) (t_size : Int32) (t_thrown : Int32) (t_sealed : Int32) (t_good : Int32) (t_symbols : Int32) (t_set : Int32) (t_steps : Int32) (t_ended : Int32) (t_code : Nat → Int32) (t_leader : Nat → Int32) : va_W := [(qt, .inr (6, [.ref qt_code, .int t_size, .int t_thrown, .int t_sealed, .int t_good, .ref qt_inputs, .ref qt_reached, .ref qt_isInt, .ref qt_fact, .ref qt_need, .ref qt_leader, .ref qt_kind, .ref qt_left, .ref qt_right, .int t_symbols, .ref qt_hold, .ref qt_risk, .ref qt_risks, .ref qt_end, .ref qt_to, .ref qt_symbol, .ref qt_place, .ref qt_register, .int t_set, .int t_steps, .int t_ended])), (qt_code, .inl (cI, 160, .inl t_code)), (qt_leader, .inl (cZ, 21, .inl t_leader))]
def f_BlockCodeModel_seal_175 (t_size : Int32) (k155 : Int32 → Int32 → (Nat → Int32) → Int32 → Int32 → Int32 → (Nat → Int32) → Option (Int32 × (Nat → Int32) × Int32 × Int32 × Int32 × (Nat → Int32))) (x1 : Int32) (x2 : Int32) (t_code : Nat → Int32) (t_thrown : Int32) (t_sealed : Int32) (t_good : Int32) (t_leader : Nat → Int32) : Option (Int32 × (Nat → Int32) × Int32 × Int32 × Int32 × (Nat → Int32)) :=
  k155 x1 (x2 + (1 : Int32)) t_code t_thrown t_sealed t_good t_leader
def f_BlockCodeModel_seal_155 (t_size : Int32) : Nat → Int32 → Int32 → (Nat → Int32) → Int32 → Int32 → Int32 → (Nat → Int32) → Option (Int32 × (Nat → Int32) × Int32 × Int32 × Int32 × (Nat → Int32))
  | 0, _, _, _, _, _, _, _ => none
  | n + 1, x1, x2, t_code, t_thrown, t_sealed, t_good, t_leader =>
    if t_size ≤ x2 then
      some (x1, t_code, t_thrown, t_sealed, t_good, t_leader)
    else
      (rdI t_leader 21 x2).bind fun v1 =>
      if v1 = (0 : Int32) then
        f_BlockCodeModel_seal_175 t_size (f_BlockCodeModel_seal_155 t_size n) x1 x2 t_code t_thrown t_sealed t_good t_leader
      else
        f_BlockCodeModel_seal_175 t_size (f_BlockCodeModel_seal_155 t_size n) (x1 + (1 : Int32)) x2 t_code t_thrown t_sealed t_good t_leader
def f_BlockCodeModel_seal_125 (t_size : Int32) (k55 : Int32 → (Nat → Int32) → Int32 → Int32 → Int32 → (Nat → Int32) → Option (Int32 × (Nat → Int32) × Int32 × Int32 × Int32 × (Nat → Int32))) (x1 : Int32) (t_code : Nat → Int32) (t_thrown : Int32) (t_sealed : Int32) (t_good : Int32) (t_leader : Nat → Int32) : Option (Int32 × (Nat → Int32) × Int32 × Int32 × Int32 × (Nat → Int32)) :=
  k55 (x1 + (1 : Int32)) t_code t_thrown t_sealed t_good t_leader
def f_BlockCodeModel_seal_93 (t_size : Int32) (k55 : Int32 → (Nat → Int32) → Int32 → Int32 → Int32 → (Nat → Int32) → Option (Int32 × (Nat → Int32) × Int32 × Int32 × Int32 × (Nat → Int32))) (x1 : Int32) (t_code : Nat → Int32) (t_thrown : Int32) (t_sealed : Int32) (t_good : Int32) (t_leader : Nat → Int32) : Option (Int32 × (Nat → Int32) × Int32 × Int32 × Int32 × (Nat → Int32)) :=
  (rdI t_code 160 ((4 : Int32) * x1)).bind fun v1 =>
  if v1 = (9 : Int32) then
    (rdI t_code 160 (((4 : Int32) * x1) + (3 : Int32))).bind fun v2 =>
    if v2 < t_size then
      f_BlockCodeModel_seal_125 t_size k55 x1 t_code t_thrown t_sealed t_good t_leader
    else
      some ((-1 : Int32), t_code, t_thrown, t_sealed, t_good, t_leader)
  else
    f_BlockCodeModel_seal_125 t_size k55 x1 t_code t_thrown t_sealed t_good t_leader
def f_BlockCodeModel_seal_55 (t_size : Int32) : Nat → Int32 → (Nat → Int32) → Int32 → Int32 → Int32 → (Nat → Int32) → Option (Int32 × (Nat → Int32) × Int32 × Int32 × Int32 × (Nat → Int32))
  | 0, _, _, _, _, _, _ => none
  | n + 1, x1, t_code, t_thrown, t_sealed, t_good, t_leader =>
    if t_size ≤ x1 then
      (f_BlockCodeModel_copy (0 : Int32) (1 : Int32) t_size t_code).bind fun u1 =>
      (f_BlockCodeModel_findLeaders u1 t_size t_leader).bind fun u2 =>
      f_BlockCodeModel_seal_155 t_size fu (0 : Int32) (0 : Int32) u1 t_thrown (1 : Int32) (0 : Int32) u2
    else
      (rdI t_code 160 ((4 : Int32) * x1)).bind fun v3 =>
      if v3 = (8 : Int32) then
        (rdI t_code 160 (((4 : Int32) * x1) + (2 : Int32))).bind fun v4 =>
        if t_size ≤ v4 then
          some ((-1 : Int32), t_code, t_thrown, t_sealed, t_good, t_leader)
        else
          f_BlockCodeModel_seal_93 t_size (f_BlockCodeModel_seal_55 t_size n) x1 t_code t_thrown t_sealed t_good t_leader
      else
        f_BlockCodeModel_seal_93 t_size (f_BlockCodeModel_seal_55 t_size n) x1 t_code t_thrown t_sealed t_good t_leader
def f_BlockCodeModel_seal_13 (t_size : Int32) (s0 : Int32) (t_code : Nat → Int32) (t_thrown : Int32) (t_sealed : Int32) (t_good : Int32) (t_leader : Nat → Int32) : Option (Int32 × (Nat → Int32) × Int32 × Int32 × Int32 × (Nat → Int32)) :=
  if t_sealed = (0 : Int32) then
    if t_size = (0 : Int32) then
      some ((-1 : Int32), t_code, s0, t_sealed, t_good, t_leader)
    else
      (rdI t_code 160 (((4 : Int32) * t_size) - (4 : Int32))).bind fun v1 =>
      (f_BlockCodeModel_ends v1).bind fun rz2 =>
      if rz2 = (0 : Int32) then
        some ((-1 : Int32), t_code, s0, t_sealed, t_good, t_leader)
      else
        f_BlockCodeModel_seal_55 t_size fu (0 : Int32) t_code s0 t_sealed t_good t_leader
  else
    some ((0 : Int32), t_code, s0, t_sealed, t_good, t_leader)
def f_BlockCodeModel_seal (t_size : Int32) (t_code : Nat → Int32) (t_thrown : Int32) (t_sealed : Int32) (t_good : Int32) (t_leader : Nat → Int32) : Option (Int32 × (Nat → Int32) × Int32 × Int32 × Int32 × (Nat → Int32)) :=
  if t_sealed = (0 : Int32) then
    f_BlockCodeModel_seal_13 t_size (0 : Int32) t_code t_thrown t_sealed t_good t_leader
  else
    f_BlockCodeModel_seal_13 t_size (1 : Int32) t_code t_thrown t_sealed t_good t_leader
abbrev rm_BlockCodeModel_size : Room := { frames := 0, cells := 0, slots := 0, locals := 0 }
abbrev ww_BlockCodeModel_size (cI cJ cZ : ClassId) (qt : Nat) (qt_code : Nat) (qt_inputs : Nat) (qt_reached : Nat) (qt_isInt : Nat) (qt_fact : Nat) (qt_need : Nat) (qt_leader : Nat) (qt_kind : Nat) (qt_left : Nat) (qt_right : Nat) (qt_hold : Nat) (qt_risk : Nat) (qt_risks : Nat) (qt_end : Nat) (qt_to : Nat) (qt_symbol : Nat) (qt_place : Nat) (qt_register : Nat) (t_size : Int32) (t_thrown : Int32) (t_sealed : Int32) (t_good : Int32) (t_symbols : Int32) (t_set : Int32) (t_steps : Int32) (t_ended : Int32) : va_W := [(qt, .inr (6, [.ref qt_code, .int t_size, .int t_thrown, .int t_sealed, .int t_good, .ref qt_inputs, .ref qt_reached, .ref qt_isInt, .ref qt_fact, .ref qt_need, .ref qt_leader, .ref qt_kind, .ref qt_left, .ref qt_right, .int t_symbols, .ref qt_hold, .ref qt_risk, .ref qt_risks, .ref qt_end, .ref qt_to, .ref qt_symbol, .ref qt_place, .ref qt_register, .int t_set, .int t_steps, .int t_ended]))]
def f_BlockCodeModel_size (t_size : Int32) (t_thrown : Int32) : Option (Int32 × Int32) :=
  some (t_size, (0 : Int32))
abbrev rm_BlockCodeModel_field : Room := { frames := 1, cells := 0, slots := 0, locals := 22 }
abbrev ww_BlockCodeModel_field (cI cJ cZ : ClassId) (qt : Nat) (qt_code : Nat) (qt_inputs : Nat) (qt_reached : Nat) (qt_isInt : Nat) (qt_fact : Nat) (qt_need : Nat) (qt_leader : Nat) (qt_kind : Nat) (qt_left : Nat) (qt_right : Nat) (qt_hold : Nat) (qt_risk : Nat) (qt_risks : Nat) (qt_end : Nat) (qt_to : Nat) (qt_symbol : Nat) (qt_place : Nat) (qt_register : Nat) (t_size : Int32) (t_thrown : Int32) (t_sealed : Int32) (t_good : Int32) (t_symbols : Int32) (t_set : Int32) (t_steps : Int32) (t_ended : Int32) (t_code : Nat → Int32) : va_W := [(qt, .inr (6, [.ref qt_code, .int t_size, .int t_thrown, .int t_sealed, .int t_good, .ref qt_inputs, .ref qt_reached, .ref qt_isInt, .ref qt_fact, .ref qt_need, .ref qt_leader, .ref qt_kind, .ref qt_left, .ref qt_right, .int t_symbols, .ref qt_hold, .ref qt_risk, .ref qt_risks, .ref qt_end, .ref qt_to, .ref qt_symbol, .ref qt_place, .ref qt_register, .int t_set, .int t_steps, .int t_ended])), (qt_code, .inl (cI, 160, .inl t_code))]
def f_BlockCodeModel_field (p1 : Int32) (p2 : Int32) (p3 : Int32) (t_code : Nat → Int32) (t_size : Int32) : Option (Int32) :=
  (f_BlockCodeModel_within p2 (0 : Int32) (t_size - (1 : Int32))).bind fun rz1 =>
  if rz1 = (0 : Int32) then
    some (-9 : Int32)
  else
    (f_BlockCodeModel_within p3 (0 : Int32) (3 : Int32)).bind fun rz2 =>
    if rz2 = (0 : Int32) then
      some (0 : Int32)
    else
      (rdI t_code 160 ((((80 : Int32) * p1) + ((4 : Int32) * p2)) + p3)).bind fun v3 =>
      some v3
abbrev rm_BlockCodeModel_source : Room := { frames := 2, cells := 0, slots := 0, locals := 45 }
abbrev ww_BlockCodeModel_source (cI cJ cZ : ClassId) (qt : Nat) (qt_code : Nat) (qt_inputs : Nat) (qt_reached : Nat) (qt_isInt : Nat) (qt_fact : Nat) (qt_need : Nat) (qt_leader : Nat) (qt_kind : Nat) (qt_left : Nat) (qt_right : Nat) (qt_hold : Nat) (qt_risk : Nat) (qt_risks : Nat) (qt_end : Nat) (qt_to : Nat) (qt_symbol : Nat) (qt_place : Nat) (qt_register : Nat) (t_size : Int32) (t_thrown : Int32) (t_sealed : Int32) (t_good : Int32) (t_symbols : Int32) (t_set : Int32) (t_steps : Int32) (t_ended : Int32) (t_code : Nat → Int32) : va_W := [(qt, .inr (6, [.ref qt_code, .int t_size, .int t_thrown, .int t_sealed, .int t_good, .ref qt_inputs, .ref qt_reached, .ref qt_isInt, .ref qt_fact, .ref qt_need, .ref qt_leader, .ref qt_kind, .ref qt_left, .ref qt_right, .int t_symbols, .ref qt_hold, .ref qt_risk, .ref qt_risks, .ref qt_end, .ref qt_to, .ref qt_symbol, .ref qt_place, .ref qt_register, .int t_set, .int t_steps, .int t_ended])), (qt_code, .inl (cI, 160, .inl t_code))]
def f_BlockCodeModel_source (p1 : Int32) (p2 : Int32) (t_code : Nat → Int32) (t_size : Int32) (t_thrown : Int32) : Option (Int32 × Int32) :=
  (f_BlockCodeModel_field (0 : Int32) p1 p2 t_code t_size).bind fun rz1 =>
  some (rz1, (0 : Int32))
abbrev rm_BlockCodeModel_result : Room := { frames := 2, cells := 0, slots := 0, locals := 45 }
abbrev ww_BlockCodeModel_result (cI cJ cZ : ClassId) (qt : Nat) (qt_code : Nat) (qt_inputs : Nat) (qt_reached : Nat) (qt_isInt : Nat) (qt_fact : Nat) (qt_need : Nat) (qt_leader : Nat) (qt_kind : Nat) (qt_left : Nat) (qt_right : Nat) (qt_hold : Nat) (qt_risk : Nat) (qt_risks : Nat) (qt_end : Nat) (qt_to : Nat) (qt_symbol : Nat) (qt_place : Nat) (qt_register : Nat) (t_size : Int32) (t_thrown : Int32) (t_sealed : Int32) (t_good : Int32) (t_symbols : Int32) (t_set : Int32) (t_steps : Int32) (t_ended : Int32) (t_code : Nat → Int32) : va_W := [(qt, .inr (6, [.ref qt_code, .int t_size, .int t_thrown, .int t_sealed, .int t_good, .ref qt_inputs, .ref qt_reached, .ref qt_isInt, .ref qt_fact, .ref qt_need, .ref qt_leader, .ref qt_kind, .ref qt_left, .ref qt_right, .int t_symbols, .ref qt_hold, .ref qt_risk, .ref qt_risks, .ref qt_end, .ref qt_to, .ref qt_symbol, .ref qt_place, .ref qt_register, .int t_set, .int t_steps, .int t_ended])), (qt_code, .inl (cI, 160, .inl t_code))]
def f_BlockCodeModel_result (p1 : Int32) (p2 : Int32) (t_code : Nat → Int32) (t_size : Int32) (t_sealed : Int32) (t_thrown : Int32) : Option (Int32 × Int32) :=
  if t_sealed = (0 : Int32) then
    some ((-9 : Int32), (0 : Int32))
  else
    (f_BlockCodeModel_field (1 : Int32) p1 p2 t_code t_size).bind fun rz1 =>
    some (rz1, (0 : Int32))
abbrev rm_BlockCodeModel_value : Room := { frames := 0, cells := 0, slots := 0, locals := 0 }
abbrev ww_BlockCodeModel_value (cI cJ cZ : ClassId) : va_W := []
def f_BlockCodeModel_value (p0 : Int32) (p1 : Int32) (p2 : Int32) : Option (Int32) :=
  if p0 = (3 : Int32) then
    some (p1 + p2)
  else
  if p0 = (4 : Int32) then
    some (p1 - p2)
  else
  if p0 = (5 : Int32) then
    some (p1 * p2)
  else
  if p0 = (6 : Int32) then
    (dvI p1 p2).bind fun v1 =>
    some v1
  else
    if p2 ≤ p1 then
      some (0 : Int32)
    else
      some (1 : Int32)
abbrev rm_BlockCodeModel_flow : Room := { frames := 1, cells := 0, slots := 0, locals := 22 }
abbrev ww_BlockCodeModel_flow (cI cJ cZ : ClassId) (qt : Nat) (qt_code : Nat) (qt_inputs : Nat) (qt_reached : Nat) (qt_isInt : Nat) (qt_fact : Nat) (qt_need : Nat) (qt_leader : Nat) (qt_kind : Nat) (qt_left : Nat) (qt_right : Nat) (qt_hold : Nat) (qt_risk : Nat) (qt_risks : Nat) (qt_end : Nat) (qt_to : Nat) (qt_symbol : Nat) (qt_place : Nat) (qt_register : Nat) (t_size : Int32) (t_thrown : Int32) (t_sealed : Int32) (t_good : Int32) (t_symbols : Int32) (t_set : Int32) (t_steps : Int32) (t_ended : Int32) (t_code : Nat → Int32) (t_reached : Nat → Int32) (t_isInt : Nat → Int32) (t_fact : Nat → Int32) : va_W := [(qt, .inr (6, [.ref qt_code, .int t_size, .int t_thrown, .int t_sealed, .int t_good, .ref qt_inputs, .ref qt_reached, .ref qt_isInt, .ref qt_fact, .ref qt_need, .ref qt_leader, .ref qt_kind, .ref qt_left, .ref qt_right, .int t_symbols, .ref qt_hold, .ref qt_risk, .ref qt_risks, .ref qt_end, .ref qt_to, .ref qt_symbol, .ref qt_place, .ref qt_register, .int t_set, .int t_steps, .int t_ended])), (qt_code, .inl (cI, 160, .inl t_code)), (qt_reached, .inl (cZ, 21, .inl t_reached)), (qt_isInt, .inl (cZ, 105, .inl t_isInt)), (qt_fact, .inl (cI, 105, .inl t_fact))]
def f_BlockCodeModel_flow_305 (p1 : Int32) (p2 : Int32) (t_code : Nat → Int32) (k59 : Int32 → Int32 → Int32 → Int32 → Int32 → Int32 → (Nat → Int32) → (Nat → Int32) → (Nat → Int32) → Option (Int32 × (Nat → Int32) × (Nat → Int32) × (Nat → Int32))) (x3 : Int32) (x4 : Int32) (x5 : Int32) (x6 : Int32) (x7 : Int32) (x8 : Int32) (t_reached : Nat → Int32) (t_isInt : Nat → Int32) (t_fact : Nat → Int32) : Option (Int32 × (Nat → Int32) × (Nat → Int32) × (Nat → Int32)) :=
  k59 x3 x4 x5 x6 x7 (x8 + (1 : Int32)) t_reached t_isInt t_fact
def f_BlockCodeModel_flow_290 (p1 : Int32) (p2 : Int32) (t_code : Nat → Int32) (k59 : Int32 → Int32 → Int32 → Int32 → Int32 → Int32 → (Nat → Int32) → (Nat → Int32) → (Nat → Int32) → Option (Int32 × (Nat → Int32) × (Nat → Int32) × (Nat → Int32))) (x3 : Int32) (x4 : Int32) (x5 : Int32) (x6 : Int32) (x8 : Int32) (t_reached : Nat → Int32) (t_isInt : Nat → Int32) (t_fact : Nat → Int32) : Option (Int32 × (Nat → Int32) × (Nat → Int32) × (Nat → Int32)) :=
  (wrZ t_isInt 105 (((5 : Int32) * p2) + x8) (0 : Int32)).bind fun w1 =>
  f_BlockCodeModel_flow_305 p1 p2 t_code k59 x3 x4 x5 x6 (1 : Int32) x8 t_reached w1 t_fact
def f_BlockCodeModel_flow_217 (p1 : Int32) (p2 : Int32) (t_code : Nat → Int32) (k59 : Int32 → Int32 → Int32 → Int32 → Int32 → Int32 → (Nat → Int32) → (Nat → Int32) → (Nat → Int32) → Option (Int32 × (Nat → Int32) × (Nat → Int32) × (Nat → Int32))) (x3 : Int32) (x4 : Int32) (x5 : Int32) (x6 : Int32) (x7 : Int32) (x8 : Int32) (x9 : Int32) (x10 : Int32) (t_reached : Nat → Int32) (t_isInt : Nat → Int32) (t_fact : Nat → Int32) : Option (Int32 × (Nat → Int32) × (Nat → Int32) × (Nat → Int32)) :=
  (rdI t_reached 21 p2).bind fun v1 =>
  if v1 = (0 : Int32) then
    (wrZ t_isInt 105 (((5 : Int32) * p2) + x8) x9).bind fun w4 =>
    (wrI t_fact 105 (((5 : Int32) * p2) + x8) x10).bind fun w5 =>
    f_BlockCodeModel_flow_305 p1 p2 t_code k59 x3 x4 x5 x6 x7 x8 t_reached w4 w5
  else
    (rdI t_isInt 105 (((5 : Int32) * p2) + x8)).bind fun v2 =>
    if v2 = (0 : Int32) then
      f_BlockCodeModel_flow_305 p1 p2 t_code k59 x3 x4 x5 x6 x7 x8 t_reached t_isInt t_fact
    else
      if x9 = (0 : Int32) then
        f_BlockCodeModel_flow_290 p1 p2 t_code k59 x3 x4 x5 x6 x8 t_reached t_isInt t_fact
      else
        (rdI t_fact 105 (((5 : Int32) * p2) + x8)).bind fun v3 =>
        if v3 = x10 then
          f_BlockCodeModel_flow_305 p1 p2 t_code k59 x3 x4 x5 x6 x7 x8 t_reached t_isInt t_fact
        else
          f_BlockCodeModel_flow_290 p1 p2 t_code k59 x3 x4 x5 x6 x8 t_reached t_isInt t_fact
def f_BlockCodeModel_flow_215 (p1 : Int32) (p2 : Int32) (t_code : Nat → Int32) (k59 : Int32 → Int32 → Int32 → Int32 → Int32 → Int32 → (Nat → Int32) → (Nat → Int32) → (Nat → Int32) → Option (Int32 × (Nat → Int32) × (Nat → Int32) × (Nat → Int32))) (x3 : Int32) (x4 : Int32) (x5 : Int32) (x6 : Int32) (x7 : Int32) (x8 : Int32) (x9 : Int32) (s0 : Int32) (t_reached : Nat → Int32) (t_isInt : Nat → Int32) (t_fact : Nat → Int32) : Option (Int32 × (Nat → Int32) × (Nat → Int32) × (Nat → Int32)) :=
  f_BlockCodeModel_flow_217 p1 p2 t_code k59 x3 x4 x5 x6 x7 x8 x9 s0 t_reached t_isInt t_fact
def f_BlockCodeModel_flow_152 (p1 : Int32) (p2 : Int32) (t_code : Nat → Int32) (k59 : Int32 → Int32 → Int32 → Int32 → Int32 → Int32 → (Nat → Int32) → (Nat → Int32) → (Nat → Int32) → Option (Int32 × (Nat → Int32) × (Nat → Int32) × (Nat → Int32))) (x3 : Int32) (x4 : Int32) (x5 : Int32) (x6 : Int32) (x7 : Int32) (x8 : Int32) (s0 : Int32) (t_reached : Nat → Int32) (t_isInt : Nat → Int32) (t_fact : Nat → Int32) : Option (Int32 × (Nat → Int32) × (Nat → Int32) × (Nat → Int32)) :=
  if s0 = (0 : Int32) then
    f_BlockCodeModel_flow_215 p1 p2 t_code k59 x3 x4 x5 x6 x7 x8 s0 (0 : Int32) t_reached t_isInt t_fact
  else
    if x4 = (1 : Int32) then
      (rdI t_code 160 (x3 + (2 : Int32))).bind fun v5 =>
      f_BlockCodeModel_flow_215 p1 p2 t_code k59 x3 x4 x5 x6 x7 x8 s0 v5 t_reached t_isInt t_fact
    else
      if x4 = (2 : Int32) then
        (rdI t_fact 105 x5).bind fun v4 =>
        f_BlockCodeModel_flow_215 p1 p2 t_code k59 x3 x4 x5 x6 x7 x8 s0 v4 t_reached t_isInt t_fact
      else
        (rdI t_fact 105 x5).bind fun v1 =>
        (rdI t_fact 105 x6).bind fun v2 =>
        (f_BlockCodeModel_value x4 v1 v2).bind fun rz3 =>
        f_BlockCodeModel_flow_215 p1 p2 t_code k59 x3 x4 x5 x6 x7 x8 s0 rz3 t_reached t_isInt t_fact
def f_BlockCodeModel_flow_147 (p1 : Int32) (p2 : Int32) (t_code : Nat → Int32) (k59 : Int32 → Int32 → Int32 → Int32 → Int32 → Int32 → (Nat → Int32) → (Nat → Int32) → (Nat → Int32) → Option (Int32 × (Nat → Int32) × (Nat → Int32) × (Nat → Int32))) (x3 : Int32) (x4 : Int32) (x5 : Int32) (x6 : Int32) (x7 : Int32) (x8 : Int32) (t_reached : Nat → Int32) (t_isInt : Nat → Int32) (t_fact : Nat → Int32) : Option (Int32 × (Nat → Int32) × (Nat → Int32) × (Nat → Int32)) :=
  f_BlockCodeModel_flow_152 p1 p2 t_code k59 x3 x4 x5 x6 x7 x8 (1 : Int32) t_reached t_isInt t_fact
def f_BlockCodeModel_flow_151 (p1 : Int32) (p2 : Int32) (t_code : Nat → Int32) (k59 : Int32 → Int32 → Int32 → Int32 → Int32 → Int32 → (Nat → Int32) → (Nat → Int32) → (Nat → Int32) → Option (Int32 × (Nat → Int32) × (Nat → Int32) × (Nat → Int32))) (x3 : Int32) (x4 : Int32) (x5 : Int32) (x6 : Int32) (x7 : Int32) (x8 : Int32) (t_reached : Nat → Int32) (t_isInt : Nat → Int32) (t_fact : Nat → Int32) : Option (Int32 × (Nat → Int32) × (Nat → Int32) × (Nat → Int32)) :=
  f_BlockCodeModel_flow_152 p1 p2 t_code k59 x3 x4 x5 x6 x7 x8 (0 : Int32) t_reached t_isInt t_fact
def f_BlockCodeModel_flow_59 (p1 : Int32) (p2 : Int32) (t_code : Nat → Int32) : Nat → Int32 → Int32 → Int32 → Int32 → Int32 → Int32 → (Nat → Int32) → (Nat → Int32) → (Nat → Int32) → Option (Int32 × (Nat → Int32) × (Nat → Int32) × (Nat → Int32))
  | 0, _, _, _, _, _, _, _, _, _ => none
  | n + 1, x3, x4, x5, x6, x7, x8, t_reached, t_isInt, t_fact =>
    if (5 : Int32) ≤ x8 then
      (wrZ t_reached 21 p2 (1 : Int32)).bind fun w1 =>
      (gzI x7).bind fun z0 => some (z0, w1, t_isInt, t_fact)
    else
      (rdI t_isInt 105 (((5 : Int32) * p1) + x8)).bind fun v2 =>
      (rdI t_fact 105 (((5 : Int32) * p1) + x8)).bind fun v3 =>
      (f_BlockCodeModel_within x4 (1 : Int32) (7 : Int32)).bind fun rz4 =>
      if rz4 = (0 : Int32) then
        f_BlockCodeModel_flow_217 p1 p2 t_code (f_BlockCodeModel_flow_59 p1 p2 t_code n) x3 x4 x5 x6 x7 x8 v2 v3 t_reached t_isInt t_fact
      else
        (rdI t_code 160 (x3 + (1 : Int32))).bind fun v5 =>
        if v5 = x8 then
          if x4 = (1 : Int32) then
            f_BlockCodeModel_flow_147 p1 p2 t_code (f_BlockCodeModel_flow_59 p1 p2 t_code n) x3 x4 x5 x6 x7 x8 t_reached t_isInt t_fact
          else
            (rdI t_isInt 105 x5).bind fun v6 =>
            if v6 = (0 : Int32) then
              f_BlockCodeModel_flow_151 p1 p2 t_code (f_BlockCodeModel_flow_59 p1 p2 t_code n) x3 x4 x5 x6 x7 x8 t_reached t_isInt t_fact
            else
              if x4 = (2 : Int32) then
                f_BlockCodeModel_flow_147 p1 p2 t_code (f_BlockCodeModel_flow_59 p1 p2 t_code n) x3 x4 x5 x6 x7 x8 t_reached t_isInt t_fact
              else
                (rdI t_isInt 105 x6).bind fun v7 =>
                if v7 = (0 : Int32) then
                  f_BlockCodeModel_flow_151 p1 p2 t_code (f_BlockCodeModel_flow_59 p1 p2 t_code n) x3 x4 x5 x6 x7 x8 t_reached t_isInt t_fact
                else
                  f_BlockCodeModel_flow_147 p1 p2 t_code (f_BlockCodeModel_flow_59 p1 p2 t_code n) x3 x4 x5 x6 x7 x8 t_reached t_isInt t_fact
        else
          f_BlockCodeModel_flow_217 p1 p2 t_code (f_BlockCodeModel_flow_59 p1 p2 t_code n) x3 x4 x5 x6 x7 x8 v2 v3 t_reached t_isInt t_fact
def f_BlockCodeModel_flow_54 (p1 : Int32) (p2 : Int32) (t_code : Nat → Int32) (x3 : Int32) (x4 : Int32) (x5 : Int32) (x6 : Int32) (s0 : Int32) (t_reached : Nat → Int32) (t_isInt : Nat → Int32) (t_fact : Nat → Int32) : Option (Int32 × (Nat → Int32) × (Nat → Int32) × (Nat → Int32)) :=
  f_BlockCodeModel_flow_59 p1 p2 t_code fu x3 x4 x5 x6 s0 (0 : Int32) t_reached t_isInt t_fact
def f_BlockCodeModel_flow (p1 : Int32) (p2 : Int32) (t_code : Nat → Int32) (t_reached : Nat → Int32) (t_isInt : Nat → Int32) (t_fact : Nat → Int32) : Option (Int32 × (Nat → Int32) × (Nat → Int32) × (Nat → Int32)) :=
  (rdI t_code 160 ((4 : Int32) * p1)).bind fun v1 =>
  (rdI t_code 160 (((4 : Int32) * p1) + (2 : Int32))).bind fun v2 =>
  (rdI t_code 160 (((4 : Int32) * p1) + (3 : Int32))).bind fun v3 =>
  (rdI t_reached 21 p2).bind fun v4 =>
  if v4 = (0 : Int32) then
    f_BlockCodeModel_flow_54 p1 p2 t_code ((4 : Int32) * p1) v1 (((5 : Int32) * p1) + v2) (((5 : Int32) * p1) + v3) (1 : Int32) t_reached t_isInt t_fact
  else
    f_BlockCodeModel_flow_54 p1 p2 t_code ((4 : Int32) * p1) v1 (((5 : Int32) * p1) + v2) (((5 : Int32) * p1) + v3) (0 : Int32) t_reached t_isInt t_fact
abbrev rm_BlockCodeModel_findFacts : Room := { frames := 2, cells := 0, slots := 0, locals := 52 }
abbrev ww_BlockCodeModel_findFacts (cI cJ cZ : ClassId) (qt : Nat) (qt_code : Nat) (qt_inputs : Nat) (qt_reached : Nat) (qt_isInt : Nat) (qt_fact : Nat) (qt_need : Nat) (qt_leader : Nat) (qt_kind : Nat) (qt_left : Nat) (qt_right : Nat) (qt_hold : Nat) (qt_risk : Nat) (qt_risks : Nat) (qt_end : Nat) (qt_to : Nat) (qt_symbol : Nat) (qt_place : Nat) (qt_register : Nat) (t_size : Int32) (t_thrown : Int32) (t_sealed : Int32) (t_good : Int32) (t_symbols : Int32) (t_set : Int32) (t_steps : Int32) (t_ended : Int32) (t_code : Nat → Int32) (t_reached : Nat → Int32) (t_isInt : Nat → Int32) (t_fact : Nat → Int32) : va_W := [(qt, .inr (6, [.ref qt_code, .int t_size, .int t_thrown, .int t_sealed, .int t_good, .ref qt_inputs, .ref qt_reached, .ref qt_isInt, .ref qt_fact, .ref qt_need, .ref qt_leader, .ref qt_kind, .ref qt_left, .ref qt_right, .int t_symbols, .ref qt_hold, .ref qt_risk, .ref qt_risks, .ref qt_end, .ref qt_to, .ref qt_symbol, .ref qt_place, .ref qt_register, .int t_set, .int t_steps, .int t_ended])), (qt_code, .inl (cI, 160, .inl t_code)), (qt_reached, .inl (cZ, 21, .inl t_reached)), (qt_isInt, .inl (cZ, 105, .inl t_isInt)), (qt_fact, .inl (cI, 105, .inl t_fact))]
def f_BlockCodeModel_findFacts_25 (t_code : Nat → Int32) (t_size : Int32) (k2 : Int32 → (Nat → Int32) → (Nat → Int32) → (Nat → Int32) → Option ((Nat → Int32) × (Nat → Int32) × (Nat → Int32))) : Nat → Int32 → Int32 → (Nat → Int32) → (Nat → Int32) → (Nat → Int32) → Option ((Nat → Int32) × (Nat → Int32) × (Nat → Int32))
  | 0, _, _, _, _, _ => none
  | n + 1, x1, x2, t_reached, t_isInt, t_fact =>
    if (5 : Int32) ≤ x2 then
      k2 (x1 + (1 : Int32)) t_reached t_isInt t_fact
    else
      (wrZ t_isInt 105 (((5 : Int32) * x1) + x2) (0 : Int32)).bind fun w1 =>
      (f_BlockCodeModel_findFacts_25 t_code t_size k2 n) x1 (x2 + (1 : Int32)) t_reached w1 t_fact
def f_BlockCodeModel_findFacts_22 (t_code : Nat → Int32) (t_size : Int32) (k2 : Int32 → (Nat → Int32) → (Nat → Int32) → (Nat → Int32) → Option ((Nat → Int32) × (Nat → Int32) × (Nat → Int32))) (x1 : Int32) (s0 : Int32) (s1 : Int32) (t_reached : Nat → Int32) (t_isInt : Nat → Int32) (t_fact : Nat → Int32) : Option ((Nat → Int32) × (Nat → Int32) × (Nat → Int32)) :=
  (wrZ t_reached 21 s1 s0).bind fun w1 =>
  f_BlockCodeModel_findFacts_25 t_code t_size k2 fu x1 (0 : Int32) w1 t_isInt t_fact
def f_BlockCodeModel_findFacts_307 (t_code : Nat → Int32) (t_size : Int32) (k57 : Int32 → Int32 → (Nat → Int32) → (Nat → Int32) → (Nat → Int32) → Option ((Nat → Int32) × (Nat → Int32) × (Nat → Int32))) (k72 : Int32 → Int32 → Int32 → (Nat → Int32) → (Nat → Int32) → (Nat → Int32) → Option ((Nat → Int32) × (Nat → Int32) × (Nat → Int32))) (x1 : Int32) (x2 : Int32) (x3 : Int32) (t_reached : Nat → Int32) (t_isInt : Nat → Int32) (t_fact : Nat → Int32) : Option ((Nat → Int32) × (Nat → Int32) × (Nat → Int32)) :=
  k72 x1 x2 (x3 + (1 : Int32)) t_reached t_isInt t_fact
def f_BlockCodeModel_findFacts_287 (t_code : Nat → Int32) (t_size : Int32) (k57 : Int32 → Int32 → (Nat → Int32) → (Nat → Int32) → (Nat → Int32) → Option ((Nat → Int32) × (Nat → Int32) × (Nat → Int32))) (k72 : Int32 → Int32 → Int32 → (Nat → Int32) → (Nat → Int32) → (Nat → Int32) → Option ((Nat → Int32) × (Nat → Int32) × (Nat → Int32))) (x1 : Int32) (x2 : Int32) (x3 : Int32) (t_reached : Nat → Int32) (t_isInt : Nat → Int32) (t_fact : Nat → Int32) : Option ((Nat → Int32) × (Nat → Int32) × (Nat → Int32)) :=
  (rdI t_code 160 (((4 : Int32) * x3) + (3 : Int32))).bind fun v1 =>
  (f_BlockCodeModel_flow x3 v1 t_code t_reached t_isInt t_fact).bind fun (rz2, u3, u4, u5) =>
  if rz2 = (0 : Int32) then
    f_BlockCodeModel_findFacts_307 t_code t_size k57 k72 x1 x2 x3 u3 u4 u5
  else
    f_BlockCodeModel_findFacts_307 t_code t_size k57 k72 (1 : Int32) x2 x3 u3 u4 u5
def f_BlockCodeModel_findFacts_260 (t_code : Nat → Int32) (t_size : Int32) (k57 : Int32 → Int32 → (Nat → Int32) → (Nat → Int32) → (Nat → Int32) → Option ((Nat → Int32) × (Nat → Int32) × (Nat → Int32))) (k72 : Int32 → Int32 → Int32 → (Nat → Int32) → (Nat → Int32) → (Nat → Int32) → Option ((Nat → Int32) × (Nat → Int32) × (Nat → Int32))) (x1 : Int32) (x2 : Int32) (x3 : Int32) (x4 : Int32) (x5 : Int32) (t_reached : Nat → Int32) (t_isInt : Nat → Int32) (t_fact : Nat → Int32) : Option ((Nat → Int32) × (Nat → Int32) × (Nat → Int32)) :=
  if x4 = (9 : Int32) then
    (rdI t_isInt 105 x5).bind fun v1 =>
    if v1 = (0 : Int32) then
      f_BlockCodeModel_findFacts_287 t_code t_size k57 k72 x1 x2 x3 t_reached t_isInt t_fact
    else
      (rdI t_fact 105 x5).bind fun v2 =>
      if v2 = (0 : Int32) then
        f_BlockCodeModel_findFacts_307 t_code t_size k57 k72 x1 x2 x3 t_reached t_isInt t_fact
      else
        f_BlockCodeModel_findFacts_287 t_code t_size k57 k72 x1 x2 x3 t_reached t_isInt t_fact
  else
    f_BlockCodeModel_findFacts_307 t_code t_size k57 k72 x1 x2 x3 t_reached t_isInt t_fact
def f_BlockCodeModel_findFacts_233 (t_code : Nat → Int32) (t_size : Int32) (k57 : Int32 → Int32 → (Nat → Int32) → (Nat → Int32) → (Nat → Int32) → Option ((Nat → Int32) × (Nat → Int32) × (Nat → Int32))) (k72 : Int32 → Int32 → Int32 → (Nat → Int32) → (Nat → Int32) → (Nat → Int32) → Option ((Nat → Int32) × (Nat → Int32) × (Nat → Int32))) (x1 : Int32) (x2 : Int32) (x3 : Int32) (x4 : Int32) (x5 : Int32) (t_reached : Nat → Int32) (t_isInt : Nat → Int32) (t_fact : Nat → Int32) : Option ((Nat → Int32) × (Nat → Int32) × (Nat → Int32)) :=
  if x4 = (8 : Int32) then
    (rdI t_code 160 (((4 : Int32) * x3) + (2 : Int32))).bind fun v1 =>
    (f_BlockCodeModel_flow x3 v1 t_code t_reached t_isInt t_fact).bind fun (rz2, u3, u4, u5) =>
    if rz2 = (0 : Int32) then
      f_BlockCodeModel_findFacts_260 t_code t_size k57 k72 x1 x2 x3 x4 x5 u3 u4 u5
    else
      f_BlockCodeModel_findFacts_260 t_code t_size k57 k72 (1 : Int32) x2 x3 x4 x5 u3 u4 u5
  else
    f_BlockCodeModel_findFacts_260 t_code t_size k57 k72 x1 x2 x3 x4 x5 t_reached t_isInt t_fact
def f_BlockCodeModel_findFacts_215 (t_code : Nat → Int32) (t_size : Int32) (k57 : Int32 → Int32 → (Nat → Int32) → (Nat → Int32) → (Nat → Int32) → Option ((Nat → Int32) × (Nat → Int32) × (Nat → Int32))) (k72 : Int32 → Int32 → Int32 → (Nat → Int32) → (Nat → Int32) → (Nat → Int32) → Option ((Nat → Int32) × (Nat → Int32) × (Nat → Int32))) (x1 : Int32) (x2 : Int32) (x3 : Int32) (x4 : Int32) (x5 : Int32) (x7 : Int32) (t_reached : Nat → Int32) (t_isInt : Nat → Int32) (t_fact : Nat → Int32) : Option ((Nat → Int32) × (Nat → Int32) × (Nat → Int32)) :=
  if x7 = (0 : Int32) then
    f_BlockCodeModel_findFacts_233 t_code t_size k57 k72 x1 x2 x3 x4 x5 t_reached t_isInt t_fact
  else
    (f_BlockCodeModel_flow x3 (x3 + (1 : Int32)) t_code t_reached t_isInt t_fact).bind fun (rz1, u2, u3, u4) =>
    if rz1 = (0 : Int32) then
      f_BlockCodeModel_findFacts_233 t_code t_size k57 k72 x1 x2 x3 x4 x5 u2 u3 u4
    else
      f_BlockCodeModel_findFacts_233 t_code t_size k57 k72 (1 : Int32) x2 x3 x4 x5 u2 u3 u4
def f_BlockCodeModel_findFacts_185 (t_code : Nat → Int32) (t_size : Int32) (k57 : Int32 → Int32 → (Nat → Int32) → (Nat → Int32) → (Nat → Int32) → Option ((Nat → Int32) × (Nat → Int32) × (Nat → Int32))) (k72 : Int32 → Int32 → Int32 → (Nat → Int32) → (Nat → Int32) → (Nat → Int32) → Option ((Nat → Int32) × (Nat → Int32) × (Nat → Int32))) (x1 : Int32) (x2 : Int32) (x3 : Int32) (x4 : Int32) (x5 : Int32) (x7 : Int32) (t_reached : Nat → Int32) (t_isInt : Nat → Int32) (t_fact : Nat → Int32) : Option ((Nat → Int32) × (Nat → Int32) × (Nat → Int32)) :=
  if x4 = (9 : Int32) then
    (rdI t_isInt 105 x5).bind fun v1 =>
    if v1 = (0 : Int32) then
      f_BlockCodeModel_findFacts_215 t_code t_size k57 k72 x1 x2 x3 x4 x5 x7 t_reached t_isInt t_fact
    else
      (rdI t_fact 105 x5).bind fun v2 =>
      if v2 = (0 : Int32) then
        f_BlockCodeModel_findFacts_215 t_code t_size k57 k72 x1 x2 x3 x4 x5 x7 t_reached t_isInt t_fact
      else
        f_BlockCodeModel_findFacts_215 t_code t_size k57 k72 x1 x2 x3 x4 x5 (0 : Int32) t_reached t_isInt t_fact
  else
    f_BlockCodeModel_findFacts_215 t_code t_size k57 k72 x1 x2 x3 x4 x5 x7 t_reached t_isInt t_fact
def f_BlockCodeModel_findFacts_153 (t_code : Nat → Int32) (t_size : Int32) (k57 : Int32 → Int32 → (Nat → Int32) → (Nat → Int32) → (Nat → Int32) → Option ((Nat → Int32) × (Nat → Int32) × (Nat → Int32))) (k72 : Int32 → Int32 → Int32 → (Nat → Int32) → (Nat → Int32) → (Nat → Int32) → Option ((Nat → Int32) × (Nat → Int32) × (Nat → Int32))) (x1 : Int32) (x2 : Int32) (x3 : Int32) (x4 : Int32) (x5 : Int32) (x6 : Int32) (s0 : Int32) (t_reached : Nat → Int32) (t_isInt : Nat → Int32) (t_fact : Nat → Int32) : Option ((Nat → Int32) × (Nat → Int32) × (Nat → Int32)) :=
  if x4 = (6 : Int32) then
    (rdI t_isInt 105 x6).bind fun v1 =>
    if v1 = (0 : Int32) then
      f_BlockCodeModel_findFacts_185 t_code t_size k57 k72 x1 x2 x3 x4 x5 s0 t_reached t_isInt t_fact
    else
      (rdI t_fact 105 x6).bind fun v2 =>
      if v2 = (0 : Int32) then
        f_BlockCodeModel_findFacts_185 t_code t_size k57 k72 x1 x2 x3 x4 x5 (0 : Int32) t_reached t_isInt t_fact
      else
        f_BlockCodeModel_findFacts_185 t_code t_size k57 k72 x1 x2 x3 x4 x5 s0 t_reached t_isInt t_fact
  else
    f_BlockCodeModel_findFacts_185 t_code t_size k57 k72 x1 x2 x3 x4 x5 s0 t_reached t_isInt t_fact
def f_BlockCodeModel_findFacts_72 (t_code : Nat → Int32) (t_size : Int32) (k57 : Int32 → Int32 → (Nat → Int32) → (Nat → Int32) → (Nat → Int32) → Option ((Nat → Int32) × (Nat → Int32) × (Nat → Int32))) : Nat → Int32 → Int32 → Int32 → (Nat → Int32) → (Nat → Int32) → (Nat → Int32) → Option ((Nat → Int32) × (Nat → Int32) × (Nat → Int32))
  | 0, _, _, _, _, _, _ => none
  | n + 1, x1, x2, x3, t_reached, t_isInt, t_fact =>
    if t_size ≤ x3 then
      k57 x1 (x2 + (1 : Int32)) t_reached t_isInt t_fact
    else
      (rdI t_code 160 ((4 : Int32) * x3)).bind fun v1 =>
      (rdI t_reached 21 x3).bind fun v2 =>
      if v2 = (0 : Int32) then
        f_BlockCodeModel_findFacts_307 t_code t_size k57 (f_BlockCodeModel_findFacts_72 t_code t_size k57 n) x1 x2 x3 t_reached t_isInt t_fact
      else
        if v1 = (10 : Int32) then
          f_BlockCodeModel_findFacts_307 t_code t_size k57 (f_BlockCodeModel_findFacts_72 t_code t_size k57 n) x1 x2 x3 t_reached t_isInt t_fact
        else
          (rdI t_code 160 (((4 : Int32) * x3) + (2 : Int32))).bind fun v3 =>
          (rdI t_code 160 (((4 : Int32) * x3) + (3 : Int32))).bind fun v4 =>
          if v1 = (8 : Int32) then
            f_BlockCodeModel_findFacts_153 t_code t_size k57 (f_BlockCodeModel_findFacts_72 t_code t_size k57 n) x1 x2 x3 v1 (((5 : Int32) * x3) + v3) (((5 : Int32) * x3) + v4) (0 : Int32) t_reached t_isInt t_fact
          else
            f_BlockCodeModel_findFacts_153 t_code t_size k57 (f_BlockCodeModel_findFacts_72 t_code t_size k57 n) x1 x2 x3 v1 (((5 : Int32) * x3) + v3) (((5 : Int32) * x3) + v4) (1 : Int32) t_reached t_isInt t_fact
def f_BlockCodeModel_findFacts_57 (t_code : Nat → Int32) (t_size : Int32) : Nat → Int32 → Int32 → (Nat → Int32) → (Nat → Int32) → (Nat → Int32) → Option ((Nat → Int32) × (Nat → Int32) × (Nat → Int32))
  | 0, _, _, _, _, _ => none
  | n + 1, x1, x2, t_reached, t_isInt, t_fact =>
    if (200 : Int32) ≤ x2 then
      some (t_reached, t_isInt, t_fact)
    else
      if x1 = (0 : Int32) then
        some (t_reached, t_isInt, t_fact)
      else
        f_BlockCodeModel_findFacts_72 t_code t_size (f_BlockCodeModel_findFacts_57 t_code t_size n) fu (0 : Int32) x2 (0 : Int32) t_reached t_isInt t_fact
def f_BlockCodeModel_findFacts_2 (t_code : Nat → Int32) (t_size : Int32) : Nat → Int32 → (Nat → Int32) → (Nat → Int32) → (Nat → Int32) → Option ((Nat → Int32) × (Nat → Int32) × (Nat → Int32))
  | 0, _, _, _, _ => none
  | n + 1, x1, t_reached, t_isInt, t_fact =>
    if (20 : Int32) < x1 then
      f_BlockCodeModel_findFacts_57 t_code t_size fu (1 : Int32) (0 : Int32) t_reached t_isInt t_fact
    else
      if x1 = (0 : Int32) then
        f_BlockCodeModel_findFacts_22 t_code t_size (f_BlockCodeModel_findFacts_2 t_code t_size n) x1 (1 : Int32) x1 t_reached t_isInt t_fact
      else
        f_BlockCodeModel_findFacts_22 t_code t_size (f_BlockCodeModel_findFacts_2 t_code t_size n) x1 (0 : Int32) x1 t_reached t_isInt t_fact
def f_BlockCodeModel_findFacts (t_code : Nat → Int32) (t_size : Int32) (t_reached : Nat → Int32) (t_isInt : Nat → Int32) (t_fact : Nat → Int32) : Option ((Nat → Int32) × (Nat → Int32) × (Nat → Int32)) :=
  f_BlockCodeModel_findFacts_2 t_code t_size fu (0 : Int32) t_reached t_isInt t_fact
abbrev rm_BlockCodeModel_findNeeded : Room := { frames := 1, cells := 0, slots := 0, locals := 22 }
abbrev ww_BlockCodeModel_findNeeded (cI cJ cZ : ClassId) (qt : Nat) (qt_code : Nat) (qt_inputs : Nat) (qt_reached : Nat) (qt_isInt : Nat) (qt_fact : Nat) (qt_need : Nat) (qt_leader : Nat) (qt_kind : Nat) (qt_left : Nat) (qt_right : Nat) (qt_hold : Nat) (qt_risk : Nat) (qt_risks : Nat) (qt_end : Nat) (qt_to : Nat) (qt_symbol : Nat) (qt_place : Nat) (qt_register : Nat) (t_size : Int32) (t_thrown : Int32) (t_sealed : Int32) (t_good : Int32) (t_symbols : Int32) (t_set : Int32) (t_steps : Int32) (t_ended : Int32) (t_code : Nat → Int32) (t_need : Nat → Int32) : va_W := [(qt, .inr (6, [.ref qt_code, .int t_size, .int t_thrown, .int t_sealed, .int t_good, .ref qt_inputs, .ref qt_reached, .ref qt_isInt, .ref qt_fact, .ref qt_need, .ref qt_leader, .ref qt_kind, .ref qt_left, .ref qt_right, .int t_symbols, .ref qt_hold, .ref qt_risk, .ref qt_risks, .ref qt_end, .ref qt_to, .ref qt_symbol, .ref qt_place, .ref qt_register, .int t_set, .int t_steps, .int t_ended])), (qt_code, .inl (cI, 160, .inl t_code)), (qt_need, .inl (cI, 21, .inl t_need))]
def f_BlockCodeModel_findNeeded_228 (p1 : Int32) (t_code : Nat → Int32) (t_size : Int32) (k23 : Int32 → (Nat → Int32) → Option ((Nat → Int32))) (k36 : Int32 → Int32 → (Nat → Int32) → Option ((Nat → Int32))) (x2 : Int32) (x3 : Int32) (x6 : Int32) (t_need : Nat → Int32) : Option ((Nat → Int32)) :=
  (wrI t_need 21 x3 x6).bind fun w1 =>
  k36 x2 (x3 + (-1 : Int32)) w1
def f_BlockCodeModel_findNeeded_201 (p1 : Int32) (t_code : Nat → Int32) (t_size : Int32) (k23 : Int32 → (Nat → Int32) → Option ((Nat → Int32))) (k36 : Int32 → Int32 → (Nat → Int32) → Option ((Nat → Int32))) (x2 : Int32) (x3 : Int32) (x4 : Int32) (x5 : Int32) (x6 : Int32) (t_need : Nat → Int32) : Option ((Nat → Int32)) :=
  (f_BlockCodeModel_within x5 (3 : Int32) (7 : Int32)).bind fun rz1 =>
  if rz1 = (0 : Int32) then
    f_BlockCodeModel_findNeeded_228 p1 t_code t_size k23 k36 x2 x3 x6 t_need
  else
    (rdI t_code 160 (x4 + (3 : Int32))).bind fun v2 =>
    f_BlockCodeModel_findNeeded_228 p1 t_code t_size k23 k36 x2 x3 (x6 ||| ((1 : Int32) <<< (v2 &&& 31))) t_need
def f_BlockCodeModel_findNeeded_185 (p1 : Int32) (t_code : Nat → Int32) (t_size : Int32) (k23 : Int32 → (Nat → Int32) → Option ((Nat → Int32))) (k36 : Int32 → Int32 → (Nat → Int32) → Option ((Nat → Int32))) (x2 : Int32) (x3 : Int32) (x4 : Int32) (x5 : Int32) (x6 : Int32) (t_need : Nat → Int32) : Option ((Nat → Int32)) :=
  (rdI t_code 160 (x4 + (2 : Int32))).bind fun v1 =>
  f_BlockCodeModel_findNeeded_201 p1 t_code t_size k23 k36 x2 x3 x4 x5 (x6 ||| ((1 : Int32) <<< (v1 &&& 31))) t_need
def f_BlockCodeModel_findNeeded_167 (p1 : Int32) (t_code : Nat → Int32) (t_size : Int32) (k23 : Int32 → (Nat → Int32) → Option ((Nat → Int32))) (k36 : Int32 → Int32 → (Nat → Int32) → Option ((Nat → Int32))) (x2 : Int32) (x3 : Int32) (x4 : Int32) (x5 : Int32) (x6 : Int32) (t_need : Nat → Int32) : Option ((Nat → Int32)) :=
  (f_BlockCodeModel_within x5 (2 : Int32) (7 : Int32)).bind fun rz1 =>
  if rz1 = (0 : Int32) then
    if x5 = (9 : Int32) then
      f_BlockCodeModel_findNeeded_185 p1 t_code t_size k23 k36 x2 x3 x4 x5 x6 t_need
    else
      f_BlockCodeModel_findNeeded_201 p1 t_code t_size k23 k36 x2 x3 x4 x5 x6 t_need
  else
    f_BlockCodeModel_findNeeded_185 p1 t_code t_size k23 k36 x2 x3 x4 x5 x6 t_need
def f_BlockCodeModel_findNeeded_138 (p1 : Int32) (t_code : Nat → Int32) (t_size : Int32) (k23 : Int32 → (Nat → Int32) → Option ((Nat → Int32))) (k36 : Int32 → Int32 → (Nat → Int32) → Option ((Nat → Int32))) (x2 : Int32) (x3 : Int32) (x4 : Int32) (x5 : Int32) (x6 : Int32) (t_need : Nat → Int32) : Option ((Nat → Int32)) :=
  (f_BlockCodeModel_within x5 (1 : Int32) (7 : Int32)).bind fun rz1 =>
  if rz1 = (0 : Int32) then
    f_BlockCodeModel_findNeeded_167 p1 t_code t_size k23 k36 x2 x3 x4 x5 x6 t_need
  else
    (rdI t_code 160 (x4 + (1 : Int32))).bind fun v2 =>
    f_BlockCodeModel_findNeeded_167 p1 t_code t_size k23 k36 x2 x3 x4 x5 (x6 &&& (((1 : Int32) <<< (v2 &&& 31)) ^^^ (-1 : Int32))) t_need
def f_BlockCodeModel_findNeeded_110 (p1 : Int32) (t_code : Nat → Int32) (t_size : Int32) (k23 : Int32 → (Nat → Int32) → Option ((Nat → Int32))) (k36 : Int32 → Int32 → (Nat → Int32) → Option ((Nat → Int32))) (x2 : Int32) (x3 : Int32) (x4 : Int32) (x5 : Int32) (s0 : Int32) (t_need : Nat → Int32) : Option ((Nat → Int32)) :=
  if x5 = (9 : Int32) then
    (rdI t_code 160 (x4 + (3 : Int32))).bind fun v1 =>
    (rdI t_need 21 v1).bind fun v2 =>
    f_BlockCodeModel_findNeeded_138 p1 t_code t_size k23 k36 x2 x3 x4 x5 (s0 ||| v2) t_need
  else
    f_BlockCodeModel_findNeeded_138 p1 t_code t_size k23 k36 x2 x3 x4 x5 s0 t_need
def f_BlockCodeModel_findNeeded_36 (p1 : Int32) (t_code : Nat → Int32) (t_size : Int32) (k23 : Int32 → (Nat → Int32) → Option ((Nat → Int32))) : Nat → Int32 → Int32 → (Nat → Int32) → Option ((Nat → Int32))
  | 0, _, _, _ => none
  | n + 1, x2, x3, t_need =>
    if x3 < (0 : Int32) then
      k23 (x2 + (1 : Int32)) t_need
    else
      (rdI t_code 160 (((80 : Int32) * p1) + ((4 : Int32) * x3))).bind fun v1 =>
      if v1 = (10 : Int32) then
        (rdI t_code 160 ((((80 : Int32) * p1) + ((4 : Int32) * x3)) + (2 : Int32))).bind fun v5 =>
        f_BlockCodeModel_findNeeded_110 p1 t_code t_size k23 (f_BlockCodeModel_findNeeded_36 p1 t_code t_size k23 n) x2 x3 (((80 : Int32) * p1) + ((4 : Int32) * x3)) v1 v5 t_need
      else
        if v1 = (8 : Int32) then
          (rdI t_code 160 ((((80 : Int32) * p1) + ((4 : Int32) * x3)) + (2 : Int32))).bind fun v3 =>
          (rdI t_need 21 v3).bind fun v4 =>
          f_BlockCodeModel_findNeeded_110 p1 t_code t_size k23 (f_BlockCodeModel_findNeeded_36 p1 t_code t_size k23 n) x2 x3 (((80 : Int32) * p1) + ((4 : Int32) * x3)) v1 v4 t_need
        else
          (rdI t_need 21 (x3 + (1 : Int32))).bind fun v2 =>
          f_BlockCodeModel_findNeeded_110 p1 t_code t_size k23 (f_BlockCodeModel_findNeeded_36 p1 t_code t_size k23 n) x2 x3 (((80 : Int32) * p1) + ((4 : Int32) * x3)) v1 v2 t_need
def f_BlockCodeModel_findNeeded_23 (p1 : Int32) (t_code : Nat → Int32) (t_size : Int32) : Nat → Int32 → (Nat → Int32) → Option ((Nat → Int32))
  | 0, _, _ => none
  | n + 1, x2, t_need =>
    if (120 : Int32) ≤ x2 then
      some t_need
    else
      f_BlockCodeModel_findNeeded_36 p1 t_code t_size (f_BlockCodeModel_findNeeded_23 p1 t_code t_size n) fu x2 (t_size - (1 : Int32)) t_need
def f_BlockCodeModel_findNeeded_2 (p1 : Int32) (t_code : Nat → Int32) (t_size : Int32) : Nat → Int32 → (Nat → Int32) → Option ((Nat → Int32))
  | 0, _, _ => none
  | n + 1, x2, t_need =>
    if (20 : Int32) < x2 then
      f_BlockCodeModel_findNeeded_23 p1 t_code t_size fu (0 : Int32) t_need
    else
      (wrI t_need 21 x2 (0 : Int32)).bind fun w1 =>
      (f_BlockCodeModel_findNeeded_2 p1 t_code t_size n) (x2 + (1 : Int32)) w1
def f_BlockCodeModel_findNeeded (p1 : Int32) (t_code : Nat → Int32) (t_size : Int32) (t_need : Nat → Int32) : Option ((Nat → Int32)) :=
  f_BlockCodeModel_findNeeded_2 p1 t_code t_size fu (0 : Int32) t_need
abbrev rm_BlockCodeModel_known : Room := { frames := 3, cells := 0, slots := 0, locals := 79 }
abbrev ww_BlockCodeModel_known (cI cJ cZ : ClassId) (qt : Nat) (qt_code : Nat) (qt_inputs : Nat) (qt_reached : Nat) (qt_isInt : Nat) (qt_fact : Nat) (qt_need : Nat) (qt_leader : Nat) (qt_kind : Nat) (qt_left : Nat) (qt_right : Nat) (qt_hold : Nat) (qt_risk : Nat) (qt_risks : Nat) (qt_end : Nat) (qt_to : Nat) (qt_symbol : Nat) (qt_place : Nat) (qt_register : Nat) (t_size : Int32) (t_thrown : Int32) (t_sealed : Int32) (t_good : Int32) (t_symbols : Int32) (t_set : Int32) (t_steps : Int32) (t_ended : Int32) (t_code : Nat → Int32) (t_reached : Nat → Int32) (t_isInt : Nat → Int32) (t_fact : Nat → Int32) : va_W := [(qt, .inr (6, [.ref qt_code, .int t_size, .int t_thrown, .int t_sealed, .int t_good, .ref qt_inputs, .ref qt_reached, .ref qt_isInt, .ref qt_fact, .ref qt_need, .ref qt_leader, .ref qt_kind, .ref qt_left, .ref qt_right, .int t_symbols, .ref qt_hold, .ref qt_risk, .ref qt_risks, .ref qt_end, .ref qt_to, .ref qt_symbol, .ref qt_place, .ref qt_register, .int t_set, .int t_steps, .int t_ended])), (qt_code, .inl (cI, 160, .inl t_code)), (qt_reached, .inl (cZ, 21, .inl t_reached)), (qt_isInt, .inl (cZ, 105, .inl t_isInt)), (qt_fact, .inl (cI, 105, .inl t_fact))]
def f_BlockCodeModel_known (p1 : Int32) (p2 : Int32) (t_code : Nat → Int32) (t_size : Int32) (t_sealed : Int32) (t_thrown : Int32) (t_reached : Nat → Int32) (t_isInt : Nat → Int32) (t_fact : Nat → Int32) : Option (Int64 × Int32 × (Nat → Int32) × (Nat → Int32) × (Nat → Int32)) :=
  if t_sealed = (0 : Int32) then
    some ((4294967298 : Int64), (0 : Int32), t_reached, t_isInt, t_fact)
  else
    (f_BlockCodeModel_within p1 (0 : Int32) (t_size - (1 : Int32))).bind fun rz1 =>
    if rz1 = (0 : Int32) then
      some ((4294967298 : Int64), (0 : Int32), t_reached, t_isInt, t_fact)
    else
      (f_BlockCodeModel_within p2 (0 : Int32) (4 : Int32)).bind fun rz2 =>
      if rz2 = (0 : Int32) then
        some ((4294967298 : Int64), (0 : Int32), t_reached, t_isInt, t_fact)
      else
        (f_BlockCodeModel_findFacts t_code t_size t_reached t_isInt t_fact).bind fun (u3, u4, u5) =>
        (rdI u3 21 p1).bind fun v6 =>
        if v6 = (0 : Int32) then
          some ((4294967297 : Int64), (0 : Int32), u3, u4, u5)
        else
          (rdI u4 105 (((5 : Int32) * p1) + p2)).bind fun v7 =>
          if v7 = (0 : Int32) then
            some ((4294967296 : Int64), (0 : Int32), u3, u4, u5)
          else
            (rdI u5 105 (((5 : Int32) * p1) + p2)).bind fun v8 =>
            some (v8.toInt64, (0 : Int32), u3, u4, u5)
abbrev rm_BlockCodeModel_needed : Room := { frames := 2, cells := 0, slots := 0, locals := 48 }
abbrev ww_BlockCodeModel_needed (cI cJ cZ : ClassId) (qt : Nat) (qt_code : Nat) (qt_inputs : Nat) (qt_reached : Nat) (qt_isInt : Nat) (qt_fact : Nat) (qt_need : Nat) (qt_leader : Nat) (qt_kind : Nat) (qt_left : Nat) (qt_right : Nat) (qt_hold : Nat) (qt_risk : Nat) (qt_risks : Nat) (qt_end : Nat) (qt_to : Nat) (qt_symbol : Nat) (qt_place : Nat) (qt_register : Nat) (t_size : Int32) (t_thrown : Int32) (t_sealed : Int32) (t_good : Int32) (t_symbols : Int32) (t_set : Int32) (t_steps : Int32) (t_ended : Int32) (t_code : Nat → Int32) (t_need : Nat → Int32) : va_W := [(qt, .inr (6, [.ref qt_code, .int t_size, .int t_thrown, .int t_sealed, .int t_good, .ref qt_inputs, .ref qt_reached, .ref qt_isInt, .ref qt_fact, .ref qt_need, .ref qt_leader, .ref qt_kind, .ref qt_left, .ref qt_right, .int t_symbols, .ref qt_hold, .ref qt_risk, .ref qt_risks, .ref qt_end, .ref qt_to, .ref qt_symbol, .ref qt_place, .ref qt_register, .int t_set, .int t_steps, .int t_ended])), (qt_code, .inl (cI, 160, .inl t_code)), (qt_need, .inl (cI, 21, .inl t_need))]
def f_BlockCodeModel_needed (p1 : Int32) (t_code : Nat → Int32) (t_size : Int32) (t_sealed : Int32) (t_thrown : Int32) (t_need : Nat → Int32) : Option (Int32 × Int32 × (Nat → Int32)) :=
  if t_sealed = (0 : Int32) then
    some ((-9 : Int32), (0 : Int32), t_need)
  else
    (f_BlockCodeModel_within p1 (0 : Int32) (t_size - (1 : Int32))).bind fun rz1 =>
    if rz1 = (0 : Int32) then
      some ((-9 : Int32), (0 : Int32), t_need)
    else
      (f_BlockCodeModel_findNeeded (0 : Int32) t_code t_size t_need).bind fun u2 =>
      (rdI u2 21 p1).bind fun v3 =>
      some (v3, (0 : Int32), u2)
abbrev rm_BlockCodeModel_differences : Room := { frames := 0, cells := 0, slots := 0, locals := 0 }
abbrev ww_BlockCodeModel_differences (cI cJ cZ : ClassId) (qt : Nat) (qt_code : Nat) (qt_inputs : Nat) (qt_reached : Nat) (qt_isInt : Nat) (qt_fact : Nat) (qt_need : Nat) (qt_leader : Nat) (qt_kind : Nat) (qt_left : Nat) (qt_right : Nat) (qt_hold : Nat) (qt_risk : Nat) (qt_risks : Nat) (qt_end : Nat) (qt_to : Nat) (qt_symbol : Nat) (qt_place : Nat) (qt_register : Nat) (t_size : Int32) (t_thrown : Int32) (t_sealed : Int32) (t_good : Int32) (t_symbols : Int32) (t_set : Int32) (t_steps : Int32) (t_ended : Int32) (t_code : Nat → Int32) : va_W := [(qt, .inr (6, [.ref qt_code, .int t_size, .int t_thrown, .int t_sealed, .int t_good, .ref qt_inputs, .ref qt_reached, .ref qt_isInt, .ref qt_fact, .ref qt_need, .ref qt_leader, .ref qt_kind, .ref qt_left, .ref qt_right, .int t_symbols, .ref qt_hold, .ref qt_risk, .ref qt_risks, .ref qt_end, .ref qt_to, .ref qt_symbol, .ref qt_place, .ref qt_register, .int t_set, .int t_steps, .int t_ended])), (qt_code, .inl (cI, 160, .inl t_code))]
def f_BlockCodeModel_differences_53 (t_code : Nat → Int32) (t_size : Int32) (k4 : Int32 → Int32 → Option (Int32)) (k17 : Int32 → Int32 → Int32 → Int32 → Option (Int32)) (x1 : Int32) (x2 : Int32) (x3 : Int32) (x4 : Int32) : Option (Int32) :=
  k17 x1 x2 x3 (x4 + (1 : Int32))
def f_BlockCodeModel_differences_66 (t_code : Nat → Int32) (t_size : Int32) (k4 : Int32 → Int32 → Option (Int32)) (x1 : Int32) (x2 : Int32) : Option (Int32) :=
  k4 x1 (x2 + (1 : Int32))
def f_BlockCodeModel_differences_17 (t_code : Nat → Int32) (t_size : Int32) (k4 : Int32 → Int32 → Option (Int32)) : Nat → Int32 → Int32 → Int32 → Int32 → Option (Int32)
  | 0, _, _, _, _ => none
  | n + 1, x1, x2, x3, x4 =>
    if (4 : Int32) ≤ x4 then
      if x3 = (0 : Int32) then
        f_BlockCodeModel_differences_66 t_code t_size k4 (x1 + (1 : Int32)) x2
      else
        f_BlockCodeModel_differences_66 t_code t_size k4 x1 x2
    else
      (rdI t_code 160 (((4 : Int32) * x2) + x4)).bind fun v1 =>
      (rdI t_code 160 (((80 : Int32) + ((4 : Int32) * x2)) + x4)).bind fun v2 =>
      if v1 = v2 then
        f_BlockCodeModel_differences_53 t_code t_size k4 (f_BlockCodeModel_differences_17 t_code t_size k4 n) x1 x2 x3 x4
      else
        f_BlockCodeModel_differences_53 t_code t_size k4 (f_BlockCodeModel_differences_17 t_code t_size k4 n) x1 x2 (0 : Int32) x4
def f_BlockCodeModel_differences_4 (t_code : Nat → Int32) (t_size : Int32) : Nat → Int32 → Int32 → Option (Int32)
  | 0, _, _ => none
  | n + 1, x1, x2 =>
    if t_size ≤ x2 then
      some x1
    else
      f_BlockCodeModel_differences_17 t_code t_size (f_BlockCodeModel_differences_4 t_code t_size n) fu x1 x2 (1 : Int32) (0 : Int32)
def f_BlockCodeModel_differences (t_code : Nat → Int32) (t_size : Int32) : Option (Int32) :=
  f_BlockCodeModel_differences_4 t_code t_size fu (0 : Int32) (0 : Int32)
abbrev rm_BlockCodeModel_open : Room := { frames := 1, cells := 0, slots := 0, locals := 23 }
abbrev ww_BlockCodeModel_open (cI cJ cZ : ClassId) (qt : Nat) (qt_code : Nat) (qt_inputs : Nat) (qt_reached : Nat) (qt_isInt : Nat) (qt_fact : Nat) (qt_need : Nat) (qt_leader : Nat) (qt_kind : Nat) (qt_left : Nat) (qt_right : Nat) (qt_hold : Nat) (qt_risk : Nat) (qt_risks : Nat) (qt_end : Nat) (qt_to : Nat) (qt_symbol : Nat) (qt_place : Nat) (qt_register : Nat) (t_size : Int32) (t_thrown : Int32) (t_sealed : Int32) (t_good : Int32) (t_symbols : Int32) (t_set : Int32) (t_steps : Int32) (t_ended : Int32) (t_code : Nat → Int32) : va_W := [(qt, .inr (6, [.ref qt_code, .int t_size, .int t_thrown, .int t_sealed, .int t_good, .ref qt_inputs, .ref qt_reached, .ref qt_isInt, .ref qt_fact, .ref qt_need, .ref qt_leader, .ref qt_kind, .ref qt_left, .ref qt_right, .int t_symbols, .ref qt_hold, .ref qt_risk, .ref qt_risks, .ref qt_end, .ref qt_to, .ref qt_symbol, .ref qt_place, .ref qt_register, .int t_set, .int t_steps, .int t_ended])), (qt_code, .inl (cI, 160, .inl t_code))]
def f_BlockCodeModel_open_13 (t_size : Int32) (t_sealed : Int32) (s0 : Int32) (t_code : Nat → Int32) (t_thrown : Int32) (t_good : Int32) : Option (Int32 × (Nat → Int32) × Int32 × Int32) :=
  if t_sealed = (0 : Int32) then
    some ((0 : Int32), t_code, s0, t_good)
  else
    (f_BlockCodeModel_copy (0 : Int32) (1 : Int32) t_size t_code).bind fun u1 =>
    some ((1 : Int32), u1, s0, (0 : Int32))
def f_BlockCodeModel_open (t_size : Int32) (t_sealed : Int32) (t_code : Nat → Int32) (t_thrown : Int32) (t_good : Int32) : Option (Int32 × (Nat → Int32) × Int32 × Int32) :=
  if t_sealed = (0 : Int32) then
    f_BlockCodeModel_open_13 t_size t_sealed (1 : Int32) t_code t_thrown t_good
  else
    f_BlockCodeModel_open_13 t_size t_sealed (0 : Int32) t_code t_thrown t_good
abbrev rm_BlockCodeModel_constants : Room := { frames := 3, cells := 0, slots := 0, locals := 79 }
abbrev ww_BlockCodeModel_constants (cI cJ cZ : ClassId) (qt : Nat) (qt_code : Nat) (qt_inputs : Nat) (qt_reached : Nat) (qt_isInt : Nat) (qt_fact : Nat) (qt_need : Nat) (qt_leader : Nat) (qt_kind : Nat) (qt_left : Nat) (qt_right : Nat) (qt_hold : Nat) (qt_risk : Nat) (qt_risks : Nat) (qt_end : Nat) (qt_to : Nat) (qt_symbol : Nat) (qt_place : Nat) (qt_register : Nat) (t_size : Int32) (t_thrown : Int32) (t_sealed : Int32) (t_good : Int32) (t_symbols : Int32) (t_set : Int32) (t_steps : Int32) (t_ended : Int32) (t_code : Nat → Int32) (t_reached : Nat → Int32) (t_isInt : Nat → Int32) (t_fact : Nat → Int32) : va_W := [(qt, .inr (6, [.ref qt_code, .int t_size, .int t_thrown, .int t_sealed, .int t_good, .ref qt_inputs, .ref qt_reached, .ref qt_isInt, .ref qt_fact, .ref qt_need, .ref qt_leader, .ref qt_kind, .ref qt_left, .ref qt_right, .int t_symbols, .ref qt_hold, .ref qt_risk, .ref qt_risks, .ref qt_end, .ref qt_to, .ref qt_symbol, .ref qt_place, .ref qt_register, .int t_set, .int t_steps, .int t_ended])), (qt_code, .inl (cI, 160, .inl t_code)), (qt_reached, .inl (cZ, 21, .inl t_reached)), (qt_isInt, .inl (cZ, 105, .inl t_isInt)), (qt_fact, .inl (cI, 105, .inl t_fact))]
def f_BlockCodeModel_constants_260 (t_size : Int32) (t_sealed : Int32) (k15 : Int32 → (Nat → Int32) → Int32 → Int32 → (Nat → Int32) → (Nat → Int32) → (Nat → Int32) → Option (Int32 × (Nat → Int32) × Int32 × Int32 × (Nat → Int32) × (Nat → Int32) × (Nat → Int32))) (x1 : Int32) (t_code : Nat → Int32) (t_thrown : Int32) (t_good : Int32) (t_reached : Nat → Int32) (t_isInt : Nat → Int32) (t_fact : Nat → Int32) : Option (Int32 × (Nat → Int32) × Int32 × Int32 × (Nat → Int32) × (Nat → Int32) × (Nat → Int32)) :=
  k15 (x1 + (1 : Int32)) t_code t_thrown t_good t_reached t_isInt t_fact
def f_BlockCodeModel_constants_221 (t_size : Int32) (t_sealed : Int32) (k15 : Int32 → (Nat → Int32) → Int32 → Int32 → (Nat → Int32) → (Nat → Int32) → (Nat → Int32) → Option (Int32 × (Nat → Int32) × Int32 × Int32 × (Nat → Int32) × (Nat → Int32) × (Nat → Int32))) (x1 : Int32) (x2 : Int32) (x3 : Int32) (x4 : Int32) (t_code : Nat → Int32) (t_thrown : Int32) (t_good : Int32) (t_reached : Nat → Int32) (t_isInt : Nat → Int32) (t_fact : Nat → Int32) : Option (Int32 × (Nat → Int32) × Int32 × Int32 × (Nat → Int32) × (Nat → Int32) × (Nat → Int32)) :=
  (rdI t_code 160 (((4 : Int32) * x1) + (1 : Int32))).bind fun v1 =>
  (rdI t_fact 105 x3).bind fun v2 =>
  (rdI t_fact 105 x4).bind fun v3 =>
  (f_BlockCodeModel_value x2 v2 v3).bind fun rz4 =>
  (f_BlockCodeModel_put ((80 : Int32) + ((4 : Int32) * x1)) (1 : Int32) v1 rz4 (0 : Int32) t_code).bind fun u5 =>
  f_BlockCodeModel_constants_260 t_size t_sealed k15 x1 u5 t_thrown t_good t_reached t_isInt t_fact
def f_BlockCodeModel_constants_15 (t_size : Int32) (t_sealed : Int32) : Nat → Int32 → (Nat → Int32) → Int32 → Int32 → (Nat → Int32) → (Nat → Int32) → (Nat → Int32) → Option (Int32 × (Nat → Int32) × Int32 × Int32 × (Nat → Int32) × (Nat → Int32) × (Nat → Int32))
  | 0, _, _, _, _, _, _, _ => none
  | n + 1, x1, t_code, t_thrown, t_good, t_reached, t_isInt, t_fact =>
    if t_size ≤ x1 then
      (f_BlockCodeModel_differences t_code t_size).bind fun rz1 =>
      some (rz1, t_code, t_thrown, t_good, t_reached, t_isInt, t_fact)
    else
      (rdI t_code 160 ((4 : Int32) * x1)).bind fun v2 =>
      (rdI t_code 160 (((4 : Int32) * x1) + (2 : Int32))).bind fun v3 =>
      (rdI t_code 160 (((4 : Int32) * x1) + (3 : Int32))).bind fun v4 =>
      (rdI t_reached 21 x1).bind fun v5 =>
      if v5 = (0 : Int32) then
        f_BlockCodeModel_constants_260 t_size t_sealed (f_BlockCodeModel_constants_15 t_size t_sealed n) x1 t_code t_thrown t_good t_reached t_isInt t_fact
      else
        (f_BlockCodeModel_within v2 (2 : Int32) (9 : Int32)).bind fun rz6 =>
        if rz6 = (0 : Int32) then
          f_BlockCodeModel_constants_260 t_size t_sealed (f_BlockCodeModel_constants_15 t_size t_sealed n) x1 t_code t_thrown t_good t_reached t_isInt t_fact
        else
          if v2 = (8 : Int32) then
            f_BlockCodeModel_constants_260 t_size t_sealed (f_BlockCodeModel_constants_15 t_size t_sealed n) x1 t_code t_thrown t_good t_reached t_isInt t_fact
          else
            (rdI t_isInt 105 (((5 : Int32) * x1) + v3)).bind fun v7 =>
            if v7 = (0 : Int32) then
              f_BlockCodeModel_constants_260 t_size t_sealed (f_BlockCodeModel_constants_15 t_size t_sealed n) x1 t_code t_thrown t_good t_reached t_isInt t_fact
            else
              if v2 = (9 : Int32) then
                (rdI t_fact 105 (((5 : Int32) * x1) + v3)).bind fun v13 =>
                if v13 = (0 : Int32) then
                  (f_BlockCodeModel_put ((80 : Int32) + ((4 : Int32) * x1)) (0 : Int32) (0 : Int32) (0 : Int32) (0 : Int32) t_code).bind fun u14 =>
                  f_BlockCodeModel_constants_260 t_size t_sealed (f_BlockCodeModel_constants_15 t_size t_sealed n) x1 u14 t_thrown t_good t_reached t_isInt t_fact
                else
                  (rdI t_code 160 (((4 : Int32) * x1) + (3 : Int32))).bind fun v15 =>
                  (f_BlockCodeModel_put ((80 : Int32) + ((4 : Int32) * x1)) (8 : Int32) (0 : Int32) v15 (0 : Int32) t_code).bind fun u16 =>
                  f_BlockCodeModel_constants_260 t_size t_sealed (f_BlockCodeModel_constants_15 t_size t_sealed n) x1 u16 t_thrown t_good t_reached t_isInt t_fact
              else
                if v2 = (2 : Int32) then
                  (rdI t_code 160 (((4 : Int32) * x1) + (1 : Int32))).bind fun v10 =>
                  (rdI t_fact 105 (((5 : Int32) * x1) + v3)).bind fun v11 =>
                  (f_BlockCodeModel_put ((80 : Int32) + ((4 : Int32) * x1)) (1 : Int32) v10 v11 (0 : Int32) t_code).bind fun u12 =>
                  f_BlockCodeModel_constants_260 t_size t_sealed (f_BlockCodeModel_constants_15 t_size t_sealed n) x1 u12 t_thrown t_good t_reached t_isInt t_fact
                else
                  (rdI t_isInt 105 (((5 : Int32) * x1) + v4)).bind fun v8 =>
                  if v8 = (0 : Int32) then
                    f_BlockCodeModel_constants_260 t_size t_sealed (f_BlockCodeModel_constants_15 t_size t_sealed n) x1 t_code t_thrown t_good t_reached t_isInt t_fact
                  else
                    if v2 = (6 : Int32) then
                      (rdI t_fact 105 (((5 : Int32) * x1) + v4)).bind fun v9 =>
                      if v9 = (0 : Int32) then
                        f_BlockCodeModel_constants_260 t_size t_sealed (f_BlockCodeModel_constants_15 t_size t_sealed n) x1 t_code t_thrown t_good t_reached t_isInt t_fact
                      else
                        f_BlockCodeModel_constants_221 t_size t_sealed (f_BlockCodeModel_constants_15 t_size t_sealed n) x1 v2 (((5 : Int32) * x1) + v3) (((5 : Int32) * x1) + v4) t_code t_thrown t_good t_reached t_isInt t_fact
                    else
                      f_BlockCodeModel_constants_221 t_size t_sealed (f_BlockCodeModel_constants_15 t_size t_sealed n) x1 v2 (((5 : Int32) * x1) + v3) (((5 : Int32) * x1) + v4) t_code t_thrown t_good t_reached t_isInt t_fact
def f_BlockCodeModel_constants (t_size : Int32) (t_sealed : Int32) (t_code : Nat → Int32) (t_thrown : Int32) (t_good : Int32) (t_reached : Nat → Int32) (t_isInt : Nat → Int32) (t_fact : Nat → Int32) : Option (Int32 × (Nat → Int32) × Int32 × Int32 × (Nat → Int32) × (Nat → Int32) × (Nat → Int32)) :=
  (f_BlockCodeModel_open t_size t_sealed t_code t_thrown t_good).bind fun (rz1, u2, u3, u4) =>
  if rz1 = (0 : Int32) then
    some ((0 : Int32), u2, u3, u4, t_reached, t_isInt, t_fact)
  else
    (f_BlockCodeModel_findFacts u2 t_size t_reached t_isInt t_fact).bind fun (u5, u6, u7) =>
    f_BlockCodeModel_constants_15 t_size t_sealed fu (0 : Int32) u2 u3 u4 u5 u6 u7
abbrev rm_BlockCodeModel_symbolOf : Room := { frames := 0, cells := 0, slots := 0, locals := 0 }
abbrev ww_BlockCodeModel_symbolOf (cI cJ cZ : ClassId) (qt : Nat) (qt_code : Nat) (qt_inputs : Nat) (qt_reached : Nat) (qt_isInt : Nat) (qt_fact : Nat) (qt_need : Nat) (qt_leader : Nat) (qt_kind : Nat) (qt_left : Nat) (qt_right : Nat) (qt_hold : Nat) (qt_risk : Nat) (qt_risks : Nat) (qt_end : Nat) (qt_to : Nat) (qt_symbol : Nat) (qt_place : Nat) (qt_register : Nat) (t_size : Int32) (t_thrown : Int32) (t_sealed : Int32) (t_good : Int32) (t_symbols : Int32) (t_set : Int32) (t_steps : Int32) (t_ended : Int32) (t_kind : Nat → Int32) (t_left : Nat → Int32) (t_right : Nat → Int32) : va_W := [(qt, .inr (6, [.ref qt_code, .int t_size, .int t_thrown, .int t_sealed, .int t_good, .ref qt_inputs, .ref qt_reached, .ref qt_isInt, .ref qt_fact, .ref qt_need, .ref qt_leader, .ref qt_kind, .ref qt_left, .ref qt_right, .int t_symbols, .ref qt_hold, .ref qt_risk, .ref qt_risks, .ref qt_end, .ref qt_to, .ref qt_symbol, .ref qt_place, .ref qt_register, .int t_set, .int t_steps, .int t_ended])), (qt_kind, .inl (cI, 120, .inl t_kind)), (qt_left, .inl (cI, 120, .inl t_left)), (qt_right, .inl (cI, 120, .inl t_right))]
def f_BlockCodeModel_symbolOf_48 (p1 : Int32) (p2 : Int32) (p3 : Int32) (k3 : Int32 → (Nat → Int32) → (Nat → Int32) → (Nat → Int32) → Int32 → Option (Int32 × (Nat → Int32) × (Nat → Int32) × (Nat → Int32) × Int32)) (x4 : Int32) (t_kind : Nat → Int32) (t_left : Nat → Int32) (t_right : Nat → Int32) (t_symbols : Int32) : Option (Int32 × (Nat → Int32) × (Nat → Int32) × (Nat → Int32) × Int32) :=
  k3 (x4 + (1 : Int32)) t_kind t_left t_right t_symbols
def f_BlockCodeModel_symbolOf_3 (p1 : Int32) (p2 : Int32) (p3 : Int32) : Nat → Int32 → (Nat → Int32) → (Nat → Int32) → (Nat → Int32) → Int32 → Option (Int32 × (Nat → Int32) × (Nat → Int32) × (Nat → Int32) × Int32)
  | 0, _, _, _, _, _ => none
  | n + 1, x4, t_kind, t_left, t_right, t_symbols =>
    if t_symbols ≤ x4 then
      (wrI t_kind 120 t_symbols p1).bind fun w1 =>
      (wrI t_left 120 t_symbols p2).bind fun w2 =>
      (wrI t_right 120 t_symbols p3).bind fun w3 =>
      some (((t_symbols + (1 : Int32)) - (1 : Int32)), w1, w2, w3, (t_symbols + (1 : Int32)))
    else
      (rdI t_kind 120 x4).bind fun v4 =>
      if v4 = p1 then
        (rdI t_left 120 x4).bind fun v5 =>
        if v5 = p2 then
          (rdI t_right 120 x4).bind fun v6 =>
          if v6 = p3 then
            some (x4, t_kind, t_left, t_right, t_symbols)
          else
            f_BlockCodeModel_symbolOf_48 p1 p2 p3 (f_BlockCodeModel_symbolOf_3 p1 p2 p3 n) x4 t_kind t_left t_right t_symbols
        else
          f_BlockCodeModel_symbolOf_48 p1 p2 p3 (f_BlockCodeModel_symbolOf_3 p1 p2 p3 n) x4 t_kind t_left t_right t_symbols
      else
        f_BlockCodeModel_symbolOf_48 p1 p2 p3 (f_BlockCodeModel_symbolOf_3 p1 p2 p3 n) x4 t_kind t_left t_right t_symbols
def f_BlockCodeModel_symbolOf (p1 : Int32) (p2 : Int32) (p3 : Int32) (t_kind : Nat → Int32) (t_left : Nat → Int32) (t_right : Nat → Int32) (t_symbols : Int32) : Option (Int32 × (Nat → Int32) × (Nat → Int32) × (Nat → Int32) × Int32) :=
  f_BlockCodeModel_symbolOf_3 p1 p2 p3 fu (0 : Int32) t_kind t_left t_right t_symbols
abbrev rm_BlockCodeModel_repeats : Room := { frames := 3, cells := 0, slots := 0, locals := 68 }
abbrev ww_BlockCodeModel_repeats (cI cJ cZ : ClassId) (qt : Nat) (qt_code : Nat) (qt_inputs : Nat) (qt_reached : Nat) (qt_isInt : Nat) (qt_fact : Nat) (qt_need : Nat) (qt_leader : Nat) (qt_kind : Nat) (qt_left : Nat) (qt_right : Nat) (qt_hold : Nat) (qt_risk : Nat) (qt_risks : Nat) (qt_end : Nat) (qt_to : Nat) (qt_symbol : Nat) (qt_place : Nat) (qt_register : Nat) (t_size : Int32) (t_thrown : Int32) (t_sealed : Int32) (t_good : Int32) (t_symbols : Int32) (t_set : Int32) (t_steps : Int32) (t_ended : Int32) (t_code : Nat → Int32) (t_leader : Nat → Int32) (t_kind : Nat → Int32) (t_left : Nat → Int32) (t_right : Nat → Int32) (t_hold : Nat → Int32) : va_W := [(qt, .inr (6, [.ref qt_code, .int t_size, .int t_thrown, .int t_sealed, .int t_good, .ref qt_inputs, .ref qt_reached, .ref qt_isInt, .ref qt_fact, .ref qt_need, .ref qt_leader, .ref qt_kind, .ref qt_left, .ref qt_right, .int t_symbols, .ref qt_hold, .ref qt_risk, .ref qt_risks, .ref qt_end, .ref qt_to, .ref qt_symbol, .ref qt_place, .ref qt_register, .int t_set, .int t_steps, .int t_ended])), (qt_code, .inl (cI, 160, .inl t_code)), (qt_leader, .inl (cZ, 21, .inl t_leader)), (qt_kind, .inl (cI, 120, .inl t_kind)), (qt_left, .inl (cI, 120, .inl t_left)), (qt_right, .inl (cI, 120, .inl t_right)), (qt_hold, .inl (cI, 10, .inl t_hold))]
def f_BlockCodeModel_repeats_253 (t_size : Int32) (t_sealed : Int32) (k15 : Int32 → (Nat → Int32) → Int32 → Int32 → (Nat → Int32) → (Nat → Int32) → (Nat → Int32) → (Nat → Int32) → Int32 → (Nat → Int32) → Option (Int32 × (Nat → Int32) × Int32 × Int32 × (Nat → Int32) × (Nat → Int32) × (Nat → Int32) × (Nat → Int32) × Int32 × (Nat → Int32))) (x1 : Int32) (t_code : Nat → Int32) (t_thrown : Int32) (t_good : Int32) (t_leader : Nat → Int32) (t_kind : Nat → Int32) (t_left : Nat → Int32) (t_right : Nat → Int32) (t_symbols : Int32) (t_hold : Nat → Int32) : Option (Int32 × (Nat → Int32) × Int32 × Int32 × (Nat → Int32) × (Nat → Int32) × (Nat → Int32) × (Nat → Int32) × Int32 × (Nat → Int32)) :=
  k15 (x1 + (1 : Int32)) t_code t_thrown t_good t_leader t_kind t_left t_right t_symbols t_hold
def f_BlockCodeModel_repeats_245 (t_size : Int32) (t_sealed : Int32) (k15 : Int32 → (Nat → Int32) → Int32 → Int32 → (Nat → Int32) → (Nat → Int32) → (Nat → Int32) → (Nat → Int32) → Int32 → (Nat → Int32) → Option (Int32 × (Nat → Int32) × Int32 × Int32 × (Nat → Int32) × (Nat → Int32) × (Nat → Int32) × (Nat → Int32) × Int32 × (Nat → Int32))) (x1 : Int32) (x3 : Int32) (x5 : Int32) (t_code : Nat → Int32) (t_thrown : Int32) (t_good : Int32) (t_leader : Nat → Int32) (t_kind : Nat → Int32) (t_left : Nat → Int32) (t_right : Nat → Int32) (t_symbols : Int32) (t_hold : Nat → Int32) : Option (Int32 × (Nat → Int32) × Int32 × Int32 × (Nat → Int32) × (Nat → Int32) × (Nat → Int32) × (Nat → Int32) × Int32 × (Nat → Int32)) :=
  (wrI t_hold 10 x3 x5).bind fun w1 =>
  f_BlockCodeModel_repeats_253 t_size t_sealed k15 x1 t_code t_thrown t_good t_leader t_kind t_left t_right t_symbols w1
def f_BlockCodeModel_repeats_201 (t_size : Int32) (t_sealed : Int32) (k15 : Int32 → (Nat → Int32) → Int32 → Int32 → (Nat → Int32) → (Nat → Int32) → (Nat → Int32) → (Nat → Int32) → Int32 → (Nat → Int32) → Option (Int32 × (Nat → Int32) × Int32 × Int32 × (Nat → Int32) × (Nat → Int32) × (Nat → Int32) × (Nat → Int32) × Int32 × (Nat → Int32))) (x1 : Int32) (x3 : Int32) (x5 : Int32) (x6 : Int32) (t_code : Nat → Int32) (t_thrown : Int32) (t_good : Int32) (t_leader : Nat → Int32) (t_kind : Nat → Int32) (t_left : Nat → Int32) (t_right : Nat → Int32) (t_symbols : Int32) (t_hold : Nat → Int32) : Option (Int32 × (Nat → Int32) × Int32 × Int32 × (Nat → Int32) × (Nat → Int32) × (Nat → Int32) × (Nat → Int32) × Int32 × (Nat → Int32)) :=
  if x6 = x3 then
    (f_BlockCodeModel_put ((80 : Int32) + ((4 : Int32) * x1)) (0 : Int32) (0 : Int32) (0 : Int32) (0 : Int32) t_code).bind fun u2 =>
    f_BlockCodeModel_repeats_245 t_size t_sealed k15 x1 x3 x5 u2 t_thrown t_good t_leader t_kind t_left t_right t_symbols t_hold
  else
    if (5 : Int32) ≤ x6 then
      f_BlockCodeModel_repeats_245 t_size t_sealed k15 x1 x3 x5 t_code t_thrown t_good t_leader t_kind t_left t_right t_symbols t_hold
    else
      (f_BlockCodeModel_put ((80 : Int32) + ((4 : Int32) * x1)) (2 : Int32) x3 x6 (0 : Int32) t_code).bind fun u1 =>
      f_BlockCodeModel_repeats_245 t_size t_sealed k15 x1 x3 x5 u1 t_thrown t_good t_leader t_kind t_left t_right t_symbols t_hold
def f_BlockCodeModel_repeats_177 (t_size : Int32) (t_sealed : Int32) (k15 : Int32 → (Nat → Int32) → Int32 → Int32 → (Nat → Int32) → (Nat → Int32) → (Nat → Int32) → (Nat → Int32) → Int32 → (Nat → Int32) → Option (Int32 × (Nat → Int32) × Int32 × Int32 × (Nat → Int32) × (Nat → Int32) × (Nat → Int32) × (Nat → Int32) × Int32 × (Nat → Int32))) : Nat → Int32 → Int32 → Int32 → Int32 → (Nat → Int32) → Int32 → Int32 → (Nat → Int32) → (Nat → Int32) → (Nat → Int32) → (Nat → Int32) → Int32 → (Nat → Int32) → Option (Int32 × (Nat → Int32) × Int32 × Int32 × (Nat → Int32) × (Nat → Int32) × (Nat → Int32) × (Nat → Int32) × Int32 × (Nat → Int32))
  | 0, _, _, _, _, _, _, _, _, _, _, _, _, _ => none
  | n + 1, x1, x3, x5, x6, t_code, t_thrown, t_good, t_leader, t_kind, t_left, t_right, t_symbols, t_hold =>
    if (5 : Int32) ≤ x6 then
      f_BlockCodeModel_repeats_201 t_size t_sealed k15 x1 x3 x5 x6 t_code t_thrown t_good t_leader t_kind t_left t_right t_symbols t_hold
    else
      (rdI t_hold 10 x6).bind fun v1 =>
      if v1 = x5 then
        f_BlockCodeModel_repeats_201 t_size t_sealed k15 x1 x3 x5 x6 t_code t_thrown t_good t_leader t_kind t_left t_right t_symbols t_hold
      else
        (f_BlockCodeModel_repeats_177 t_size t_sealed k15 n) x1 x3 x5 (x6 + (1 : Int32)) t_code t_thrown t_good t_leader t_kind t_left t_right t_symbols t_hold
def f_BlockCodeModel_repeats_132 (t_size : Int32) (t_sealed : Int32) (k15 : Int32 → (Nat → Int32) → Int32 → Int32 → (Nat → Int32) → (Nat → Int32) → (Nat → Int32) → (Nat → Int32) → Int32 → (Nat → Int32) → Option (Int32 × (Nat → Int32) × Int32 × Int32 × (Nat → Int32) × (Nat → Int32) × (Nat → Int32) × (Nat → Int32) × Int32 × (Nat → Int32))) (x1 : Int32) (x2 : Int32) (x3 : Int32) (x4 : Int32) (t_code : Nat → Int32) (t_thrown : Int32) (t_good : Int32) (t_leader : Nat → Int32) (t_kind : Nat → Int32) (t_left : Nat → Int32) (t_right : Nat → Int32) (t_symbols : Int32) (t_hold : Nat → Int32) : Option (Int32 × (Nat → Int32) × Int32 × Int32 × (Nat → Int32) × (Nat → Int32) × (Nat → Int32) × (Nat → Int32) × Int32 × (Nat → Int32)) :=
  (f_BlockCodeModel_within x2 (3 : Int32) (7 : Int32)).bind fun rz1 =>
  if rz1 = (0 : Int32) then
    f_BlockCodeModel_repeats_253 t_size t_sealed k15 x1 t_code t_thrown t_good t_leader t_kind t_left t_right t_symbols t_hold
  else
    (rdI t_hold 10 x4).bind fun v2 =>
    (rdI t_code 160 (((4 : Int32) * x1) + (3 : Int32))).bind fun v3 =>
    (rdI t_hold 10 v3).bind fun v4 =>
    (f_BlockCodeModel_symbolOf x2 v2 v4 t_kind t_left t_right t_symbols).bind fun (rz5, u6, u7, u8, u9) =>
    f_BlockCodeModel_repeats_177 t_size t_sealed k15 fu x1 x3 rz5 (0 : Int32) t_code t_thrown t_good t_leader u6 u7 u8 u9 t_hold
def f_BlockCodeModel_repeats_114 (t_size : Int32) (t_sealed : Int32) (k15 : Int32 → (Nat → Int32) → Int32 → Int32 → (Nat → Int32) → (Nat → Int32) → (Nat → Int32) → (Nat → Int32) → Int32 → (Nat → Int32) → Option (Int32 × (Nat → Int32) × Int32 × Int32 × (Nat → Int32) × (Nat → Int32) × (Nat → Int32) × (Nat → Int32) × Int32 × (Nat → Int32))) (x1 : Int32) (x2 : Int32) (x3 : Int32) (x4 : Int32) (t_code : Nat → Int32) (t_thrown : Int32) (t_good : Int32) (t_leader : Nat → Int32) (t_kind : Nat → Int32) (t_left : Nat → Int32) (t_right : Nat → Int32) (t_symbols : Int32) (t_hold : Nat → Int32) : Option (Int32 × (Nat → Int32) × Int32 × Int32 × (Nat → Int32) × (Nat → Int32) × (Nat → Int32) × (Nat → Int32) × Int32 × (Nat → Int32)) :=
  if x2 = (2 : Int32) then
    (rdI t_hold 10 x4).bind fun v1 =>
    (wrI t_hold 10 x3 v1).bind fun w2 =>
    f_BlockCodeModel_repeats_132 t_size t_sealed k15 x1 x2 x3 x4 t_code t_thrown t_good t_leader t_kind t_left t_right t_symbols w2
  else
    f_BlockCodeModel_repeats_132 t_size t_sealed k15 x1 x2 x3 x4 t_code t_thrown t_good t_leader t_kind t_left t_right t_symbols t_hold
def f_BlockCodeModel_repeats_63 (t_size : Int32) (t_sealed : Int32) (k15 : Int32 → (Nat → Int32) → Int32 → Int32 → (Nat → Int32) → (Nat → Int32) → (Nat → Int32) → (Nat → Int32) → Int32 → (Nat → Int32) → Option (Int32 × (Nat → Int32) × Int32 × Int32 × (Nat → Int32) × (Nat → Int32) × (Nat → Int32) × (Nat → Int32) × Int32 × (Nat → Int32))) (x1 : Int32) (t_code : Nat → Int32) (t_thrown : Int32) (t_good : Int32) (t_leader : Nat → Int32) (t_kind : Nat → Int32) (t_left : Nat → Int32) (t_right : Nat → Int32) (t_symbols : Int32) (t_hold : Nat → Int32) : Option (Int32 × (Nat → Int32) × Int32 × Int32 × (Nat → Int32) × (Nat → Int32) × (Nat → Int32) × (Nat → Int32) × Int32 × (Nat → Int32)) :=
  (rdI t_code 160 ((4 : Int32) * x1)).bind fun v1 =>
  (rdI t_code 160 (((4 : Int32) * x1) + (1 : Int32))).bind fun v2 =>
  (rdI t_code 160 (((4 : Int32) * x1) + (2 : Int32))).bind fun v3 =>
  if v1 = (1 : Int32) then
    (f_BlockCodeModel_symbolOf (1 : Int32) v3 (0 : Int32) t_kind t_left t_right t_symbols).bind fun (rz4, u5, u6, u7, u8) =>
    (wrI t_hold 10 v2 rz4).bind fun w9 =>
    f_BlockCodeModel_repeats_114 t_size t_sealed k15 x1 v1 v2 v3 t_code t_thrown t_good t_leader u5 u6 u7 u8 w9
  else
    f_BlockCodeModel_repeats_114 t_size t_sealed k15 x1 v1 v2 v3 t_code t_thrown t_good t_leader t_kind t_left t_right t_symbols t_hold
def f_BlockCodeModel_repeats_39 (t_size : Int32) (t_sealed : Int32) (k15 : Int32 → (Nat → Int32) → Int32 → Int32 → (Nat → Int32) → (Nat → Int32) → (Nat → Int32) → (Nat → Int32) → Int32 → (Nat → Int32) → Option (Int32 × (Nat → Int32) × Int32 × Int32 × (Nat → Int32) × (Nat → Int32) × (Nat → Int32) × (Nat → Int32) × Int32 × (Nat → Int32))) : Nat → Int32 → Int32 → (Nat → Int32) → Int32 → Int32 → (Nat → Int32) → (Nat → Int32) → (Nat → Int32) → (Nat → Int32) → Int32 → (Nat → Int32) → Option (Int32 × (Nat → Int32) × Int32 × Int32 × (Nat → Int32) × (Nat → Int32) × (Nat → Int32) × (Nat → Int32) × Int32 × (Nat → Int32))
  | 0, _, _, _, _, _, _, _, _, _, _, _ => none
  | n + 1, x1, x2, t_code, t_thrown, t_good, t_leader, t_kind, t_left, t_right, t_symbols, t_hold =>
    if (5 : Int32) ≤ x2 then
      f_BlockCodeModel_repeats_63 t_size t_sealed k15 x1 t_code t_thrown t_good t_leader t_kind t_left t_right t_symbols t_hold
    else
      (f_BlockCodeModel_symbolOf (0 : Int32) x2 (0 : Int32) t_kind t_left t_right t_symbols).bind fun (rz1, u2, u3, u4, u5) =>
      (wrI t_hold 10 x2 rz1).bind fun w6 =>
      (f_BlockCodeModel_repeats_39 t_size t_sealed k15 n) x1 (x2 + (1 : Int32)) t_code t_thrown t_good t_leader u2 u3 u4 u5 w6
def f_BlockCodeModel_repeats_15 (t_size : Int32) (t_sealed : Int32) : Nat → Int32 → (Nat → Int32) → Int32 → Int32 → (Nat → Int32) → (Nat → Int32) → (Nat → Int32) → (Nat → Int32) → Int32 → (Nat → Int32) → Option (Int32 × (Nat → Int32) × Int32 × Int32 × (Nat → Int32) × (Nat → Int32) × (Nat → Int32) × (Nat → Int32) × Int32 × (Nat → Int32))
  | 0, _, _, _, _, _, _, _, _, _, _ => none
  | n + 1, x1, t_code, t_thrown, t_good, t_leader, t_kind, t_left, t_right, t_symbols, t_hold =>
    if t_size ≤ x1 then
      (f_BlockCodeModel_differences t_code t_size).bind fun rz1 =>
      some (rz1, t_code, t_thrown, t_good, t_leader, t_kind, t_left, t_right, t_symbols, t_hold)
    else
      (rdI t_leader 21 x1).bind fun v2 =>
      if v2 = (0 : Int32) then
        f_BlockCodeModel_repeats_63 t_size t_sealed (f_BlockCodeModel_repeats_15 t_size t_sealed n) x1 t_code t_thrown t_good t_leader t_kind t_left t_right t_symbols t_hold
      else
        f_BlockCodeModel_repeats_39 t_size t_sealed (f_BlockCodeModel_repeats_15 t_size t_sealed n) fu x1 (0 : Int32) t_code t_thrown t_good t_leader t_kind t_left t_right (0 : Int32) t_hold
def f_BlockCodeModel_repeats (t_size : Int32) (t_sealed : Int32) (t_code : Nat → Int32) (t_thrown : Int32) (t_good : Int32) (t_leader : Nat → Int32) (t_kind : Nat → Int32) (t_left : Nat → Int32) (t_right : Nat → Int32) (t_symbols : Int32) (t_hold : Nat → Int32) : Option (Int32 × (Nat → Int32) × Int32 × Int32 × (Nat → Int32) × (Nat → Int32) × (Nat → Int32) × (Nat → Int32) × Int32 × (Nat → Int32)) :=
  (f_BlockCodeModel_open t_size t_sealed t_code t_thrown t_good).bind fun (rz1, u2, u3, u4) =>
  if rz1 = (0 : Int32) then
    some ((0 : Int32), u2, u3, u4, t_leader, t_kind, t_left, t_right, t_symbols, t_hold)
  else
    (f_BlockCodeModel_findLeaders u2 t_size t_leader).bind fun u5 =>
    f_BlockCodeModel_repeats_15 t_size t_sealed fu (0 : Int32) u2 u3 u4 u5 t_kind t_left t_right t_symbols t_hold
abbrev rm_BlockCodeModel_unneeded : Room := { frames := 3, cells := 0, slots := 0, locals := 68 }
abbrev ww_BlockCodeModel_unneeded (cI cJ cZ : ClassId) (qt : Nat) (qt_code : Nat) (qt_inputs : Nat) (qt_reached : Nat) (qt_isInt : Nat) (qt_fact : Nat) (qt_need : Nat) (qt_leader : Nat) (qt_kind : Nat) (qt_left : Nat) (qt_right : Nat) (qt_hold : Nat) (qt_risk : Nat) (qt_risks : Nat) (qt_end : Nat) (qt_to : Nat) (qt_symbol : Nat) (qt_place : Nat) (qt_register : Nat) (t_size : Int32) (t_thrown : Int32) (t_sealed : Int32) (t_good : Int32) (t_symbols : Int32) (t_set : Int32) (t_steps : Int32) (t_ended : Int32) (t_code : Nat → Int32) (t_need : Nat → Int32) : va_W := [(qt, .inr (6, [.ref qt_code, .int t_size, .int t_thrown, .int t_sealed, .int t_good, .ref qt_inputs, .ref qt_reached, .ref qt_isInt, .ref qt_fact, .ref qt_need, .ref qt_leader, .ref qt_kind, .ref qt_left, .ref qt_right, .int t_symbols, .ref qt_hold, .ref qt_risk, .ref qt_risks, .ref qt_end, .ref qt_to, .ref qt_symbol, .ref qt_place, .ref qt_register, .int t_set, .int t_steps, .int t_ended])), (qt_code, .inl (cI, 160, .inl t_code)), (qt_need, .inl (cI, 21, .inl t_need))]
def f_BlockCodeModel_unneeded_87 (t_size : Int32) (t_sealed : Int32) (k16 : Int32 → (Nat → Int32) → Int32 → Int32 → (Nat → Int32) → Option (Int32 × (Nat → Int32) × Int32 × Int32 × (Nat → Int32))) (x1 : Int32) (t_code : Nat → Int32) (t_thrown : Int32) (t_good : Int32) (t_need : Nat → Int32) : Option (Int32 × (Nat → Int32) × Int32 × Int32 × (Nat → Int32)) :=
  k16 (x1 + (1 : Int32)) t_code t_thrown t_good t_need
def f_BlockCodeModel_unneeded_16 (t_size : Int32) (t_sealed : Int32) : Nat → Int32 → (Nat → Int32) → Int32 → Int32 → (Nat → Int32) → Option (Int32 × (Nat → Int32) × Int32 × Int32 × (Nat → Int32))
  | 0, _, _, _, _, _ => none
  | n + 1, x1, t_code, t_thrown, t_good, t_need =>
    if t_size ≤ x1 then
      (f_BlockCodeModel_differences t_code t_size).bind fun rz1 =>
      some (rz1, t_code, t_thrown, t_good, t_need)
    else
      (rdI t_code 160 ((4 : Int32) * x1)).bind fun v2 =>
      (f_BlockCodeModel_within v2 (1 : Int32) (7 : Int32)).bind fun rz3 =>
      if rz3 = (0 : Int32) then
        f_BlockCodeModel_unneeded_87 t_size t_sealed (f_BlockCodeModel_unneeded_16 t_size t_sealed n) x1 t_code t_thrown t_good t_need
      else
        if v2 = (6 : Int32) then
          f_BlockCodeModel_unneeded_87 t_size t_sealed (f_BlockCodeModel_unneeded_16 t_size t_sealed n) x1 t_code t_thrown t_good t_need
        else
          (rdI t_need 21 (x1 + (1 : Int32))).bind fun v4 =>
          (rdI t_code 160 (((4 : Int32) * x1) + (1 : Int32))).bind fun v5 =>
          if ((v4 >>> (v5 &&& 31)) &&& (1 : Int32)) = (0 : Int32) then
            (f_BlockCodeModel_put ((80 : Int32) + ((4 : Int32) * x1)) (0 : Int32) (0 : Int32) (0 : Int32) (0 : Int32) t_code).bind fun u6 =>
            f_BlockCodeModel_unneeded_87 t_size t_sealed (f_BlockCodeModel_unneeded_16 t_size t_sealed n) x1 u6 t_thrown t_good t_need
          else
            f_BlockCodeModel_unneeded_87 t_size t_sealed (f_BlockCodeModel_unneeded_16 t_size t_sealed n) x1 t_code t_thrown t_good t_need
def f_BlockCodeModel_unneeded (t_size : Int32) (t_sealed : Int32) (t_code : Nat → Int32) (t_thrown : Int32) (t_good : Int32) (t_need : Nat → Int32) : Option (Int32 × (Nat → Int32) × Int32 × Int32 × (Nat → Int32)) :=
  (f_BlockCodeModel_open t_size t_sealed t_code t_thrown t_good).bind fun (rz1, u2, u3, u4) =>
  if rz1 = (0 : Int32) then
    some ((0 : Int32), u2, u3, u4, t_need)
  else
    (f_BlockCodeModel_findNeeded (0 : Int32) u2 t_size t_need).bind fun u5 =>
    f_BlockCodeModel_unneeded_16 t_size t_sealed fu (0 : Int32) u2 u3 u4 u5
abbrev rm_BlockCodeModel_poke : Room := { frames := 3, cells := 0, slots := 0, locals := 68 }
abbrev ww_BlockCodeModel_poke (cI cJ cZ : ClassId) (qt : Nat) (qt_code : Nat) (qt_inputs : Nat) (qt_reached : Nat) (qt_isInt : Nat) (qt_fact : Nat) (qt_need : Nat) (qt_leader : Nat) (qt_kind : Nat) (qt_left : Nat) (qt_right : Nat) (qt_hold : Nat) (qt_risk : Nat) (qt_risks : Nat) (qt_end : Nat) (qt_to : Nat) (qt_symbol : Nat) (qt_place : Nat) (qt_register : Nat) (t_size : Int32) (t_thrown : Int32) (t_sealed : Int32) (t_good : Int32) (t_symbols : Int32) (t_set : Int32) (t_steps : Int32) (t_ended : Int32) (t_code : Nat → Int32) : va_W := [(qt, .inr (6, [.ref qt_code, .int t_size, .int t_thrown, .int t_sealed, .int t_good, .ref qt_inputs, .ref qt_reached, .ref qt_isInt, .ref qt_fact, .ref qt_need, .ref qt_leader, .ref qt_kind, .ref qt_left, .ref qt_right, .int t_symbols, .ref qt_hold, .ref qt_risk, .ref qt_risks, .ref qt_end, .ref qt_to, .ref qt_symbol, .ref qt_place, .ref qt_register, .int t_set, .int t_steps, .int t_ended])), (qt_code, .inl (cI, 160, .inl t_code))]
def f_BlockCodeModel_poke_72 (p1 : Int32) (p2 : Int32) (p3 : Int32) (p4 : Int32) (p5 : Int32) (t_size : Int32) (t_sealed : Int32) (t_code : Nat → Int32) (t_thrown : Int32) (t_good : Int32) : Option (Int32 × (Nat → Int32) × Int32 × Int32) :=
  (f_BlockCodeModel_put ((80 : Int32) + ((4 : Int32) * p1)) p2 p3 p4 p5 t_code).bind fun u1 =>
  some ((1 : Int32), u1, t_thrown, (0 : Int32))
def f_BlockCodeModel_poke_55 (p1 : Int32) (p2 : Int32) (p3 : Int32) (p4 : Int32) (p5 : Int32) (t_size : Int32) (t_sealed : Int32) (t_code : Nat → Int32) (t_thrown : Int32) (t_good : Int32) : Option (Int32 × (Nat → Int32) × Int32 × Int32) :=
  if p2 = (9 : Int32) then
    if p5 < t_size then
      f_BlockCodeModel_poke_72 p1 p2 p3 p4 p5 t_size t_sealed t_code t_thrown t_good
    else
      some ((0 : Int32), t_code, t_thrown, t_good)
  else
    f_BlockCodeModel_poke_72 p1 p2 p3 p4 p5 t_size t_sealed t_code t_thrown t_good
def f_BlockCodeModel_poke (p1 : Int32) (p2 : Int32) (p3 : Int32) (p4 : Int32) (p5 : Int32) (t_size : Int32) (t_sealed : Int32) (t_code : Nat → Int32) (t_thrown : Int32) (t_good : Int32) : Option (Int32 × (Nat → Int32) × Int32 × Int32) :=
  if t_sealed = (0 : Int32) then
    some ((0 : Int32), t_code, (0 : Int32), t_good)
  else
    (f_BlockCodeModel_within p1 (0 : Int32) (t_size - (1 : Int32))).bind fun rz1 =>
    if rz1 = (0 : Int32) then
      some ((0 : Int32), t_code, (0 : Int32), t_good)
    else
      (f_BlockCodeModel_hasForm p2 p3 p4 p5).bind fun rz2 =>
      if rz2 = (0 : Int32) then
        some ((0 : Int32), t_code, (0 : Int32), t_good)
      else
        if p2 = (8 : Int32) then
          if t_size ≤ p4 then
            some ((0 : Int32), t_code, (0 : Int32), t_good)
          else
            f_BlockCodeModel_poke_55 p1 p2 p3 p4 p5 t_size t_sealed t_code (0 : Int32) t_good
        else
          f_BlockCodeModel_poke_55 p1 p2 p3 p4 p5 t_size t_sealed t_code (0 : Int32) t_good
abbrev rm_BlockCodeModel_made : Room := { frames := 1, cells := 0, slots := 0, locals := 24 }
abbrev ww_BlockCodeModel_made (cI cJ cZ : ClassId) (qt : Nat) (qt_code : Nat) (qt_inputs : Nat) (qt_reached : Nat) (qt_isInt : Nat) (qt_fact : Nat) (qt_need : Nat) (qt_leader : Nat) (qt_kind : Nat) (qt_left : Nat) (qt_right : Nat) (qt_hold : Nat) (qt_risk : Nat) (qt_risks : Nat) (qt_end : Nat) (qt_to : Nat) (qt_symbol : Nat) (qt_place : Nat) (qt_register : Nat) (t_size : Int32) (t_thrown : Int32) (t_sealed : Int32) (t_good : Int32) (t_symbols : Int32) (t_set : Int32) (t_steps : Int32) (t_ended : Int32) (t_kind : Nat → Int32) (t_left : Nat → Int32) (t_right : Nat → Int32) (t_risk : Nat → Int32) (t_risks : Nat → Int32) : va_W := [(qt, .inr (6, [.ref qt_code, .int t_size, .int t_thrown, .int t_sealed, .int t_good, .ref qt_inputs, .ref qt_reached, .ref qt_isInt, .ref qt_fact, .ref qt_need, .ref qt_leader, .ref qt_kind, .ref qt_left, .ref qt_right, .int t_symbols, .ref qt_hold, .ref qt_risk, .ref qt_risks, .ref qt_end, .ref qt_to, .ref qt_symbol, .ref qt_place, .ref qt_register, .int t_set, .int t_steps, .int t_ended])), (qt_kind, .inl (cI, 120, .inl t_kind)), (qt_left, .inl (cI, 120, .inl t_left)), (qt_right, .inl (cI, 120, .inl t_right)), (qt_risk, .inl (cI, 80, .inl t_risk)), (qt_risks, .inl (cI, 2, .inl t_risks))]
def f_BlockCodeModel_made_175 (p1 : Int32) (p2 : Int32) (p3 : Int32) (p4 : Int32) (x5 : Int32) (t_kind : Nat → Int32) (t_left : Nat → Int32) (t_right : Nat → Int32) (t_symbols : Int32) (t_risk : Nat → Int32) (t_risks : Nat → Int32) : Option (Int32 × (Nat → Int32) × (Nat → Int32) × (Nat → Int32) × Int32 × (Nat → Int32) × (Nat → Int32)) :=
  if x5 = (0 : Int32) then
    (f_BlockCodeModel_symbolOf p2 p3 p4 t_kind t_left t_right t_symbols).bind fun (rz1, u2, u3, u4, u5) =>
    some (rz1, u2, u3, u4, u5, t_risk, t_risks)
  else
    (rdI t_left 120 p3).bind fun v6 =>
    (rdI t_left 120 p4).bind fun v7 =>
    (f_BlockCodeModel_value p2 v6 v7).bind fun rz8 =>
    (f_BlockCodeModel_symbolOf (1 : Int32) rz8 (0 : Int32) t_kind t_left t_right t_symbols).bind fun (rz9, u10, u11, u12, u13) =>
    some (rz9, u10, u11, u12, u13, t_risk, t_risks)
def f_BlockCodeModel_made_121 (p1 : Int32) (p2 : Int32) (p3 : Int32) (p4 : Int32) (k72 : Int32 → Int32 → Int32 → Int32 → (Nat → Int32) → (Nat → Int32) → (Nat → Int32) → Int32 → (Nat → Int32) → (Nat → Int32) → Option (Int32 × (Nat → Int32) × (Nat → Int32) × (Nat → Int32) × Int32 × (Nat → Int32) × (Nat → Int32))) (x5 : Int32) (x6 : Int32) (x7 : Int32) (x8 : Int32) (t_kind : Nat → Int32) (t_left : Nat → Int32) (t_right : Nat → Int32) (t_symbols : Int32) (t_risk : Nat → Int32) (t_risks : Nat → Int32) : Option (Int32 × (Nat → Int32) × (Nat → Int32) × (Nat → Int32) × Int32 × (Nat → Int32) × (Nat → Int32)) :=
  k72 x5 x6 x7 (x8 + (1 : Int32)) t_kind t_left t_right t_symbols t_risk t_risks
def f_BlockCodeModel_made_72 (p1 : Int32) (p2 : Int32) (p3 : Int32) (p4 : Int32) : Nat → Int32 → Int32 → Int32 → Int32 → (Nat → Int32) → (Nat → Int32) → (Nat → Int32) → Int32 → (Nat → Int32) → (Nat → Int32) → Option (Int32 × (Nat → Int32) × (Nat → Int32) × (Nat → Int32) × Int32 × (Nat → Int32) × (Nat → Int32))
  | 0, _, _, _, _, _, _, _, _, _, _ => none
  | n + 1, x5, x6, x7, x8, t_kind, t_left, t_right, t_symbols, t_risk, t_risks =>
    if x7 ≤ x8 then
      if x6 = (0 : Int32) then
        (wrI t_risk 80 (((40 : Int32) * p1) + ((2 : Int32) * x7)) p3).bind fun w1 =>
        (wrI w1 80 ((((40 : Int32) * p1) + ((2 : Int32) * x7)) + (1 : Int32)) p4).bind fun w2 =>
        (wrI t_risks 2 p1 (x7 + (1 : Int32))).bind fun w3 =>
        f_BlockCodeModel_made_175 p1 p2 p3 p4 x5 t_kind t_left t_right t_symbols w2 w3
      else
        f_BlockCodeModel_made_175 p1 p2 p3 p4 x5 t_kind t_left t_right t_symbols t_risk t_risks
    else
      (rdI t_risk 80 (((40 : Int32) * p1) + ((2 : Int32) * x8))).bind fun v4 =>
      if v4 = p3 then
        (rdI t_risk 80 ((((40 : Int32) * p1) + ((2 : Int32) * x8)) + (1 : Int32))).bind fun v5 =>
        if v5 = p4 then
          f_BlockCodeModel_made_121 p1 p2 p3 p4 (f_BlockCodeModel_made_72 p1 p2 p3 p4 n) x5 (1 : Int32) x7 x8 t_kind t_left t_right t_symbols t_risk t_risks
        else
          f_BlockCodeModel_made_121 p1 p2 p3 p4 (f_BlockCodeModel_made_72 p1 p2 p3 p4 n) x5 x6 x7 x8 t_kind t_left t_right t_symbols t_risk t_risks
      else
        f_BlockCodeModel_made_121 p1 p2 p3 p4 (f_BlockCodeModel_made_72 p1 p2 p3 p4 n) x5 x6 x7 x8 t_kind t_left t_right t_symbols t_risk t_risks
def f_BlockCodeModel_made_55 (p1 : Int32) (p2 : Int32) (p3 : Int32) (p4 : Int32) (t_kind : Nat → Int32) (t_left : Nat → Int32) (t_right : Nat → Int32) (t_symbols : Int32) (t_risk : Nat → Int32) (t_risks : Nat → Int32) : Option (Int32 × (Nat → Int32) × (Nat → Int32) × (Nat → Int32) × Int32 × (Nat → Int32) × (Nat → Int32)) :=
  (rdI t_risks 2 p1).bind fun v1 =>
  f_BlockCodeModel_made_72 p1 p2 p3 p4 fu (0 : Int32) (0 : Int32) v1 (0 : Int32) t_kind t_left t_right t_symbols t_risk t_risks
def f_BlockCodeModel_made_26 (p1 : Int32) (p2 : Int32) (p3 : Int32) (p4 : Int32) (s0 : Int32) (t_kind : Nat → Int32) (t_left : Nat → Int32) (t_right : Nat → Int32) (t_symbols : Int32) (t_risk : Nat → Int32) (t_risks : Nat → Int32) : Option (Int32 × (Nat → Int32) × (Nat → Int32) × (Nat → Int32) × Int32 × (Nat → Int32) × (Nat → Int32)) :=
  if p2 = (6 : Int32) then
    (rdI t_kind 120 p4).bind fun v1 =>
    if v1 = (1 : Int32) then
      (rdI t_left 120 p4).bind fun v2 =>
      if v2 = (0 : Int32) then
        f_BlockCodeModel_made_55 p1 p2 p3 p4 t_kind t_left t_right t_symbols t_risk t_risks
      else
        f_BlockCodeModel_made_175 p1 p2 p3 p4 s0 t_kind t_left t_right t_symbols t_risk t_risks
    else
      f_BlockCodeModel_made_55 p1 p2 p3 p4 t_kind t_left t_right t_symbols t_risk t_risks
  else
    f_BlockCodeModel_made_175 p1 p2 p3 p4 s0 t_kind t_left t_right t_symbols t_risk t_risks
def f_BlockCodeModel_made_25 (p1 : Int32) (p2 : Int32) (p3 : Int32) (p4 : Int32) (t_kind : Nat → Int32) (t_left : Nat → Int32) (t_right : Nat → Int32) (t_symbols : Int32) (t_risk : Nat → Int32) (t_risks : Nat → Int32) : Option (Int32 × (Nat → Int32) × (Nat → Int32) × (Nat → Int32) × Int32 × (Nat → Int32) × (Nat → Int32)) :=
  f_BlockCodeModel_made_26 p1 p2 p3 p4 (0 : Int32) t_kind t_left t_right t_symbols t_risk t_risks
def f_BlockCodeModel_made (p1 : Int32) (p2 : Int32) (p3 : Int32) (p4 : Int32) (t_kind : Nat → Int32) (t_left : Nat → Int32) (t_right : Nat → Int32) (t_symbols : Int32) (t_risk : Nat → Int32) (t_risks : Nat → Int32) : Option (Int32 × (Nat → Int32) × (Nat → Int32) × (Nat → Int32) × Int32 × (Nat → Int32) × (Nat → Int32)) :=
  (rdI t_kind 120 p3).bind fun v1 =>
  if v1 = (1 : Int32) then
    (rdI t_kind 120 p4).bind fun v2 =>
    if v2 = (1 : Int32) then
      f_BlockCodeModel_made_26 p1 p2 p3 p4 (1 : Int32) t_kind t_left t_right t_symbols t_risk t_risks
    else
      f_BlockCodeModel_made_25 p1 p2 p3 p4 t_kind t_left t_right t_symbols t_risk t_risks
  else
    f_BlockCodeModel_made_25 p1 p2 p3 p4 t_kind t_left t_right t_symbols t_risk t_risks
abbrev rm_BlockCodeModel_leave : Room := { frames := 0, cells := 0, slots := 0, locals := 0 }
abbrev ww_BlockCodeModel_leave (cI cJ cZ : ClassId) (qt : Nat) (qt_code : Nat) (qt_inputs : Nat) (qt_reached : Nat) (qt_isInt : Nat) (qt_fact : Nat) (qt_need : Nat) (qt_leader : Nat) (qt_kind : Nat) (qt_left : Nat) (qt_right : Nat) (qt_hold : Nat) (qt_risk : Nat) (qt_risks : Nat) (qt_end : Nat) (qt_to : Nat) (qt_symbol : Nat) (qt_place : Nat) (qt_register : Nat) (t_size : Int32) (t_thrown : Int32) (t_sealed : Int32) (t_good : Int32) (t_symbols : Int32) (t_set : Int32) (t_steps : Int32) (t_ended : Int32) (t_end : Nat → Int32) (t_to : Nat → Int32) (t_symbol : Nat → Int32) : va_W := [(qt, .inr (6, [.ref qt_code, .int t_size, .int t_thrown, .int t_sealed, .int t_good, .ref qt_inputs, .ref qt_reached, .ref qt_isInt, .ref qt_fact, .ref qt_need, .ref qt_leader, .ref qt_kind, .ref qt_left, .ref qt_right, .int t_symbols, .ref qt_hold, .ref qt_risk, .ref qt_risks, .ref qt_end, .ref qt_to, .ref qt_symbol, .ref qt_place, .ref qt_register, .int t_set, .int t_steps, .int t_ended])), (qt_end, .inl (cI, 2, .inl t_end)), (qt_to, .inl (cI, 2, .inl t_to)), (qt_symbol, .inl (cI, 2, .inl t_symbol))]
def f_BlockCodeModel_leave_30 (p1 : Int32) (p2 : Int32) (p3 : Int32) (p4 : Int32) (s0 : Int32) (s1 : Int32) (t_end : Nat → Int32) (t_to : Nat → Int32) (t_symbol : Nat → Int32) : Option ((Nat → Int32) × (Nat → Int32) × (Nat → Int32)) :=
  (wrI t_symbol 2 s1 s0).bind fun w1 =>
  some (t_end, t_to, w1)
def f_BlockCodeModel_leave (p1 : Int32) (p2 : Int32) (p3 : Int32) (p4 : Int32) (t_end : Nat → Int32) (t_to : Nat → Int32) (t_symbol : Nat → Int32) : Option ((Nat → Int32) × (Nat → Int32) × (Nat → Int32)) :=
  (wrI t_end 2 p1 p2).bind fun w1 =>
  (wrI t_to 2 p1 p3).bind fun w2 =>
  if p2 = (2 : Int32) then
    f_BlockCodeModel_leave_30 p1 p2 p3 p4 p4 p1 w1 w2 t_symbol
  else
    f_BlockCodeModel_leave_30 p1 p2 p3 p4 (0 : Int32) p1 w1 w2 t_symbol
abbrev rm_BlockCodeModel_walk : Room := { frames := 2, cells := 0, slots := 0, locals := 52 }
abbrev ww_BlockCodeModel_walk (cI cJ cZ : ClassId) (qt : Nat) (qt_code : Nat) (qt_inputs : Nat) (qt_reached : Nat) (qt_isInt : Nat) (qt_fact : Nat) (qt_need : Nat) (qt_leader : Nat) (qt_kind : Nat) (qt_left : Nat) (qt_right : Nat) (qt_hold : Nat) (qt_risk : Nat) (qt_risks : Nat) (qt_end : Nat) (qt_to : Nat) (qt_symbol : Nat) (qt_place : Nat) (qt_register : Nat) (t_size : Int32) (t_thrown : Int32) (t_sealed : Int32) (t_good : Int32) (t_symbols : Int32) (t_set : Int32) (t_steps : Int32) (t_ended : Int32) (t_code : Nat → Int32) (t_isInt : Nat → Int32) (t_fact : Nat → Int32) (t_kind : Nat → Int32) (t_left : Nat → Int32) (t_right : Nat → Int32) (t_hold : Nat → Int32) (t_risk : Nat → Int32) (t_risks : Nat → Int32) (t_end : Nat → Int32) (t_to : Nat → Int32) (t_symbol : Nat → Int32) (t_place : Nat → Int32) : va_W := [(qt, .inr (6, [.ref qt_code, .int t_size, .int t_thrown, .int t_sealed, .int t_good, .ref qt_inputs, .ref qt_reached, .ref qt_isInt, .ref qt_fact, .ref qt_need, .ref qt_leader, .ref qt_kind, .ref qt_left, .ref qt_right, .int t_symbols, .ref qt_hold, .ref qt_risk, .ref qt_risks, .ref qt_end, .ref qt_to, .ref qt_symbol, .ref qt_place, .ref qt_register, .int t_set, .int t_steps, .int t_ended])), (qt_code, .inl (cI, 160, .inl t_code)), (qt_isInt, .inl (cZ, 105, .inl t_isInt)), (qt_fact, .inl (cI, 105, .inl t_fact)), (qt_kind, .inl (cI, 120, .inl t_kind)), (qt_left, .inl (cI, 120, .inl t_left)), (qt_right, .inl (cI, 120, .inl t_right)), (qt_hold, .inl (cI, 10, .inl t_hold)), (qt_risk, .inl (cI, 80, .inl t_risk)), (qt_risks, .inl (cI, 2, .inl t_risks)), (qt_end, .inl (cI, 2, .inl t_end)), (qt_to, .inl (cI, 2, .inl t_to)), (qt_symbol, .inl (cI, 2, .inl t_symbol)), (qt_place, .inl (cI, 2, .inl t_place))]
def f_BlockCodeModel_walk_79 (p1 : Int32) (p2 : Int32) (p3 : Int32) (t_code : Nat → Int32) (t_isInt : Nat → Int32) (t_fact : Nat → Int32) (k22 : Int32 → Int32 → (Nat → Int32) → (Nat → Int32) → (Nat → Int32) → Int32 → (Nat → Int32) → (Nat → Int32) → (Nat → Int32) → (Nat → Int32) → (Nat → Int32) → (Nat → Int32) → (Nat → Int32) → Option ((Nat → Int32) × (Nat → Int32) × (Nat → Int32) × Int32 × (Nat → Int32) × (Nat → Int32) × (Nat → Int32) × (Nat → Int32) × (Nat → Int32) × (Nat → Int32) × (Nat → Int32))) (x4 : Int32) (x5 : Int32) (s0 : Int32) (s1 : Int32) (t_kind : Nat → Int32) (t_left : Nat → Int32) (t_right : Nat → Int32) (t_symbols : Int32) (t_hold : Nat → Int32) (t_risk : Nat → Int32) (t_risks : Nat → Int32) (t_end : Nat → Int32) (t_to : Nat → Int32) (t_symbol : Nat → Int32) (t_place : Nat → Int32) : Option ((Nat → Int32) × (Nat → Int32) × (Nat → Int32) × Int32 × (Nat → Int32) × (Nat → Int32) × (Nat → Int32) × (Nat → Int32) × (Nat → Int32) × (Nat → Int32) × (Nat → Int32)) :=
  (wrI t_hold 10 s1 s0).bind fun w1 =>
  k22 x4 (x5 + (1 : Int32)) t_kind t_left t_right t_symbols w1 t_risk t_risks t_end t_to t_symbol t_place
def f_BlockCodeModel_walk_380 (p1 : Int32) (p2 : Int32) (p3 : Int32) (t_code : Nat → Int32) (t_isInt : Nat → Int32) (t_fact : Nat → Int32) (k89 : Int32 → Int32 → (Nat → Int32) → (Nat → Int32) → (Nat → Int32) → Int32 → (Nat → Int32) → (Nat → Int32) → (Nat → Int32) → (Nat → Int32) → (Nat → Int32) → (Nat → Int32) → (Nat → Int32) → Option ((Nat → Int32) × (Nat → Int32) × (Nat → Int32) × Int32 × (Nat → Int32) × (Nat → Int32) × (Nat → Int32) × (Nat → Int32) × (Nat → Int32) × (Nat → Int32) × (Nat → Int32))) (x4 : Int32) (x5 : Int32) (t_kind : Nat → Int32) (t_left : Nat → Int32) (t_right : Nat → Int32) (t_symbols : Int32) (t_hold : Nat → Int32) (t_risk : Nat → Int32) (t_risks : Nat → Int32) (t_end : Nat → Int32) (t_to : Nat → Int32) (t_symbol : Nat → Int32) (t_place : Nat → Int32) : Option ((Nat → Int32) × (Nat → Int32) × (Nat → Int32) × Int32 × (Nat → Int32) × (Nat → Int32) × (Nat → Int32) × (Nat → Int32) × (Nat → Int32) × (Nat → Int32) × (Nat → Int32)) :=
  k89 x4 (x5 + (1 : Int32)) t_kind t_left t_right t_symbols t_hold t_risk t_risks t_end t_to t_symbol t_place
def f_BlockCodeModel_walk_350 (p1 : Int32) (p2 : Int32) (p3 : Int32) (t_code : Nat → Int32) (t_isInt : Nat → Int32) (t_fact : Nat → Int32) (k89 : Int32 → Int32 → (Nat → Int32) → (Nat → Int32) → (Nat → Int32) → Int32 → (Nat → Int32) → (Nat → Int32) → (Nat → Int32) → (Nat → Int32) → (Nat → Int32) → (Nat → Int32) → (Nat → Int32) → Option ((Nat → Int32) × (Nat → Int32) × (Nat → Int32) × Int32 × (Nat → Int32) × (Nat → Int32) × (Nat → Int32) × (Nat → Int32) × (Nat → Int32) × (Nat → Int32) × (Nat → Int32))) (x4 : Int32) (x5 : Int32) (s0 : Int32) (s1 : Int32) (s2 : Int32) (t_kind : Nat → Int32) (t_left : Nat → Int32) (t_right : Nat → Int32) (t_symbols : Int32) (t_hold : Nat → Int32) (t_risk : Nat → Int32) (t_risks : Nat → Int32) (t_end : Nat → Int32) (t_to : Nat → Int32) (t_symbol : Nat → Int32) (t_place : Nat → Int32) : Option ((Nat → Int32) × (Nat → Int32) × (Nat → Int32) × Int32 × (Nat → Int32) × (Nat → Int32) × (Nat → Int32) × (Nat → Int32) × (Nat → Int32) × (Nat → Int32) × (Nat → Int32)) :=
  (f_BlockCodeModel_leave s2 s1 s0 (0 : Int32) t_end t_to t_symbol).bind fun (u1, u2, u3) =>
  f_BlockCodeModel_walk_380 p1 p2 p3 t_code t_isInt t_fact k89 x4 x5 t_kind t_left t_right t_symbols t_hold t_risk t_risks u1 u2 u3 t_place
def f_BlockCodeModel_walk_373 (p1 : Int32) (p2 : Int32) (p3 : Int32) (t_code : Nat → Int32) (t_isInt : Nat → Int32) (t_fact : Nat → Int32) (k89 : Int32 → Int32 → (Nat → Int32) → (Nat → Int32) → (Nat → Int32) → Int32 → (Nat → Int32) → (Nat → Int32) → (Nat → Int32) → (Nat → Int32) → (Nat → Int32) → (Nat → Int32) → (Nat → Int32) → Option ((Nat → Int32) × (Nat → Int32) × (Nat → Int32) × Int32 × (Nat → Int32) × (Nat → Int32) × (Nat → Int32) × (Nat → Int32) × (Nat → Int32) × (Nat → Int32) × (Nat → Int32))) (x4 : Int32) (x5 : Int32) (x10 : Int32) (x11 : Int32) (s0 : Int32) (s1 : Int32) (t_kind : Nat → Int32) (t_left : Nat → Int32) (t_right : Nat → Int32) (t_symbols : Int32) (t_hold : Nat → Int32) (t_risk : Nat → Int32) (t_risks : Nat → Int32) (t_end : Nat → Int32) (t_to : Nat → Int32) (t_symbol : Nat → Int32) (t_place : Nat → Int32) : Option ((Nat → Int32) × (Nat → Int32) × (Nat → Int32) × Int32 × (Nat → Int32) × (Nat → Int32) × (Nat → Int32) × (Nat → Int32) × (Nat → Int32) × (Nat → Int32) × (Nat → Int32)) :=
  (f_BlockCodeModel_leave s1 s0 x10 x11 t_end t_to t_symbol).bind fun (u1, u2, u3) =>
  f_BlockCodeModel_walk_380 p1 p2 p3 t_code t_isInt t_fact k89 x4 x5 t_kind t_left t_right t_symbols t_hold t_risk t_risks u1 u2 u3 t_place
def f_BlockCodeModel_walk_295 (p1 : Int32) (p2 : Int32) (p3 : Int32) (t_code : Nat → Int32) (t_isInt : Nat → Int32) (t_fact : Nat → Int32) (k89 : Int32 → Int32 → (Nat → Int32) → (Nat → Int32) → (Nat → Int32) → Int32 → (Nat → Int32) → (Nat → Int32) → (Nat → Int32) → (Nat → Int32) → (Nat → Int32) → (Nat → Int32) → (Nat → Int32) → Option ((Nat → Int32) × (Nat → Int32) × (Nat → Int32) × Int32 × (Nat → Int32) × (Nat → Int32) × (Nat → Int32) × (Nat → Int32) × (Nat → Int32) × (Nat → Int32) × (Nat → Int32))) (x4 : Int32) (x5 : Int32) (x7 : Int32) (x9 : Int32) (x10 : Int32) (t_kind : Nat → Int32) (t_left : Nat → Int32) (t_right : Nat → Int32) (t_symbols : Int32) (t_hold : Nat → Int32) (t_risk : Nat → Int32) (t_risks : Nat → Int32) (t_end : Nat → Int32) (t_to : Nat → Int32) (t_symbol : Nat → Int32) (t_place : Nat → Int32) : Option ((Nat → Int32) × (Nat → Int32) × (Nat → Int32) × Int32 × (Nat → Int32) × (Nat → Int32) × (Nat → Int32) × (Nat → Int32) × (Nat → Int32) × (Nat → Int32) × (Nat → Int32)) :=
  if x7 = (9 : Int32) then
    (rdI t_hold 10 (x4 + x9)).bind fun v1 =>
    (rdI t_kind 120 v1).bind fun v2 =>
    if v2 = (1 : Int32) then
      (rdI t_left 120 v1).bind fun v3 =>
      if v3 = (0 : Int32) then
        f_BlockCodeModel_walk_350 p1 p2 p3 t_code t_isInt t_fact k89 x4 x5 (x5 + (1 : Int32)) (1 : Int32) p1 t_kind t_left t_right t_symbols t_hold t_risk t_risks t_end t_to t_symbol t_place
      else
        f_BlockCodeModel_walk_350 p1 p2 p3 t_code t_isInt t_fact k89 x4 x5 x10 (1 : Int32) p1 t_kind t_left t_right t_symbols t_hold t_risk t_risks t_end t_to t_symbol t_place
    else
      if x10 = (x5 + (1 : Int32)) then
        f_BlockCodeModel_walk_373 p1 p2 p3 t_code t_isInt t_fact k89 x4 x5 x10 v1 (1 : Int32) p1 t_kind t_left t_right t_symbols t_hold t_risk t_risks t_end t_to t_symbol t_place
      else
        f_BlockCodeModel_walk_373 p1 p2 p3 t_code t_isInt t_fact k89 x4 x5 x10 v1 (2 : Int32) p1 t_kind t_left t_right t_symbols t_hold t_risk t_risks t_end t_to t_symbol t_place
  else
    f_BlockCodeModel_walk_380 p1 p2 p3 t_code t_isInt t_fact k89 x4 x5 t_kind t_left t_right t_symbols t_hold t_risk t_risks t_end t_to t_symbol t_place
def f_BlockCodeModel_walk_279 (p1 : Int32) (p2 : Int32) (p3 : Int32) (t_code : Nat → Int32) (t_isInt : Nat → Int32) (t_fact : Nat → Int32) (k89 : Int32 → Int32 → (Nat → Int32) → (Nat → Int32) → (Nat → Int32) → Int32 → (Nat → Int32) → (Nat → Int32) → (Nat → Int32) → (Nat → Int32) → (Nat → Int32) → (Nat → Int32) → (Nat → Int32) → Option ((Nat → Int32) × (Nat → Int32) × (Nat → Int32) × Int32 × (Nat → Int32) × (Nat → Int32) × (Nat → Int32) × (Nat → Int32) × (Nat → Int32) × (Nat → Int32) × (Nat → Int32))) (x4 : Int32) (x5 : Int32) (x7 : Int32) (x9 : Int32) (x10 : Int32) (t_kind : Nat → Int32) (t_left : Nat → Int32) (t_right : Nat → Int32) (t_symbols : Int32) (t_hold : Nat → Int32) (t_risk : Nat → Int32) (t_risks : Nat → Int32) (t_end : Nat → Int32) (t_to : Nat → Int32) (t_symbol : Nat → Int32) (t_place : Nat → Int32) : Option ((Nat → Int32) × (Nat → Int32) × (Nat → Int32) × Int32 × (Nat → Int32) × (Nat → Int32) × (Nat → Int32) × (Nat → Int32) × (Nat → Int32) × (Nat → Int32) × (Nat → Int32)) :=
  if x7 = (10 : Int32) then
    (f_BlockCodeModel_leave p1 (3 : Int32) x9 (0 : Int32) t_end t_to t_symbol).bind fun (u1, u2, u3) =>
    f_BlockCodeModel_walk_295 p1 p2 p3 t_code t_isInt t_fact k89 x4 x5 x7 x9 x10 t_kind t_left t_right t_symbols t_hold t_risk t_risks u1 u2 u3 t_place
  else
    f_BlockCodeModel_walk_295 p1 p2 p3 t_code t_isInt t_fact k89 x4 x5 x7 x9 x10 t_kind t_left t_right t_symbols t_hold t_risk t_risks t_end t_to t_symbol t_place
def f_BlockCodeModel_walk_263 (p1 : Int32) (p2 : Int32) (p3 : Int32) (t_code : Nat → Int32) (t_isInt : Nat → Int32) (t_fact : Nat → Int32) (k89 : Int32 → Int32 → (Nat → Int32) → (Nat → Int32) → (Nat → Int32) → Int32 → (Nat → Int32) → (Nat → Int32) → (Nat → Int32) → (Nat → Int32) → (Nat → Int32) → (Nat → Int32) → (Nat → Int32) → Option ((Nat → Int32) × (Nat → Int32) × (Nat → Int32) × Int32 × (Nat → Int32) × (Nat → Int32) × (Nat → Int32) × (Nat → Int32) × (Nat → Int32) × (Nat → Int32) × (Nat → Int32))) (x4 : Int32) (x5 : Int32) (x7 : Int32) (x9 : Int32) (x10 : Int32) (t_kind : Nat → Int32) (t_left : Nat → Int32) (t_right : Nat → Int32) (t_symbols : Int32) (t_hold : Nat → Int32) (t_risk : Nat → Int32) (t_risks : Nat → Int32) (t_end : Nat → Int32) (t_to : Nat → Int32) (t_symbol : Nat → Int32) (t_place : Nat → Int32) : Option ((Nat → Int32) × (Nat → Int32) × (Nat → Int32) × Int32 × (Nat → Int32) × (Nat → Int32) × (Nat → Int32) × (Nat → Int32) × (Nat → Int32) × (Nat → Int32) × (Nat → Int32)) :=
  if x7 = (8 : Int32) then
    (f_BlockCodeModel_leave p1 (1 : Int32) x9 (0 : Int32) t_end t_to t_symbol).bind fun (u1, u2, u3) =>
    f_BlockCodeModel_walk_279 p1 p2 p3 t_code t_isInt t_fact k89 x4 x5 x7 x9 x10 t_kind t_left t_right t_symbols t_hold t_risk t_risks u1 u2 u3 t_place
  else
    f_BlockCodeModel_walk_279 p1 p2 p3 t_code t_isInt t_fact k89 x4 x5 x7 x9 x10 t_kind t_left t_right t_symbols t_hold t_risk t_risks t_end t_to t_symbol t_place
def f_BlockCodeModel_walk_215 (p1 : Int32) (p2 : Int32) (p3 : Int32) (t_code : Nat → Int32) (t_isInt : Nat → Int32) (t_fact : Nat → Int32) (k89 : Int32 → Int32 → (Nat → Int32) → (Nat → Int32) → (Nat → Int32) → Int32 → (Nat → Int32) → (Nat → Int32) → (Nat → Int32) → (Nat → Int32) → (Nat → Int32) → (Nat → Int32) → (Nat → Int32) → Option ((Nat → Int32) × (Nat → Int32) × (Nat → Int32) × Int32 × (Nat → Int32) × (Nat → Int32) × (Nat → Int32) × (Nat → Int32) × (Nat → Int32) × (Nat → Int32) × (Nat → Int32))) (x4 : Int32) (x5 : Int32) (x7 : Int32) (x8 : Int32) (x9 : Int32) (x10 : Int32) (t_kind : Nat → Int32) (t_left : Nat → Int32) (t_right : Nat → Int32) (t_symbols : Int32) (t_hold : Nat → Int32) (t_risk : Nat → Int32) (t_risks : Nat → Int32) (t_end : Nat → Int32) (t_to : Nat → Int32) (t_symbol : Nat → Int32) (t_place : Nat → Int32) : Option ((Nat → Int32) × (Nat → Int32) × (Nat → Int32) × Int32 × (Nat → Int32) × (Nat → Int32) × (Nat → Int32) × (Nat → Int32) × (Nat → Int32) × (Nat → Int32) × (Nat → Int32)) :=
  (f_BlockCodeModel_within x7 (3 : Int32) (7 : Int32)).bind fun rz1 =>
  if rz1 = (0 : Int32) then
    f_BlockCodeModel_walk_263 p1 p2 p3 t_code t_isInt t_fact k89 x4 x5 x7 x9 x10 t_kind t_left t_right t_symbols t_hold t_risk t_risks t_end t_to t_symbol t_place
  else
    (rdI t_hold 10 (x4 + x9)).bind fun v2 =>
    (rdI t_hold 10 (x4 + x10)).bind fun v3 =>
    (f_BlockCodeModel_made p1 x7 v2 v3 t_kind t_left t_right t_symbols t_risk t_risks).bind fun (rz4, u5, u6, u7, u8, u9, u10) =>
    (wrI t_hold 10 (x4 + x8) rz4).bind fun w11 =>
    f_BlockCodeModel_walk_263 p1 p2 p3 t_code t_isInt t_fact k89 x4 x5 x7 x9 x10 u5 u6 u7 u8 w11 u9 u10 t_end t_to t_symbol t_place
def f_BlockCodeModel_walk_189 (p1 : Int32) (p2 : Int32) (p3 : Int32) (t_code : Nat → Int32) (t_isInt : Nat → Int32) (t_fact : Nat → Int32) (k89 : Int32 → Int32 → (Nat → Int32) → (Nat → Int32) → (Nat → Int32) → Int32 → (Nat → Int32) → (Nat → Int32) → (Nat → Int32) → (Nat → Int32) → (Nat → Int32) → (Nat → Int32) → (Nat → Int32) → Option ((Nat → Int32) × (Nat → Int32) × (Nat → Int32) × Int32 × (Nat → Int32) × (Nat → Int32) × (Nat → Int32) × (Nat → Int32) × (Nat → Int32) × (Nat → Int32) × (Nat → Int32))) (x4 : Int32) (x5 : Int32) (x7 : Int32) (x8 : Int32) (x9 : Int32) (x10 : Int32) (t_kind : Nat → Int32) (t_left : Nat → Int32) (t_right : Nat → Int32) (t_symbols : Int32) (t_hold : Nat → Int32) (t_risk : Nat → Int32) (t_risks : Nat → Int32) (t_end : Nat → Int32) (t_to : Nat → Int32) (t_symbol : Nat → Int32) (t_place : Nat → Int32) : Option ((Nat → Int32) × (Nat → Int32) × (Nat → Int32) × Int32 × (Nat → Int32) × (Nat → Int32) × (Nat → Int32) × (Nat → Int32) × (Nat → Int32) × (Nat → Int32) × (Nat → Int32)) :=
  if x7 = (2 : Int32) then
    (rdI t_hold 10 (x4 + x9)).bind fun v1 =>
    (wrI t_hold 10 (x4 + x8) v1).bind fun w2 =>
    f_BlockCodeModel_walk_215 p1 p2 p3 t_code t_isInt t_fact k89 x4 x5 x7 x8 x9 x10 t_kind t_left t_right t_symbols w2 t_risk t_risks t_end t_to t_symbol t_place
  else
    f_BlockCodeModel_walk_215 p1 p2 p3 t_code t_isInt t_fact k89 x4 x5 x7 x8 x9 x10 t_kind t_left t_right t_symbols t_hold t_risk t_risks t_end t_to t_symbol t_place
def f_BlockCodeModel_walk_386 (p1 : Int32) (p2 : Int32) (p3 : Int32) (t_code : Nat → Int32) (t_isInt : Nat → Int32) (t_fact : Nat → Int32) (t_kind : Nat → Int32) (t_left : Nat → Int32) (t_right : Nat → Int32) (t_symbols : Int32) (t_hold : Nat → Int32) (t_risk : Nat → Int32) (t_risks : Nat → Int32) (t_end : Nat → Int32) (t_to : Nat → Int32) (t_symbol : Nat → Int32) (t_place : Nat → Int32) : Option ((Nat → Int32) × (Nat → Int32) × (Nat → Int32) × Int32 × (Nat → Int32) × (Nat → Int32) × (Nat → Int32) × (Nat → Int32) × (Nat → Int32) × (Nat → Int32) × (Nat → Int32)) :=
  (rdI t_end 2 p1).bind fun v1 =>
  if v1 = (0 : Int32) then
    (f_BlockCodeModel_leave p1 (1 : Int32) p3 (0 : Int32) t_end t_to t_symbol).bind fun (u2, u3, u4) =>
    some (t_kind, t_left, t_right, t_symbols, t_hold, t_risk, t_risks, u2, u3, u4, t_place)
  else
    some (t_kind, t_left, t_right, t_symbols, t_hold, t_risk, t_risks, t_end, t_to, t_symbol, t_place)
def f_BlockCodeModel_walk_89 (p1 : Int32) (p2 : Int32) (p3 : Int32) (t_code : Nat → Int32) (t_isInt : Nat → Int32) (t_fact : Nat → Int32) : Nat → Int32 → Int32 → (Nat → Int32) → (Nat → Int32) → (Nat → Int32) → Int32 → (Nat → Int32) → (Nat → Int32) → (Nat → Int32) → (Nat → Int32) → (Nat → Int32) → (Nat → Int32) → (Nat → Int32) → Option ((Nat → Int32) × (Nat → Int32) × (Nat → Int32) × Int32 × (Nat → Int32) × (Nat → Int32) × (Nat → Int32) × (Nat → Int32) × (Nat → Int32) × (Nat → Int32) × (Nat → Int32))
  | 0, _, _, _, _, _, _, _, _, _, _, _, _, _ => none
  | n + 1, x4, x5, t_kind, t_left, t_right, t_symbols, t_hold, t_risk, t_risks, t_end, t_to, t_symbol, t_place =>
    if p3 ≤ x5 then
      f_BlockCodeModel_walk_386 p1 p2 p3 t_code t_isInt t_fact t_kind t_left t_right t_symbols t_hold t_risk t_risks t_end t_to t_symbol t_place
    else
      (rdI t_end 2 p1).bind fun v1 =>
      if v1 = (0 : Int32) then
        (rdI t_code 160 (((80 : Int32) * p1) + ((4 : Int32) * x5))).bind fun v2 =>
        (rdI t_code 160 ((((80 : Int32) * p1) + ((4 : Int32) * x5)) + (1 : Int32))).bind fun v3 =>
        (rdI t_code 160 ((((80 : Int32) * p1) + ((4 : Int32) * x5)) + (2 : Int32))).bind fun v4 =>
        (rdI t_code 160 ((((80 : Int32) * p1) + ((4 : Int32) * x5)) + (3 : Int32))).bind fun v5 =>
        (wrI t_place 2 p1 x5).bind fun w6 =>
        if v2 = (1 : Int32) then
          (f_BlockCodeModel_symbolOf (1 : Int32) v4 (0 : Int32) t_kind t_left t_right t_symbols).bind fun (rz7, u8, u9, u10, u11) =>
          (wrI t_hold 10 (x4 + v3) rz7).bind fun w12 =>
          f_BlockCodeModel_walk_189 p1 p2 p3 t_code t_isInt t_fact (f_BlockCodeModel_walk_89 p1 p2 p3 t_code t_isInt t_fact n) x4 x5 v2 v3 v4 v5 u8 u9 u10 u11 w12 t_risk t_risks t_end t_to t_symbol w6
        else
          f_BlockCodeModel_walk_189 p1 p2 p3 t_code t_isInt t_fact (f_BlockCodeModel_walk_89 p1 p2 p3 t_code t_isInt t_fact n) x4 x5 v2 v3 v4 v5 t_kind t_left t_right t_symbols t_hold t_risk t_risks t_end t_to t_symbol w6
      else
        f_BlockCodeModel_walk_386 p1 p2 p3 t_code t_isInt t_fact t_kind t_left t_right t_symbols t_hold t_risk t_risks t_end t_to t_symbol t_place
def f_BlockCodeModel_walk_22 (p1 : Int32) (p2 : Int32) (p3 : Int32) (t_code : Nat → Int32) (t_isInt : Nat → Int32) (t_fact : Nat → Int32) : Nat → Int32 → Int32 → (Nat → Int32) → (Nat → Int32) → (Nat → Int32) → Int32 → (Nat → Int32) → (Nat → Int32) → (Nat → Int32) → (Nat → Int32) → (Nat → Int32) → (Nat → Int32) → (Nat → Int32) → Option ((Nat → Int32) × (Nat → Int32) × (Nat → Int32) × Int32 × (Nat → Int32) × (Nat → Int32) × (Nat → Int32) × (Nat → Int32) × (Nat → Int32) × (Nat → Int32) × (Nat → Int32))
  | 0, _, _, _, _, _, _, _, _, _, _, _, _, _ => none
  | n + 1, x4, x5, t_kind, t_left, t_right, t_symbols, t_hold, t_risk, t_risks, t_end, t_to, t_symbol, t_place =>
    if (5 : Int32) ≤ x5 then
      f_BlockCodeModel_walk_89 p1 p2 p3 t_code t_isInt t_fact fu x4 p2 t_kind t_left t_right t_symbols t_hold t_risk t_risks t_end t_to t_symbol t_place
    else
      (rdI t_isInt 105 (((5 : Int32) * p2) + x5)).bind fun v1 =>
      if v1 = (0 : Int32) then
        (f_BlockCodeModel_symbolOf (0 : Int32) x5 (0 : Int32) t_kind t_left t_right t_symbols).bind fun (rz2, u3, u4, u5, u6) =>
        f_BlockCodeModel_walk_79 p1 p2 p3 t_code t_isInt t_fact (f_BlockCodeModel_walk_22 p1 p2 p3 t_code t_isInt t_fact n) x4 x5 rz2 (x4 + x5) u3 u4 u5 u6 t_hold t_risk t_risks t_end t_to t_symbol t_place
      else
        (rdI t_fact 105 (((5 : Int32) * p2) + x5)).bind fun v7 =>
        (f_BlockCodeModel_symbolOf (1 : Int32) v7 (0 : Int32) t_kind t_left t_right t_symbols).bind fun (rz8, u9, u10, u11, u12) =>
        f_BlockCodeModel_walk_79 p1 p2 p3 t_code t_isInt t_fact (f_BlockCodeModel_walk_22 p1 p2 p3 t_code t_isInt t_fact n) x4 x5 rz8 (x4 + x5) u9 u10 u11 u12 t_hold t_risk t_risks t_end t_to t_symbol t_place
def f_BlockCodeModel_walk (p1 : Int32) (p2 : Int32) (p3 : Int32) (t_code : Nat → Int32) (t_isInt : Nat → Int32) (t_fact : Nat → Int32) (t_kind : Nat → Int32) (t_left : Nat → Int32) (t_right : Nat → Int32) (t_symbols : Int32) (t_hold : Nat → Int32) (t_risk : Nat → Int32) (t_risks : Nat → Int32) (t_end : Nat → Int32) (t_to : Nat → Int32) (t_symbol : Nat → Int32) (t_place : Nat → Int32) : Option ((Nat → Int32) × (Nat → Int32) × (Nat → Int32) × Int32 × (Nat → Int32) × (Nat → Int32) × (Nat → Int32) × (Nat → Int32) × (Nat → Int32) × (Nat → Int32) × (Nat → Int32)) :=
  (wrI t_risks 2 p1 (0 : Int32)).bind fun w1 =>
  (wrI t_end 2 p1 (0 : Int32)).bind fun w2 =>
  f_BlockCodeModel_walk_22 p1 p2 p3 t_code t_isInt t_fact fu ((5 : Int32) * p1) (0 : Int32) t_kind t_left t_right t_symbols t_hold t_risk w1 w2 t_to t_symbol t_place
abbrev rm_BlockCodeModel_alike : Room := { frames := 3, cells := 0, slots := 0, locals := 83 }
abbrev ww_BlockCodeModel_alike (cI cJ cZ : ClassId) (qt : Nat) (qt_code : Nat) (qt_inputs : Nat) (qt_reached : Nat) (qt_isInt : Nat) (qt_fact : Nat) (qt_need : Nat) (qt_leader : Nat) (qt_kind : Nat) (qt_left : Nat) (qt_right : Nat) (qt_hold : Nat) (qt_risk : Nat) (qt_risks : Nat) (qt_end : Nat) (qt_to : Nat) (qt_symbol : Nat) (qt_place : Nat) (qt_register : Nat) (t_size : Int32) (t_thrown : Int32) (t_sealed : Int32) (t_good : Int32) (t_symbols : Int32) (t_set : Int32) (t_steps : Int32) (t_ended : Int32) (t_code : Nat → Int32) (t_isInt : Nat → Int32) (t_fact : Nat → Int32) (t_need : Nat → Int32) (t_kind : Nat → Int32) (t_left : Nat → Int32) (t_right : Nat → Int32) (t_hold : Nat → Int32) (t_risk : Nat → Int32) (t_risks : Nat → Int32) (t_end : Nat → Int32) (t_to : Nat → Int32) (t_symbol : Nat → Int32) (t_place : Nat → Int32) : va_W := [(qt, .inr (6, [.ref qt_code, .int t_size, .int t_thrown, .int t_sealed, .int t_good, .ref qt_inputs, .ref qt_reached, .ref qt_isInt, .ref qt_fact, .ref qt_need, .ref qt_leader, .ref qt_kind, .ref qt_left, .ref qt_right, .int t_symbols, .ref qt_hold, .ref qt_risk, .ref qt_risks, .ref qt_end, .ref qt_to, .ref qt_symbol, .ref qt_place, .ref qt_register, .int t_set, .int t_steps, .int t_ended])), (qt_code, .inl (cI, 160, .inl t_code)), (qt_isInt, .inl (cZ, 105, .inl t_isInt)), (qt_fact, .inl (cI, 105, .inl t_fact)), (qt_need, .inl (cI, 21, .inl t_need)), (qt_kind, .inl (cI, 120, .inl t_kind)), (qt_left, .inl (cI, 120, .inl t_left)), (qt_right, .inl (cI, 120, .inl t_right)), (qt_hold, .inl (cI, 10, .inl t_hold)), (qt_risk, .inl (cI, 80, .inl t_risk)), (qt_risks, .inl (cI, 2, .inl t_risks)), (qt_end, .inl (cI, 2, .inl t_end)), (qt_to, .inl (cI, 2, .inl t_to)), (qt_symbol, .inl (cI, 2, .inl t_symbol)), (qt_place, .inl (cI, 2, .inl t_place))]
def f_BlockCodeModel_alike_290 (p1 : Int32) (p2 : Int32) (t_code : Nat → Int32) (t_size : Int32) (t_isInt : Nat → Int32) (t_fact : Nat → Int32) (t_need : Nat → Int32) (k253 : Int32 → Int32 → (Nat → Int32) → (Nat → Int32) → (Nat → Int32) → Int32 → (Nat → Int32) → (Nat → Int32) → (Nat → Int32) → (Nat → Int32) → (Nat → Int32) → (Nat → Int32) → (Nat → Int32) → Option (Int32 × (Nat → Int32) × (Nat → Int32) × (Nat → Int32) × Int32 × (Nat → Int32) × (Nat → Int32) × (Nat → Int32) × (Nat → Int32) × (Nat → Int32) × (Nat → Int32) × (Nat → Int32))) (x3 : Int32) (x4 : Int32) (t_kind : Nat → Int32) (t_left : Nat → Int32) (t_right : Nat → Int32) (t_symbols : Int32) (t_hold : Nat → Int32) (t_risk : Nat → Int32) (t_risks : Nat → Int32) (t_end : Nat → Int32) (t_to : Nat → Int32) (t_symbol : Nat → Int32) (t_place : Nat → Int32) : Option (Int32 × (Nat → Int32) × (Nat → Int32) × (Nat → Int32) × Int32 × (Nat → Int32) × (Nat → Int32) × (Nat → Int32) × (Nat → Int32) × (Nat → Int32) × (Nat → Int32) × (Nat → Int32)) :=
  k253 x3 (x4 + (1 : Int32)) t_kind t_left t_right t_symbols t_hold t_risk t_risks t_end t_to t_symbol t_place
def f_BlockCodeModel_alike_253 (p1 : Int32) (p2 : Int32) (t_code : Nat → Int32) (t_size : Int32) (t_isInt : Nat → Int32) (t_fact : Nat → Int32) (t_need : Nat → Int32) : Nat → Int32 → Int32 → (Nat → Int32) → (Nat → Int32) → (Nat → Int32) → Int32 → (Nat → Int32) → (Nat → Int32) → (Nat → Int32) → (Nat → Int32) → (Nat → Int32) → (Nat → Int32) → (Nat → Int32) → Option (Int32 × (Nat → Int32) × (Nat → Int32) × (Nat → Int32) × Int32 × (Nat → Int32) × (Nat → Int32) × (Nat → Int32) × (Nat → Int32) × (Nat → Int32) × (Nat → Int32) × (Nat → Int32))
  | 0, _, _, _, _, _, _, _, _, _, _, _, _, _ => none
  | n + 1, x3, x4, t_kind, t_left, t_right, t_symbols, t_hold, t_risk, t_risks, t_end, t_to, t_symbol, t_place =>
    if (5 : Int32) ≤ x4 then
      some ((1 : Int32), t_kind, t_left, t_right, t_symbols, t_hold, t_risk, t_risks, t_end, t_to, t_symbol, t_place)
    else
      if ((x3 >>> (x4 &&& 31)) &&& (1 : Int32)) = (1 : Int32) then
        (rdI t_hold 10 x4).bind fun v1 =>
        (rdI t_hold 10 ((5 : Int32) + x4)).bind fun v2 =>
        if v1 = v2 then
          f_BlockCodeModel_alike_290 p1 p2 t_code t_size t_isInt t_fact t_need (f_BlockCodeModel_alike_253 p1 p2 t_code t_size t_isInt t_fact t_need n) x3 x4 t_kind t_left t_right t_symbols t_hold t_risk t_risks t_end t_to t_symbol t_place
        else
          some ((0 : Int32), t_kind, t_left, t_right, t_symbols, t_hold, t_risk, t_risks, t_end, t_to, t_symbol, t_place)
      else
        f_BlockCodeModel_alike_290 p1 p2 t_code t_size t_isInt t_fact t_need (f_BlockCodeModel_alike_253 p1 p2 t_code t_size t_isInt t_fact t_need n) x3 x4 t_kind t_left t_right t_symbols t_hold t_risk t_risks t_end t_to t_symbol t_place
def f_BlockCodeModel_alike_250 (p1 : Int32) (p2 : Int32) (t_code : Nat → Int32) (t_size : Int32) (t_isInt : Nat → Int32) (t_fact : Nat → Int32) (t_need : Nat → Int32) (x3 : Int32) (t_kind : Nat → Int32) (t_left : Nat → Int32) (t_right : Nat → Int32) (t_symbols : Int32) (t_hold : Nat → Int32) (t_risk : Nat → Int32) (t_risks : Nat → Int32) (t_end : Nat → Int32) (t_to : Nat → Int32) (t_symbol : Nat → Int32) (t_place : Nat → Int32) : Option (Int32 × (Nat → Int32) × (Nat → Int32) × (Nat → Int32) × Int32 × (Nat → Int32) × (Nat → Int32) × (Nat → Int32) × (Nat → Int32) × (Nat → Int32) × (Nat → Int32) × (Nat → Int32)) :=
  f_BlockCodeModel_alike_253 p1 p2 t_code t_size t_isInt t_fact t_need fu x3 (0 : Int32) t_kind t_left t_right t_symbols t_hold t_risk t_risks t_end t_to t_symbol t_place
def f_BlockCodeModel_alike_248 (p1 : Int32) (p2 : Int32) (t_code : Nat → Int32) (t_size : Int32) (t_isInt : Nat → Int32) (t_fact : Nat → Int32) (t_need : Nat → Int32) (s0 : Int32) (s1 : Int32) (t_kind : Nat → Int32) (t_left : Nat → Int32) (t_right : Nat → Int32) (t_symbols : Int32) (t_hold : Nat → Int32) (t_risk : Nat → Int32) (t_risks : Nat → Int32) (t_end : Nat → Int32) (t_to : Nat → Int32) (t_symbol : Nat → Int32) (t_place : Nat → Int32) : Option (Int32 × (Nat → Int32) × (Nat → Int32) × (Nat → Int32) × Int32 × (Nat → Int32) × (Nat → Int32) × (Nat → Int32) × (Nat → Int32) × (Nat → Int32) × (Nat → Int32) × (Nat → Int32)) :=
  f_BlockCodeModel_alike_250 p1 p2 t_code t_size t_isInt t_fact t_need (s1 ||| s0) t_kind t_left t_right t_symbols t_hold t_risk t_risks t_end t_to t_symbol t_place
def f_BlockCodeModel_alike_210 (p1 : Int32) (p2 : Int32) (t_code : Nat → Int32) (t_size : Int32) (t_isInt : Nat → Int32) (t_fact : Nat → Int32) (t_need : Nat → Int32) (t_kind : Nat → Int32) (t_left : Nat → Int32) (t_right : Nat → Int32) (t_symbols : Int32) (t_hold : Nat → Int32) (t_risk : Nat → Int32) (t_risks : Nat → Int32) (t_end : Nat → Int32) (t_to : Nat → Int32) (t_symbol : Nat → Int32) (t_place : Nat → Int32) : Option (Int32 × (Nat → Int32) × (Nat → Int32) × (Nat → Int32) × Int32 × (Nat → Int32) × (Nat → Int32) × (Nat → Int32) × (Nat → Int32) × (Nat → Int32) × (Nat → Int32) × (Nat → Int32)) :=
  (rdI t_to 2 (1 : Int32)).bind fun v1 =>
  (rdI t_need 21 v1).bind fun v2 =>
  (rdI t_end 2 (1 : Int32)).bind fun v3 =>
  if v3 = (2 : Int32) then
    (rdI t_place 2 (1 : Int32)).bind fun v4 =>
    (rdI t_need 21 (v4 + (1 : Int32))).bind fun v5 =>
    f_BlockCodeModel_alike_248 p1 p2 t_code t_size t_isInt t_fact t_need v5 v2 t_kind t_left t_right t_symbols t_hold t_risk t_risks t_end t_to t_symbol t_place
  else
    f_BlockCodeModel_alike_248 p1 p2 t_code t_size t_isInt t_fact t_need (0 : Int32) v2 t_kind t_left t_right t_symbols t_hold t_risk t_risks t_end t_to t_symbol t_place
def f_BlockCodeModel_alike_168 (p1 : Int32) (p2 : Int32) (t_code : Nat → Int32) (t_size : Int32) (t_isInt : Nat → Int32) (t_fact : Nat → Int32) (t_need : Nat → Int32) (t_kind : Nat → Int32) (t_left : Nat → Int32) (t_right : Nat → Int32) (t_symbols : Int32) (t_hold : Nat → Int32) (t_risk : Nat → Int32) (t_risks : Nat → Int32) (t_end : Nat → Int32) (t_to : Nat → Int32) (t_symbol : Nat → Int32) (t_place : Nat → Int32) : Option (Int32 × (Nat → Int32) × (Nat → Int32) × (Nat → Int32) × Int32 × (Nat → Int32) × (Nat → Int32) × (Nat → Int32) × (Nat → Int32) × (Nat → Int32) × (Nat → Int32) × (Nat → Int32)) :=
  (rdI t_end 2 (0 : Int32)).bind fun v1 =>
  if v1 = (2 : Int32) then
    (rdI t_symbol 2 (0 : Int32)).bind fun v2 =>
    (rdI t_symbol 2 (1 : Int32)).bind fun v3 =>
    if v2 = v3 then
      (rdI t_place 2 (0 : Int32)).bind fun v4 =>
      (rdI t_place 2 (1 : Int32)).bind fun v5 =>
      if v4 = v5 then
        f_BlockCodeModel_alike_210 p1 p2 t_code t_size t_isInt t_fact t_need t_kind t_left t_right t_symbols t_hold t_risk t_risks t_end t_to t_symbol t_place
      else
        some ((0 : Int32), t_kind, t_left, t_right, t_symbols, t_hold, t_risk, t_risks, t_end, t_to, t_symbol, t_place)
    else
      some ((0 : Int32), t_kind, t_left, t_right, t_symbols, t_hold, t_risk, t_risks, t_end, t_to, t_symbol, t_place)
  else
    f_BlockCodeModel_alike_210 p1 p2 t_code t_size t_isInt t_fact t_need t_kind t_left t_right t_symbols t_hold t_risk t_risks t_end t_to t_symbol t_place
def f_BlockCodeModel_alike_68 (p1 : Int32) (p2 : Int32) (t_code : Nat → Int32) (t_size : Int32) (t_isInt : Nat → Int32) (t_fact : Nat → Int32) (t_need : Nat → Int32) : Nat → Int32 → (Nat → Int32) → (Nat → Int32) → (Nat → Int32) → Int32 → (Nat → Int32) → (Nat → Int32) → (Nat → Int32) → (Nat → Int32) → (Nat → Int32) → (Nat → Int32) → (Nat → Int32) → Option (Int32 × (Nat → Int32) × (Nat → Int32) × (Nat → Int32) × Int32 × (Nat → Int32) × (Nat → Int32) × (Nat → Int32) × (Nat → Int32) × (Nat → Int32) × (Nat → Int32) × (Nat → Int32))
  | 0, _, _, _, _, _, _, _, _, _, _, _, _ => none
  | n + 1, x3, t_kind, t_left, t_right, t_symbols, t_hold, t_risk, t_risks, t_end, t_to, t_symbol, t_place =>
    (rdI t_risks 2 (0 : Int32)).bind fun v1 =>
    if ((2 : Int32) * v1) ≤ x3 then
      (rdI t_end 2 (0 : Int32)).bind fun v2 =>
      if v2 = (3 : Int32) then
        (rdI t_to 2 (0 : Int32)).bind fun v6 =>
        f_BlockCodeModel_alike_250 p1 p2 t_code t_size t_isInt t_fact t_need v6 t_kind t_left t_right t_symbols t_hold t_risk t_risks t_end t_to t_symbol t_place
      else
        (rdI t_to 2 (1 : Int32)).bind fun v3 =>
        if v3 = t_size then
          some ((0 : Int32), t_kind, t_left, t_right, t_symbols, t_hold, t_risk, t_risks, t_end, t_to, t_symbol, t_place)
        else
          (rdI t_end 2 (1 : Int32)).bind fun v4 =>
          if v4 = (2 : Int32) then
            (rdI t_place 2 (1 : Int32)).bind fun v5 =>
            if (v5 + (1 : Int32)) = t_size then
              some ((0 : Int32), t_kind, t_left, t_right, t_symbols, t_hold, t_risk, t_risks, t_end, t_to, t_symbol, t_place)
            else
              f_BlockCodeModel_alike_168 p1 p2 t_code t_size t_isInt t_fact t_need t_kind t_left t_right t_symbols t_hold t_risk t_risks t_end t_to t_symbol t_place
          else
            f_BlockCodeModel_alike_168 p1 p2 t_code t_size t_isInt t_fact t_need t_kind t_left t_right t_symbols t_hold t_risk t_risks t_end t_to t_symbol t_place
    else
      (rdI t_risk 80 x3).bind fun v7 =>
      (rdI t_risk 80 ((40 : Int32) + x3)).bind fun v8 =>
      if v7 = v8 then
        (f_BlockCodeModel_alike_68 p1 p2 t_code t_size t_isInt t_fact t_need n) (x3 + (1 : Int32)) t_kind t_left t_right t_symbols t_hold t_risk t_risks t_end t_to t_symbol t_place
      else
        some ((0 : Int32), t_kind, t_left, t_right, t_symbols, t_hold, t_risk, t_risks, t_end, t_to, t_symbol, t_place)
def f_BlockCodeModel_alike (p1 : Int32) (p2 : Int32) (t_code : Nat → Int32) (t_size : Int32) (t_isInt : Nat → Int32) (t_fact : Nat → Int32) (t_need : Nat → Int32) (t_kind : Nat → Int32) (t_left : Nat → Int32) (t_right : Nat → Int32) (t_symbols : Int32) (t_hold : Nat → Int32) (t_risk : Nat → Int32) (t_risks : Nat → Int32) (t_end : Nat → Int32) (t_to : Nat → Int32) (t_symbol : Nat → Int32) (t_place : Nat → Int32) : Option (Int32 × (Nat → Int32) × (Nat → Int32) × (Nat → Int32) × Int32 × (Nat → Int32) × (Nat → Int32) × (Nat → Int32) × (Nat → Int32) × (Nat → Int32) × (Nat → Int32) × (Nat → Int32)) :=
  (f_BlockCodeModel_walk (0 : Int32) p1 p2 t_code t_isInt t_fact t_kind t_left t_right (0 : Int32) t_hold t_risk t_risks t_end t_to t_symbol t_place).bind fun (u1, u2, u3, u4, u5, u6, u7, u8, u9, u10, u11) =>
  (f_BlockCodeModel_walk (1 : Int32) p1 p2 t_code t_isInt t_fact u1 u2 u3 u4 u5 u6 u7 u8 u9 u10 u11).bind fun (u12, u13, u14, u15, u16, u17, u18, u19, u20, u21, u22) =>
  (rdI u18 2 (0 : Int32)).bind fun v23 =>
  (rdI u18 2 (1 : Int32)).bind fun v24 =>
  if v23 = v24 then
    (rdI u19 2 (0 : Int32)).bind fun v25 =>
    (rdI u19 2 (1 : Int32)).bind fun v26 =>
    if v25 = v26 then
      (rdI u20 2 (0 : Int32)).bind fun v27 =>
      (rdI u20 2 (1 : Int32)).bind fun v28 =>
      if v27 = v28 then
        f_BlockCodeModel_alike_68 p1 p2 t_code t_size t_isInt t_fact t_need fu (0 : Int32) u12 u13 u14 u15 u16 u17 u18 u19 u20 u21 u22
      else
        some ((0 : Int32), u12, u13, u14, u15, u16, u17, u18, u19, u20, u21, u22)
    else
      some ((0 : Int32), u12, u13, u14, u15, u16, u17, u18, u19, u20, u21, u22)
  else
    some ((0 : Int32), u12, u13, u14, u15, u16, u17, u18, u19, u20, u21, u22)
abbrev rm_BlockCodeModel_compare : Room := { frames := 4, cells := 0, slots := 0, locals := 107 }
abbrev ww_BlockCodeModel_compare (cI cJ cZ : ClassId) (qt : Nat) (qt_code : Nat) (qt_inputs : Nat) (qt_reached : Nat) (qt_isInt : Nat) (qt_fact : Nat) (qt_need : Nat) (qt_leader : Nat) (qt_kind : Nat) (qt_left : Nat) (qt_right : Nat) (qt_hold : Nat) (qt_risk : Nat) (qt_risks : Nat) (qt_end : Nat) (qt_to : Nat) (qt_symbol : Nat) (qt_place : Nat) (qt_register : Nat) (t_size : Int32) (t_thrown : Int32) (t_sealed : Int32) (t_good : Int32) (t_symbols : Int32) (t_set : Int32) (t_steps : Int32) (t_ended : Int32) (t_code : Nat → Int32) (t_reached : Nat → Int32) (t_isInt : Nat → Int32) (t_fact : Nat → Int32) (t_need : Nat → Int32) (t_leader : Nat → Int32) (t_kind : Nat → Int32) (t_left : Nat → Int32) (t_right : Nat → Int32) (t_hold : Nat → Int32) (t_risk : Nat → Int32) (t_risks : Nat → Int32) (t_end : Nat → Int32) (t_to : Nat → Int32) (t_symbol : Nat → Int32) (t_place : Nat → Int32) : va_W := [(qt, .inr (6, [.ref qt_code, .int t_size, .int t_thrown, .int t_sealed, .int t_good, .ref qt_inputs, .ref qt_reached, .ref qt_isInt, .ref qt_fact, .ref qt_need, .ref qt_leader, .ref qt_kind, .ref qt_left, .ref qt_right, .int t_symbols, .ref qt_hold, .ref qt_risk, .ref qt_risks, .ref qt_end, .ref qt_to, .ref qt_symbol, .ref qt_place, .ref qt_register, .int t_set, .int t_steps, .int t_ended])), (qt_code, .inl (cI, 160, .inl t_code)), (qt_reached, .inl (cZ, 21, .inl t_reached)), (qt_isInt, .inl (cZ, 105, .inl t_isInt)), (qt_fact, .inl (cI, 105, .inl t_fact)), (qt_need, .inl (cI, 21, .inl t_need)), (qt_leader, .inl (cZ, 21, .inl t_leader)), (qt_kind, .inl (cI, 120, .inl t_kind)), (qt_left, .inl (cI, 120, .inl t_left)), (qt_right, .inl (cI, 120, .inl t_right)), (qt_hold, .inl (cI, 10, .inl t_hold)), (qt_risk, .inl (cI, 80, .inl t_risk)), (qt_risks, .inl (cI, 2, .inl t_risks)), (qt_end, .inl (cI, 2, .inl t_end)), (qt_to, .inl (cI, 2, .inl t_to)), (qt_symbol, .inl (cI, 2, .inl t_symbol)), (qt_place, .inl (cI, 2, .inl t_place))]
def f_BlockCodeModel_compare_109 (t_code : Nat → Int32) (t_size : Int32) (t_sealed : Int32) (k40 : Int32 → Int32 → Int32 → (Nat → Int32) → (Nat → Int32) → (Nat → Int32) → (Nat → Int32) → (Nat → Int32) → (Nat → Int32) → (Nat → Int32) → (Nat → Int32) → Int32 → (Nat → Int32) → (Nat → Int32) → (Nat → Int32) → (Nat → Int32) → (Nat → Int32) → (Nat → Int32) → (Nat → Int32) → Option (Int32 × Int32 × Int32 × (Nat → Int32) × (Nat → Int32) × (Nat → Int32) × (Nat → Int32) × (Nat → Int32) × (Nat → Int32) × (Nat → Int32) × (Nat → Int32) × Int32 × (Nat → Int32) × (Nat → Int32) × (Nat → Int32) × (Nat → Int32) × (Nat → Int32) × (Nat → Int32) × (Nat → Int32))) (x1 : Int32) (t_thrown : Int32) (t_good : Int32) (t_reached : Nat → Int32) (t_isInt : Nat → Int32) (t_fact : Nat → Int32) (t_need : Nat → Int32) (t_leader : Nat → Int32) (t_kind : Nat → Int32) (t_left : Nat → Int32) (t_right : Nat → Int32) (t_symbols : Int32) (t_hold : Nat → Int32) (t_risk : Nat → Int32) (t_risks : Nat → Int32) (t_end : Nat → Int32) (t_to : Nat → Int32) (t_symbol : Nat → Int32) (t_place : Nat → Int32) : Option (Int32 × Int32 × Int32 × (Nat → Int32) × (Nat → Int32) × (Nat → Int32) × (Nat → Int32) × (Nat → Int32) × (Nat → Int32) × (Nat → Int32) × (Nat → Int32) × Int32 × (Nat → Int32) × (Nat → Int32) × (Nat → Int32) × (Nat → Int32) × (Nat → Int32) × (Nat → Int32) × (Nat → Int32)) :=
  k40 (x1 + (1 : Int32)) t_thrown t_good t_reached t_isInt t_fact t_need t_leader t_kind t_left t_right t_symbols t_hold t_risk t_risks t_end t_to t_symbol t_place
def f_BlockCodeModel_compare_96 (t_code : Nat → Int32) (t_size : Int32) (t_sealed : Int32) (k40 : Int32 → Int32 → Int32 → (Nat → Int32) → (Nat → Int32) → (Nat → Int32) → (Nat → Int32) → (Nat → Int32) → (Nat → Int32) → (Nat → Int32) → (Nat → Int32) → Int32 → (Nat → Int32) → (Nat → Int32) → (Nat → Int32) → (Nat → Int32) → (Nat → Int32) → (Nat → Int32) → (Nat → Int32) → Option (Int32 × Int32 × Int32 × (Nat → Int32) × (Nat → Int32) × (Nat → Int32) × (Nat → Int32) × (Nat → Int32) × (Nat → Int32) × (Nat → Int32) × (Nat → Int32) × Int32 × (Nat → Int32) × (Nat → Int32) × (Nat → Int32) × (Nat → Int32) × (Nat → Int32) × (Nat → Int32) × (Nat → Int32))) (x1 : Int32) (x2 : Int32) (t_thrown : Int32) (t_good : Int32) (t_reached : Nat → Int32) (t_isInt : Nat → Int32) (t_fact : Nat → Int32) (t_need : Nat → Int32) (t_leader : Nat → Int32) (t_kind : Nat → Int32) (t_left : Nat → Int32) (t_right : Nat → Int32) (t_symbols : Int32) (t_hold : Nat → Int32) (t_risk : Nat → Int32) (t_risks : Nat → Int32) (t_end : Nat → Int32) (t_to : Nat → Int32) (t_symbol : Nat → Int32) (t_place : Nat → Int32) : Option (Int32 × Int32 × Int32 × (Nat → Int32) × (Nat → Int32) × (Nat → Int32) × (Nat → Int32) × (Nat → Int32) × (Nat → Int32) × (Nat → Int32) × (Nat → Int32) × Int32 × (Nat → Int32) × (Nat → Int32) × (Nat → Int32) × (Nat → Int32) × (Nat → Int32) × (Nat → Int32) × (Nat → Int32)) :=
  (f_BlockCodeModel_alike x1 x2 t_code t_size t_isInt t_fact t_need t_kind t_left t_right t_symbols t_hold t_risk t_risks t_end t_to t_symbol t_place).bind fun (rz1, u2, u3, u4, u5, u6, u7, u8, u9, u10, u11, u12) =>
  if rz1 = (0 : Int32) then
    some (((1 : Int32) + x1), t_thrown, t_good, t_reached, t_isInt, t_fact, t_need, t_leader, u2, u3, u4, u5, u6, u7, u8, u9, u10, u11, u12)
  else
    f_BlockCodeModel_compare_109 t_code t_size t_sealed k40 x1 t_thrown t_good t_reached t_isInt t_fact t_need t_leader u2 u3 u4 u5 u6 u7 u8 u9 u10 u11 u12
def f_BlockCodeModel_compare_73 (t_code : Nat → Int32) (t_size : Int32) (t_sealed : Int32) (k40 : Int32 → Int32 → Int32 → (Nat → Int32) → (Nat → Int32) → (Nat → Int32) → (Nat → Int32) → (Nat → Int32) → (Nat → Int32) → (Nat → Int32) → (Nat → Int32) → Int32 → (Nat → Int32) → (Nat → Int32) → (Nat → Int32) → (Nat → Int32) → (Nat → Int32) → (Nat → Int32) → (Nat → Int32) → Option (Int32 × Int32 × Int32 × (Nat → Int32) × (Nat → Int32) × (Nat → Int32) × (Nat → Int32) × (Nat → Int32) × (Nat → Int32) × (Nat → Int32) × (Nat → Int32) × Int32 × (Nat → Int32) × (Nat → Int32) × (Nat → Int32) × (Nat → Int32) × (Nat → Int32) × (Nat → Int32) × (Nat → Int32))) : Nat → Int32 → Int32 → Int32 → Int32 → (Nat → Int32) → (Nat → Int32) → (Nat → Int32) → (Nat → Int32) → (Nat → Int32) → (Nat → Int32) → (Nat → Int32) → (Nat → Int32) → Int32 → (Nat → Int32) → (Nat → Int32) → (Nat → Int32) → (Nat → Int32) → (Nat → Int32) → (Nat → Int32) → (Nat → Int32) → Option (Int32 × Int32 × Int32 × (Nat → Int32) × (Nat → Int32) × (Nat → Int32) × (Nat → Int32) × (Nat → Int32) × (Nat → Int32) × (Nat → Int32) × (Nat → Int32) × Int32 × (Nat → Int32) × (Nat → Int32) × (Nat → Int32) × (Nat → Int32) × (Nat → Int32) × (Nat → Int32) × (Nat → Int32))
  | 0, _, _, _, _, _, _, _, _, _, _, _, _, _, _, _, _, _, _, _, _ => none
  | n + 1, x1, x2, t_thrown, t_good, t_reached, t_isInt, t_fact, t_need, t_leader, t_kind, t_left, t_right, t_symbols, t_hold, t_risk, t_risks, t_end, t_to, t_symbol, t_place =>
    if t_size ≤ x2 then
      f_BlockCodeModel_compare_96 t_code t_size t_sealed k40 x1 x2 t_thrown t_good t_reached t_isInt t_fact t_need t_leader t_kind t_left t_right t_symbols t_hold t_risk t_risks t_end t_to t_symbol t_place
    else
      (rdI t_leader 21 x2).bind fun v1 =>
      if v1 = (0 : Int32) then
        (f_BlockCodeModel_compare_73 t_code t_size t_sealed k40 n) x1 (x2 + (1 : Int32)) t_thrown t_good t_reached t_isInt t_fact t_need t_leader t_kind t_left t_right t_symbols t_hold t_risk t_risks t_end t_to t_symbol t_place
      else
        f_BlockCodeModel_compare_96 t_code t_size t_sealed k40 x1 x2 t_thrown t_good t_reached t_isInt t_fact t_need t_leader t_kind t_left t_right t_symbols t_hold t_risk t_risks t_end t_to t_symbol t_place
def f_BlockCodeModel_compare_40 (t_code : Nat → Int32) (t_size : Int32) (t_sealed : Int32) : Nat → Int32 → Int32 → Int32 → (Nat → Int32) → (Nat → Int32) → (Nat → Int32) → (Nat → Int32) → (Nat → Int32) → (Nat → Int32) → (Nat → Int32) → (Nat → Int32) → Int32 → (Nat → Int32) → (Nat → Int32) → (Nat → Int32) → (Nat → Int32) → (Nat → Int32) → (Nat → Int32) → (Nat → Int32) → Option (Int32 × Int32 × Int32 × (Nat → Int32) × (Nat → Int32) × (Nat → Int32) × (Nat → Int32) × (Nat → Int32) × (Nat → Int32) × (Nat → Int32) × (Nat → Int32) × Int32 × (Nat → Int32) × (Nat → Int32) × (Nat → Int32) × (Nat → Int32) × (Nat → Int32) × (Nat → Int32) × (Nat → Int32))
  | 0, _, _, _, _, _, _, _, _, _, _, _, _, _, _, _, _, _, _, _ => none
  | n + 1, x1, t_thrown, t_good, t_reached, t_isInt, t_fact, t_need, t_leader, t_kind, t_left, t_right, t_symbols, t_hold, t_risk, t_risks, t_end, t_to, t_symbol, t_place =>
    if t_size ≤ x1 then
      some ((0 : Int32), t_thrown, (1 : Int32), t_reached, t_isInt, t_fact, t_need, t_leader, t_kind, t_left, t_right, t_symbols, t_hold, t_risk, t_risks, t_end, t_to, t_symbol, t_place)
    else
      (rdI t_leader 21 x1).bind fun v1 =>
      if v1 = (0 : Int32) then
        f_BlockCodeModel_compare_109 t_code t_size t_sealed (f_BlockCodeModel_compare_40 t_code t_size t_sealed n) x1 t_thrown t_good t_reached t_isInt t_fact t_need t_leader t_kind t_left t_right t_symbols t_hold t_risk t_risks t_end t_to t_symbol t_place
      else
        (rdI t_reached 21 x1).bind fun v2 =>
        if v2 = (0 : Int32) then
          f_BlockCodeModel_compare_109 t_code t_size t_sealed (f_BlockCodeModel_compare_40 t_code t_size t_sealed n) x1 t_thrown t_good t_reached t_isInt t_fact t_need t_leader t_kind t_left t_right t_symbols t_hold t_risk t_risks t_end t_to t_symbol t_place
        else
          f_BlockCodeModel_compare_73 t_code t_size t_sealed (f_BlockCodeModel_compare_40 t_code t_size t_sealed n) fu x1 (x1 + (1 : Int32)) t_thrown t_good t_reached t_isInt t_fact t_need t_leader t_kind t_left t_right t_symbols t_hold t_risk t_risks t_end t_to t_symbol t_place
def f_BlockCodeModel_compare_13 (t_code : Nat → Int32) (t_size : Int32) (t_sealed : Int32) (s0 : Int32) (t_thrown : Int32) (t_good : Int32) (t_reached : Nat → Int32) (t_isInt : Nat → Int32) (t_fact : Nat → Int32) (t_need : Nat → Int32) (t_leader : Nat → Int32) (t_kind : Nat → Int32) (t_left : Nat → Int32) (t_right : Nat → Int32) (t_symbols : Int32) (t_hold : Nat → Int32) (t_risk : Nat → Int32) (t_risks : Nat → Int32) (t_end : Nat → Int32) (t_to : Nat → Int32) (t_symbol : Nat → Int32) (t_place : Nat → Int32) : Option (Int32 × Int32 × Int32 × (Nat → Int32) × (Nat → Int32) × (Nat → Int32) × (Nat → Int32) × (Nat → Int32) × (Nat → Int32) × (Nat → Int32) × (Nat → Int32) × Int32 × (Nat → Int32) × (Nat → Int32) × (Nat → Int32) × (Nat → Int32) × (Nat → Int32) × (Nat → Int32) × (Nat → Int32)) :=
  if t_sealed = (0 : Int32) then
    some ((0 : Int32), s0, t_good, t_reached, t_isInt, t_fact, t_need, t_leader, t_kind, t_left, t_right, t_symbols, t_hold, t_risk, t_risks, t_end, t_to, t_symbol, t_place)
  else
    (f_BlockCodeModel_findLeaders t_code t_size t_leader).bind fun u1 =>
    (f_BlockCodeModel_findFacts t_code t_size t_reached t_isInt t_fact).bind fun (u2, u3, u4) =>
    (f_BlockCodeModel_findNeeded (1 : Int32) t_code t_size t_need).bind fun u5 =>
    f_BlockCodeModel_compare_40 t_code t_size t_sealed fu (0 : Int32) s0 t_good u2 u3 u4 u5 u1 t_kind t_left t_right t_symbols t_hold t_risk t_risks t_end t_to t_symbol t_place
def f_BlockCodeModel_compare (t_code : Nat → Int32) (t_size : Int32) (t_sealed : Int32) (t_thrown : Int32) (t_good : Int32) (t_reached : Nat → Int32) (t_isInt : Nat → Int32) (t_fact : Nat → Int32) (t_need : Nat → Int32) (t_leader : Nat → Int32) (t_kind : Nat → Int32) (t_left : Nat → Int32) (t_right : Nat → Int32) (t_symbols : Int32) (t_hold : Nat → Int32) (t_risk : Nat → Int32) (t_risks : Nat → Int32) (t_end : Nat → Int32) (t_to : Nat → Int32) (t_symbol : Nat → Int32) (t_place : Nat → Int32) : Option (Int32 × Int32 × Int32 × (Nat → Int32) × (Nat → Int32) × (Nat → Int32) × (Nat → Int32) × (Nat → Int32) × (Nat → Int32) × (Nat → Int32) × (Nat → Int32) × Int32 × (Nat → Int32) × (Nat → Int32) × (Nat → Int32) × (Nat → Int32) × (Nat → Int32) × (Nat → Int32) × (Nat → Int32)) :=
  if t_sealed = (0 : Int32) then
    f_BlockCodeModel_compare_13 t_code t_size t_sealed (1 : Int32) t_thrown t_good t_reached t_isInt t_fact t_need t_leader t_kind t_left t_right t_symbols t_hold t_risk t_risks t_end t_to t_symbol t_place
  else
    f_BlockCodeModel_compare_13 t_code t_size t_sealed (0 : Int32) t_thrown t_good t_reached t_isInt t_fact t_need t_leader t_kind t_left t_right t_symbols t_hold t_risk t_risks t_end t_to t_symbol t_place
abbrev rm_BlockCodeModel_commit : Room := { frames := 1, cells := 0, slots := 0, locals := 23 }
abbrev ww_BlockCodeModel_commit (cI cJ cZ : ClassId) (qt : Nat) (qt_code : Nat) (qt_inputs : Nat) (qt_reached : Nat) (qt_isInt : Nat) (qt_fact : Nat) (qt_need : Nat) (qt_leader : Nat) (qt_kind : Nat) (qt_left : Nat) (qt_right : Nat) (qt_hold : Nat) (qt_risk : Nat) (qt_risks : Nat) (qt_end : Nat) (qt_to : Nat) (qt_symbol : Nat) (qt_place : Nat) (qt_register : Nat) (t_size : Int32) (t_thrown : Int32) (t_sealed : Int32) (t_good : Int32) (t_symbols : Int32) (t_set : Int32) (t_steps : Int32) (t_ended : Int32) (t_code : Nat → Int32) : va_W := [(qt, .inr (6, [.ref qt_code, .int t_size, .int t_thrown, .int t_sealed, .int t_good, .ref qt_inputs, .ref qt_reached, .ref qt_isInt, .ref qt_fact, .ref qt_need, .ref qt_leader, .ref qt_kind, .ref qt_left, .ref qt_right, .int t_symbols, .ref qt_hold, .ref qt_risk, .ref qt_risks, .ref qt_end, .ref qt_to, .ref qt_symbol, .ref qt_place, .ref qt_register, .int t_set, .int t_steps, .int t_ended])), (qt_code, .inl (cI, 160, .inl t_code))]
def f_BlockCodeModel_commit (t_size : Int32) (t_sealed : Int32) (t_code : Nat → Int32) (t_thrown : Int32) (t_good : Int32) : Option (Int32 × (Nat → Int32) × Int32 × Int32) :=
  if t_sealed = (0 : Int32) then
    some ((0 : Int32), t_code, (0 : Int32), t_good)
  else
    if t_good = (0 : Int32) then
      some ((0 : Int32), t_code, (0 : Int32), t_good)
    else
      (rdI t_code 160 (((80 : Int32) + ((4 : Int32) * t_size)) - (4 : Int32))).bind fun v1 =>
      (f_BlockCodeModel_ends v1).bind fun rz2 =>
      if rz2 = (0 : Int32) then
        some ((0 : Int32), t_code, (0 : Int32), t_good)
      else
        (f_BlockCodeModel_copy (1 : Int32) (0 : Int32) t_size t_code).bind fun u3 =>
        some ((1 : Int32), u3, (0 : Int32), (0 : Int32))
abbrev rm_BlockCodeModel_input : Room := { frames := 1, cells := 0, slots := 0, locals := 22 }
abbrev ww_BlockCodeModel_input (cI cJ cZ : ClassId) (qt : Nat) (qt_code : Nat) (qt_inputs : Nat) (qt_reached : Nat) (qt_isInt : Nat) (qt_fact : Nat) (qt_need : Nat) (qt_leader : Nat) (qt_kind : Nat) (qt_left : Nat) (qt_right : Nat) (qt_hold : Nat) (qt_risk : Nat) (qt_risks : Nat) (qt_end : Nat) (qt_to : Nat) (qt_symbol : Nat) (qt_place : Nat) (qt_register : Nat) (t_size : Int32) (t_thrown : Int32) (t_sealed : Int32) (t_good : Int32) (t_symbols : Int32) (t_set : Int32) (t_steps : Int32) (t_ended : Int32) (t_inputs : Nat → Int32) : va_W := [(qt, .inr (6, [.ref qt_code, .int t_size, .int t_thrown, .int t_sealed, .int t_good, .ref qt_inputs, .ref qt_reached, .ref qt_isInt, .ref qt_fact, .ref qt_need, .ref qt_leader, .ref qt_kind, .ref qt_left, .ref qt_right, .int t_symbols, .ref qt_hold, .ref qt_risk, .ref qt_risks, .ref qt_end, .ref qt_to, .ref qt_symbol, .ref qt_place, .ref qt_register, .int t_set, .int t_steps, .int t_ended])), (qt_inputs, .inl (cI, 5, .inl t_inputs))]
def f_BlockCodeModel_input (p1 : Int32) (p2 : Int32) (t_thrown : Int32) (t_inputs : Nat → Int32) : Option (Int32 × Int32 × (Nat → Int32)) :=
  (f_BlockCodeModel_within p1 (0 : Int32) (4 : Int32)).bind fun rz1 =>
  if rz1 = (0 : Int32) then
    some ((0 : Int32), (0 : Int32), t_inputs)
  else
    (wrI t_inputs 5 p1 p2).bind fun w2 =>
    some ((1 : Int32), (0 : Int32), w2)
abbrev rm_BlockCodeModel_run : Room := { frames := 1, cells := 0, slots := 0, locals := 22 }
abbrev ww_BlockCodeModel_run (cI cJ cZ : ClassId) (qt : Nat) (qt_code : Nat) (qt_inputs : Nat) (qt_reached : Nat) (qt_isInt : Nat) (qt_fact : Nat) (qt_need : Nat) (qt_leader : Nat) (qt_kind : Nat) (qt_left : Nat) (qt_right : Nat) (qt_hold : Nat) (qt_risk : Nat) (qt_risks : Nat) (qt_end : Nat) (qt_to : Nat) (qt_symbol : Nat) (qt_place : Nat) (qt_register : Nat) (t_size : Int32) (t_thrown : Int32) (t_sealed : Int32) (t_good : Int32) (t_symbols : Int32) (t_set : Int32) (t_steps : Int32) (t_ended : Int32) (t_code : Nat → Int32) (t_inputs : Nat → Int32) (t_register : Nat → Int32) : va_W := [(qt, .inr (6, [.ref qt_code, .int t_size, .int t_thrown, .int t_sealed, .int t_good, .ref qt_inputs, .ref qt_reached, .ref qt_isInt, .ref qt_fact, .ref qt_need, .ref qt_leader, .ref qt_kind, .ref qt_left, .ref qt_right, .int t_symbols, .ref qt_hold, .ref qt_risk, .ref qt_risks, .ref qt_end, .ref qt_to, .ref qt_symbol, .ref qt_place, .ref qt_register, .int t_set, .int t_steps, .int t_ended])), (qt_code, .inl (cI, 160, .inl t_code)), (qt_inputs, .inl (cI, 5, .inl t_inputs)), (qt_register, .inl (cI, 5, .inl t_register))]
def f_BlockCodeModel_run_276 (p1 : Int32) (p2 : Int32) (t_code : Nat → Int32) (t_size : Int32) (t_sealed : Int32) (t_inputs : Nat → Int32) (k62 : Int32 → Int32 → (Nat → Int32) → Int32 → Int32 → Int32 → Option (Int32 × Int32 × (Nat → Int32) × Int32 × Int32 × Int32)) (x3 : Int32) (t_thrown : Int32) (t_register : Nat → Int32) (t_set : Int32) (t_steps : Int32) (t_ended : Int32) : Option (Int32 × Int32 × (Nat → Int32) × Int32 × Int32 × Int32) :=
  if x3 = t_size then
    some ((1 : Int32), t_thrown, t_register, t_set, t_steps, t_ended)
  else
    k62 x3 t_thrown t_register t_set t_steps t_ended
def f_BlockCodeModel_run_256 (p1 : Int32) (p2 : Int32) (t_code : Nat → Int32) (t_size : Int32) (t_sealed : Int32) (t_inputs : Nat → Int32) (k62 : Int32 → Int32 → (Nat → Int32) → Int32 → Int32 → Int32 → Option (Int32 × Int32 × (Nat → Int32) × Int32 × Int32 × Int32)) (x3 : Int32) (x5 : Int32) (x7 : Int32) (x8 : Int32) (t_thrown : Int32) (t_register : Nat → Int32) (t_set : Int32) (t_steps : Int32) (t_ended : Int32) : Option (Int32 × Int32 × (Nat → Int32) × Int32 × Int32 × Int32) :=
  if x5 = (9 : Int32) then
    (rdI t_register 5 x7).bind fun v1 =>
    if v1 = (0 : Int32) then
      f_BlockCodeModel_run_276 p1 p2 t_code t_size t_sealed t_inputs k62 x3 t_thrown t_register t_set t_steps t_ended
    else
      f_BlockCodeModel_run_276 p1 p2 t_code t_size t_sealed t_inputs k62 x8 t_thrown t_register t_set t_steps t_ended
  else
    f_BlockCodeModel_run_276 p1 p2 t_code t_size t_sealed t_inputs k62 x3 t_thrown t_register t_set t_steps t_ended
def f_BlockCodeModel_run_246 (p1 : Int32) (p2 : Int32) (t_code : Nat → Int32) (t_size : Int32) (t_sealed : Int32) (t_inputs : Nat → Int32) (k62 : Int32 → Int32 → (Nat → Int32) → Int32 → Int32 → Int32 → Option (Int32 × Int32 × (Nat → Int32) × Int32 × Int32 × Int32)) (x3 : Int32) (x5 : Int32) (x7 : Int32) (x8 : Int32) (t_thrown : Int32) (t_register : Nat → Int32) (t_set : Int32) (t_steps : Int32) (t_ended : Int32) : Option (Int32 × Int32 × (Nat → Int32) × Int32 × Int32 × Int32) :=
  if x5 = (8 : Int32) then
    f_BlockCodeModel_run_256 p1 p2 t_code t_size t_sealed t_inputs k62 x7 x5 x7 x8 t_thrown t_register t_set t_steps t_ended
  else
    f_BlockCodeModel_run_256 p1 p2 t_code t_size t_sealed t_inputs k62 x3 x5 x7 x8 t_thrown t_register t_set t_steps t_ended
def f_BlockCodeModel_run_209 (p1 : Int32) (p2 : Int32) (t_code : Nat → Int32) (t_size : Int32) (t_sealed : Int32) (t_inputs : Nat → Int32) (k62 : Int32 → Int32 → (Nat → Int32) → Int32 → Int32 → Int32 → Option (Int32 × Int32 × (Nat → Int32) × Int32 × Int32 × Int32)) (x3 : Int32) (x5 : Int32) (x6 : Int32) (x7 : Int32) (x8 : Int32) (t_thrown : Int32) (t_register : Nat → Int32) (t_set : Int32) (t_steps : Int32) (t_ended : Int32) : Option (Int32 × Int32 × (Nat → Int32) × Int32 × Int32 × Int32) :=
  (f_BlockCodeModel_within x5 (3 : Int32) (7 : Int32)).bind fun rz1 =>
  if rz1 = (0 : Int32) then
    f_BlockCodeModel_run_246 p1 p2 t_code t_size t_sealed t_inputs k62 x3 x5 x7 x8 t_thrown t_register t_set t_steps t_ended
  else
    (rdI t_register 5 x7).bind fun v2 =>
    (rdI t_register 5 x8).bind fun v3 =>
    (f_BlockCodeModel_value x5 v2 v3).bind fun rz4 =>
    (wrI t_register 5 x6 rz4).bind fun w5 =>
    f_BlockCodeModel_run_246 p1 p2 t_code t_size t_sealed t_inputs k62 x3 x5 x7 x8 t_thrown w5 t_set t_steps t_ended
def f_BlockCodeModel_run_189 (p1 : Int32) (p2 : Int32) (t_code : Nat → Int32) (t_size : Int32) (t_sealed : Int32) (t_inputs : Nat → Int32) (k62 : Int32 → Int32 → (Nat → Int32) → Int32 → Int32 → Int32 → Option (Int32 × Int32 × (Nat → Int32) × Int32 × Int32 × Int32)) (x3 : Int32) (x5 : Int32) (x6 : Int32) (x7 : Int32) (x8 : Int32) (t_thrown : Int32) (t_register : Nat → Int32) (t_set : Int32) (t_steps : Int32) (t_ended : Int32) : Option (Int32 × Int32 × (Nat → Int32) × Int32 × Int32 × Int32) :=
  if x5 = (2 : Int32) then
    (rdI t_register 5 x7).bind fun v1 =>
    (wrI t_register 5 x6 v1).bind fun w2 =>
    f_BlockCodeModel_run_209 p1 p2 t_code t_size t_sealed t_inputs k62 x3 x5 x6 x7 x8 t_thrown w2 t_set t_steps t_ended
  else
    f_BlockCodeModel_run_209 p1 p2 t_code t_size t_sealed t_inputs k62 x3 x5 x6 x7 x8 t_thrown t_register t_set t_steps t_ended
def f_BlockCodeModel_run_154 (p1 : Int32) (p2 : Int32) (t_code : Nat → Int32) (t_size : Int32) (t_sealed : Int32) (t_inputs : Nat → Int32) (k62 : Int32 → Int32 → (Nat → Int32) → Int32 → Int32 → Int32 → Option (Int32 × Int32 × (Nat → Int32) × Int32 × Int32 × Int32)) (x3 : Int32) (x5 : Int32) (x6 : Int32) (x7 : Int32) (x8 : Int32) (t_thrown : Int32) (t_register : Nat → Int32) (t_set : Int32) (t_steps : Int32) (t_ended : Int32) : Option (Int32 × Int32 × (Nat → Int32) × Int32 × Int32 × Int32) :=
  if x5 = (10 : Int32) then
    some ((0 : Int32), t_thrown, t_register, x7, t_steps, (1 : Int32))
  else
    if x5 = (1 : Int32) then
      (wrI t_register 5 x6 x7).bind fun w1 =>
      f_BlockCodeModel_run_189 p1 p2 t_code t_size t_sealed t_inputs k62 x3 x5 x6 x7 x8 t_thrown w1 t_set t_steps t_ended
    else
      f_BlockCodeModel_run_189 p1 p2 t_code t_size t_sealed t_inputs k62 x3 x5 x6 x7 x8 t_thrown t_register t_set t_steps t_ended
def f_BlockCodeModel_run_62 (p1 : Int32) (p2 : Int32) (t_code : Nat → Int32) (t_size : Int32) (t_sealed : Int32) (t_inputs : Nat → Int32) : Nat → Int32 → Int32 → (Nat → Int32) → Int32 → Int32 → Int32 → Option (Int32 × Int32 × (Nat → Int32) × Int32 × Int32 × Int32)
  | 0, _, _, _, _, _, _ => none
  | n + 1, x3, t_thrown, t_register, t_set, t_steps, t_ended =>
    if p2 ≤ t_steps then
      some ((2 : Int32), t_thrown, t_register, t_set, t_steps, t_ended)
    else
      (rdI t_code 160 (((80 : Int32) * p1) + ((4 : Int32) * x3))).bind fun v1 =>
      (rdI t_code 160 ((((80 : Int32) * p1) + ((4 : Int32) * x3)) + (1 : Int32))).bind fun v2 =>
      (rdI t_code 160 ((((80 : Int32) * p1) + ((4 : Int32) * x3)) + (2 : Int32))).bind fun v3 =>
      (rdI t_code 160 ((((80 : Int32) * p1) + ((4 : Int32) * x3)) + (3 : Int32))).bind fun v4 =>
      if v1 = (6 : Int32) then
        (rdI t_register 5 v4).bind fun v5 =>
        if v5 = (0 : Int32) then
          some ((1 : Int32), t_thrown, t_register, t_set, (t_steps + (1 : Int32)), t_ended)
        else
          f_BlockCodeModel_run_154 p1 p2 t_code t_size t_sealed t_inputs (f_BlockCodeModel_run_62 p1 p2 t_code t_size t_sealed t_inputs n) (x3 + (1 : Int32)) v1 v2 v3 v4 t_thrown t_register t_set (t_steps + (1 : Int32)) t_ended
      else
        f_BlockCodeModel_run_154 p1 p2 t_code t_size t_sealed t_inputs (f_BlockCodeModel_run_62 p1 p2 t_code t_size t_sealed t_inputs n) (x3 + (1 : Int32)) v1 v2 v3 v4 t_thrown t_register t_set (t_steps + (1 : Int32)) t_ended
def f_BlockCodeModel_run_27 (p1 : Int32) (p2 : Int32) (t_code : Nat → Int32) (t_size : Int32) (t_sealed : Int32) (t_inputs : Nat → Int32) : Nat → Int32 → Int32 → (Nat → Int32) → Int32 → Int32 → Int32 → Option (Int32 × Int32 × (Nat → Int32) × Int32 × Int32 × Int32)
  | 0, _, _, _, _, _, _ => none
  | n + 1, x3, t_thrown, t_register, t_set, t_steps, t_ended =>
    if (5 : Int32) ≤ x3 then
      f_BlockCodeModel_run_62 p1 p2 t_code t_size t_sealed t_inputs fu (0 : Int32) t_thrown t_register t_set (0 : Int32) (0 : Int32)
    else
      (rdI t_inputs 5 x3).bind fun v1 =>
      (wrI t_register 5 x3 v1).bind fun w2 =>
      (f_BlockCodeModel_run_27 p1 p2 t_code t_size t_sealed t_inputs n) (x3 + (1 : Int32)) t_thrown w2 t_set t_steps t_ended
def f_BlockCodeModel_run (p1 : Int32) (p2 : Int32) (t_code : Nat → Int32) (t_size : Int32) (t_sealed : Int32) (t_inputs : Nat → Int32) (t_thrown : Int32) (t_register : Nat → Int32) (t_set : Int32) (t_steps : Int32) (t_ended : Int32) : Option (Int32 × Int32 × (Nat → Int32) × Int32 × Int32 × Int32) :=
  if t_sealed = (0 : Int32) then
    some ((-1 : Int32), (0 : Int32), t_register, t_set, t_steps, t_ended)
  else
    (f_BlockCodeModel_within p2 (0 : Int32) (1000 : Int32)).bind fun rz1 =>
    if rz1 = (0 : Int32) then
      some ((-1 : Int32), (0 : Int32), t_register, t_set, t_steps, t_ended)
    else
      f_BlockCodeModel_run_27 p1 p2 t_code t_size t_sealed t_inputs fu (0 : Int32) (0 : Int32) t_register t_set t_steps t_ended
abbrev rm_BlockCodeModel_runSource : Room := { frames := 2, cells := 0, slots := 0, locals := 50 }
abbrev ww_BlockCodeModel_runSource (cI cJ cZ : ClassId) (qt : Nat) (qt_code : Nat) (qt_inputs : Nat) (qt_reached : Nat) (qt_isInt : Nat) (qt_fact : Nat) (qt_need : Nat) (qt_leader : Nat) (qt_kind : Nat) (qt_left : Nat) (qt_right : Nat) (qt_hold : Nat) (qt_risk : Nat) (qt_risks : Nat) (qt_end : Nat) (qt_to : Nat) (qt_symbol : Nat) (qt_place : Nat) (qt_register : Nat) (t_size : Int32) (t_thrown : Int32) (t_sealed : Int32) (t_good : Int32) (t_symbols : Int32) (t_set : Int32) (t_steps : Int32) (t_ended : Int32) (t_code : Nat → Int32) (t_inputs : Nat → Int32) (t_register : Nat → Int32) : va_W := [(qt, .inr (6, [.ref qt_code, .int t_size, .int t_thrown, .int t_sealed, .int t_good, .ref qt_inputs, .ref qt_reached, .ref qt_isInt, .ref qt_fact, .ref qt_need, .ref qt_leader, .ref qt_kind, .ref qt_left, .ref qt_right, .int t_symbols, .ref qt_hold, .ref qt_risk, .ref qt_risks, .ref qt_end, .ref qt_to, .ref qt_symbol, .ref qt_place, .ref qt_register, .int t_set, .int t_steps, .int t_ended])), (qt_code, .inl (cI, 160, .inl t_code)), (qt_inputs, .inl (cI, 5, .inl t_inputs)), (qt_register, .inl (cI, 5, .inl t_register))]
def f_BlockCodeModel_runSource (p1 : Int32) (t_code : Nat → Int32) (t_size : Int32) (t_sealed : Int32) (t_inputs : Nat → Int32) (t_thrown : Int32) (t_register : Nat → Int32) (t_set : Int32) (t_steps : Int32) (t_ended : Int32) : Option (Int32 × Int32 × (Nat → Int32) × Int32 × Int32 × Int32) :=
  (f_BlockCodeModel_run (0 : Int32) p1 t_code t_size t_sealed t_inputs t_thrown t_register t_set t_steps t_ended).bind fun (rz1, u2, u3, u4, u5, u6) =>
  some (rz1, u2, u3, u4, u5, u6)
abbrev rm_BlockCodeModel_runResult : Room := { frames := 2, cells := 0, slots := 0, locals := 50 }
abbrev ww_BlockCodeModel_runResult (cI cJ cZ : ClassId) (qt : Nat) (qt_code : Nat) (qt_inputs : Nat) (qt_reached : Nat) (qt_isInt : Nat) (qt_fact : Nat) (qt_need : Nat) (qt_leader : Nat) (qt_kind : Nat) (qt_left : Nat) (qt_right : Nat) (qt_hold : Nat) (qt_risk : Nat) (qt_risks : Nat) (qt_end : Nat) (qt_to : Nat) (qt_symbol : Nat) (qt_place : Nat) (qt_register : Nat) (t_size : Int32) (t_thrown : Int32) (t_sealed : Int32) (t_good : Int32) (t_symbols : Int32) (t_set : Int32) (t_steps : Int32) (t_ended : Int32) (t_code : Nat → Int32) (t_inputs : Nat → Int32) (t_register : Nat → Int32) : va_W := [(qt, .inr (6, [.ref qt_code, .int t_size, .int t_thrown, .int t_sealed, .int t_good, .ref qt_inputs, .ref qt_reached, .ref qt_isInt, .ref qt_fact, .ref qt_need, .ref qt_leader, .ref qt_kind, .ref qt_left, .ref qt_right, .int t_symbols, .ref qt_hold, .ref qt_risk, .ref qt_risks, .ref qt_end, .ref qt_to, .ref qt_symbol, .ref qt_place, .ref qt_register, .int t_set, .int t_steps, .int t_ended])), (qt_code, .inl (cI, 160, .inl t_code)), (qt_inputs, .inl (cI, 5, .inl t_inputs)), (qt_register, .inl (cI, 5, .inl t_register))]
def f_BlockCodeModel_runResult (p1 : Int32) (t_code : Nat → Int32) (t_size : Int32) (t_sealed : Int32) (t_inputs : Nat → Int32) (t_thrown : Int32) (t_register : Nat → Int32) (t_set : Int32) (t_steps : Int32) (t_ended : Int32) : Option (Int32 × Int32 × (Nat → Int32) × Int32 × Int32 × Int32) :=
  (f_BlockCodeModel_run (1 : Int32) p1 t_code t_size t_sealed t_inputs t_thrown t_register t_set t_steps t_ended).bind fun (rz1, u2, u3, u4, u5, u6) =>
  some (rz1, u2, u3, u4, u5, u6)
abbrev rm_BlockCodeModel_told : Room := { frames := 1, cells := 0, slots := 0, locals := 22 }
abbrev ww_BlockCodeModel_told (cI cJ cZ : ClassId) (qt : Nat) (qt_code : Nat) (qt_inputs : Nat) (qt_reached : Nat) (qt_isInt : Nat) (qt_fact : Nat) (qt_need : Nat) (qt_leader : Nat) (qt_kind : Nat) (qt_left : Nat) (qt_right : Nat) (qt_hold : Nat) (qt_risk : Nat) (qt_risks : Nat) (qt_end : Nat) (qt_to : Nat) (qt_symbol : Nat) (qt_place : Nat) (qt_register : Nat) (t_size : Int32) (t_thrown : Int32) (t_sealed : Int32) (t_good : Int32) (t_symbols : Int32) (t_set : Int32) (t_steps : Int32) (t_ended : Int32) (t_register : Nat → Int32) : va_W := [(qt, .inr (6, [.ref qt_code, .int t_size, .int t_thrown, .int t_sealed, .int t_good, .ref qt_inputs, .ref qt_reached, .ref qt_isInt, .ref qt_fact, .ref qt_need, .ref qt_leader, .ref qt_kind, .ref qt_left, .ref qt_right, .int t_symbols, .ref qt_hold, .ref qt_risk, .ref qt_risks, .ref qt_end, .ref qt_to, .ref qt_symbol, .ref qt_place, .ref qt_register, .int t_set, .int t_steps, .int t_ended])), (qt_register, .inl (cI, 5, .inl t_register))]
def f_BlockCodeModel_told (p1 : Int32) (t_register : Nat → Int32) (t_set : Int32) (t_ended : Int32) (t_thrown : Int32) : Option (Int32 × Int32) :=
  (f_BlockCodeModel_within p1 (0 : Int32) (4 : Int32)).bind fun rz1 =>
  if rz1 = (0 : Int32) then
    some ((0 : Int32), (0 : Int32))
  else
    if t_ended = (0 : Int32) then
      some ((0 : Int32), (0 : Int32))
    else
      if ((t_set >>> (p1 &&& 31)) &&& (1 : Int32)) = (1 : Int32) then
        (rdI t_register 5 p1).bind fun v2 =>
        some (v2, (0 : Int32))
      else
        some ((0 : Int32), (0 : Int32))
abbrev rm_BlockCodeModel_steps : Room := { frames := 0, cells := 0, slots := 0, locals := 0 }
abbrev ww_BlockCodeModel_steps (cI cJ cZ : ClassId) (qt : Nat) (qt_code : Nat) (qt_inputs : Nat) (qt_reached : Nat) (qt_isInt : Nat) (qt_fact : Nat) (qt_need : Nat) (qt_leader : Nat) (qt_kind : Nat) (qt_left : Nat) (qt_right : Nat) (qt_hold : Nat) (qt_risk : Nat) (qt_risks : Nat) (qt_end : Nat) (qt_to : Nat) (qt_symbol : Nat) (qt_place : Nat) (qt_register : Nat) (t_size : Int32) (t_thrown : Int32) (t_sealed : Int32) (t_good : Int32) (t_symbols : Int32) (t_set : Int32) (t_steps : Int32) (t_ended : Int32) : va_W := [(qt, .inr (6, [.ref qt_code, .int t_size, .int t_thrown, .int t_sealed, .int t_good, .ref qt_inputs, .ref qt_reached, .ref qt_isInt, .ref qt_fact, .ref qt_need, .ref qt_leader, .ref qt_kind, .ref qt_left, .ref qt_right, .int t_symbols, .ref qt_hold, .ref qt_risk, .ref qt_risks, .ref qt_end, .ref qt_to, .ref qt_symbol, .ref qt_place, .ref qt_register, .int t_set, .int t_steps, .int t_ended]))]
def f_BlockCodeModel_steps (t_steps : Int32) (t_thrown : Int32) : Option (Int32 × Int32) :=
  some (t_steps, (0 : Int32))
abbrev rm_BlockCodeLaw_add : Room := { frames := 8, cells := 1, slots := 6, locals := 145 }
abbrev ww_BlockCodeLaw_add (cI cJ cZ : ClassId) (qr0 : Nat) (qr0_sourceCode : Nat) (qr0_resultCode : Nat) (qr0_facts : Nat) (qr0_symbols : Nat) (qr0_sourceWalk : Nat) (qr0_resultWalk : Nat) (qr0_machine : Nat) (qr0_sourceCode_op : Nat) (qr0_sourceCode_d : Nat) (qr0_sourceCode_a : Nat) (qr0_sourceCode_b : Nat) (qr0_sourceCode_need : Nat) (qr5 : Nat) (r0_sealed : Int32) (r0_foundAlike : Int32) (r0_sourceCode_length : Int32) (r0_sourceCode_leaders : Int32) (r0_sourceCode_op : Nat → Int32) (r0_sourceCode_d : Nat → Int32) (r0_sourceCode_a : Nat → Int32) (r0_sourceCode_b : Nat → Int32) (r5 : Nat → Int64) : va_W := [(qr0, .inr (5, [.ref qr0_sourceCode, .ref qr0_resultCode, .ref qr0_facts, .ref qr0_symbols, .ref qr0_sourceWalk, .ref qr0_resultWalk, .ref qr0_machine, .int r0_sealed, .int r0_foundAlike])), (qr0_sourceCode, .inr (0, [.ref qr0_sourceCode_op, .ref qr0_sourceCode_d, .ref qr0_sourceCode_a, .ref qr0_sourceCode_b, .ref qr0_sourceCode_need, .int r0_sourceCode_length, .int r0_sourceCode_leaders])), (qr0_sourceCode_op, .inl (cI, 20, .inl r0_sourceCode_op)), (qr0_sourceCode_d, .inl (cI, 20, .inl r0_sourceCode_d)), (qr0_sourceCode_a, .inl (cI, 20, .inl r0_sourceCode_a)), (qr0_sourceCode_b, .inl (cI, 20, .inl r0_sourceCode_b)), (qr5, .inl (cJ, 1, .inr (.inl r5)))]
def f_BlockCodeLaw_add (p1 : Int32) (p2 : Int32) (p3 : Int32) (p4 : Int32) (r0_sealed : Int32) (r0_sourceCode_op : Nat → Int32) (r0_sourceCode_d : Nat → Int32) (r0_sourceCode_a : Nat → Int32) (r0_sourceCode_b : Nat → Int32) (r0_sourceCode_length : Int32) (r5 : Nat → Int64) : Option (Int32 × (Nat → Int32) × (Nat → Int32) × (Nat → Int32) × (Nat → Int32) × Int32 × (Nat → Int64)) :=
  (f_BlockCode_add p1 p2 p3 p4 r0_sealed r0_sourceCode_op r0_sourceCode_d r0_sourceCode_a r0_sourceCode_b r0_sourceCode_length).bind fun (rz1, u2, u3, u4, u5, u6) =>
  (wrL r5 1 (0 : Int32) rz1.toInt64).bind fun w7 =>
  some ((0 : Int32), u2, u3, u4, u5, u6, w7)
def g_BlockCodeLaw_add (p1 : Int32) (p2 : Int32) (p3 : Int32) (p4 : Int32) (r0_sealed : Int32) (r0_sourceCode_op : Nat → Int32) (r0_sourceCode_d : Nat → Int32) (r0_sourceCode_a : Nat → Int32) (r0_sourceCode_b : Nat → Int32) (r0_sourceCode_length : Int32) (r5 : Nat → Int64) : Option (Int32 × (Nat → Int32) × (Nat → Int32) × (Nat → Int32) × (Nat → Int32) × Int32 × (Nat → Int64)) :=
  if r0_sealed = (0 : Int32) then f_BlockCodeLaw_add p1 p2 p3 p4 r0_sealed r0_sourceCode_op r0_sourceCode_d r0_sourceCode_a r0_sourceCode_b r0_sourceCode_length r5 else some ((1 : Int32), r0_sourceCode_op, r0_sourceCode_d, r0_sourceCode_a, r0_sourceCode_b, r0_sourceCode_length, r5)
abbrev rm_BlockCodeLaw_seal : Room := { frames := 8, cells := 1, slots := 6, locals := 162 }
abbrev ww_BlockCodeLaw_seal (cI cJ cZ : ClassId) (qr0 : Nat) (qr0_sourceCode : Nat) (qr0_resultCode : Nat) (qr0_facts : Nat) (qr0_symbols : Nat) (qr0_sourceWalk : Nat) (qr0_resultWalk : Nat) (qr0_machine : Nat) (qr0_sourceCode_op : Nat) (qr0_sourceCode_d : Nat) (qr0_sourceCode_a : Nat) (qr0_sourceCode_b : Nat) (qr0_sourceCode_need : Nat) (qr0_resultCode_op : Nat) (qr0_resultCode_d : Nat) (qr0_resultCode_a : Nat) (qr0_resultCode_b : Nat) (qr0_resultCode_need : Nat) (qr0_facts_before : Nat) (qr0_facts_flowing : Nat) (qr1 : Nat) (r0_sealed : Int32) (r0_foundAlike : Int32) (r0_sourceCode_length : Int32) (r0_sourceCode_leaders : Int32) (r0_sourceCode_op : Nat → Int32) (r0_sourceCode_d : Nat → Int32) (r0_sourceCode_a : Nat → Int32) (r0_sourceCode_b : Nat → Int32) (r0_sourceCode_need : Nat → Int32) (r0_resultCode_length : Int32) (r0_resultCode_leaders : Int32) (r0_resultCode_op : Nat → Int32) (r0_resultCode_d : Nat → Int32) (r0_resultCode_a : Nat → Int32) (r0_resultCode_b : Nat → Int32) (r0_facts_before : Nat → Int64) (r0_facts_flowing : Nat → Int64) (r1 : Nat → Int64) : va_W := [(qr0, .inr (5, [.ref qr0_sourceCode, .ref qr0_resultCode, .ref qr0_facts, .ref qr0_symbols, .ref qr0_sourceWalk, .ref qr0_resultWalk, .ref qr0_machine, .int r0_sealed, .int r0_foundAlike])), (qr0_sourceCode, .inr (0, [.ref qr0_sourceCode_op, .ref qr0_sourceCode_d, .ref qr0_sourceCode_a, .ref qr0_sourceCode_b, .ref qr0_sourceCode_need, .int r0_sourceCode_length, .int r0_sourceCode_leaders])), (qr0_sourceCode_op, .inl (cI, 20, .inl r0_sourceCode_op)), (qr0_sourceCode_d, .inl (cI, 20, .inl r0_sourceCode_d)), (qr0_sourceCode_a, .inl (cI, 20, .inl r0_sourceCode_a)), (qr0_sourceCode_b, .inl (cI, 20, .inl r0_sourceCode_b)), (qr0_sourceCode_need, .inl (cI, 20, .inl r0_sourceCode_need)), (qr0_resultCode, .inr (0, [.ref qr0_resultCode_op, .ref qr0_resultCode_d, .ref qr0_resultCode_a, .ref qr0_resultCode_b, .ref qr0_resultCode_need, .int r0_resultCode_length, .int r0_resultCode_leaders])), (qr0_resultCode_op, .inl (cI, 20, .inl r0_resultCode_op)), (qr0_resultCode_d, .inl (cI, 20, .inl r0_resultCode_d)), (qr0_resultCode_a, .inl (cI, 20, .inl r0_resultCode_a)), (qr0_resultCode_b, .inl (cI, 20, .inl r0_resultCode_b)), (qr0_facts, .inr (1, [.ref qr0_facts_before, .ref qr0_facts_flowing])), (qr0_facts_before, .inl (cJ, 100, .inr (.inl r0_facts_before))), (qr0_facts_flowing, .inl (cJ, 5, .inr (.inl r0_facts_flowing))), (qr1, .inl (cJ, 1, .inr (.inl r1)))]
def f_BlockCodeLaw_seal (r0_sourceCode_op : Nat → Int32) (r0_sourceCode_d : Nat → Int32) (r0_sourceCode_a : Nat → Int32) (r0_sourceCode_b : Nat → Int32) (r0_sourceCode_length : Int32) (r0_sourceCode_need : Nat → Int32) (r0_sourceCode_leaders : Int32) (r0_resultCode_op : Nat → Int32) (r0_resultCode_d : Nat → Int32) (r0_resultCode_a : Nat → Int32) (r0_resultCode_b : Nat → Int32) (r0_resultCode_length : Int32) (r0_facts_before : Nat → Int64) (r0_facts_flowing : Nat → Int64) (r0_sealed : Int32) (r0_foundAlike : Int32) (r1 : Nat → Int64) : Option (Int32 × (Nat → Int32) × Int32 × (Nat → Int32) × (Nat → Int32) × (Nat → Int32) × (Nat → Int32) × Int32 × (Nat → Int64) × (Nat → Int64) × Int32 × Int32 × (Nat → Int64)) :=
  (f_BlockCode_seal r0_sourceCode_op r0_sourceCode_d r0_sourceCode_a r0_sourceCode_b r0_sourceCode_length r0_sourceCode_need r0_sourceCode_leaders r0_resultCode_op r0_resultCode_d r0_resultCode_a r0_resultCode_b r0_resultCode_length r0_facts_before r0_facts_flowing r0_sealed r0_foundAlike).bind fun (rz1, u2, u3, u4, u5, u6, u7, u8, u9, u10, u11, u12) =>
  (wrL r1 1 (0 : Int32) rz1.toInt64).bind fun w13 =>
  some ((0 : Int32), u2, u3, u4, u5, u6, u7, u8, u9, u10, u11, u12, w13)
def g_BlockCodeLaw_seal (r0_sourceCode_op : Nat → Int32) (r0_sourceCode_d : Nat → Int32) (r0_sourceCode_a : Nat → Int32) (r0_sourceCode_b : Nat → Int32) (r0_sourceCode_length : Int32) (r0_sourceCode_need : Nat → Int32) (r0_sourceCode_leaders : Int32) (r0_resultCode_op : Nat → Int32) (r0_resultCode_d : Nat → Int32) (r0_resultCode_a : Nat → Int32) (r0_resultCode_b : Nat → Int32) (r0_resultCode_length : Int32) (r0_facts_before : Nat → Int64) (r0_facts_flowing : Nat → Int64) (r0_sealed : Int32) (r0_foundAlike : Int32) (r1 : Nat → Int64) : Option (Int32 × (Nat → Int32) × Int32 × (Nat → Int32) × (Nat → Int32) × (Nat → Int32) × (Nat → Int32) × Int32 × (Nat → Int64) × (Nat → Int64) × Int32 × Int32 × (Nat → Int64)) :=
  if r0_sealed = (0 : Int32) then f_BlockCodeLaw_seal r0_sourceCode_op r0_sourceCode_d r0_sourceCode_a r0_sourceCode_b r0_sourceCode_length r0_sourceCode_need r0_sourceCode_leaders r0_resultCode_op r0_resultCode_d r0_resultCode_a r0_resultCode_b r0_resultCode_length r0_facts_before r0_facts_flowing r0_sealed r0_foundAlike r1 else some ((1 : Int32), r0_sourceCode_need, r0_sourceCode_leaders, r0_resultCode_op, r0_resultCode_d, r0_resultCode_a, r0_resultCode_b, r0_resultCode_length, r0_facts_before, r0_facts_flowing, r0_sealed, r0_foundAlike, r1)
abbrev rm_BlockCodeLaw_constants : Room := { frames := 8, cells := 1, slots := 6, locals := 145 }
abbrev ww_BlockCodeLaw_constants (cI cJ cZ : ClassId) (qr0 : Nat) (qr0_sourceCode : Nat) (qr0_resultCode : Nat) (qr0_facts : Nat) (qr0_symbols : Nat) (qr0_sourceWalk : Nat) (qr0_resultWalk : Nat) (qr0_machine : Nat) (qr0_sourceCode_op : Nat) (qr0_sourceCode_d : Nat) (qr0_sourceCode_a : Nat) (qr0_sourceCode_b : Nat) (qr0_sourceCode_need : Nat) (qr0_resultCode_op : Nat) (qr0_resultCode_d : Nat) (qr0_resultCode_a : Nat) (qr0_resultCode_b : Nat) (qr0_resultCode_need : Nat) (qr0_facts_before : Nat) (qr0_facts_flowing : Nat) (qr1 : Nat) (r0_sealed : Int32) (r0_foundAlike : Int32) (r0_sourceCode_length : Int32) (r0_sourceCode_leaders : Int32) (r0_sourceCode_op : Nat → Int32) (r0_sourceCode_d : Nat → Int32) (r0_sourceCode_a : Nat → Int32) (r0_sourceCode_b : Nat → Int32) (r0_resultCode_length : Int32) (r0_resultCode_leaders : Int32) (r0_resultCode_op : Nat → Int32) (r0_resultCode_d : Nat → Int32) (r0_resultCode_a : Nat → Int32) (r0_resultCode_b : Nat → Int32) (r0_facts_before : Nat → Int64) (r1 : Nat → Int64) : va_W := [(qr0, .inr (5, [.ref qr0_sourceCode, .ref qr0_resultCode, .ref qr0_facts, .ref qr0_symbols, .ref qr0_sourceWalk, .ref qr0_resultWalk, .ref qr0_machine, .int r0_sealed, .int r0_foundAlike])), (qr0_sourceCode, .inr (0, [.ref qr0_sourceCode_op, .ref qr0_sourceCode_d, .ref qr0_sourceCode_a, .ref qr0_sourceCode_b, .ref qr0_sourceCode_need, .int r0_sourceCode_length, .int r0_sourceCode_leaders])), (qr0_sourceCode_op, .inl (cI, 20, .inl r0_sourceCode_op)), (qr0_sourceCode_d, .inl (cI, 20, .inl r0_sourceCode_d)), (qr0_sourceCode_a, .inl (cI, 20, .inl r0_sourceCode_a)), (qr0_sourceCode_b, .inl (cI, 20, .inl r0_sourceCode_b)), (qr0_resultCode, .inr (0, [.ref qr0_resultCode_op, .ref qr0_resultCode_d, .ref qr0_resultCode_a, .ref qr0_resultCode_b, .ref qr0_resultCode_need, .int r0_resultCode_length, .int r0_resultCode_leaders])), (qr0_resultCode_op, .inl (cI, 20, .inl r0_resultCode_op)), (qr0_resultCode_d, .inl (cI, 20, .inl r0_resultCode_d)), (qr0_resultCode_a, .inl (cI, 20, .inl r0_resultCode_a)), (qr0_resultCode_b, .inl (cI, 20, .inl r0_resultCode_b)), (qr0_facts, .inr (1, [.ref qr0_facts_before, .ref qr0_facts_flowing])), (qr0_facts_before, .inl (cJ, 100, .inr (.inl r0_facts_before))), (qr1, .inl (cJ, 1, .inr (.inl r1)))]
def f_BlockCodeLaw_constants (r0_sourceCode_op : Nat → Int32) (r0_sourceCode_d : Nat → Int32) (r0_sourceCode_a : Nat → Int32) (r0_sourceCode_b : Nat → Int32) (r0_sourceCode_length : Int32) (r0_facts_before : Nat → Int64) (r0_sealed : Int32) (r0_resultCode_op : Nat → Int32) (r0_resultCode_d : Nat → Int32) (r0_resultCode_a : Nat → Int32) (r0_resultCode_b : Nat → Int32) (r0_resultCode_length : Int32) (r0_foundAlike : Int32) (r1 : Nat → Int64) : Option (Int32 × (Nat → Int32) × (Nat → Int32) × (Nat → Int32) × (Nat → Int32) × Int32 × Int32 × (Nat → Int64)) :=
  (f_BlockCode_constants r0_sourceCode_op r0_sourceCode_d r0_sourceCode_a r0_sourceCode_b r0_sourceCode_length r0_facts_before r0_sealed r0_resultCode_op r0_resultCode_d r0_resultCode_a r0_resultCode_b r0_resultCode_length r0_foundAlike).bind fun (rz1, u2, u3, u4, u5, u6, u7) =>
  (wrL r1 1 (0 : Int32) rz1.toInt64).bind fun w8 =>
  some ((0 : Int32), u2, u3, u4, u5, u6, u7, w8)
def g_BlockCodeLaw_constants (r0_sourceCode_op : Nat → Int32) (r0_sourceCode_d : Nat → Int32) (r0_sourceCode_a : Nat → Int32) (r0_sourceCode_b : Nat → Int32) (r0_sourceCode_length : Int32) (r0_facts_before : Nat → Int64) (r0_sealed : Int32) (r0_resultCode_op : Nat → Int32) (r0_resultCode_d : Nat → Int32) (r0_resultCode_a : Nat → Int32) (r0_resultCode_b : Nat → Int32) (r0_resultCode_length : Int32) (r0_foundAlike : Int32) (r1 : Nat → Int64) : Option (Int32 × (Nat → Int32) × (Nat → Int32) × (Nat → Int32) × (Nat → Int32) × Int32 × Int32 × (Nat → Int64)) :=
  if r0_sealed = (0 : Int32) then some ((1 : Int32), r0_resultCode_op, r0_resultCode_d, r0_resultCode_a, r0_resultCode_b, r0_resultCode_length, r0_foundAlike, r1) else f_BlockCodeLaw_constants r0_sourceCode_op r0_sourceCode_d r0_sourceCode_a r0_sourceCode_b r0_sourceCode_length r0_facts_before r0_sealed r0_resultCode_op r0_resultCode_d r0_resultCode_a r0_resultCode_b r0_resultCode_length r0_foundAlike r1
abbrev rm_BlockCodeLaw_repeats : Room := { frames := 8, cells := 1, slots := 6, locals := 145 }
abbrev ww_BlockCodeLaw_repeats (cI cJ cZ : ClassId) (qr0 : Nat) (qr0_sourceCode : Nat) (qr0_resultCode : Nat) (qr0_facts : Nat) (qr0_symbols : Nat) (qr0_sourceWalk : Nat) (qr0_resultWalk : Nat) (qr0_machine : Nat) (qr0_sourceCode_op : Nat) (qr0_sourceCode_d : Nat) (qr0_sourceCode_a : Nat) (qr0_sourceCode_b : Nat) (qr0_sourceCode_need : Nat) (qr0_resultCode_op : Nat) (qr0_resultCode_d : Nat) (qr0_resultCode_a : Nat) (qr0_resultCode_b : Nat) (qr0_resultCode_need : Nat) (qr0_symbols_kind : Nat) (qr0_symbols_left : Nat) (qr0_symbols_right : Nat) (qr0_sourceWalk_held : Nat) (qr0_sourceWalk_riskDividend : Nat) (qr0_sourceWalk_riskDivisor : Nat) (qr1 : Nat) (r0_sealed : Int32) (r0_foundAlike : Int32) (r0_sourceCode_length : Int32) (r0_sourceCode_leaders : Int32) (r0_sourceCode_op : Nat → Int32) (r0_sourceCode_d : Nat → Int32) (r0_sourceCode_a : Nat → Int32) (r0_sourceCode_b : Nat → Int32) (r0_resultCode_length : Int32) (r0_resultCode_leaders : Int32) (r0_resultCode_op : Nat → Int32) (r0_resultCode_d : Nat → Int32) (r0_resultCode_a : Nat → Int32) (r0_resultCode_b : Nat → Int32) (r0_symbols_count : Int32) (r0_symbols_kind : Nat → Int32) (r0_symbols_left : Nat → Int32) (r0_symbols_right : Nat → Int32) (r0_sourceWalk_risks : Int32) (r0_sourceWalk_endKind : Int32) (r0_sourceWalk_endNumber : Int32) (r0_sourceWalk_endPlace : Int32) (r0_sourceWalk_endSymbol : Int32) (r0_sourceWalk_held : Nat → Int32) (r1 : Nat → Int64) : va_W := [(qr0, .inr (5, [.ref qr0_sourceCode, .ref qr0_resultCode, .ref qr0_facts, .ref qr0_symbols, .ref qr0_sourceWalk, .ref qr0_resultWalk, .ref qr0_machine, .int r0_sealed, .int r0_foundAlike])), (qr0_sourceCode, .inr (0, [.ref qr0_sourceCode_op, .ref qr0_sourceCode_d, .ref qr0_sourceCode_a, .ref qr0_sourceCode_b, .ref qr0_sourceCode_need, .int r0_sourceCode_length, .int r0_sourceCode_leaders])), (qr0_sourceCode_op, .inl (cI, 20, .inl r0_sourceCode_op)), (qr0_sourceCode_d, .inl (cI, 20, .inl r0_sourceCode_d)), (qr0_sourceCode_a, .inl (cI, 20, .inl r0_sourceCode_a)), (qr0_sourceCode_b, .inl (cI, 20, .inl r0_sourceCode_b)), (qr0_resultCode, .inr (0, [.ref qr0_resultCode_op, .ref qr0_resultCode_d, .ref qr0_resultCode_a, .ref qr0_resultCode_b, .ref qr0_resultCode_need, .int r0_resultCode_length, .int r0_resultCode_leaders])), (qr0_resultCode_op, .inl (cI, 20, .inl r0_resultCode_op)), (qr0_resultCode_d, .inl (cI, 20, .inl r0_resultCode_d)), (qr0_resultCode_a, .inl (cI, 20, .inl r0_resultCode_a)), (qr0_resultCode_b, .inl (cI, 20, .inl r0_resultCode_b)), (qr0_symbols, .inr (2, [.ref qr0_symbols_kind, .ref qr0_symbols_left, .ref qr0_symbols_right, .int r0_symbols_count])), (qr0_symbols_kind, .inl (cI, 45, .inl r0_symbols_kind)), (qr0_symbols_left, .inl (cI, 45, .inl r0_symbols_left)), (qr0_symbols_right, .inl (cI, 45, .inl r0_symbols_right)), (qr0_sourceWalk, .inr (3, [.ref qr0_symbols, .ref qr0_sourceWalk_held, .ref qr0_sourceWalk_riskDividend, .ref qr0_sourceWalk_riskDivisor, .int r0_sourceWalk_risks, .int r0_sourceWalk_endKind, .int r0_sourceWalk_endNumber, .int r0_sourceWalk_endPlace, .int r0_sourceWalk_endSymbol])), (qr0_sourceWalk_held, .inl (cI, 5, .inl r0_sourceWalk_held)), (qr1, .inl (cJ, 1, .inr (.inl r1)))]
def f_BlockCodeLaw_repeats (r0_sourceCode_op : Nat → Int32) (r0_sourceCode_d : Nat → Int32) (r0_sourceCode_a : Nat → Int32) (r0_sourceCode_b : Nat → Int32) (r0_sourceCode_length : Int32) (r0_sourceCode_leaders : Int32) (r0_sealed : Int32) (r0_resultCode_op : Nat → Int32) (r0_resultCode_d : Nat → Int32) (r0_resultCode_a : Nat → Int32) (r0_resultCode_b : Nat → Int32) (r0_resultCode_length : Int32) (r0_symbols_kind : Nat → Int32) (r0_symbols_left : Nat → Int32) (r0_symbols_right : Nat → Int32) (r0_symbols_count : Int32) (r0_sourceWalk_held : Nat → Int32) (r0_foundAlike : Int32) (r1 : Nat → Int64) : Option (Int32 × (Nat → Int32) × (Nat → Int32) × (Nat → Int32) × (Nat → Int32) × Int32 × (Nat → Int32) × (Nat → Int32) × (Nat → Int32) × Int32 × (Nat → Int32) × Int32 × (Nat → Int64)) :=
  (f_BlockCode_repeats r0_sourceCode_op r0_sourceCode_d r0_sourceCode_a r0_sourceCode_b r0_sourceCode_length r0_sourceCode_leaders r0_sealed r0_resultCode_op r0_resultCode_d r0_resultCode_a r0_resultCode_b r0_resultCode_length r0_symbols_kind r0_symbols_left r0_symbols_right r0_symbols_count r0_sourceWalk_held r0_foundAlike).bind fun (rz1, u2, u3, u4, u5, u6, u7, u8, u9, u10, u11, u12) =>
  (wrL r1 1 (0 : Int32) rz1.toInt64).bind fun w13 =>
  some ((0 : Int32), u2, u3, u4, u5, u6, u7, u8, u9, u10, u11, u12, w13)
def g_BlockCodeLaw_repeats (r0_sourceCode_op : Nat → Int32) (r0_sourceCode_d : Nat → Int32) (r0_sourceCode_a : Nat → Int32) (r0_sourceCode_b : Nat → Int32) (r0_sourceCode_length : Int32) (r0_sourceCode_leaders : Int32) (r0_sealed : Int32) (r0_resultCode_op : Nat → Int32) (r0_resultCode_d : Nat → Int32) (r0_resultCode_a : Nat → Int32) (r0_resultCode_b : Nat → Int32) (r0_resultCode_length : Int32) (r0_symbols_kind : Nat → Int32) (r0_symbols_left : Nat → Int32) (r0_symbols_right : Nat → Int32) (r0_symbols_count : Int32) (r0_sourceWalk_held : Nat → Int32) (r0_foundAlike : Int32) (r1 : Nat → Int64) : Option (Int32 × (Nat → Int32) × (Nat → Int32) × (Nat → Int32) × (Nat → Int32) × Int32 × (Nat → Int32) × (Nat → Int32) × (Nat → Int32) × Int32 × (Nat → Int32) × Int32 × (Nat → Int64)) :=
  if r0_sealed = (0 : Int32) then some ((1 : Int32), r0_resultCode_op, r0_resultCode_d, r0_resultCode_a, r0_resultCode_b, r0_resultCode_length, r0_symbols_kind, r0_symbols_left, r0_symbols_right, r0_symbols_count, r0_sourceWalk_held, r0_foundAlike, r1) else f_BlockCodeLaw_repeats r0_sourceCode_op r0_sourceCode_d r0_sourceCode_a r0_sourceCode_b r0_sourceCode_length r0_sourceCode_leaders r0_sealed r0_resultCode_op r0_resultCode_d r0_resultCode_a r0_resultCode_b r0_resultCode_length r0_symbols_kind r0_symbols_left r0_symbols_right r0_symbols_count r0_sourceWalk_held r0_foundAlike r1
abbrev rm_BlockCodeLaw_unneeded : Room := { frames := 8, cells := 1, slots := 6, locals := 145 }
abbrev ww_BlockCodeLaw_unneeded (cI cJ cZ : ClassId) (qr0 : Nat) (qr0_sourceCode : Nat) (qr0_resultCode : Nat) (qr0_facts : Nat) (qr0_symbols : Nat) (qr0_sourceWalk : Nat) (qr0_resultWalk : Nat) (qr0_machine : Nat) (qr0_sourceCode_op : Nat) (qr0_sourceCode_d : Nat) (qr0_sourceCode_a : Nat) (qr0_sourceCode_b : Nat) (qr0_sourceCode_need : Nat) (qr0_resultCode_op : Nat) (qr0_resultCode_d : Nat) (qr0_resultCode_a : Nat) (qr0_resultCode_b : Nat) (qr0_resultCode_need : Nat) (qr1 : Nat) (r0_sealed : Int32) (r0_foundAlike : Int32) (r0_sourceCode_length : Int32) (r0_sourceCode_leaders : Int32) (r0_sourceCode_op : Nat → Int32) (r0_sourceCode_d : Nat → Int32) (r0_sourceCode_a : Nat → Int32) (r0_sourceCode_b : Nat → Int32) (r0_sourceCode_need : Nat → Int32) (r0_resultCode_length : Int32) (r0_resultCode_leaders : Int32) (r0_resultCode_op : Nat → Int32) (r0_resultCode_d : Nat → Int32) (r0_resultCode_a : Nat → Int32) (r0_resultCode_b : Nat → Int32) (r1 : Nat → Int64) : va_W := [(qr0, .inr (5, [.ref qr0_sourceCode, .ref qr0_resultCode, .ref qr0_facts, .ref qr0_symbols, .ref qr0_sourceWalk, .ref qr0_resultWalk, .ref qr0_machine, .int r0_sealed, .int r0_foundAlike])), (qr0_sourceCode, .inr (0, [.ref qr0_sourceCode_op, .ref qr0_sourceCode_d, .ref qr0_sourceCode_a, .ref qr0_sourceCode_b, .ref qr0_sourceCode_need, .int r0_sourceCode_length, .int r0_sourceCode_leaders])), (qr0_sourceCode_op, .inl (cI, 20, .inl r0_sourceCode_op)), (qr0_sourceCode_d, .inl (cI, 20, .inl r0_sourceCode_d)), (qr0_sourceCode_a, .inl (cI, 20, .inl r0_sourceCode_a)), (qr0_sourceCode_b, .inl (cI, 20, .inl r0_sourceCode_b)), (qr0_sourceCode_need, .inl (cI, 20, .inl r0_sourceCode_need)), (qr0_resultCode, .inr (0, [.ref qr0_resultCode_op, .ref qr0_resultCode_d, .ref qr0_resultCode_a, .ref qr0_resultCode_b, .ref qr0_resultCode_need, .int r0_resultCode_length, .int r0_resultCode_leaders])), (qr0_resultCode_op, .inl (cI, 20, .inl r0_resultCode_op)), (qr0_resultCode_d, .inl (cI, 20, .inl r0_resultCode_d)), (qr0_resultCode_a, .inl (cI, 20, .inl r0_resultCode_a)), (qr0_resultCode_b, .inl (cI, 20, .inl r0_resultCode_b)), (qr1, .inl (cJ, 1, .inr (.inl r1)))]
def f_BlockCodeLaw_unneeded (r0_sourceCode_op : Nat → Int32) (r0_sourceCode_d : Nat → Int32) (r0_sourceCode_a : Nat → Int32) (r0_sourceCode_b : Nat → Int32) (r0_sourceCode_need : Nat → Int32) (r0_sourceCode_length : Int32) (r0_sealed : Int32) (r0_resultCode_op : Nat → Int32) (r0_resultCode_d : Nat → Int32) (r0_resultCode_a : Nat → Int32) (r0_resultCode_b : Nat → Int32) (r0_resultCode_length : Int32) (r0_foundAlike : Int32) (r1 : Nat → Int64) : Option (Int32 × (Nat → Int32) × (Nat → Int32) × (Nat → Int32) × (Nat → Int32) × Int32 × Int32 × (Nat → Int64)) :=
  (f_BlockCode_unneeded r0_sourceCode_op r0_sourceCode_d r0_sourceCode_a r0_sourceCode_b r0_sourceCode_need r0_sourceCode_length r0_sealed r0_resultCode_op r0_resultCode_d r0_resultCode_a r0_resultCode_b r0_resultCode_length r0_foundAlike).bind fun (rz1, u2, u3, u4, u5, u6, u7) =>
  (wrL r1 1 (0 : Int32) rz1.toInt64).bind fun w8 =>
  some ((0 : Int32), u2, u3, u4, u5, u6, u7, w8)
def g_BlockCodeLaw_unneeded (r0_sourceCode_op : Nat → Int32) (r0_sourceCode_d : Nat → Int32) (r0_sourceCode_a : Nat → Int32) (r0_sourceCode_b : Nat → Int32) (r0_sourceCode_need : Nat → Int32) (r0_sourceCode_length : Int32) (r0_sealed : Int32) (r0_resultCode_op : Nat → Int32) (r0_resultCode_d : Nat → Int32) (r0_resultCode_a : Nat → Int32) (r0_resultCode_b : Nat → Int32) (r0_resultCode_length : Int32) (r0_foundAlike : Int32) (r1 : Nat → Int64) : Option (Int32 × (Nat → Int32) × (Nat → Int32) × (Nat → Int32) × (Nat → Int32) × Int32 × Int32 × (Nat → Int64)) :=
  if r0_sealed = (0 : Int32) then some ((1 : Int32), r0_resultCode_op, r0_resultCode_d, r0_resultCode_a, r0_resultCode_b, r0_resultCode_length, r0_foundAlike, r1) else f_BlockCodeLaw_unneeded r0_sourceCode_op r0_sourceCode_d r0_sourceCode_a r0_sourceCode_b r0_sourceCode_need r0_sourceCode_length r0_sealed r0_resultCode_op r0_resultCode_d r0_resultCode_a r0_resultCode_b r0_resultCode_length r0_foundAlike r1
abbrev rm_BlockCodeLaw_compare : Room := { frames := 8, cells := 1, slots := 6, locals := 163 }
abbrev ww_BlockCodeLaw_compare (cI cJ cZ : ClassId) (qr0 : Nat) (qr0_sourceCode : Nat) (qr0_resultCode : Nat) (qr0_facts : Nat) (qr0_symbols : Nat) (qr0_sourceWalk : Nat) (qr0_resultWalk : Nat) (qr0_machine : Nat) (qr0_sourceCode_op : Nat) (qr0_sourceCode_d : Nat) (qr0_sourceCode_a : Nat) (qr0_sourceCode_b : Nat) (qr0_sourceCode_need : Nat) (qr0_resultCode_op : Nat) (qr0_resultCode_d : Nat) (qr0_resultCode_a : Nat) (qr0_resultCode_b : Nat) (qr0_resultCode_need : Nat) (qr0_facts_before : Nat) (qr0_facts_flowing : Nat) (qr0_symbols_kind : Nat) (qr0_symbols_left : Nat) (qr0_symbols_right : Nat) (qr0_sourceWalk_held : Nat) (qr0_sourceWalk_riskDividend : Nat) (qr0_sourceWalk_riskDivisor : Nat) (qr0_resultWalk_held : Nat) (qr0_resultWalk_riskDividend : Nat) (qr0_resultWalk_riskDivisor : Nat) (qr1 : Nat) (r0_sealed : Int32) (r0_foundAlike : Int32) (r0_sourceCode_length : Int32) (r0_sourceCode_leaders : Int32) (r0_sourceCode_op : Nat → Int32) (r0_sourceCode_d : Nat → Int32) (r0_sourceCode_a : Nat → Int32) (r0_sourceCode_b : Nat → Int32) (r0_resultCode_length : Int32) (r0_resultCode_leaders : Int32) (r0_resultCode_op : Nat → Int32) (r0_resultCode_d : Nat → Int32) (r0_resultCode_a : Nat → Int32) (r0_resultCode_b : Nat → Int32) (r0_resultCode_need : Nat → Int32) (r0_facts_before : Nat → Int64) (r0_symbols_count : Int32) (r0_symbols_kind : Nat → Int32) (r0_symbols_left : Nat → Int32) (r0_symbols_right : Nat → Int32) (r0_sourceWalk_risks : Int32) (r0_sourceWalk_endKind : Int32) (r0_sourceWalk_endNumber : Int32) (r0_sourceWalk_endPlace : Int32) (r0_sourceWalk_endSymbol : Int32) (r0_sourceWalk_held : Nat → Int32) (r0_sourceWalk_riskDividend : Nat → Int32) (r0_sourceWalk_riskDivisor : Nat → Int32) (r0_resultWalk_risks : Int32) (r0_resultWalk_endKind : Int32) (r0_resultWalk_endNumber : Int32) (r0_resultWalk_endPlace : Int32) (r0_resultWalk_endSymbol : Int32) (r0_resultWalk_held : Nat → Int32) (r0_resultWalk_riskDividend : Nat → Int32) (r0_resultWalk_riskDivisor : Nat → Int32) (r1 : Nat → Int64) : va_W := [(qr0, .inr (5, [.ref qr0_sourceCode, .ref qr0_resultCode, .ref qr0_facts, .ref qr0_symbols, .ref qr0_sourceWalk, .ref qr0_resultWalk, .ref qr0_machine, .int r0_sealed, .int r0_foundAlike])), (qr0_sourceCode, .inr (0, [.ref qr0_sourceCode_op, .ref qr0_sourceCode_d, .ref qr0_sourceCode_a, .ref qr0_sourceCode_b, .ref qr0_sourceCode_need, .int r0_sourceCode_length, .int r0_sourceCode_leaders])), (qr0_sourceCode_op, .inl (cI, 20, .inl r0_sourceCode_op)), (qr0_sourceCode_d, .inl (cI, 20, .inl r0_sourceCode_d)), (qr0_sourceCode_a, .inl (cI, 20, .inl r0_sourceCode_a)), (qr0_sourceCode_b, .inl (cI, 20, .inl r0_sourceCode_b)), (qr0_resultCode, .inr (0, [.ref qr0_resultCode_op, .ref qr0_resultCode_d, .ref qr0_resultCode_a, .ref qr0_resultCode_b, .ref qr0_resultCode_need, .int r0_resultCode_length, .int r0_resultCode_leaders])), (qr0_resultCode_op, .inl (cI, 20, .inl r0_resultCode_op)), (qr0_resultCode_d, .inl (cI, 20, .inl r0_resultCode_d)), (qr0_resultCode_a, .inl (cI, 20, .inl r0_resultCode_a)), (qr0_resultCode_b, .inl (cI, 20, .inl r0_resultCode_b)), (qr0_resultCode_need, .inl (cI, 20, .inl r0_resultCode_need)), (qr0_facts, .inr (1, [.ref qr0_facts_before, .ref qr0_facts_flowing])), (qr0_facts_before, .inl (cJ, 100, .inr (.inl r0_facts_before))), (qr0_symbols, .inr (2, [.ref qr0_symbols_kind, .ref qr0_symbols_left, .ref qr0_symbols_right, .int r0_symbols_count])), (qr0_symbols_kind, .inl (cI, 45, .inl r0_symbols_kind)), (qr0_symbols_left, .inl (cI, 45, .inl r0_symbols_left)), (qr0_symbols_right, .inl (cI, 45, .inl r0_symbols_right)), (qr0_sourceWalk, .inr (3, [.ref qr0_symbols, .ref qr0_sourceWalk_held, .ref qr0_sourceWalk_riskDividend, .ref qr0_sourceWalk_riskDivisor, .int r0_sourceWalk_risks, .int r0_sourceWalk_endKind, .int r0_sourceWalk_endNumber, .int r0_sourceWalk_endPlace, .int r0_sourceWalk_endSymbol])), (qr0_sourceWalk_held, .inl (cI, 5, .inl r0_sourceWalk_held)), (qr0_sourceWalk_riskDividend, .inl (cI, 20, .inl r0_sourceWalk_riskDividend)), (qr0_sourceWalk_riskDivisor, .inl (cI, 20, .inl r0_sourceWalk_riskDivisor)), (qr0_resultWalk, .inr (3, [.ref qr0_symbols, .ref qr0_resultWalk_held, .ref qr0_resultWalk_riskDividend, .ref qr0_resultWalk_riskDivisor, .int r0_resultWalk_risks, .int r0_resultWalk_endKind, .int r0_resultWalk_endNumber, .int r0_resultWalk_endPlace, .int r0_resultWalk_endSymbol])), (qr0_resultWalk_held, .inl (cI, 5, .inl r0_resultWalk_held)), (qr0_resultWalk_riskDividend, .inl (cI, 20, .inl r0_resultWalk_riskDividend)), (qr0_resultWalk_riskDivisor, .inl (cI, 20, .inl r0_resultWalk_riskDivisor)), (qr1, .inl (cJ, 1, .inr (.inl r1)))]
def f_BlockCodeLaw_compare (r0_sourceCode_op : Nat → Int32) (r0_sourceCode_d : Nat → Int32) (r0_sourceCode_a : Nat → Int32) (r0_sourceCode_b : Nat → Int32) (r0_sourceCode_length : Int32) (r0_sourceCode_leaders : Int32) (r0_resultCode_op : Nat → Int32) (r0_resultCode_d : Nat → Int32) (r0_resultCode_a : Nat → Int32) (r0_resultCode_b : Nat → Int32) (r0_resultCode_length : Int32) (r0_facts_before : Nat → Int64) (r0_sealed : Int32) (r0_resultCode_need : Nat → Int32) (r0_symbols_kind : Nat → Int32) (r0_symbols_left : Nat → Int32) (r0_symbols_right : Nat → Int32) (r0_symbols_count : Int32) (r0_sourceWalk_held : Nat → Int32) (r0_sourceWalk_riskDividend : Nat → Int32) (r0_sourceWalk_riskDivisor : Nat → Int32) (r0_sourceWalk_risks : Int32) (r0_sourceWalk_endKind : Int32) (r0_sourceWalk_endNumber : Int32) (r0_sourceWalk_endPlace : Int32) (r0_sourceWalk_endSymbol : Int32) (r0_resultWalk_held : Nat → Int32) (r0_resultWalk_riskDividend : Nat → Int32) (r0_resultWalk_riskDivisor : Nat → Int32) (r0_resultWalk_risks : Int32) (r0_resultWalk_endKind : Int32) (r0_resultWalk_endNumber : Int32) (r0_resultWalk_endPlace : Int32) (r0_resultWalk_endSymbol : Int32) (r0_foundAlike : Int32) (r1 : Nat → Int64) : Option (Int32 × (Nat → Int32) × (Nat → Int32) × (Nat → Int32) × (Nat → Int32) × Int32 × (Nat → Int32) × (Nat → Int32) × (Nat → Int32) × Int32 × Int32 × Int32 × Int32 × Int32 × (Nat → Int32) × (Nat → Int32) × (Nat → Int32) × Int32 × Int32 × Int32 × Int32 × Int32 × Int32 × (Nat → Int64)) :=
  (f_BlockCode_compare r0_sourceCode_op r0_sourceCode_d r0_sourceCode_a r0_sourceCode_b r0_sourceCode_length r0_sourceCode_leaders r0_resultCode_op r0_resultCode_d r0_resultCode_a r0_resultCode_b r0_resultCode_length r0_facts_before r0_sealed r0_resultCode_need r0_symbols_kind r0_symbols_left r0_symbols_right r0_symbols_count r0_sourceWalk_held r0_sourceWalk_riskDividend r0_sourceWalk_riskDivisor r0_sourceWalk_risks r0_sourceWalk_endKind r0_sourceWalk_endNumber r0_sourceWalk_endPlace r0_sourceWalk_endSymbol r0_resultWalk_held r0_resultWalk_riskDividend r0_resultWalk_riskDivisor r0_resultWalk_risks r0_resultWalk_endKind r0_resultWalk_endNumber r0_resultWalk_endPlace r0_resultWalk_endSymbol r0_foundAlike).bind fun (rz1, u2, u3, u4, u5, u6, u7, u8, u9, u10, u11, u12, u13, u14, u15, u16, u17, u18, u19, u20, u21, u22, u23) =>
  (wrL r1 1 (0 : Int32) rz1.toInt64).bind fun w24 =>
  some ((0 : Int32), u2, u3, u4, u5, u6, u7, u8, u9, u10, u11, u12, u13, u14, u15, u16, u17, u18, u19, u20, u21, u22, u23, w24)
def g_BlockCodeLaw_compare (r0_sourceCode_op : Nat → Int32) (r0_sourceCode_d : Nat → Int32) (r0_sourceCode_a : Nat → Int32) (r0_sourceCode_b : Nat → Int32) (r0_sourceCode_length : Int32) (r0_sourceCode_leaders : Int32) (r0_resultCode_op : Nat → Int32) (r0_resultCode_d : Nat → Int32) (r0_resultCode_a : Nat → Int32) (r0_resultCode_b : Nat → Int32) (r0_resultCode_length : Int32) (r0_facts_before : Nat → Int64) (r0_sealed : Int32) (r0_resultCode_need : Nat → Int32) (r0_symbols_kind : Nat → Int32) (r0_symbols_left : Nat → Int32) (r0_symbols_right : Nat → Int32) (r0_symbols_count : Int32) (r0_sourceWalk_held : Nat → Int32) (r0_sourceWalk_riskDividend : Nat → Int32) (r0_sourceWalk_riskDivisor : Nat → Int32) (r0_sourceWalk_risks : Int32) (r0_sourceWalk_endKind : Int32) (r0_sourceWalk_endNumber : Int32) (r0_sourceWalk_endPlace : Int32) (r0_sourceWalk_endSymbol : Int32) (r0_resultWalk_held : Nat → Int32) (r0_resultWalk_riskDividend : Nat → Int32) (r0_resultWalk_riskDivisor : Nat → Int32) (r0_resultWalk_risks : Int32) (r0_resultWalk_endKind : Int32) (r0_resultWalk_endNumber : Int32) (r0_resultWalk_endPlace : Int32) (r0_resultWalk_endSymbol : Int32) (r0_foundAlike : Int32) (r1 : Nat → Int64) : Option (Int32 × (Nat → Int32) × (Nat → Int32) × (Nat → Int32) × (Nat → Int32) × Int32 × (Nat → Int32) × (Nat → Int32) × (Nat → Int32) × Int32 × Int32 × Int32 × Int32 × Int32 × (Nat → Int32) × (Nat → Int32) × (Nat → Int32) × Int32 × Int32 × Int32 × Int32 × Int32 × Int32 × (Nat → Int64)) :=
  if r0_sealed = (0 : Int32) then some ((1 : Int32), r0_resultCode_need, r0_symbols_kind, r0_symbols_left, r0_symbols_right, r0_symbols_count, r0_sourceWalk_held, r0_sourceWalk_riskDividend, r0_sourceWalk_riskDivisor, r0_sourceWalk_risks, r0_sourceWalk_endKind, r0_sourceWalk_endNumber, r0_sourceWalk_endPlace, r0_sourceWalk_endSymbol, r0_resultWalk_held, r0_resultWalk_riskDividend, r0_resultWalk_riskDivisor, r0_resultWalk_risks, r0_resultWalk_endKind, r0_resultWalk_endNumber, r0_resultWalk_endPlace, r0_resultWalk_endSymbol, r0_foundAlike, r1) else f_BlockCodeLaw_compare r0_sourceCode_op r0_sourceCode_d r0_sourceCode_a r0_sourceCode_b r0_sourceCode_length r0_sourceCode_leaders r0_resultCode_op r0_resultCode_d r0_resultCode_a r0_resultCode_b r0_resultCode_length r0_facts_before r0_sealed r0_resultCode_need r0_symbols_kind r0_symbols_left r0_symbols_right r0_symbols_count r0_sourceWalk_held r0_sourceWalk_riskDividend r0_sourceWalk_riskDivisor r0_sourceWalk_risks r0_sourceWalk_endKind r0_sourceWalk_endNumber r0_sourceWalk_endPlace r0_sourceWalk_endSymbol r0_resultWalk_held r0_resultWalk_riskDividend r0_resultWalk_riskDivisor r0_resultWalk_risks r0_resultWalk_endKind r0_resultWalk_endNumber r0_resultWalk_endPlace r0_resultWalk_endSymbol r0_foundAlike r1
