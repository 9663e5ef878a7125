abbrev GS : Type := (Nat → Nat → Int32) × (Nat → Int32)
abbrev LmS : Type := (Nat → Int64) × Int64
def sI (g : GS) (k : Nat) (v : Int32) : GS := (g.1, va_up g.2 k v)
def sA (g : GS) (k : Nat) (f : Nat → Int32) : GS := (va_up g.1 k f, g.2)
def ald (n : Nat) (f : Nat → Int32) (i : Int32) : Option Int32 := if i < 0 ∨ n ≤ i.toNatClampNeg then none else some (f i.toNatClampNeg)
def ast (n : Nat) (f : Nat → Int32) (i x : Int32) : Option (Nat → Int32) := if i < 0 ∨ n ≤ i.toNatClampNeg then none else some (upd f i.toNatClampNeg x)
def aldL (n : Nat) (f : Nat → Int64) (i : Int32) : Option Int64 := if i < 0 ∨ n ≤ i.toNatClampNeg then none else some (f i.toNatClampNeg)
def astL (n : Nat) (f : Nat → Int64) (i : Int32) (x : Int64) : Option (Nat → Int64) := if i < 0 ∨ n ≤ i.toNatClampNeg then none else some (vp_updL f i.toNatClampNeg x)
def idv (x y : Int32) : Option Int32 := if y = 0 then none else some (x / y)
def irm (x y : Int32) : Option Int32 := if y = 0 then none else some (x - x / y * y)
def ldv (x y : Int64) : Option Int64 := if y = 0 then none else some (x / y)
def lrm (x y : Int64) : Option Int64 := if y = 0 then none else some (x - x / y * y)
def rtZ (v : Int32) : Option Int32 := if v = 0 ∨ v = 1 then some v else none
theorem obn {α β : Type} {x : Option α} {f : α → Option β} {r : β} (h : Option.bind x f = some r) : ∃ v, x = some v ∧ f v = some r := by
  cases x with
  | none => cases h
  | some v => exact ⟨v, rfl, h⟩
def whO {σ ε : Type} (f : σ → Option (σ ⊕ ε)) : Nat → σ → Option ε
  | 0, _ => none
  | n + 1, s => Option.bind (f s) (fun o => match o with
    | .inl s' => whO f n s'
    | .inr x => some x)
def FU : Nat := 1000000
def esc {α β : Type} (v : α ⊕ β) (f : α → Option β) : Option β := match v with
  | .inl t => f t
  | .inr x => some x
def mJ7_fill_53178_l5 (arn : Nat) (x : Int32) (s4 : Int32 × (Nat → Int32)) : Option ((Int32 × (Nat → Int32)) ⊕ (Int32 × (Nat → Int32))) :=
  if (nI arn) ≤ s4.1 then
    some (.inr (s4.1, s4.2))
  else
    Option.bind (ast arn s4.2 s4.1 x) fun f6 =>
    some (.inl ((s4.1 + (1 : Int32)), f6))
def mJ7_fill_53178 (ar : (Nat → Int32)) (arn : Nat) (x : Int32) : Option ((Nat → Int32)) :=
  Option.bind (whO (mJ7_fill_53178_l5 arn x) FU ((0 : Int32), ar)) fun e7 =>
  some e7.2
def mJ7_fill_d0a16_l6 (arn : Nat) (x : Int64) (s4 : Int32 × (Nat → Int64)) : Option ((Int32 × (Nat → Int64)) ⊕ (Int32 × (Nat → Int64))) :=
  if (nI arn) ≤ s4.1 then
    some (.inr (s4.1, s4.2))
  else
    Option.bind (astL arn s4.2 s4.1 x) fun f6 =>
    some (.inl ((s4.1 + (1 : Int32)), f6))
def mJ7_fill_d0a16 (ar : (Nat → Int64)) (arn : Nat) (x : Int64) : Option ((Nat → Int64)) :=
  Option.bind (whO (mJ7_fill_d0a16_l6 arn x) FU ((0 : Int32), ar)) fun e7 =>
  some e7.2
def mJ9_floorMod_7cf53 (x : Int32) (y : Int32) : Option (Int32) :=
  Option.bind (irm x y) fun v1 =>
  if 0 ≤ (x ^^^ y) then
    some v1
  else
    if v1 = 0 then
      some v1
    else
      some (v1 + y)
def mJ6_bitCount_0f7a4 (x : Int32) : Option (Int32) :=
  some ((((((((x - ((x.toUInt32 >>> ((1 : Int32).toUInt32 &&& Int32.toUInt32 31)).toInt32 &&& (1431655765 : Int32))) &&& (858993459 : Int32)) + (((x - ((x.toUInt32 >>> ((1 : Int32).toUInt32 &&& Int32.toUInt32 31)).toInt32 &&& (1431655765 : Int32))).toUInt32 >>> ((2 : Int32).toUInt32 &&& Int32.toUInt32 31)).toInt32 &&& (858993459 : Int32))) + ((((x - ((x.toUInt32 >>> ((1 : Int32).toUInt32 &&& Int32.toUInt32 31)).toInt32 &&& (1431655765 : Int32))) &&& (858993459 : Int32)) + (((x - ((x.toUInt32 >>> ((1 : Int32).toUInt32 &&& Int32.toUInt32 31)).toInt32 &&& (1431655765 : Int32))).toUInt32 >>> ((2 : Int32).toUInt32 &&& Int32.toUInt32 31)).toInt32 &&& (858993459 : Int32))).toUInt32 >>> ((4 : Int32).toUInt32 &&& Int32.toUInt32 31)).toInt32) &&& (252645135 : Int32)) + ((((((x - ((x.toUInt32 >>> ((1 : Int32).toUInt32 &&& Int32.toUInt32 31)).toInt32 &&& (1431655765 : Int32))) &&& (858993459 : Int32)) + (((x - ((x.toUInt32 >>> ((1 : Int32).toUInt32 &&& Int32.toUInt32 31)).toInt32 &&& (1431655765 : Int32))).toUInt32 >>> ((2 : Int32).toUInt32 &&& Int32.toUInt32 31)).toInt32 &&& (858993459 : Int32))) + ((((x - ((x.toUInt32 >>> ((1 : Int32).toUInt32 &&& Int32.toUInt32 31)).toInt32 &&& (1431655765 : Int32))) &&& (858993459 : Int32)) + (((x - ((x.toUInt32 >>> ((1 : Int32).toUInt32 &&& Int32.toUInt32 31)).toInt32 &&& (1431655765 : Int32))).toUInt32 >>> ((2 : Int32).toUInt32 &&& Int32.toUInt32 31)).toInt32 &&& (858993459 : Int32))).toUInt32 >>> ((4 : Int32).toUInt32 &&& Int32.toUInt32 31)).toInt32) &&& (252645135 : Int32)).toUInt32 >>> ((8 : Int32).toUInt32 &&& Int32.toUInt32 31)).toInt32) + (((((((x - ((x.toUInt32 >>> ((1 : Int32).toUInt32 &&& Int32.toUInt32 31)).toInt32 &&& (1431655765 : Int32))) &&& (858993459 : Int32)) + (((x - ((x.toUInt32 >>> ((1 : Int32).toUInt32 &&& Int32.toUInt32 31)).toInt32 &&& (1431655765 : Int32))).toUInt32 >>> ((2 : Int32).toUInt32 &&& Int32.toUInt32 31)).toInt32 &&& (858993459 : Int32))) + ((((x - ((x.toUInt32 >>> ((1 : Int32).toUInt32 &&& Int32.toUInt32 31)).toInt32 &&& (1431655765 : Int32))) &&& (858993459 : Int32)) + (((x - ((x.toUInt32 >>> ((1 : Int32).toUInt32 &&& Int32.toUInt32 31)).toInt32 &&& (1431655765 : Int32))).toUInt32 >>> ((2 : Int32).toUInt32 &&& Int32.toUInt32 31)).toInt32 &&& (858993459 : Int32))).toUInt32 >>> ((4 : Int32).toUInt32 &&& Int32.toUInt32 31)).toInt32) &&& (252645135 : Int32)) + ((((((x - ((x.toUInt32 >>> ((1 : Int32).toUInt32 &&& Int32.toUInt32 31)).toInt32 &&& (1431655765 : Int32))) &&& (858993459 : Int32)) + (((x - ((x.toUInt32 >>> ((1 : Int32).toUInt32 &&& Int32.toUInt32 31)).toInt32 &&& (1431655765 : Int32))).toUInt32 >>> ((2 : Int32).toUInt32 &&& Int32.toUInt32 31)).toInt32 &&& (858993459 : Int32))) + ((((x - ((x.toUInt32 >>> ((1 : Int32).toUInt32 &&& Int32.toUInt32 31)).toInt32 &&& (1431655765 : Int32))) &&& (858993459 : Int32)) + (((x - ((x.toUInt32 >>> ((1 : Int32).toUInt32 &&& Int32.toUInt32 31)).toInt32 &&& (1431655765 : Int32))).toUInt32 >>> ((2 : Int32).toUInt32 &&& Int32.toUInt32 31)).toInt32 &&& (858993459 : Int32))).toUInt32 >>> ((4 : Int32).toUInt32 &&& Int32.toUInt32 31)).toInt32) &&& (252645135 : Int32)).toUInt32 >>> ((8 : Int32).toUInt32 &&& Int32.toUInt32 31)).toInt32).toUInt32 >>> ((16 : Int32).toUInt32 &&& Int32.toUInt32 31)).toInt32) &&& (63 : Int32))
def mX0_hasBlock (g : GS) (j : Int32) : Option (Int32) :=
  if j < 0 then
    some (0 : Int32)
  else
    if (g.2 5) ≤ j then
      some (0 : Int32)
    else
      if (6 : Int32) ≤ j then
        some (0 : Int32)
      else
        some (1 : Int32)
def mX0_hasPlace (g : GS) (i : Int32) : Option (Int32) :=
  if i < 0 then
    some (0 : Int32)
  else
    if (g.2 6) ≤ i then
      some (0 : Int32)
    else
      if (12 : Int32) ≤ i then
        some (0 : Int32)
      else
        some (1 : Int32)
def mX0_hasRoll (g : GS) (r : Int32) : Option (Int32) :=
  if r < 0 then
    some (0 : Int32)
  else
    if (g.2 12) ≤ r then
      some (0 : Int32)
    else
      if (4 : Int32) ≤ r then
        some (0 : Int32)
      else
        some (1 : Int32)
def mX0_addBlock (g : GS) (i : Int32) (j : Int32) : Option (Int32 × GS) :=
  if i < 0 then
    some ((-1 : Int32), g)
  else
    if (4 : Int32) ≤ i then
      some ((-1 : Int32), g)
    else
      if j < 0 then
        some ((-1 : Int32), g)
      else
        if j < (10 : Int32) then
          if (g.2 5) < 0 then
            some ((-3 : Int32), g)
          else
            if (g.2 5) < (6 : Int32) then
              Option.bind (ast 6 (g.1 0) (g.2 5) i) fun f7 =>
              Option.bind (ast 6 ((sA g 0 f7).1 1) ((sA g 0 f7).2 5) j) fun f8 =>
              some (((sI (sA (sA g 0 f7) 1 f8) 5 (((sA (sA g 0 f7) 1 f8).2 5) + (1 : Int32))).2 5), (sI (sA (sA g 0 f7) 1 f8) 5 (((sA (sA g 0 f7) 1 f8).2 5) + (1 : Int32))))
            else
              some ((-3 : Int32), g)
        else
          some ((-1 : Int32), g)
def mX0_addRoll (g : GS) (i : Int32) (j : Int32) : Option (Int32 × GS) :=
  if i < (1 : Int32) then
    some ((-1 : Int32), g)
  else
    if (9 : Int32) < i then
      some ((-1 : Int32), g)
    else
      if j < (1 : Int32) then
        some ((-1 : Int32), g)
      else
        if j ≤ (9 : Int32) then
          if (g.2 12) < 0 then
            some ((-3 : Int32), g)
          else
            if (g.2 12) < (4 : Int32) then
              Option.bind (ast 4 (g.1 3) (g.2 12) i) fun f7 =>
              Option.bind (ast 4 ((sA g 3 f7).1 4) ((sA g 3 f7).2 12) j) fun f8 =>
              some (((sI (sA (sA g 3 f7) 4 f8) 12 (((sA (sA g 3 f7) 4 f8).2 12) + (1 : Int32))).2 12), (sI (sA (sA g 3 f7) 4 f8) 12 (((sA (sA g 3 f7) 4 f8).2 12) + (1 : Int32))))
            else
              some ((-3 : Int32), g)
        else
          some ((-1 : Int32), g)
def mX0_exchange (g : GS) (i : Int32) (j : Int32) : Option (GS) :=
  Option.bind (mX0_hasBlock g i) fun v1 =>
  if v1 = 0 then
    some g
  else
    Option.bind (mX0_hasBlock g j) fun v3 =>
    if v3 = 0 then
      some g
    else
      Option.bind (ald 6 (g.1 0) i) fun v5 =>
      Option.bind (ald 6 (g.1 1) i) fun v6 =>
      Option.bind (ald 6 (g.1 0) j) fun v7 =>
      Option.bind (ast 6 (g.1 0) i v7) fun f8 =>
      Option.bind (ald 6 ((sA g 0 f8).1 1) j) fun v9 =>
      Option.bind (ast 6 ((sA g 0 f8).1 1) i v9) fun f10 =>
      Option.bind (ast 6 ((sA (sA g 0 f8) 1 f10).1 0) j v5) fun f11 =>
      Option.bind (ast 6 ((sA (sA (sA g 0 f8) 1 f10) 0 f11).1 1) j v6) fun f12 =>
      some (sA (sA (sA (sA g 0 f8) 1 f10) 0 f11) 1 f12)
def mX0_pass_l2 (n : Int32) (s8 : Int32 × GS) : Option ((Int32 × GS) ⊕ (Int32 × GS)) :=
  if (s8.2.2 6) ≤ s8.1 then
    some (.inr (s8.1, s8.2))
  else
    if (12 : Int32) ≤ s8.1 then
      some (.inr (s8.1, s8.2))
    else
      Option.bind (
        if (s8.2.2 9) < (if 0 ≤ (s8.1 - (s8.2.2 8)) then (s8.1 - (s8.2.2 8)) else 0 - (s8.1 - (s8.2.2 8))) then
          some s8.2
        else
          Option.bind (ald 12 (s8.2.1 2) s8.1) fun v12 =>
          Option.bind (ast 12 (s8.2.1 2) s8.1 (if (v12 + n) < (99 : Int32) then (v12 + n) else (99 : Int32))) fun f13 =>
          some (sA s8.2 2 f13)) fun (v14 : GS) =>
      some (.inl ((s8.1 + (1 : Int32)), v14))
def mX0_pass (g : GS) (n : Int32) : Option (GS) :=
  Option.bind (whO (mX0_pass_l2 n) FU ((0 : Int32), g)) fun e15 =>
  some (sI e15.2 11 ((e15.2.2 11) + n))
def mX0_whoAt (g : GS) (i : Int32) : Option (Int32) :=
  if (1 : Int32) ≤ (g.2 5) then
    Option.bind (mJ9_floorMod_7cf53 (i + (g.2 7)) (g.2 5)) fun v2 =>
    some v2
  else
    some (-4 : Int32)
def mX0_frankWhenNew (g : GS) (j : Int32) (i : Int32) : Option (Int32) :=
  Option.bind (mX0_hasBlock g j) fun v1 =>
  if v1 = 0 then
    some (0 : Int32)
  else
    Option.bind (ald 6 (g.1 1) j) fun v3 =>
    Option.bind (irm i (3 : Int32)) fun v4 =>
    Option.bind (
      if v4 = (2 : Int32) then
        some (v3 + (3 : Int32))
      else
        some v3) fun (v6 : Int32) =>
    Option.bind (ald 6 (g.1 0) j) fun v7 =>
    if v7 = (0 : Int32) then
      some v3
    else
    if v7 = (1 : Int32) then
      some v6
    else
    if v7 = (2 : Int32) then
      some ((2 : Int32) * v6)
    else
    if v7 = (3 : Int32) then
      Option.bind (idv v3 (2 : Int32)) fun v12 =>
      some v12
    else
      some (0 : Int32)
def mX0_frankAt (g : GS) (i : Int32) : Option (Int32) :=
  Option.bind (mX0_hasPlace g i) fun v1 =>
  if v1 = 0 then
    some (0 : Int32)
  else
    if i = (g.2 10) then
      some (0 : Int32)
    else
      Option.bind (mX0_whoAt g i) fun v4 =>
      Option.bind (mX0_hasBlock g v4) fun v5 =>
      if v5 = 0 then
        some (0 : Int32)
      else
        Option.bind (mX0_frankWhenNew g v4 i) fun v7 =>
        Option.bind (ald 12 (g.1 2) i) fun v8 =>
        some (if (0 : Int32) < (v7 - v8) then (v7 - v8) else (0 : Int32))
def mX0_frankFrom_l5 (g : GS) (i : Int32) (n : Int32) (s1 : Int32 × Int32) : Option ((Int32 × Int32) ⊕ (Int32 × Int32)) :=
  if (12 : Int32) ≤ s1.2 then
    some (.inr (s1.1, s1.2))
  else
    Option.bind (
      if s1.2 < i then
        some s1.1
      else
        if (i + n) ≤ s1.2 then
          some s1.1
        else
          Option.bind (mX0_frankAt g s1.2) fun v5 =>
          some (s1.1 + v5)) fun (v6 : Int32) =>
    some (.inl (v6, (s1.2 + (1 : Int32))))
def mX0_frankFrom (g : GS) (i : Int32) (n : Int32) : Option (Int32) :=
  Option.bind (whO (mX0_frankFrom_l5 g i n) FU ((0 : Int32), (0 : Int32))) fun e7 =>
  some e7.1
def mX0_frankOfAll (g : GS) : Option (Int32) :=
  Option.bind (mX0_frankFrom g (0 : Int32) (g.2 6)) fun v1 =>
  some v1
def mX0_frankOf_l4 (g : GS) (n : Int32) (s1 : Int32 × Int32) : Option ((Int32 × Int32) ⊕ (Int32 × Int32)) :=
  if (12 : Int32) ≤ s1.2 then
    some (.inr (s1.1, s1.2))
  else
    Option.bind (
      if ((n >>> (s1.2 &&& 31)) &&& (1 : Int32)) = 0 then
        some s1.1
      else
        Option.bind (mX0_frankAt g s1.2) fun v4 =>
        some (s1.1 + v4)) fun (v5 : Int32) =>
    some (.inl (v5, (s1.2 + (1 : Int32))))
def mX0_frankOf (g : GS) (n : Int32) : Option (Int32) :=
  Option.bind (whO (mX0_frankOf_l4 g n) FU ((0 : Int32), (0 : Int32))) fun e6 =>
  some e6.1
def mX0_placesOf_l4 (g : GS) (j : Int32) (s1 : Int32 × Int32) : Option ((Int32 × Int32) ⊕ (Int32 × Int32)) :=
  if (g.2 6) ≤ s1.2 then
    some (.inr (s1.1, s1.2))
  else
    if (12 : Int32) ≤ s1.2 then
      some (.inr (s1.1, s1.2))
    else
      Option.bind (mX0_whoAt g s1.2) fun v4 =>
      Option.bind (
        if v4 = j then
          some (s1.1 ||| ((1 : Int32) <<< (s1.2 &&& 31)))
        else
          some s1.1) fun (v6 : Int32) =>
      some (.inl (v6, (s1.2 + (1 : Int32))))
def mX0_placesOf (g : GS) (j : Int32) : Option (Int32) :=
  Option.bind (whO (mX0_placesOf_l4 g j) FU ((0 : Int32), (0 : Int32))) fun e7 =>
  some e7.1
def mX0_placesWithout_l4 (g : GS) (s1 : Int32 × Int32) : Option ((Int32 × Int32) ⊕ (Int32 × Int32)) :=
  if (g.2 6) ≤ s1.2 then
    some (.inr (s1.1, s1.2))
  else
    if (12 : Int32) ≤ s1.2 then
      some (.inr (s1.1, s1.2))
    else
      Option.bind (mX0_frankAt g s1.2) fun v4 =>
      Option.bind (
        if v4 = 0 then
          some (s1.1 ||| ((1 : Int32) <<< (s1.2 &&& 31)))
        else
          some s1.1) fun (v6 : Int32) =>
      some (.inl (v6, (s1.2 + (1 : Int32))))
def mX0_placesWithout (g : GS) : Option (Int32) :=
  Option.bind (whO (mX0_placesWithout_l4 g) FU ((0 : Int32), (0 : Int32))) fun e7 =>
  some e7.1
def mX0_frankestFrom_l7 (g : GS) (n : Int32) (s1 : Int32 × Int32 × Int32) : Option ((Int32 × Int32 × Int32) ⊕ (Int32 × Int32 × Int32)) :=
  if (g.2 6) < (s1.2.2 + n) then
    some (.inr (s1.1, s1.2.1, s1.2.2))
  else
    if (12 : Int32) ≤ s1.2.2 then
      some (.inr (s1.1, s1.2.1, s1.2.2))
    else
      Option.bind (mX0_frankFrom g s1.2.2 n) fun v4 =>
      Option.bind (
        if v4 ≤ s1.2.1 then
          some (s1.1, s1.2.1)
        else
          some (s1.2.2, v4)) fun (v6 : Int32 × Int32) =>
      some (.inl (v6.1, v6.2, (s1.2.2 + (1 : Int32))))
def mX0_frankestFrom (g : GS) (n : Int32) : Option (Int32) :=
  Option.bind (whO (mX0_frankestFrom_l7 g n) FU ((0 : Int32), (-1 : Int32), (0 : Int32))) fun e7 =>
  some e7.1
def mX0_looksAt (g : GS) (i : Int32) : Option (Int32) :=
  Option.bind (mX0_whoAt g i) fun v1 =>
  Option.bind (mX0_hasBlock g v1) fun v2 =>
  if v2 = 0 then
    some (-4 : Int32)
  else
    Option.bind (ald 6 (g.1 0) v1) fun v4 =>
    Option.bind (ald 6 (g.1 1) v1) fun v5 =>
    some ((v4 * (10 : Int32)) + v5)
def mX0_repeatsBy_l2 (g : GS) (n : Int32) (s1 : Int32) : Option ((Int32) ⊕ ((Int32) ⊕ (Int32))) :=
  if (g.2 6) ≤ (s1 + n) then
    some (.inr (.inl s1))
  else
    if (12 : Int32) ≤ s1 then
      some (.inr (.inl s1))
    else
      Option.bind (mX0_looksAt g s1) fun v4 =>
      Option.bind (mX0_looksAt g (s1 + n)) fun v5 =>
      if v4 = v5 then
        some (.inl (s1 + (1 : Int32)))
      else
        some (.inr (.inr (0 : Int32)))
def mX0_repeatsBy (g : GS) (n : Int32) : Option (Int32) :=
  Option.bind (whO (mX0_repeatsBy_l2 g n) FU (0 : Int32)) fun e7 => esc e7 fun t8 =>
  some (1 : Int32)
def mX0_warmthOfAll_l4 (g : GS) (s1 : Int32 × Int32) : Option ((Int32 × Int32) ⊕ (Int32 × Int32)) :=
  if (g.2 5) ≤ s1.2 then
    some (.inr (s1.1, s1.2))
  else
    if (6 : Int32) ≤ s1.2 then
      some (.inr (s1.1, s1.2))
    else
      Option.bind (ald 6 (g.1 1) s1.2) fun v4 =>
      some (.inl ((s1.1 + v4), (s1.2 + (1 : Int32))))
def mX0_warmthOfAll (g : GS) : Option (Int32) :=
  Option.bind (whO (mX0_warmthOfAll_l4 g) FU ((0 : Int32), (0 : Int32))) fun e5 =>
  some e5.1
def mX0_fadeOfAll_l4 (g : GS) (s1 : Int32 × Int32) : Option ((Int32 × Int32) ⊕ (Int32 × Int32)) :=
  if (g.2 6) ≤ s1.2 then
    some (.inr (s1.1, s1.2))
  else
    if (12 : Int32) ≤ s1.2 then
      some (.inr (s1.1, s1.2))
    else
      Option.bind (ald 12 (g.1 2) s1.2) fun v4 =>
      some (.inl ((s1.1 + v4), (s1.2 + (1 : Int32))))
def mX0_fadeOfAll (g : GS) : Option (Int32) :=
  Option.bind (whO (mX0_fadeOfAll_l4 g) FU ((0 : Int32), (0 : Int32))) fun e5 =>
  some e5.1
def mX0_clear (g : GS) : Option (GS) :=
  Option.bind (mJ7_fill_53178 ((sI (sI (sI (sI (sI (sI (sI (sI g 5 (0 : Int32)) 6 (12 : Int32)) 7 (0 : Int32)) 8 (0 : Int32)) 9 (2 : Int32)) 10 (-4 : Int32)) 11 (0 : Int32)) 12 (0 : Int32)).1 2) 12 (0 : Int32)) fun v1 =>
  some (sA (sI (sI (sI (sI (sI (sI (sI (sI g 5 (0 : Int32)) 6 (12 : Int32)) 7 (0 : Int32)) 8 (0 : Int32)) 9 (2 : Int32)) 10 (-4 : Int32)) 11 (0 : Int32)) 12 (0 : Int32)) 2 v1)
def mX0_looksLike_l8 (g : GS) (k : GS) (s1 : Int32) : Option ((Int32) ⊕ ((Int32) ⊕ (Int32))) :=
  if (g.2 6) ≤ s1 then
    some (.inr (.inl s1))
  else
    if (12 : Int32) ≤ s1 then
      some (.inr (.inl s1))
    else
      Option.bind (mX0_looksAt g s1) fun v4 =>
      Option.bind (mX0_looksAt k s1) fun v5 =>
      if v4 = v5 then
        some (.inl (s1 + (1 : Int32)))
      else
        some (.inr (.inr (0 : Int32)))
def mX0_looksLike (g : GS) (k : GS) : Option (Int32) :=
  Option.bind (whO (mX0_looksLike_l8 g k) FU (0 : Int32)) fun e7 => esc e7 fun t8 =>
  some (1 : Int32)
def mX0_copy (g : GS) (k : GS) : Option (GS) :=
  some (sI (sI (sI (sI (sI (sI (sI (sI (sA (sA (sA (sA (sA g 0 (va_cpy (k.1 0) (g.1 0) 0 0 6)) 1 (va_cpy (k.1 1) ((sA g 0 (va_cpy (k.1 0) (g.1 0) 0 0 6)).1 1) 0 0 6)) 2 (va_cpy (k.1 2) ((sA (sA g 0 (va_cpy (k.1 0) (g.1 0) 0 0 6)) 1 (va_cpy (k.1 1) ((sA g 0 (va_cpy (k.1 0) (g.1 0) 0 0 6)).1 1) 0 0 6)).1 2) 0 0 12)) 3 (va_cpy (k.1 3) ((sA (sA (sA g 0 (va_cpy (k.1 0) (g.1 0) 0 0 6)) 1 (va_cpy (k.1 1) ((sA g 0 (va_cpy (k.1 0) (g.1 0) 0 0 6)).1 1) 0 0 6)) 2 (va_cpy (k.1 2) ((sA (sA g 0 (va_cpy (k.1 0) (g.1 0) 0 0 6)) 1 (va_cpy (k.1 1) ((sA g 0 (va_cpy (k.1 0) (g.1 0) 0 0 6)).1 1) 0 0 6)).1 2) 0 0 12)).1 3) 0 0 4)) 4 (va_cpy (k.1 4) ((sA (sA (sA (sA g 0 (va_cpy (k.1 0) (g.1 0) 0 0 6)) 1 (va_cpy (k.1 1) ((sA g 0 (va_cpy (k.1 0) (g.1 0) 0 0 6)).1 1) 0 0 6)) 2 (va_cpy (k.1 2) ((sA (sA g 0 (va_cpy (k.1 0) (g.1 0) 0 0 6)) 1 (va_cpy (k.1 1) ((sA g 0 (va_cpy (k.1 0) (g.1 0) 0 0 6)).1 1) 0 0 6)).1 2) 0 0 12)) 3 (va_cpy (k.1 3) ((sA (sA (sA g 0 (va_cpy (k.1 0) (g.1 0) 0 0 6)) 1 (va_cpy (k.1 1) ((sA g 0 (va_cpy (k.1 0) (g.1 0) 0 0 6)).1 1) 0 0 6)) 2 (va_cpy (k.1 2) ((sA (sA g 0 (va_cpy (k.1 0) (g.1 0) 0 0 6)) 1 (va_cpy (k.1 1) ((sA g 0 (va_cpy (k.1 0) (g.1 0) 0 0 6)).1 1) 0 0 6)).1 2) 0 0 12)).1 3) 0 0 4)).1 4) 0 0 4)) 5 (k.2 5)) 6 (k.2 6)) 7 (k.2 7)) 8 (k.2 8)) 9 (k.2 9)) 10 (k.2 10)) 11 (k.2 11)) 12 (k.2 12))
def mX2_hangLamp_l4 (i : Int32) (n : Int32) (s9 : Int32 × LmS) : Option ((Int32 × LmS) ⊕ (Int32 × LmS)) :=
  if s9.1 < 0 then
    some (.inr (s9.1, s9.2))
  else
    Option.bind (
      if (s9.1 - i) < 0 then
        some (0 : Int64)
      else
        if (288 : Int32) < (s9.1 - i) then
          some (0 : Int64)
        else
          Option.bind (aldL 289 s9.2.1 (s9.1 - i)) fun v13 =>
          some (v13 * ((10 : Int32) - n).toInt64)) fun (v14 : Int64) =>
    Option.bind (aldL 289 s9.2.1 s9.1) fun v15 =>
    Option.bind (astL 289 s9.2.1 s9.1 ((v15 * n.toInt64) + v14)) fun f16 =>
    some (.inl ((s9.1 + (-1 : Int32)), (f16, s9.2.2)))
def mX2_hangLamp (u : LmS) (i : Int32) (n : Int32) : Option (LmS) :=
  Option.bind (whO (mX2_hangLamp_l4 i n) FU ((288 : Int32), u)) fun e17 =>
  some (e17.2.1, (e17.2.2 * (10 : Int64)))
def mX2_oddsOf_l5 (u : LmS) (w : Int32) (s1 : Int64 × Int32) : Option ((Int64 × Int32) ⊕ (Int64 × Int32)) :=
  if (288 : Int32) < s1.2 then
    some (.inr (s1.1, s1.2))
  else
    Option.bind (
      if s1.2 < w then
        some s1.1
      else
        Option.bind (aldL 289 u.1 s1.2) fun v4 =>
        some (s1.1 + v4)) fun (v5 : Int64) =>
    some (.inl (v5, (s1.2 + (1 : Int32))))
def mX2_oddsOf (u : LmS) (w : Int32) : Option (Int64) :=
  Option.bind (whO (mX2_oddsOf_l5 u w) FU ((0 : Int64), (0 : Int32))) fun e6 =>
  some e6.1
def mX2_reckon_l28 (k : GS) (n : Int32) (i : Int32) (j : Int32) (s10 : Int32 × LmS) : Option ((Int32 × LmS) ⊕ (Int32 × LmS)) :=
  if (12 : Int32) ≤ s10.1 then
    some (.inr (s10.1, s10.2))
  else
    Option.bind (
      if s10.1 < i then
        some s10.2
      else
        if j < s10.1 then
          some s10.2
        else
          Option.bind (mX0_frankAt k s10.1) fun v14 =>
          Option.bind (mX2_hangLamp s10.2 v14 n) fun v15 =>
          some v15) fun (v16 : LmS) =>
    some (.inl ((s10.1 + (1 : Int32)), v16))
def mX2_reckon (u : LmS) (k : GS) (n : Int32) (i : Int32) (j : Int32) : Option (LmS) :=
  Option.bind (mJ7_fill_d0a16 u.1 289 (0 : Int64)) fun v1 =>
  Option.bind (astL 289 (v1, u.2).1 (0 : Int32) (1 : Int64)) fun f2 =>
  Option.bind (whO (mX2_reckon_l28 k n i j) FU ((0 : Int32), ((f2, (v1, u.2).2).1, (1 : Int64)))) fun e17 =>
  some e17.2
def mX3_add (g : GS) (i : Int32) (n : Int32) : Option (Int32 × GS) :=
  if (g.2 2) < 0 then
    some ((0 : Int32), g)
  else
    if (g.2 2) < (6 : Int32) then
      Option.bind (ast 6 (g.1 0) (g.2 2) i) fun f3 =>
      Option.bind (ast 6 ((sA g 0 f3).1 1) ((sA g 0 f3).2 2) n) fun f4 =>
      some ((1 : Int32), (sI (sA (sA g 0 f3) 1 f4) 2 (((sA (sA g 0 f3) 1 f4).2 2) + (1 : Int32))))
    else
      some ((0 : Int32), g)
def mX3_fits_l8 (g : GS) (k : GS) (s1 : Int32) : Option ((Int32) ⊕ ((Int32) ⊕ (Int32))) :=
  if (g.2 2) ≤ s1 then
    some (.inr (.inl s1))
  else
    if (6 : Int32) ≤ s1 then
      some (.inr (.inl s1))
    else
      Option.bind (ald 6 (g.1 0) s1) fun v4 =>
      Option.bind (mX0_hasPlace k v4) fun v5 =>
      if v5 = 0 then
        some (.inr (.inr (0 : Int32)))
      else
        Option.bind (ald 6 (g.1 0) s1) fun v7 =>
        Option.bind (mX0_frankAt k v7) fun v8 =>
        Option.bind (ald 6 (g.1 1) s1) fun v9 =>
        if v8 = v9 then
          some (.inl (s1 + (1 : Int32)))
        else
          some (.inr (.inr (0 : Int32)))
def mX3_fits (g : GS) (k : GS) : Option (Int32) :=
  Option.bind (whO (mX3_fits_l8 g k) FU (0 : Int32)) fun e11 => esc e11 fun t12 =>
  some (1 : Int32)
def mX4_lengthen (g : GS) (n : Int32) (i : Int32) (j : Int32) (w : Int32) : Option (GS) :=
  if i < 0 then
    some g
  else
    if (69 : Int32) ≤ i then
      some g
    else
      if n < 0 then
        some g
      else
        if (69 : Int32) ≤ n then
          some g
        else
          Option.bind (ald 69 (g.1 0) i) fun v5 =>
          if v5 = (1000000 : Int32) then
            some g
          else
            Option.bind (ald 69 (g.1 0) i) fun v7 =>
            Option.bind (ald 69 (g.1 1) i) fun v8 =>
            Option.bind (ald 69 (g.1 0) n) fun v9 =>
            Option.bind (
              if (v7 + j) < v9 then
                some (.inl ())
              else
                Option.bind (ald 69 (g.1 0) n) fun v11 =>
                if (v7 + j) = v11 then
                  Option.bind (ald 69 (g.1 1) n) fun v13 =>
                  if (v8 + w) ≤ v13 then
                    some (.inr g)
                  else
                    some (.inl ())
                else
                  some (.inr g)) fun (v15 : (Unit) ⊕ (GS)) => esc v15 fun t16 =>
            Option.bind (ast 69 (g.1 0) n (v7 + j)) fun f17 =>
            Option.bind (ast 69 ((sA g 0 f17).1 1) n (v8 + w)) fun f18 =>
            some (sA (sA g 0 f17) 1 f18)
def mX4_reckon_l45 (k : GS) (r : Int32) (s26 : Int32 × GS) (s39 : Int32 × GS) : Option ((Int32 × GS) ⊕ (Int32 × GS)) :=
  if (4 : Int32) ≤ s39.1 then
    some (.inr (s39.1, s39.2))
  else
    Option.bind (mX0_hasRoll k s39.1) fun v41 =>
    if v41 = 0 then
      some (.inr (s39.1, s39.2))
    else
      Option.bind (ald 4 (k.1 3) s39.1) fun v43 =>
      Option.bind (ald 4 (k.1 4) s39.1) fun v44 =>
      Option.bind (
        if s39.1 = r then
          some (1 : Int32)
        else
          some (0 : Int32)) fun (v46 : Int32) =>
      Option.bind (mX4_lengthen s39.2 s26.1 (s26.1 - v43) v44 v46) fun v47 =>
      some (.inl ((s39.1 + (1 : Int32)), v47))
def mX4_reckon_l21 (k : GS) (r : Int32) (s26 : Int32 × GS) : Option ((Int32 × GS) ⊕ (Int32 × GS)) :=
  if (69 : Int32) ≤ s26.1 then
    some (.inr (s26.1, s26.2))
  else
    Option.bind (ast 69 (s26.2.1 0) s26.1 (1000000 : Int32)) fun f28 =>
    Option.bind (ast 69 ((sA s26.2 0 f28).1 1) s26.1 (0 : Int32)) fun f29 =>
    Option.bind (whO (mX4_reckon_l45 k r s26) FU ((0 : Int32), (sA (sA s26.2 0 f28) 1 f29))) fun e48 =>
    some (.inl ((s26.1 + (1 : Int32)), e48.2))
def mX4_reckon (g : GS) (k : GS) (r : Int32) : Option (GS) :=
  Option.bind (ast 69 (g.1 0) (0 : Int32) (0 : Int32)) fun f1 =>
  Option.bind (ast 69 ((sA g 0 f1).1 1) (0 : Int32) (0 : Int32)) fun f2 =>
  Option.bind (whO (mX4_reckon_l21 k r) FU ((1 : Int32), (sA (sA g 0 f1) 1 f2))) fun e49 =>
  some e49.2
def mX4_leastPrice_l5 (g : GS) (n : Int32) (s1 : Int32 × Int32) : Option ((Int32 × Int32) ⊕ (Int32 × Int32)) :=
  if (69 : Int32) ≤ s1.2 then
    some (.inr (s1.1, s1.2))
  else
    Option.bind (
      if s1.2 < n then
        some s1.1
      else
        Option.bind (ald 69 (g.1 0) s1.2) fun v4 =>
        some (if v4 < s1.1 then v4 else s1.1)) fun (v5 : Int32) =>
    some (.inl (v5, (s1.2 + (1 : Int32))))
def mX4_leastPrice (g : GS) (n : Int32) : Option (Int32) :=
  Option.bind (whO (mX4_leastPrice_l5 g n) FU ((1000000 : Int32), (0 : Int32))) fun e6 =>
  some e6.1
def mX4_leastLeft_l2 (g : GS) (n : Int32) (w : Int32) (s1 : Int32) : Option ((Int32) ⊕ ((Int32) ⊕ (Int32))) :=
  if (69 : Int32) ≤ s1 then
    some (.inr (.inl s1))
  else
    Option.bind (
      if s1 < n then
        some (.inl ())
      else
        Option.bind (ald 69 (g.1 0) s1) fun v4 =>
        if v4 = w then
          some (.inr (.inr (.inr (s1 - n))))
        else
          some (.inl ())) fun (v6 : (Unit) ⊕ ((Int32) ⊕ ((Int32) ⊕ (Int32)))) => esc v6 fun t7 =>
    some (.inl (s1 + (1 : Int32)))
def mX4_leastLeft (g : GS) (n : Int32) (w : Int32) : Option (Int32) :=
  Option.bind (whO (mX4_leastLeft_l2 g n w) FU (0 : Int32)) fun e8 => esc e8 fun t9 =>
  some (-4 : Int32)
def mX4_mostChosen_l5 (g : GS) (n : Int32) (w : Int32) (s1 : Int32 × Int32) : Option ((Int32 × Int32) ⊕ (Int32 × Int32)) :=
  if (69 : Int32) ≤ s1.2 then
    some (.inr (s1.1, s1.2))
  else
    Option.bind (
      if s1.2 < n then
        some s1.1
      else
        Option.bind (ald 69 (g.1 0) s1.2) fun v4 =>
        if v4 = w then
          Option.bind (ald 69 (g.1 1) s1.2) fun v6 =>
          some (if s1.1 < v6 then v6 else s1.1)
        else
          some s1.1) fun (v7 : Int32) =>
    some (.inl (v7, (s1.2 + (1 : Int32))))
def mX4_mostChosen (g : GS) (n : Int32) (w : Int32) : Option (Int32) :=
  Option.bind (whO (mX4_mostChosen_l5 g n w) FU ((0 : Int32), (0 : Int32))) fun e8 =>
  some e8.1
def mX6_renew (g : GS) (i : Int32) (n : Int32) : Option (GS) :=
  Option.bind (mJ7_fill_53178 (g.1 0) 40 (0 : Int32)) fun v1 =>
  some (sI (sI (sA g 0 v1) 1 i) 2 n)
def mX6_faultAt (g : GS) (i : Int32) (j : Int32) : Option (Int32) :=
  if (g.2 1) = (-4 : Int32) then
    some (1 : Int32)
  else
    if (g.2 1) = i then
      Option.bind (
        if j < 0 then
          some (.inl ())
        else
          if j < (g.2 2) then
            some (.inr (0 : Int32))
          else
            some (.inl ())) fun (v5 : (Unit) ⊕ (Int32)) => esc v5 fun t6 =>
      some (2 : Int32)
    else
      some (3 : Int32)
def mX6_faultOfPair (g : GS) (i : Int32) (j : Int32) : Option (Int32) :=
  Option.bind (mX6_faultAt g i j) fun v1 =>
  if v1 = 0 then
    Option.bind (mX6_faultAt g i (j + (1 : Int32))) fun v3 =>
    some v3
  else
    some v1
def mX6_cellAt (g : GS) (i : Int32) : Option (Int32) :=
  if i < 0 then
    some (0 : Int32)
  else
    if (g.2 2) ≤ i then
      some (0 : Int32)
    else
      if (40 : Int32) ≤ i then
        some (0 : Int32)
      else
        Option.bind (ald 40 (g.1 0) i) fun v4 =>
        some v4
def mX6_write (g : GS) (i : Int32) (n : Int32) : Option (GS) :=
  if i < 0 then
    some g
  else
    if i < (40 : Int32) then
      if (g.2 1) = (0 : Int32) then
        Option.bind (ast 40 (g.1 0) i n.toInt8.toInt32) fun f4 =>
        some (sA g 0 f4)
      else
      if (g.2 1) = (1 : Int32) then
        Option.bind (ast 40 (g.1 0) i n.toInt16.toInt32) fun f6 =>
        some (sA g 0 f6)
      else
        Option.bind (ast 40 (g.1 0) i n) fun f7 =>
        some (sA g 0 f7)
    else
      some g
def mX8_in (x : Int64) (y : Int64) (z : Int64) : Option (Int32) :=
  if x < y then
    some (0 : Int32)
  else
    if z < x then
      some (0 : Int32)
    else
      some (1 : Int32)
def mX8_lowest_l6 (s1 : Int64 × Int64) : Option ((Int64 × Int64) ⊕ (Int64 × Int64)) :=
  if s1.2 = (0 : Int64) then
    some (.inr (s1.1, s1.2))
  else
    Option.bind (lrm s1.1 s1.2) fun v3 =>
    some (.inl (s1.2, v3))
def mX8_lowest (x : Int64) (y : Int64) (w : Int32) : Option (Int64) :=
  Option.bind (whO (mX8_lowest_l6) FU (x, y)) fun e4 =>
  if w = 0 then
    Option.bind (ldv x e4.1) fun v8 =>
    some v8
  else
    Option.bind (ldv y e4.1) fun v7 =>
    some v7
def mX8_feed (g : GS) (n : Int32) : Option (Int32 × GS) :=
  Option.bind (mX8_in n.toInt64 (0 : Int64) (127 : Int64)) fun v1 =>
  if v1 = 0 then
    some ((-1 : Int32), g)
  else
    if (g.2 4) = (160 : Int32) then
      some ((-3 : Int32), g)
    else
      Option.bind (ast 160 (g.1 3) (g.2 4) n) fun f4 =>
      some (((sI (sA g 3 f4) 4 (((sA g 3 f4).2 4) + (1 : Int32))).2 4), (sI (sA g 3 f4) 4 (((sA g 3 f4).2 4) + (1 : Int32))))
def mX8_end (g : GS) (n : Int32) : Option (Int32 × GS) :=
  Option.bind (mX8_in n.toInt64 (0 : Int64) (g.2 4).toInt64) fun v1 =>
  if v1 = 0 then
    some ((-1 : Int32), g)
  else
    some ((g.2 4), (sI g 4 n))
def mX8_byteAt (g : GS) (i : Int32) : Option (Int32) :=
  if (g.2 4) ≤ i then
    some (-4 : Int32)
  else
    Option.bind (ald 160 (g.1 3) i) fun v2 =>
    some v2
def mX8_fails (g : GS) (n : Int32) : Option (GS) :=
  if (g.2 6) = 0 then
    some (sI (sI g 6 n) 7 ((sI g 6 n).2 9))
  else
    some g
def mX8_nameHere_l51 (g : GS) (s1 : Int32) (s8 : Int32 × Int32) : Option ((Int32 × Int32) ⊕ (Int32 × Int32)) :=
  if s8.1 = 0 then
    some (.inr (s8.1, s8.2))
  else
    if ((g.2 8) - (g.2 9)) ≤ s8.2 then
      some (.inr (s8.1, s8.2))
    else
      Option.bind (mX8_byteAt g ((g.2 9) + s8.2)) fun v11 =>
      Option.bind (ald 9 (g.1 12) s1) fun v12 =>
      Option.bind (ald 43 (g.1 13) (v12 + s8.2)) fun v13 =>
      Option.bind (
        if v11 = v13 then
          some (1 : Int32)
        else
          some (0 : Int32)) fun (v15 : Int32) =>
      some (.inl (v15, (s8.2 + (1 : Int32))))
def mX8_nameHere_l2 (g : GS) (s1 : Int32) : Option ((Int32) ⊕ ((Int32) ⊕ (Int32))) :=
  if (8 : Int32) ≤ s1 then
    some (.inr (.inl s1))
  else
    if (g.2 10) = (1 : Int32) then
      Option.bind (ald 9 (g.1 12) (s1 + (1 : Int32))) fun v4 =>
      Option.bind (ald 9 (g.1 12) s1) fun v5 =>
      Option.bind (
        if ((g.2 8) - (g.2 9)) = (v4 - v5) then
          some (1 : Int32)
        else
          some (0 : Int32)) fun (v7 : Int32) =>
      Option.bind (whO (mX8_nameHere_l51 g s1) FU (v7, (0 : Int32))) fun e16 =>
      if e16.1 = 0 then
        some (.inl (s1 + (1 : Int32)))
      else
        some (.inr (.inr s1))
    else
      some (.inr (.inl s1))
def mX8_nameHere (g : GS) : Option (Int32) :=
  Option.bind (whO (mX8_nameHere_l2 g) FU (0 : Int32)) fun e18 => esc e18 fun t19 =>
  some (-4 : Int32)
def mX8_step_l8 (s5 : GS) : Option ((GS) ⊕ (GS)) :=
  Option.bind (mX8_byteAt s5 (s5.2 8)) fun v6 =>
  if v6 = (32 : Int32) then
    some (.inl (sI s5 8 ((s5.2 8) + (1 : Int32))))
  else
    some (.inr s5)
def mX8_step_l140 (s24 : GS) : Option ((GS) ⊕ (GS)) :=
  Option.bind (mX8_byteAt s24 (s24.2 8)) fun v25 =>
  Option.bind (mX8_in v25.toInt64 (48 : Int64) (57 : Int64)) fun v26 =>
  if v26 = 0 then
    some (.inr s24)
  else
    Option.bind (
      if (2 : Int32) ≤ ((s24.2 8) - (s24.2 9)) then
        some (s24.2 11)
      else
        Option.bind (mX8_byteAt s24 (s24.2 8)) fun v29 =>
        some ((((10 : Int32) * (s24.2 11)) + v29) - (48 : Int32))) fun (v30 : Int32) =>
    some (.inl (sI (sI s24 11 v30) 8 (((sI s24 11 v30).2 8) + (1 : Int32))))
def mX8_step_l84 (s38 : GS) : Option ((GS) ⊕ (GS)) :=
  Option.bind (mX8_byteAt s38 (s38.2 8)) fun v39 =>
  Option.bind (mX8_in v39.toInt64 (97 : Int64) (122 : Int64)) fun v40 =>
  if v40 = 0 then
    some (.inr s38)
  else
    some (.inl (sI s38 8 ((s38.2 8) + (1 : Int32))))
def mX8_step (g : GS) : Option (GS) :=
  if (g.2 6) ≤ 0 then
    Option.bind (whO (mX8_step_l8) FU g) fun e8 =>
    Option.bind (mX8_byteAt (sI e8 9 (e8.2 8)) ((sI e8 9 (e8.2 8)).2 8)) fun v9 =>
    if v9 = (-4 : Int32) then
      some (sI (sI (sI e8 9 (e8.2 8)) 11 (0 : Int32)) 10 (0 : Int32))
    else
      Option.bind (mX8_in v9.toInt64 (97 : Int64) (122 : Int64)) fun v11 =>
      if v11 = 0 then
        Option.bind (mX8_in v9.toInt64 (48 : Int64) (57 : Int64)) fun v13 =>
        if v13 = 0 then
          if v9 = (59 : Int32) then
            some (sI (sI (sI (sI e8 9 (e8.2 8)) 11 (0 : Int32)) 10 (3 : Int32)) 8 (((sI (sI (sI e8 9 (e8.2 8)) 11 (0 : Int32)) 10 (3 : Int32)).2 8) + (1 : Int32)))
          else
            Option.bind (mX8_fails (sI (sI (sI (sI e8 9 (e8.2 8)) 11 (0 : Int32)) 10 (3 : Int32)) 8 (((sI (sI (sI e8 9 (e8.2 8)) 11 (0 : Int32)) 10 (3 : Int32)).2 8) + (1 : Int32))) (1 : Int32)) fun v16 =>
            some v16
        else
          Option.bind (whO (mX8_step_l140) FU (sI (sI e8 9 (e8.2 8)) 11 (0 : Int32))) fun e31 =>
          if (((sI e31 10 (2 : Int32)).2 8) - ((sI e31 10 (2 : Int32)).2 9)) ≤ (2 : Int32) then
            some (sI e31 10 (2 : Int32))
          else
            Option.bind (mX8_fails (sI e31 10 (2 : Int32)) (1 : Int32)) fun v33 =>
            some v33
      else
        Option.bind (whO (mX8_step_l84) FU (sI (sI e8 9 (e8.2 8)) 11 (0 : Int32))) fun e42 =>
        some (sI e42 10 (1 : Int32))
  else
    some g
def mX8_number (g : GS) (i : Int32) (j : Int32) : Option (Int32 × GS) :=
  Option.bind (
    if (g.2 6) = 0 then
      if (g.2 10) = (2 : Int32) then
        some g
      else
        Option.bind (mX8_fails g (2 : Int32)) fun v3 =>
        some v3
    else
      some g) fun (v4 : GS) =>
  Option.bind (
    if (v4.2 6) = 0 then
      Option.bind (mX8_in (v4.2 11).toInt64 i.toInt64 j.toInt64) fun v6 =>
      if v6 = 0 then
        Option.bind (mX8_fails v4 (3 : Int32)) fun v8 =>
        some v8
      else
        some v4
    else
      some v4) fun (v9 : GS) =>
  Option.bind (
    if (v9.2 6) = 0 then
      some (v9.2 11)
    else
      some i) fun (v11 : Int32) =>
  Option.bind (mX8_step v9) fun v12 =>
  some (v11, v12)
def mX8_readMore (g : GS) (n : Int32) : Option (GS) :=
  if (3 : Int32) < n then
    if n = (4 : Int32) then
      Option.bind (ald 40 (g.1 1) (39 : Int32)) fun v15 =>
      Option.bind (mX8_number g (1 : Int32) (9 : Int32)) fun v16 =>
      Option.bind (ast 40 (v16.2.1 1) ((31 : Int32) + v15) v16.1) fun f17 =>
      Option.bind (mX8_number (sA v16.2 1 f17) (1 : Int32) (9 : Int32)) fun v18 =>
      Option.bind (ast 40 (v18.2.1 1) ((35 : Int32) + v15) v18.1) fun f19 =>
      Option.bind (ald 40 ((sA v18.2 1 f19).1 1) (39 : Int32)) fun v20 =>
      Option.bind (ast 40 ((sA v18.2 1 f19).1 1) (39 : Int32) (v20 + (1 : Int32))) fun f21 =>
      some (sA (sA v18.2 1 f19) 1 f21)
    else
      if n = (5 : Int32) then
        Option.bind (mX8_number g (1 : Int32) (12 : Int32)) fun v11 =>
        Option.bind (ast 40 (v11.2.1 1) (13 : Int32) (v11.1 - (12 : Int32))) fun f12 =>
        Option.bind (mX8_number (sA v11.2 1 f12) (0 : Int32) (5 : Int32)) fun v13 =>
        Option.bind (ast 40 (v13.2.1 1) (14 : Int32) v13.1) fun f14 =>
        some (sA v13.2 1 f14)
      else
        if n = (6 : Int32) then
          Option.bind (mX8_number g (0 : Int32) (11 : Int32)) fun v7 =>
          Option.bind (ast 40 (v7.2.1 1) (15 : Int32) v7.1) fun f8 =>
          Option.bind (mX8_number (sA v7.2 1 f8) (0 : Int32) (11 : Int32)) fun v9 =>
          Option.bind (ast 40 (v9.2.1 1) (16 : Int32) (v9.1 - (2 : Int32))) fun f10 =>
          some (sA v9.2 1 f10)
        else
          Option.bind (mX8_number g (0 : Int32) (11 : Int32)) fun v5 =>
          Option.bind (ast 40 (v5.2.1 1) (17 : Int32) (v5.1 + (1 : Int32))) fun f6 =>
          some (sA v5.2 1 f6)
  else
    Option.bind (ald 40 (g.1 1) (12 : Int32)) fun v22 =>
    Option.bind (ast 40 (g.1 1) v22 n) fun f23 =>
    Option.bind (ald 40 ((sA g 1 f23).1 1) (12 : Int32)) fun v24 =>
    Option.bind (mX8_number (sA g 1 f23) (0 : Int32) (9 : Int32)) fun v25 =>
    Option.bind (ast 40 (v25.2.1 1) ((6 : Int32) + v24) v25.1) fun f26 =>
    Option.bind (ald 40 ((sA v25.2 1 f26).1 1) (12 : Int32)) fun v27 =>
    Option.bind (ast 40 ((sA v25.2 1 f26).1 1) (12 : Int32) (v27 + (1 : Int32))) fun f28 =>
    some (sA (sA v25.2 1 f26) 1 f28)
def mX8_readLine (g : GS) : Option (GS) :=
  Option.bind (mX8_nameHere g) fun v1 =>
  Option.bind (mX8_in v1.toInt64 (0 : Int64) (7 : Int64)) fun v2 =>
  if v2 = 0 then
    Option.bind (mX8_fails g (2 : Int32)) fun v29 =>
    some v29
  else
    Option.bind (
      if (3 : Int32) < v1 then
        if v1 = (4 : Int32) then
          Option.bind (ald 40 (g.1 1) (39 : Int32)) fun v6 =>
          if v6 = (4 : Int32) then
            Option.bind (mX8_fails g (5 : Int32)) fun v8 =>
            some v8
          else
            some g
        else
          some g
      else
        Option.bind (ald 40 (g.1 1) (12 : Int32)) fun v9 =>
        if v9 = (6 : Int32) then
          Option.bind (mX8_fails g (5 : Int32)) fun v11 =>
          some v11
        else
          if v1 = (4 : Int32) then
            Option.bind (ald 40 (g.1 1) (39 : Int32)) fun v13 =>
            if v13 = (4 : Int32) then
              Option.bind (mX8_fails g (5 : Int32)) fun v15 =>
              some v15
            else
              some g
          else
            some g) fun (v16 : GS) =>
    Option.bind (
      if v1 < (5 : Int32) then
        some v16
      else
        if (((v16.2 2) >>> (v1 &&& 31)) &&& (1 : Int32)) = (1 : Int32) then
          Option.bind (mX8_fails v16 (4 : Int32)) fun v19 =>
          some v19
        else
          some v16) fun (v20 : GS) =>
    Option.bind (mX8_step (sI v20 2 ((v20.2 2) ||| ((1 : Int32) <<< (v1 &&& 31))))) fun v21 =>
    if (v21.2 6) ≤ 0 then
      Option.bind (mX8_readMore v21 v1) fun v23 =>
      Option.bind (
        if (v23.2 6) = 0 then
          if (v23.2 10) = (3 : Int32) then
            some v23
          else
            Option.bind (mX8_fails v23 (2 : Int32)) fun v26 =>
            some v26
        else
          some v23) fun (v27 : GS) =>
      Option.bind (mX8_step v27) fun v28 =>
      some v28
    else
      some v21
def mX8_text_l19 (s4 : Int32 × GS) : Option ((Int32 × GS) ⊕ (Int32 × GS)) :=
  if (40 : Int32) ≤ s4.1 then
    some (.inr (s4.1, s4.2))
  else
    Option.bind (ast 40 (s4.2.1 1) s4.1 (0 : Int32)) fun f6 =>
    some (.inl ((s4.1 + (1 : Int32)), (sA s4.2 1 f6)))
def mX8_text_l42 (s13 : Int32 × GS) : Option ((Int32 × GS) ⊕ (Int32 × GS)) :=
  if (s13.2.2 6) = 0 then
    if (s13.2.2 10) = 0 then
      some (.inr (s13.1, s13.2))
    else
      Option.bind (mX8_readLine s13.2) fun v16 =>
      some (.inl ((s13.1 + (1 : Int32)), v16))
  else
    some (.inr (s13.1, s13.2))
def mX8_text_l96 (s23 : Int32 × GS) : Option ((Int32 × GS) ⊕ (Int32 × GS)) :=
  if (40 : Int32) ≤ s23.1 then
    some (.inr (s23.1, s23.2))
  else
    Option.bind (ald 40 (s23.2.1 1) s23.1) fun v25 =>
    Option.bind (ast 240 (s23.2.1 0) s23.1 v25) fun f26 =>
    some (.inl ((s23.1 + (1 : Int32)), (sA s23.2 0 f26)))
def mX8_text (g : GS) : Option (Int32 × GS) :=
  Option.bind (whO (mX8_text_l19) FU ((0 : Int32), (sI (sI (sI g 6 (0 : Int32)) 8 (0 : Int32)) 2 (0 : Int32)))) fun e7 =>
  Option.bind (mX8_step e7.2) fun v8 =>
  Option.bind (whO (mX8_text_l42) FU ((0 : Int32), v8)) fun e17 =>
  if ((sI (sI e17.2 4 (0 : Int32)) 5 ((sI e17.2 4 (0 : Int32)).2 6)).2 6) ≤ 0 then
    Option.bind (whO (mX8_text_l96) FU ((0 : Int32), (sI (sI e17.2 4 (0 : Int32)) 5 ((sI e17.2 4 (0 : Int32)).2 6)))) fun e27 =>
    Option.bind (ast 2 ((sI e27.2 17 (0 : Int32)).1 19) (0 : Int32) (vp_nar .boolean (0 : Int32))) fun f28 =>
    Option.bind (ast 2 ((sA (sI e27.2 17 (0 : Int32)) 19 f28).1 19) (1 : Int32) (vp_nar .boolean (0 : Int32))) fun f29 =>
    some (e17.1, (sA (sA (sI e27.2 17 (0 : Int32)) 19 f28) 19 f29))
  else
    some (((-10 : Int32) - ((sI (sI e17.2 4 (0 : Int32)) 5 ((sI e17.2 4 (0 : Int32)).2 6)).2 7)), (sI (sI e17.2 4 (0 : Int32)) 5 ((sI e17.2 4 (0 : Int32)).2 6)))
def mX8_fault (g : GS) : Option (Int32) :=
  some (g.2 5)
def mX8_longOn (g : GS) (i : Int32) : Option (Int32) :=
  Option.bind (ald 240 (g.1 0) (i + (13 : Int32))) fun v1 =>
  some (v1 + (12 : Int32))
def mX8_isPlace (g : GS) (i : Int32) : Option (Int32) :=
  Option.bind (mX8_longOn g (0 : Int32)) fun v1 =>
  Option.bind (mX8_in i.toInt64 (0 : Int64) (v1 - (1 : Int32)).toInt64) fun v2 =>
  Option.bind (rtZ v2) fun z1 =>
  some z1
def mX8_isBlock (g : GS) (j : Int32) : Option (Int32) :=
  Option.bind (ald 240 (g.1 0) (12 : Int32)) fun v1 =>
  Option.bind (mX8_in j.toInt64 (0 : Int64) (v1 - (1 : Int32)).toInt64) fun v2 =>
  Option.bind (rtZ v2) fun z2 =>
  some z2
def mX8_isRoll (g : GS) (r : Int32) : Option (Int32) :=
  Option.bind (ald 240 (g.1 0) (39 : Int32)) fun v1 =>
  Option.bind (mX8_in r.toInt64 (0 : Int64) (v1 - (1 : Int32)).toInt64) fun v2 =>
  Option.bind (rtZ v2) fun z3 =>
  some z3
def mX8_whoOn (g : GS) (j : Int32) (i : Int32) : Option (Int32) :=
  Option.bind (ald 240 (g.1 0) (j + (12 : Int32))) fun v1 =>
  if v1 = 0 then
    some (-4 : Int32)
  else
    Option.bind (ald 240 (g.1 0) (j + (14 : Int32))) fun v3 =>
    Option.bind (irm (i + v3) v1) fun v4 =>
    some v4
def mX8_frankOn (g : GS) (j : Int32) (i : Int32) : Option (Int32) :=
  Option.bind (mX8_whoOn g j i) fun v1 =>
  if v1 = (-4 : Int32) then
    some (0 : Int32)
  else
    Option.bind (ald 240 (g.1 0) (j + (17 : Int32))) fun v3 =>
    if v3 = (i + (1 : Int32)) then
      some (0 : Int32)
    else
      Option.bind (ald 240 (g.1 0) (j + v1)) fun v5 =>
      Option.bind (ald 240 (g.1 0) ((j + (6 : Int32)) + v1)) fun v6 =>
      Option.bind (irm i (3 : Int32)) fun v7 =>
      Option.bind (
        if v7 = (2 : Int32) then
          some (v6 + (3 : Int32))
        else
          some v6) fun (v9 : Int32) =>
      Option.bind (
        if v5 = 0 then
          some v6
        else
          if v5 = (1 : Int32) then
            some v9
          else
            if v5 = (2 : Int32) then
              some ((2 : Int32) * v9)
            else
              Option.bind (idv v6 (2 : Int32)) fun v13 =>
              some v13) fun (v14 : Int32) =>
      Option.bind (ald 240 (g.1 0) ((j + (19 : Int32)) + i)) fun v15 =>
      if v14 ≤ v15 then
        some (0 : Int32)
      else
        Option.bind (ald 240 (g.1 0) ((j + (19 : Int32)) + i)) fun v17 =>
        some (v14 - v17)
def mX8_frankOfAll_l4 (g : GS) (j : Int32) (s1 : Int32 × Int32) : Option ((Int32 × Int32) ⊕ (Int32 × Int32)) :=
  Option.bind (mX8_longOn g j) fun v2 =>
  if v2 ≤ s1.2 then
    some (.inr (s1.1, s1.2))
  else
    Option.bind (mX8_frankOn g j s1.2) fun v4 =>
    some (.inl ((s1.1 + v4), (s1.2 + (1 : Int32))))
def mX8_frankOfAll (g : GS) (j : Int32) : Option (Int32) :=
  Option.bind (whO (mX8_frankOfAll_l4 g j) FU ((0 : Int32), (0 : Int32))) fun e5 =>
  some e5.1
def mX8_yearOn_l2 (j : Int32) (s14 : Int32 × GS) : Option ((Int32 × GS) ⊕ (Int32 × GS)) :=
  Option.bind (mX8_longOn s14.2 j) fun v15 =>
  if v15 ≤ s14.1 then
    some (.inr (s14.1, s14.2))
  else
    Option.bind (ald 240 (s14.2.1 0) (j + (15 : Int32))) fun v17 =>
    Option.bind (
      if 0 ≤ (s14.1 - v17) then
        some (s14.1 - v17)
      else
        some (-(s14.1 - v17))) fun (v19 : Int32) =>
    Option.bind (ald 240 (s14.2.1 0) ((j + (19 : Int32)) + s14.1)) fun v20 =>
    Option.bind (ald 240 (s14.2.1 0) (j + (16 : Int32))) fun v21 =>
    Option.bind (
      if (v21 + (2 : Int32)) < v19 then
        some (0 : Int32)
      else
        Option.bind (ald 240 (s14.2.1 0) ((j + (19 : Int32)) + s14.1)) fun v23 =>
        if (99 : Int32) ≤ v23 then
          some (0 : Int32)
        else
          some (1 : Int32)) fun (v25 : Int32) =>
    Option.bind (ast 240 (s14.2.1 0) ((j + (19 : Int32)) + s14.1) (v20 + v25)) fun f26 =>
    some (.inl ((s14.1 + (1 : Int32)), (sA s14.2 0 f26)))
def mX8_yearOn (g : GS) (j : Int32) : Option (GS) :=
  Option.bind (whO (mX8_yearOn_l2 j) FU ((0 : Int32), g)) fun e27 =>
  Option.bind (ald 240 (e27.2.1 0) (j + (18 : Int32))) fun v28 =>
  Option.bind (ast 240 (e27.2.1 0) (j + (18 : Int32)) (v28 + (1 : Int32))) fun f29 =>
  some (sA e27.2 0 f29)
def mX8_rule (g : GS) (n : Int32) : Option (Int32) :=
  if n = (0 : Int32) then
    Option.bind (ald 240 (g.1 0) (12 : Int32)) fun v2 =>
    some v2
  else
  if n = (1 : Int32) then
    Option.bind (mX8_longOn g (0 : Int32)) fun v4 =>
    some v4
  else
  if n = (2 : Int32) then
    Option.bind (ald 240 (g.1 0) (14 : Int32)) fun v6 =>
    some v6
  else
  if n = (3 : Int32) then
    Option.bind (ald 240 (g.1 0) (15 : Int32)) fun v8 =>
    some v8
  else
  if n = (4 : Int32) then
    Option.bind (ald 240 (g.1 0) (16 : Int32)) fun v10 =>
    some (v10 + (2 : Int32))
  else
  if n = (5 : Int32) then
    Option.bind (ald 240 (g.1 0) (17 : Int32)) fun v12 =>
    if v12 = 0 then
      some (-4 : Int32)
    else
      Option.bind (ald 240 (g.1 0) (17 : Int32)) fun v14 =>
      some (v14 - (1 : Int32))
  else
  if n = (6 : Int32) then
    Option.bind (ald 240 (g.1 0) (18 : Int32)) fun v16 =>
    some v16
  else
  if n = (7 : Int32) then
    Option.bind (mX8_frankOfAll g (0 : Int32)) fun v18 =>
    some v18
  else
  if n = (8 : Int32) then
    Option.bind (ald 240 (g.1 0) (39 : Int32)) fun v20 =>
    some v20
  else
    some (-1 : Int32)
def mX8_block_l30 (g : GS) (j : Int32) (s5 : Int32 × Int32 × Int32) : Option ((Int32 × Int32 × Int32) ⊕ (Int32 × Int32 × Int32)) :=
  Option.bind (mX8_longOn g (0 : Int32)) fun v6 =>
  if v6 ≤ s5.2.2 then
    some (.inr (s5.1, s5.2.1, s5.2.2))
  else
    Option.bind (mX8_whoOn g (0 : Int32) s5.2.2) fun v8 =>
    Option.bind (
      if v8 = j then
        some ((1 : Int32) <<< (s5.2.2 &&& 31))
      else
        some (0 : Int32)) fun (v10 : Int32) =>
    Option.bind (mX8_whoOn g (0 : Int32) s5.2.2) fun v11 =>
    Option.bind (
      if v11 = j then
        Option.bind (mX8_frankOn g (0 : Int32) s5.2.2) fun v13 =>
        some v13
      else
        some (0 : Int32)) fun (v14 : Int32) =>
    some (.inl ((s5.1 ||| v10), (s5.2.1 + v14), (s5.2.2 + (1 : Int32))))
def mX8_block (g : GS) (j : Int32) (n : Int32) : Option (Int32) :=
  Option.bind (mX8_isBlock g j) fun v1 =>
  if v1 = 0 then
    some (-1 : Int32)
  else
    Option.bind (mX8_in n.toInt64 (0 : Int64) (3 : Int64)) fun v3 =>
    if v3 = 0 then
      some (-1 : Int32)
    else
      Option.bind (whO (mX8_block_l30 g j) FU ((0 : Int32), (0 : Int32), (0 : Int32))) fun e15 =>
      if (2 : Int32) ≤ n then
        if n = (2 : Int32) then
          some e15.1
        else
          some e15.2.1
      else
        Option.bind (ald 240 (g.1 0) (((6 : Int32) * n) + j)) fun v18 =>
        some v18
def mX8_place (g : GS) (i : Int32) (n : Int32) : Option (Int32) :=
  Option.bind (mX8_isPlace g i) fun v1 =>
  if v1 = 0 then
    some (-1 : Int32)
  else
    Option.bind (mX8_in n.toInt64 (0 : Int64) (2 : Int64)) fun v3 =>
    if v3 = 0 then
      some (-1 : Int32)
    else
      if n = 0 then
        Option.bind (mX8_whoOn g (0 : Int32) i) fun v9 =>
        some v9
      else
        if n = (1 : Int32) then
          Option.bind (ald 240 (g.1 0) ((19 : Int32) + i)) fun v8 =>
          some v8
        else
          Option.bind (mX8_frankOn g (0 : Int32) i) fun v7 =>
          some v7
def mX8_roll (g : GS) (r : Int32) (n : Int32) : Option (Int32) :=
  Option.bind (mX8_isRoll g r) fun v1 =>
  if v1 = 0 then
    some (-1 : Int32)
  else
    Option.bind (mX8_in n.toInt64 (0 : Int64) (1 : Int64)) fun v3 =>
    if v3 = 0 then
      some (-1 : Int32)
    else
      Option.bind (ald 240 (g.1 0) (((31 : Int32) + ((4 : Int32) * n)) + r)) fun v5 =>
      some v5
def mX8_puts (g : GS) (u : Int32) (i : Int32) (n : Int32) (j : Int32) : Option (Int32 × GS) :=
  if u = 0 then
    some ((-1 : Int32), g)
  else
    Option.bind (ald 240 (g.1 0) i) fun v2 =>
    Option.bind (ast 240 (g.1 0) i (n - j)) fun f3 =>
    some ((v2 + j), (sA g 0 f3))
def mX8_alter (g : GS) (j : Int32) (n : Int32) (x : Int32) : Option (Int32 × GS) :=
  Option.bind (
    if n = 0 then
      Option.bind (mX8_in x.toInt64 (0 : Int64) (3 : Int64)) fun v5 =>
      some v5
    else
      if n = (1 : Int32) then
        Option.bind (mX8_in x.toInt64 (0 : Int64) (9 : Int64)) fun v3 =>
        if v3 = 0 then
          some (0 : Int32)
        else
          some (1 : Int32)
      else
        some (0 : Int32)) fun (v6 : Int32) =>
  Option.bind (mX8_isBlock g j) fun v7 =>
  Option.bind (
    if v7 = 0 then
      some (0 : Int32)
    else
      if v6 = 0 then
        some (0 : Int32)
      else
        some (1 : Int32)) fun (v10 : Int32) =>
  Option.bind (mX8_puts g v10 (((6 : Int32) * n) + j) x (0 : Int32)) fun v11 =>
  some (v11.1, v11.2)
def mX8_set (g : GS) (n : Int32) (x : Int32) : Option (Int32 × GS) :=
  Option.bind (
    if n = 0 then
      Option.bind (mX8_in x.toInt64 (1 : Int64) (12 : Int64)) fun v8 =>
      some v8
    else
      if n = (1 : Int32) then
        Option.bind (mX8_in x.toInt64 (0 : Int64) (5 : Int64)) fun v7 =>
        some v7
      else
        Option.bind (mX8_in n.toInt64 (2 : Int64) (3 : Int64)) fun v3 =>
        if v3 = 0 then
          some (0 : Int32)
        else
          Option.bind (mX8_in x.toInt64 (0 : Int64) (11 : Int64)) fun v5 =>
          if v5 = 0 then
            some (0 : Int32)
          else
            some (1 : Int32)) fun (v9 : Int32) =>
  Option.bind (
    if n = 0 then
      some (12 : Int32)
    else
      if n = (3 : Int32) then
        some (2 : Int32)
      else
        some (0 : Int32)) fun (v12 : Int32) =>
  Option.bind (mX8_puts g v9 ((13 : Int32) + n) x v12) fun v13 =>
  some (v13.1, v13.2)
def mX8_turn (g : GS) (i : Int32) : Option (Int32 × GS) :=
  Option.bind (mX8_in i.toInt64 (0 : Int64) (11 : Int64)) fun v1 =>
  Option.bind (
    if v1 = 0 then
      if i = (99 : Int32) then
        some (.inl ())
      else
        some (.inr ((-1 : Int32), g))
    else
      some (.inl ())) fun (v4 : (Unit) ⊕ (Int32 × GS)) => esc v4 fun t5 =>
  Option.bind (ald 240 (g.1 0) (17 : Int32)) fun v6 =>
  Option.bind (
    if v6 = 0 then
      some (-4 : Int32)
    else
      Option.bind (ald 240 (g.1 0) (17 : Int32)) fun v8 =>
      some (v8 - (1 : Int32))) fun (v9 : Int32) =>
  if i = (99 : Int32) then
    Option.bind (ast 240 (g.1 0) (17 : Int32) (0 : Int32)) fun f13 =>
    some (v9, (sA g 0 f13))
  else
    Option.bind (ast 240 (g.1 0) (17 : Int32) (i + (1 : Int32))) fun f12 =>
    some (v9, (sA g 0 f12))
def mX8_paint (g : GS) (i : Int32) (x : Int32) : Option (Int32 × GS) :=
  Option.bind (mX8_isPlace g i) fun v1 =>
  Option.bind (
    if v1 = 0 then
      some (0 : Int32)
    else
      Option.bind (mX8_in x.toInt64 (0 : Int64) (99 : Int64)) fun v3 =>
      if v3 = 0 then
        some (0 : Int32)
      else
        some (1 : Int32)) fun (v5 : Int32) =>
  Option.bind (mX8_puts g v5 ((19 : Int32) + i) x (0 : Int32)) fun v6 =>
  some (v6.1, v6.2)
def mX8_prints (g : GS) (i : Int32) (j : Int32) : Option (Int32 × GS) :=
  Option.bind (mX8_in i.toInt64 (0 : Int64) (3 : Int64)) fun v1 =>
  if v1 = 0 then
    some ((-1 : Int32), g)
  else
    Option.bind (mX8_in j.toInt64 (0 : Int64) (9 : Int64)) fun v3 =>
    if v3 = 0 then
      some ((-1 : Int32), g)
    else
      Option.bind (ald 240 (g.1 0) (12 : Int32)) fun v5 =>
      if v5 = (6 : Int32) then
        some ((-3 : Int32), g)
      else
        Option.bind (ast 240 (g.1 0) v5 i) fun f7 =>
        Option.bind (ast 240 ((sA g 0 f7).1 0) ((6 : Int32) + v5) j) fun f8 =>
        Option.bind (ald 240 ((sA (sA g 0 f7) 0 f8).1 0) (12 : Int32)) fun v9 =>
        Option.bind (ast 240 ((sA (sA g 0 f7) 0 f8).1 0) (12 : Int32) (v9 + (1 : Int32))) fun f10 =>
        Option.bind (ald 240 ((sA (sA (sA g 0 f7) 0 f8) 0 f10).1 0) (12 : Int32)) fun v11 =>
        some (v11, (sA (sA (sA g 0 f7) 0 f8) 0 f10))
def mX8_print (g : GS) (i : Int32) (j : Int32) : Option (Int32 × GS) :=
  Option.bind (mX8_prints g i j) fun v1 =>
  some (v1.1, v1.2)
def mX8_stock (g : GS) (i : Int32) (j : Int32) : Option (Int32 × GS) :=
  Option.bind (mX8_in i.toInt64 (1 : Int64) (9 : Int64)) fun v1 =>
  if v1 = 0 then
    some ((-1 : Int32), g)
  else
    Option.bind (mX8_in j.toInt64 (1 : Int64) (9 : Int64)) fun v3 =>
    if v3 = 0 then
      some ((-1 : Int32), g)
    else
      Option.bind (ald 240 (g.1 0) (39 : Int32)) fun v5 =>
      if v5 = (4 : Int32) then
        some ((-3 : Int32), g)
      else
        Option.bind (ast 240 (g.1 0) ((31 : Int32) + v5) i) fun f7 =>
        Option.bind (ast 240 ((sA g 0 f7).1 0) ((35 : Int32) + v5) j) fun f8 =>
        Option.bind (ald 240 ((sA (sA g 0 f7) 0 f8).1 0) (39 : Int32)) fun v9 =>
        Option.bind (ast 240 ((sA (sA g 0 f7) 0 f8).1 0) (39 : Int32) (v9 + (1 : Int32))) fun f10 =>
        Option.bind (ald 240 ((sA (sA (sA g 0 f7) 0 f8) 0 f10).1 0) (39 : Int32)) fun v11 =>
        some (v11, (sA (sA (sA g 0 f7) 0 f8) 0 f10))
def mX8_drop (g : GS) (n : Int32) : Option (Int32 × GS) :=
  Option.bind (ald 240 (g.1 0) (39 : Int32)) fun v1 =>
  Option.bind (mX8_in n.toInt64 (0 : Int64) v1.toInt64) fun v2 =>
  Option.bind (mX8_puts g v2 (39 : Int32) n (0 : Int32)) fun v3 =>
  some (v3.1, v3.2)
def mX8_years_l34 (n : Int32) (s8 : Int32 × GS) : Option ((Int32 × GS) ⊕ (Int32 × GS)) :=
  if n ≤ s8.1 then
    some (.inr (s8.1, s8.2))
  else
    Option.bind (mX8_yearOn s8.2 (0 : Int32)) fun v10 =>
    some (.inl ((s8.1 + (1 : Int32)), v10))
def mX8_years (g : GS) (n : Int32) : Option (Int32 × GS) :=
  Option.bind (mX8_in n.toInt64 (0 : Int64) (30 : Int64)) fun v1 =>
  if v1 = 0 then
    some ((-1 : Int32), g)
  else
    Option.bind (ald 240 (g.1 0) (18 : Int32)) fun v3 =>
    if (v3 + n) ≤ (999 : Int32) then
      Option.bind (whO (mX8_years_l34 n) FU ((0 : Int32), g)) fun e11 =>
      Option.bind (mX8_frankOfAll e11.2 (0 : Int32)) fun v12 =>
      some (v12, e11.2)
    else
      some ((-3 : Int32), g)
def mX8_copies_l2 (i : Int32) (j : Int32) (s5 : Int32 × GS) : Option ((Int32 × GS) ⊕ (Int32 × GS)) :=
  if (40 : Int32) ≤ s5.1 then
    some (.inr (s5.1, s5.2))
  else
    Option.bind (ald 240 (s5.2.1 0) (i + s5.1)) fun v7 =>
    Option.bind (ast 240 (s5.2.1 0) (j + s5.1) v7) fun f8 =>
    some (.inl ((s5.1 + (1 : Int32)), (sA s5.2 0 f8)))
def mX8_copies (g : GS) (i : Int32) (j : Int32) : Option (GS) :=
  Option.bind (whO (mX8_copies_l2 i j) FU ((0 : Int32), g)) fun e9 =>
  some e9.2
def mX8_yearsGo_l10 (n : Int32) (s5 : Int32 × GS) : Option ((Int32 × GS) ⊕ (Int32 × GS)) :=
  if n ≤ s5.1 then
    some (.inr (s5.1, s5.2))
  else
    Option.bind (mX8_yearOn s5.2 (160 : Int32)) fun v7 =>
    some (.inl ((s5.1 + (1 : Int32)), v7))
def mX8_yearsGo (g : GS) (j : Int32) (n : Int32) : Option (GS) :=
  Option.bind (mX8_copies g j (160 : Int32)) fun v1 =>
  Option.bind (whO (mX8_yearsGo_l10 n) FU ((0 : Int32), v1)) fun e8 =>
  some e8.2
def mX8_runs_l40 (v5 : GS) (s6 : Int32 × Int32 × Int32) : Option ((Int32 × Int32 × Int32) ⊕ (Int32 × Int32 × Int32)) :=
  Option.bind (mX8_longOn v5 (160 : Int32)) fun v7 =>
  if v7 ≤ s6.2.2 then
    some (.inr (s6.1, s6.2.1, s6.2.2))
  else
    Option.bind (mX8_frankOn v5 (160 : Int32) s6.2.2) fun v9 =>
    Option.bind (
      if v9 = 0 then
        some ((1 : Int32) <<< (s6.2.2 &&& 31))
      else
        some (0 : Int32)) fun (v11 : Int32) =>
    Option.bind (mX8_frankOn v5 (160 : Int32) s6.2.2) fun v12 =>
    Option.bind (mX8_frankOn v5 (160 : Int32) s6.2.1) fun v13 =>
    Option.bind (
      if v12 ≤ v13 then
        some s6.2.1
      else
        some s6.2.2) fun (v15 : Int32) =>
    some (.inl ((s6.1 ||| v11), v15, (s6.2.2 + (1 : Int32))))
def mX8_runs (g : GS) (n : Int32) (w : Int32) : Option (Int32 × GS) :=
  Option.bind (mX8_in n.toInt64 (0 : Int64) (60 : Int64)) fun v1 =>
  if v1 = 0 then
    some ((-1 : Int32), g)
  else
    Option.bind (mX8_in w.toInt64 (0 : Int64) (3 : Int64)) fun v3 =>
    if v3 = 0 then
      some ((-1 : Int32), g)
    else
      Option.bind (mX8_yearsGo g (0 : Int32) n) fun v5 =>
      Option.bind (whO (mX8_runs_l40 v5) FU ((0 : Int32), (0 : Int32), (0 : Int32))) fun e16 =>
      if w = 0 then
        Option.bind (mX8_frankOfAll v5 (160 : Int32)) fun v21 =>
        some (v21, v5)
      else
        if w = (1 : Int32) then
          some (e16.1, v5)
        else
          if w = (2 : Int32) then
            some (e16.2.1, v5)
          else
            Option.bind (mX8_frankOn v5 (160 : Int32) e16.2.1) fun v20 =>
            some (v20, v5)
def mX8_ahead (g : GS) (i : Int32) (n : Int32) : Option (Int32 × GS) :=
  Option.bind (mX8_isPlace g i) fun v1 =>
  if v1 = 0 then
    some ((-1 : Int32), g)
  else
    Option.bind (mX8_in n.toInt64 (0 : Int64) (60 : Int64)) fun v3 =>
    if v3 = 0 then
      some ((-1 : Int32), g)
    else
      Option.bind (mX8_yearsGo g (0 : Int32) n) fun v5 =>
      Option.bind (mX8_frankOn v5 (160 : Int32) i) fun v6 =>
      some (v6, v5)
def mX8_fades_l20 (i : Int32) (s9 : Int32 × GS) : Option ((Int32 × GS) ⊕ ((Int32 × GS) ⊕ (Int32 × GS))) :=
  if (60 : Int32) < s9.1 then
    some (.inr (.inl (s9.1, s9.2)))
  else
    Option.bind (mX8_frankOn s9.2 (160 : Int32) i) fun v11 =>
    if v11 = 0 then
      some (.inr (.inr (s9.1, s9.2)))
    else
      Option.bind (mX8_yearOn s9.2 (160 : Int32)) fun v13 =>
      some (.inl ((s9.1 + (1 : Int32)), v13))
def mX8_fades (g : GS) (i : Int32) : Option (Int32 × GS) :=
  Option.bind (mX8_isPlace g i) fun v1 =>
  if v1 = 0 then
    some ((-1 : Int32), g)
  else
    Option.bind (mX8_copies g (0 : Int32) (160 : Int32)) fun v3 =>
    Option.bind (whO (mX8_fades_l20 i) FU ((0 : Int32), v3)) fun e14 => esc e14 fun t15 =>
    some ((-4 : Int32), t15.2)
def mX8_stretch_l52 (g : GS) (n : Int32) (s6 : Int32 × Int32 × Int32) (s8 : Int32 × Int32) : Option ((Int32 × Int32) ⊕ (Int32 × Int32)) :=
  if n ≤ s8.2 then
    some (.inr (s8.1, s8.2))
  else
    Option.bind (mX8_frankOn g (0 : Int32) (s6.2.2 + s8.2)) fun v10 =>
    some (.inl ((s8.1 + v10), (s8.2 + (1 : Int32))))
def mX8_stretch_l38 (g : GS) (n : Int32) (v1 : Int32) (s6 : Int32 × Int32 × Int32) : Option ((Int32 × Int32 × Int32) ⊕ (Int32 × Int32 × Int32)) :=
  if v1 < (s6.2.2 + n) then
    some (.inr (s6.1, s6.2.1, s6.2.2))
  else
    Option.bind (whO (mX8_stretch_l52 g n s6) FU ((0 : Int32), (0 : Int32))) fun e11 =>
    Option.bind (
      if e11.1 ≤ s6.1 then
        some s6.2.1
      else
        some s6.2.2) fun (v13 : Int32) =>
    Option.bind (
      if e11.1 ≤ s6.1 then
        some s6.1
      else
        some e11.1) fun (v15 : Int32) =>
    some (.inl (v15, v13, (s6.2.2 + (1 : Int32))))
def mX8_stretch (g : GS) (n : Int32) (w : Int32) : Option (Int32) :=
  Option.bind (mX8_longOn g (0 : Int32)) fun v1 =>
  Option.bind (mX8_in n.toInt64 (1 : Int64) v1.toInt64) fun v2 =>
  if v2 = 0 then
    some (-1 : Int32)
  else
    Option.bind (mX8_in w.toInt64 (0 : Int64) (1 : Int64)) fun v4 =>
    if v4 = 0 then
      some (-1 : Int32)
    else
      Option.bind (whO (mX8_stretch_l38 g n v1) FU ((-1 : Int32), (0 : Int32), (0 : Int32))) fun e16 =>
      if w = 0 then
        some e16.2.1
      else
        some e16.1
def mX8_hang_l27 (s12 : Int32 × Int32 × Int32 × GS) : Option ((Int32 × Int32 × Int32 × GS) ⊕ (Int32 × Int32 × Int32 × GS)) :=
  if (6 : Int32) ≤ s12.2.2.1 then
    some (.inr (s12.1, s12.2.1, s12.2.2.1, s12.2.2.2))
  else
    Option.bind (ast 240 (s12.2.2.2.1 0) (214 : Int32) s12.2.2.1) fun f14 =>
    Option.bind (mX8_frankOfAll (sA s12.2.2.2 0 f14) (200 : Int32)) fun v15 =>
    Option.bind (
      if v15 ≤ s12.1 then
        some s12.2.1
      else
        some s12.2.2.1) fun (v17 : Int32) =>
    Option.bind (
      if v15 ≤ s12.1 then
        some s12.1
      else
        some v15) fun (v19 : Int32) =>
    some (.inl (v19, v17, (s12.2.2.1 + (1 : Int32)), (sA s12.2.2.2 0 f14)))
def mX8_hang (g : GS) (w : Int32) : Option (Int32 × GS) :=
  Option.bind (mX8_in w.toInt64 (0 : Int64) (1 : Int64)) fun v1 =>
  if v1 = 0 then
    some ((-1 : Int32), g)
  else
    Option.bind (mX8_copies g (0 : Int32) (200 : Int32)) fun v3 =>
    Option.bind (whO (mX8_hang_l27) FU ((-1 : Int32), (0 : Int32), (0 : Int32), v3)) fun e20 =>
    if w = 0 then
      some (e20.2.1, e20.2.2.2)
    else
      some (e20.1, e20.2.2.2)
def mX8_shade_l40 (n : Int32) (s15 : Int32 × Int32 × Int32 × GS) : Option ((Int32 × Int32 × Int32 × GS) ⊕ (Int32 × Int32 × Int32 × GS)) :=
  if (12 : Int32) ≤ s15.2.2.1 then
    some (.inr (s15.1, s15.2.1, s15.2.2.1, s15.2.2.2))
  else
    Option.bind (ast 240 (s15.2.2.2.1 0) (215 : Int32) s15.2.2.1) fun f17 =>
    Option.bind (mX8_yearsGo (sA s15.2.2.2 0 f17) (200 : Int32) n) fun v18 =>
    Option.bind (mX8_frankOfAll v18 (160 : Int32)) fun v19 =>
    Option.bind (
      if v19 ≤ s15.1 then
        some s15.2.1
      else
        some s15.2.2.1) fun (v21 : Int32) =>
    Option.bind (
      if v19 ≤ s15.1 then
        some s15.1
      else
        some v19) fun (v23 : Int32) =>
    some (.inl (v23, v21, (s15.2.2.1 + (1 : Int32)), v18))
def mX8_shade (g : GS) (n : Int32) (w : Int32) : Option (Int32 × GS) :=
  Option.bind (mX8_in n.toInt64 (0 : Int64) (60 : Int64)) fun v1 =>
  if v1 = 0 then
    some ((-1 : Int32), g)
  else
    Option.bind (mX8_in w.toInt64 (0 : Int64) (1 : Int64)) fun v3 =>
    if v3 = 0 then
      some ((-1 : Int32), g)
    else
      Option.bind (mX8_copies g (0 : Int32) (200 : Int32)) fun v5 =>
      Option.bind (whO (mX8_shade_l40 n) FU ((-1 : Int32), (0 : Int32), (0 : Int32), v5)) fun e24 =>
      if w = 0 then
        some (e24.2.1, e24.2.2.2)
      else
        some (e24.1, e24.2.2.2)
def mX8_swap_l65 (s52 : Int32 × Int32 × Int32 × GS) (s77 : Int32 × Int32 × Int32 × GS) (s87 : Int32 × GS) : Option ((Int32 × GS) ⊕ (Int32 × GS)) :=
  if (12 : Int32) ≤ s87.1 then
    some (.inr (s87.1, s87.2))
  else
    Option.bind (ald 240 (s87.2.1 0) (s87.1 + s77.2.2.1)) fun v89 =>
    Option.bind (ast 240 (s87.2.1 0) (((200 : Int32) + s87.1) + s52.2.2.1) v89) fun f90 =>
    Option.bind (ald 240 ((sA s87.2 0 f90).1 0) (s87.1 + s52.2.2.1)) fun v91 =>
    Option.bind (ast 240 ((sA s87.2 0 f90).1 0) (((200 : Int32) + s87.1) + s77.2.2.1) v91) fun f92 =>
    some (.inl ((s87.1 + (6 : Int32)), (sA (sA s87.2 0 f90) 0 f92)))
def mX8_swap_l42 (s52 : Int32 × Int32 × Int32 × GS) (s77 : Int32 × Int32 × Int32 × GS) : Option ((Int32 × Int32 × Int32 × GS) ⊕ (Int32 × Int32 × Int32 × GS)) :=
  Option.bind (ald 240 (s77.2.2.2.1 0) (12 : Int32)) fun v78 =>
  if v78 ≤ s77.2.2.1 then
    some (.inr (s77.1, s77.2.1, s77.2.2.1, s77.2.2.2))
  else
    Option.bind (mX8_copies s77.2.2.2 (0 : Int32) (200 : Int32)) fun v80 =>
    Option.bind (whO (mX8_swap_l65 s52 s77) FU ((0 : Int32), v80)) fun e93 =>
    Option.bind (mX8_frankOfAll e93.2 (200 : Int32)) fun v94 =>
    Option.bind (
      if v94 ≤ s77.1 then
        some s77.2.1
      else
        some (((10 : Int32) * s52.2.2.1) + s77.2.2.1)) fun (v96 : Int32) =>
    Option.bind (
      if v94 ≤ s77.1 then
        some s77.1
      else
        some v94) fun (v98 : Int32) =>
    some (.inl (v98, v96, (s77.2.2.1 + (1 : Int32)), e93.2))
def mX8_swap_l24 (s52 : Int32 × Int32 × Int32 × GS) : Option ((Int32 × Int32 × Int32 × GS) ⊕ (Int32 × Int32 × Int32 × GS)) :=
  Option.bind (ald 240 (s52.2.2.2.1 0) (12 : Int32)) fun v53 =>
  if v53 ≤ s52.2.2.1 then
    some (.inr (s52.1, s52.2.1, s52.2.2.1, s52.2.2.2))
  else
    Option.bind (whO (mX8_swap_l42 s52) FU (s52.1, s52.2.1, (s52.2.2.1 + (1 : Int32)), s52.2.2.2)) fun e99 =>
    some (.inl (e99.1, e99.2.1, (s52.2.2.1 + (1 : Int32)), e99.2.2.2))
def mX8_swap (g : GS) (w : Int32) : Option (Int32 × GS) :=
  Option.bind (mX8_in w.toInt64 (0 : Int64) (1 : Int64)) fun v1 =>
  if v1 = 0 then
    some ((-1 : Int32), g)
  else
    Option.bind (mX8_frankOfAll g (0 : Int32)) fun v3 =>
    Option.bind (whO (mX8_swap_l24) FU (v3, (-4 : Int32), (0 : Int32), g)) fun e100 =>
    Option.bind (
      if e100.2.1 = (-4 : Int32) then
        some (.inl ())
      else
        if w = 0 then
          some (.inl ())
        else
          some (.inr (e100.1, e100.2.2.2))) fun (v103 : (Unit) ⊕ (Int32 × GS)) => esc v103 fun t104 =>
    some (e100.2.1, e100.2.2.2)
def mX8_isSame (g : GS) (i : Int32) (j : Int32) (u : Int32) (w : Int32) : Option (Int32) :=
  Option.bind (mX8_whoOn g i j) fun v1 =>
  Option.bind (mX8_whoOn g u w) fun v2 =>
  Option.bind (ald 240 (g.1 0) (i + v1)) fun v3 =>
  Option.bind (ald 240 (g.1 0) (u + v2)) fun v4 =>
  if v3 = v4 then
    Option.bind (ald 240 (g.1 0) ((i + (6 : Int32)) + v1)) fun v6 =>
    Option.bind (ald 240 (g.1 0) ((u + (6 : Int32)) + v2)) fun v7 =>
    if v6 = v7 then
      some (1 : Int32)
    else
      some (0 : Int32)
  else
    some (0 : Int32)
def mX8_period_l31 (g : GS) (v3 : Int32) (s4 : Int32) (s6 : Int32 × Int32) : Option ((Int32 × Int32) ⊕ (Int32 × Int32)) :=
  if v3 ≤ (s6.2 + s4) then
    some (.inr (s6.1, s6.2))
  else
    Option.bind (
      if s6.1 = 0 then
        some (0 : Int32)
      else
        Option.bind (mX8_isSame g (0 : Int32) s6.2 (0 : Int32) (s6.2 + s4)) fun v9 =>
        if v9 = 0 then
          some (0 : Int32)
        else
          some (1 : Int32)) fun (v11 : Int32) =>
    some (.inl (v11, (s6.2 + (1 : Int32))))
def mX8_period_l21 (g : GS) (v3 : Int32) (s4 : Int32) : Option ((Int32) ⊕ ((Int32) ⊕ (Int32))) :=
  if v3 ≤ s4 then
    some (.inr (.inl s4))
  else
    Option.bind (whO (mX8_period_l31 g v3 s4) FU ((1 : Int32), (0 : Int32))) fun e12 =>
    if e12.1 = 0 then
      some (.inl (s4 + (1 : Int32)))
    else
      some (.inr (.inr s4))
def mX8_period (g : GS) : Option (Int32) :=
  Option.bind (ald 240 (g.1 0) (12 : Int32)) fun v1 =>
  if v1 = 0 then
    some (-2 : Int32)
  else
    Option.bind (mX8_longOn g (0 : Int32)) fun v3 =>
    Option.bind (whO (mX8_period_l21 g v3) FU (1 : Int32)) fun e14 => esc e14 fun t15 =>
    some v3
def mX8_alike_l45 (s17 : Int32 × Int32 × GS) (f19 : (Nat → Int32)) (s20 : Int32 × Int32) : Option ((Int32 × Int32) ⊕ (Int32 × Int32)) :=
  Option.bind (mX8_longOn (sA s17.2.2 0 f19) (0 : Int32)) fun v21 =>
  if v21 ≤ s20.2 then
    some (.inr (s20.1, s20.2))
  else
    Option.bind (
      if s20.1 = 0 then
        some (0 : Int32)
      else
        Option.bind (mX8_isSame (sA s17.2.2 0 f19) (0 : Int32) s20.2 (200 : Int32) s20.2) fun v24 =>
        if v24 = 0 then
          some (0 : Int32)
        else
          some (1 : Int32)) fun (v26 : Int32) =>
    some (.inl (v26, (s20.2 + (1 : Int32))))
def mX8_alike_l25 (s17 : Int32 × Int32 × GS) : Option ((Int32 × Int32 × GS) ⊕ (Int32 × Int32 × GS)) :=
  if (6 : Int32) ≤ s17.2.1 then
    some (.inr (s17.1, s17.2.1, s17.2.2))
  else
    Option.bind (ast 240 (s17.2.2.1 0) (214 : Int32) s17.2.1) fun f19 =>
    Option.bind (whO (mX8_alike_l45 s17 f19) FU ((1 : Int32), (0 : Int32))) fun e27 =>
    Option.bind (
      if e27.1 = 0 then
        some (0 : Int32)
      else
        some (1 : Int32)) fun (v29 : Int32) =>
    some (.inl ((s17.1 + v29), (s17.2.1 + (1 : Int32)), (sA s17.2.2 0 f19)))
def mX8_alike (g : GS) : Option (Int32 × GS) :=
  Option.bind (ald 240 (g.1 0) (12 : Int32)) fun v1 =>
  if v1 = 0 then
    some ((-2 : Int32), g)
  else
    Option.bind (mX8_copies g (0 : Int32) (200 : Int32)) fun v3 =>
    Option.bind (whO (mX8_alike_l25) FU ((0 : Int32), (0 : Int32), v3)) fun e30 =>
    some (e30.1, e30.2.2)
def mX8_covers_l44 (r : Int32) (s69 : Int32 × Int32 × GS) (s103 : Int32 × GS) : Option ((Int32 × GS) ⊕ (Int32 × GS)) :=
  Option.bind (ald 240 (s103.2.1 0) (39 : Int32)) fun v104 =>
  if v104 ≤ s103.1 then
    some (.inr (s103.1, s103.2))
  else
    Option.bind (ald 240 (s103.2.1 0) ((31 : Int32) + s103.1)) fun v106 =>
    Option.bind (
      if (s69.2.1 - v106) < 0 then
        some s103.2
      else
        Option.bind (ald 70 (s103.2.1 14) (s69.2.1 - v106)) fun v108 =>
        if (100000 : Int32) ≤ v108 then
          some s103.2
        else
          Option.bind (ald 70 (s103.2.1 14) (s69.2.1 - v106)) fun v110 =>
          Option.bind (ald 240 (s103.2.1 0) ((35 : Int32) + s103.1)) fun v111 =>
          Option.bind (ald 70 (s103.2.1 15) (s69.2.1 - v106)) fun v112 =>
          Option.bind (
            if s103.1 = r then
              some (1 : Int32)
            else
              some (0 : Int32)) fun (v114 : Int32) =>
          Option.bind (ald 70 (s103.2.1 14) s69.2.1) fun v115 =>
          Option.bind (
            if (v110 + v111) < v115 then
              some (v112 + v114)
            else
              Option.bind (ald 70 (s103.2.1 14) s69.2.1) fun v117 =>
              if (v110 + v111) = v117 then
                Option.bind (ald 70 (s103.2.1 15) s69.2.1) fun v120 =>
                if (v112 + v114) ≤ v120 then
                  Option.bind (ald 70 (s103.2.1 15) s69.2.1) fun v122 =>
                  some v122
                else
                  some (v112 + v114)
              else
                Option.bind (ald 70 (s103.2.1 15) s69.2.1) fun v119 =>
                some v119) fun (v123 : Int32) =>
          Option.bind (ast 70 (s103.2.1 15) s69.2.1 v123) fun f124 =>
          Option.bind (ald 70 ((sA s103.2 15 f124).1 14) s69.2.1) fun v125 =>
          Option.bind (
            if v125 ≤ (v110 + v111) then
              Option.bind (ald 70 ((sA s103.2 15 f124).1 14) s69.2.1) fun v127 =>
              some v127
            else
              some (v110 + v111)) fun (v128 : Int32) =>
          Option.bind (ast 70 ((sA s103.2 15 f124).1 14) s69.2.1 v128) fun f129 =>
          some (sA (sA s103.2 15 f124) 14 f129)) fun (v130 : GS) =>
    some (.inl ((s103.1 + (1 : Int32)), v130))
def mX8_covers_l6 (n : Int32) (r : Int32) (s69 : Int32 × Int32 × GS) : Option ((Int32 × Int32 × GS) ⊕ (Int32 × Int32 × GS)) :=
  if (n + (10 : Int32)) ≤ s69.2.1 then
    some (.inr (s69.1, s69.2.1, s69.2.2))
  else
    Option.bind (
      if s69.2.1 = 0 then
        some (0 : Int32)
      else
        some (100000 : Int32)) fun (v72 : Int32) =>
    Option.bind (ast 70 (s69.2.2.1 14) s69.2.1 v72) fun f73 =>
    Option.bind (ast 70 ((sA s69.2.2 14 f73).1 15) s69.2.1 (0 : Int32)) fun f74 =>
    Option.bind (whO (mX8_covers_l44 r s69) FU ((0 : Int32), (sA (sA s69.2.2 14 f73) 15 f74))) fun e131 =>
    Option.bind (
      if s69.2.1 < n then
        some s69.1
      else
        Option.bind (ald 70 (e131.2.1 14) s69.2.1) fun v133 =>
        if s69.1 ≤ v133 then
          some s69.1
        else
          Option.bind (ald 70 (e131.2.1 14) s69.2.1) fun v135 =>
          some v135) fun (v136 : Int32) =>
    some (.inl (v136, (s69.2.1 + (1 : Int32)), e131.2))
def mX8_covers (g : GS) (n : Int32) (r : Int32) : Option (Int32 × GS) :=
  Option.bind (whO (mX8_covers_l6 n r) FU ((100000 : Int32), (0 : Int32), g)) fun e137 =>
  some (e137.1, e137.2.2)
def mX8_cover_l44 (n : Int32) (v5 : Int32 × GS) (s7 : Int32) : Option ((Int32) ⊕ (Int32)) :=
  Option.bind (ald 70 (v5.2.1 14) (n + s7)) fun v8 =>
  if v8 = v5.1 then
    some (.inr s7)
  else
    some (.inl (s7 + (1 : Int32)))
def mX8_cover (g : GS) (n : Int32) (w : Int32) : Option (Int32 × GS) :=
  Option.bind (mX8_in n.toInt64 (0 : Int64) (60 : Int64)) fun v1 =>
  if v1 = 0 then
    some ((-1 : Int32), g)
  else
    Option.bind (mX8_in w.toInt64 (0 : Int64) (1 : Int64)) fun v3 =>
    if v3 = 0 then
      some ((-1 : Int32), g)
    else
      Option.bind (mX8_covers g n (-4 : Int32)) fun v5 =>
      if v5.1 = (100000 : Int32) then
        some ((-4 : Int32), v5.2)
      else
        Option.bind (whO (mX8_cover_l44 n v5) FU (0 : Int32)) fun e10 =>
        if w = 0 then
          some (v5.1, v5.2)
        else
          some (e10, v5.2)
def mX8_most_l35 (n : Int32) (v5 : Int32 × GS) (s6 : Int32 × Int32) : Option ((Int32 × Int32) ⊕ (Int32 × Int32)) :=
  if (n + (10 : Int32)) ≤ s6.2 then
    some (.inr (s6.1, s6.2))
  else
    Option.bind (ald 70 (v5.2.1 14) s6.2) fun v8 =>
    Option.bind (
      if v8 = v5.1 then
        Option.bind (ald 70 (v5.2.1 15) s6.2) fun v10 =>
        if v10 ≤ s6.1 then
          some s6.1
        else
          Option.bind (ald 70 (v5.2.1 15) s6.2) fun v12 =>
          some v12
      else
        some s6.1) fun (v13 : Int32) =>
    some (.inl (v13, (s6.2 + (1 : Int32))))
def mX8_most (g : GS) (r : Int32) (n : Int32) : Option (Int32 × GS) :=
  Option.bind (mX8_isRoll g r) fun v1 =>
  if v1 = 0 then
    some ((-1 : Int32), g)
  else
    Option.bind (mX8_in n.toInt64 (0 : Int64) (60 : Int64)) fun v3 =>
    if v3 = 0 then
      some ((-1 : Int32), g)
    else
      Option.bind (mX8_covers g n r) fun v5 =>
      Option.bind (whO (mX8_most_l35 n v5) FU ((0 : Int32), n)) fun e14 =>
      some (e14.1, v5.2)
def mX8_isStretch (g : GS) (x : Int32) (i : Int32) (j : Int32) (w : Int32) : Option (Int32) :=
  Option.bind (mX8_in x.toInt64 (0 : Int64) (10 : Int64)) fun v1 =>
  if v1 = 0 then
    some (0 : Int32)
  else
    Option.bind (mX8_isPlace g i) fun v3 =>
    if v3 = 0 then
      some (0 : Int32)
    else
      Option.bind (mX8_isPlace g j) fun v5 =>
      if v5 = 0 then
        some (0 : Int32)
      else
        if j < i then
          some (0 : Int32)
        else
          Option.bind (mX8_in w.toInt64 (0 : Int64) (1 : Int64)) fun v8 =>
          if v8 = 0 then
            some (0 : Int32)
          else
            some (1 : Int32)
def mX8_luck_l45 (i : Int32) (j : Int32) (s5 : Int64 × Int32) : Option ((Int64 × Int32) ⊕ (Int64 × Int32)) :=
  if ((j - i) + (1 : Int32)) ≤ s5.2 then
    some (.inr (s5.1, s5.2))
  else
    some (.inl ((s5.1 * (10 : Int64)), (s5.2 + (1 : Int32))))
def mX8_luck_l87 (g : GS) (x : Int32) (i : Int32) (j : Int32) (s8 : Int64 × Int32) (s10 : Int64 × Int32 × Int32) : Option ((Int64 × Int32 × Int32) ⊕ (Int64 × Int32 × Int32)) :=
  if ((j - i) + (1 : Int32)) ≤ s10.2.2 then
    some (.inr (s10.1, s10.2.1, s10.2.2))
  else
    Option.bind (
      if ((s8.2 >>> (s10.2.2 &&& 31)) &&& (1 : Int32)) = (1 : Int32) then
        some (1 : Int32)
      else
        some (0 : Int32)) fun (v13 : Int32) =>
    Option.bind (
      if v13 = 0 then
        some ((10 : Int32) - x).toInt64
      else
        some x.toInt64) fun (v15 : Int64) =>
    Option.bind (
      if v13 = 0 then
        Option.bind (mX8_frankOn g (0 : Int32) (i + s10.2.2)) fun v17 =>
        some v17
      else
        some (0 : Int32)) fun (v18 : Int32) =>
    some (.inl ((s10.1 * v15), (s10.2.1 + v18), (s10.2.2 + (1 : Int32))))
def mX8_luck_l69 (g : GS) (x : Int32) (i : Int32) (j : Int32) (y : Int32) (s8 : Int64 × Int32) : Option ((Int64 × Int32) ⊕ (Int64 × Int32)) :=
  if ((1 : Int32) <<< (((j - i) + (1 : Int32)) &&& 31)) ≤ s8.2 then
    some (.inr (s8.1, s8.2))
  else
    Option.bind (whO (mX8_luck_l87 g x i j s8) FU ((1 : Int64), (0 : Int32), (0 : Int32))) fun e19 =>
    Option.bind (
      if e19.2.1 < y then
        some (0 : Int64)
      else
        some e19.1) fun (v21 : Int64) =>
    some (.inl ((s8.1 + v21), (s8.2 + (1 : Int32))))
def mX8_luck (g : GS) (x : Int32) (i : Int32) (j : Int32) (y : Int32) (w : Int32) : Option (Int64) :=
  Option.bind (mX8_isStretch g x i j w) fun v1 =>
  if v1 = 0 then
    some (-1 : Int64)
  else
    Option.bind (mX8_in y.toInt64 (0 : Int64) (999 : Int64)) fun v3 =>
    if v3 = 0 then
      some (-1 : Int64)
    else
      Option.bind (whO (mX8_luck_l45 i j) FU ((1 : Int64), (0 : Int32))) fun e7 =>
      Option.bind (whO (mX8_luck_l69 g x i j y) FU ((0 : Int64), (0 : Int32))) fun e22 =>
      Option.bind (mX8_lowest e22.1 e7.1 w) fun v23 =>
      some v23
def mX8_mean_l22 (g : GS) (j : Int32) (s3 : Int64 × Int32) : Option ((Int64 × Int32) ⊕ (Int64 × Int32)) :=
  if j < s3.2 then
    some (.inr (s3.1, s3.2))
  else
    Option.bind (mX8_frankOn g (0 : Int32) s3.2) fun v5 =>
    some (.inl ((s3.1 + v5.toInt64), (s3.2 + (1 : Int32))))
def mX8_mean (g : GS) (x : Int32) (i : Int32) (j : Int32) (w : Int32) : Option (Int64) :=
  Option.bind (mX8_isStretch g x i j w) fun v1 =>
  if v1 = 0 then
    some (-1 : Int64)
  else
    Option.bind (whO (mX8_mean_l22 g j) FU ((0 : Int64), i)) fun e6 =>
    Option.bind (mX8_lowest (e6.1 * ((10 : Int32) - x).toInt64) (10 : Int64) w) fun v7 =>
    some v7
def mX8_see (g : GS) (i : Int32) (x : Int32) : Option (Int32 × GS) :=
  Option.bind (mX8_in i.toInt64 (0 : Int64) (11 : Int64)) fun v1 =>
  if v1 = 0 then
    some ((-1 : Int32), g)
  else
    Option.bind (mX8_in x.toInt64 (0 : Int64) (99 : Int64)) fun v3 =>
    if v3 = 0 then
      some ((-1 : Int32), g)
    else
      if (g.2 17) = (6 : Int32) then
        some ((-3 : Int32), g)
      else
        Option.bind (ast 12 (g.1 16) ((2 : Int32) * (g.2 17)) i) fun f6 =>
        Option.bind (ast 12 ((sA g 16 f6).1 16) (((2 : Int32) * ((sA g 16 f6).2 17)) + (1 : Int32)) x) fun f7 =>
        some (((sI (sA (sA g 16 f6) 16 f7) 17 (((sA (sA g 16 f6) 16 f7).2 17) + (1 : Int32))).2 17), (sI (sA (sA g 16 f6) 16 f7) 17 (((sA (sA g 16 f6) 16 f7).2 17) + (1 : Int32))))
def mX8_forget (g : GS) (n : Int32) : Option (Int32 × GS) :=
  Option.bind (mX8_in n.toInt64 (0 : Int64) (g.2 17).toInt64) fun v1 =>
  if v1 = 0 then
    some ((-1 : Int32), g)
  else
    some ((g.2 17), (sI g 17 n))
def mX8_isAsSeen_l4 (g : GS) (j : Int32) (s1 : Int32 × Int32) : Option ((Int32 × Int32) ⊕ (Int32 × Int32)) :=
  if (g.2 17) ≤ s1.2 then
    some (.inr (s1.1, s1.2))
  else
    Option.bind (
      if s1.1 = 0 then
        some (0 : Int32)
      else
        Option.bind (ald 12 (g.1 16) ((2 : Int32) * s1.2)) fun v4 =>
        Option.bind (mX8_longOn g j) fun v5 =>
        if v5 ≤ v4 then
          some (0 : Int32)
        else
          Option.bind (ald 12 (g.1 16) ((2 : Int32) * s1.2)) fun v7 =>
          Option.bind (mX8_frankOn g j v7) fun v8 =>
          Option.bind (ald 12 (g.1 16) (((2 : Int32) * s1.2) + (1 : Int32))) fun v9 =>
          if v8 = v9 then
            some (1 : Int32)
          else
            some (0 : Int32)) fun (v11 : Int32) =>
    some (.inl (v11, (s1.2 + (1 : Int32))))
def mX8_isAsSeen (g : GS) (j : Int32) : Option (Int32) :=
  Option.bind (whO (mX8_isAsSeen_l4 g j) FU ((1 : Int32), (0 : Int32))) fun e12 =>
  Option.bind (rtZ e12.1) fun z4 =>
  some z4
def mX8_kinds_l22 (j : Int32) (s10 : Int32 × Int32 × GS) : Option ((Int32 × Int32 × GS) ⊕ (Int32 × Int32 × GS)) :=
  if (4 : Int32) ≤ s10.2.1 then
    some (.inr (s10.1, s10.2.1, s10.2.2))
  else
    Option.bind (ast 240 (s10.2.2.1 0) ((200 : Int32) + j) s10.2.1) fun f12 =>
    Option.bind (mX8_isAsSeen (sA s10.2.2 0 f12) (200 : Int32)) fun v13 =>
    Option.bind (
      if v13 = 0 then
        some (0 : Int32)
      else
        some ((1 : Int32) <<< (s10.2.1 &&& 31))) fun (v15 : Int32) =>
    some (.inl ((s10.1 ||| v15), (s10.2.1 + (1 : Int32)), (sA s10.2.2 0 f12)))
def mX8_kinds (g : GS) (j : Int32) : Option (Int32 × GS) :=
  Option.bind (mX8_isBlock g j) fun v1 =>
  if v1 = 0 then
    some ((-1 : Int32), g)
  else
    Option.bind (mX8_copies g (0 : Int32) (200 : Int32)) fun v3 =>
    Option.bind (whO (mX8_kinds_l22 j) FU ((0 : Int32), (0 : Int32), v3)) fun e16 =>
    some (e16.1, e16.2.2)
def mX8_warmths_l22 (j : Int32) (s10 : Int32 × Int32 × GS) : Option ((Int32 × Int32 × GS) ⊕ (Int32 × Int32 × GS)) :=
  if (9 : Int32) < s10.2.1 then
    some (.inr (s10.1, s10.2.1, s10.2.2))
  else
    Option.bind (ast 240 (s10.2.2.1 0) ((206 : Int32) + j) s10.2.1) fun f12 =>
    Option.bind (mX8_isAsSeen (sA s10.2.2 0 f12) (200 : Int32)) fun v13 =>
    Option.bind (
      if v13 = 0 then
        some (0 : Int32)
      else
        some ((1 : Int32) <<< (s10.2.1 &&& 31))) fun (v15 : Int32) =>
    some (.inl ((s10.1 ||| v15), (s10.2.1 + (1 : Int32)), (sA s10.2.2 0 f12)))
def mX8_warmths (g : GS) (j : Int32) : Option (Int32 × GS) :=
  Option.bind (mX8_isBlock g j) fun v1 =>
  if v1 = 0 then
    some ((-1 : Int32), g)
  else
    Option.bind (mX8_copies g (0 : Int32) (200 : Int32)) fun v3 =>
    Option.bind (whO (mX8_warmths_l22 j) FU ((0 : Int32), (0 : Int32), v3)) fun e16 =>
    some (e16.1, e16.2.2)
def mX8_shiftsNow_l49 (s19 : Int32 × Int32 × GS) (s30 : Int32 × GS) : Option ((Int32 × GS) ⊕ (Int32 × GS)) :=
  Option.bind (mX8_longOn s30.2 (0 : Int32)) fun v31 =>
  if v31 ≤ s30.1 then
    some (.inr (s30.1, s30.2))
  else
    Option.bind (mX8_frankOn s30.2 (200 : Int32) s30.1) fun v33 =>
    Option.bind (ast 72 (s30.2.1 18) (((12 : Int32) * s19.2.1) + s30.1) v33) fun f34 =>
    some (.inl ((s30.1 + (1 : Int32)), (sA s30.2 18 f34)))
def mX8_shiftsNow_l12 (s19 : Int32 × Int32 × GS) : Option ((Int32 × Int32 × GS) ⊕ (Int32 × Int32 × GS)) :=
  if (6 : Int32) ≤ s19.2.1 then
    some (.inr (s19.1, s19.2.1, s19.2.2))
  else
    Option.bind (ast 240 (s19.2.2.1 0) (214 : Int32) s19.2.1) fun f21 =>
    Option.bind (mX8_isAsSeen (sA s19.2.2 0 f21) (200 : Int32)) fun v22 =>
    Option.bind (
      if v22 = 0 then
        some (0 : Int32)
      else
        some ((1 : Int32) <<< (s19.2.1 &&& 31))) fun (v24 : Int32) =>
    Option.bind (whO (mX8_shiftsNow_l49 s19) FU ((0 : Int32), (sA s19.2.2 0 f21))) fun e35 =>
    some (.inl ((s19.1 ||| v24), (s19.2.1 + (1 : Int32)), e35.2))
def mX8_shiftsNow (g : GS) : Option (Int32 × GS) :=
  Option.bind (mX8_copies g (0 : Int32) (200 : Int32)) fun v1 =>
  Option.bind (whO (mX8_shiftsNow_l12) FU ((0 : Int32), (0 : Int32), v1)) fun e36 =>
  some (e36.1, e36.2.2)
def mX8_shifts (g : GS) : Option (Int32 × GS) :=
  Option.bind (mX8_shiftsNow g) fun v1 =>
  some (v1.1, v1.2)
def mX8_ask_l22 (v3 : Int32 × GS) (s4 : Int32 × Int32) : Option ((Int32 × Int32) ⊕ (Int32 × Int32)) :=
  if (6 : Int32) ≤ s4.2 then
    some (.inr (s4.1, s4.2))
  else
    some (.inl ((s4.1 + ((v3.1 >>> (s4.2 &&& 31)) &&& (1 : Int32))), (s4.2 + (1 : Int32))))
def mX8_ask_l80 (v3 : Int32 × GS) (s7 : Int32 × Int32 × Int32) (s10 : Int32 × Int32) (s12 : Int32 × Int32) : Option ((Int32 × Int32) ⊕ (Int32 × Int32)) :=
  if (6 : Int32) ≤ s12.2 then
    some (.inr (s12.1, s12.2))
  else
    if ((v3.1 >>> (s10.2 &&& 31)) &&& (1 : Int32)) = (1 : Int32) then
      Option.bind (
        if ((v3.1 >>> (s12.2 &&& 31)) &&& (1 : Int32)) = (1 : Int32) then
          Option.bind (ald 72 (v3.2.1 18) (((12 : Int32) * s10.2) + s7.2.2)) fun v16 =>
          Option.bind (ald 72 (v3.2.1 18) (((12 : Int32) * s12.2) + s7.2.2)) fun v17 =>
          if v16 = v17 then
            some (1 : Int32)
          else
            some (0 : Int32)
        else
          some (0 : Int32)) fun (v19 : Int32) =>
      some (.inl ((s12.1 + v19), (s12.2 + (1 : Int32))))
    else
      some (.inr (s12.1, s12.2))
def mX8_ask_l67 (v3 : Int32 × GS) (s7 : Int32 × Int32 × Int32) (s10 : Int32 × Int32) : Option ((Int32 × Int32) ⊕ (Int32 × Int32)) :=
  if (6 : Int32) ≤ s10.2 then
    some (.inr (s10.1, s10.2))
  else
    Option.bind (whO (mX8_ask_l80 v3 s7 s10) FU ((0 : Int32), (0 : Int32))) fun e20 =>
    Option.bind (
      if e20.1 ≤ s10.1 then
        some s10.1
      else
        some e20.1) fun (v22 : Int32) =>
    some (.inl (v22, (s10.2 + (1 : Int32))))
def mX8_ask_l51 (v3 : Int32 × GS) (s7 : Int32 × Int32 × Int32) : Option ((Int32 × Int32 × Int32) ⊕ (Int32 × Int32 × Int32)) :=
  Option.bind (mX8_longOn v3.2 (0 : Int32)) fun v8 =>
  if v8 ≤ s7.2.2 then
    some (.inr (s7.1, s7.2.1, s7.2.2))
  else
    Option.bind (whO (mX8_ask_l67 v3 s7) FU ((0 : Int32), (0 : Int32))) fun e23 =>
    Option.bind (
      if s7.1 ≤ e23.1 then
        some s7.2.1
      else
        some s7.2.2) fun (v25 : Int32) =>
    Option.bind (
      if s7.1 ≤ e23.1 then
        some s7.1
      else
        some e23.1) fun (v27 : Int32) =>
    some (.inl (v27, v25, (s7.2.2 + (1 : Int32))))
def mX8_ask (g : GS) (w : Int32) : Option (Int32 × GS) :=
  Option.bind (mX8_in w.toInt64 (0 : Int64) (1 : Int64)) fun v1 =>
  if v1 = 0 then
    some ((-1 : Int32), g)
  else
    Option.bind (mX8_shiftsNow g) fun v3 =>
    Option.bind (whO (mX8_ask_l22 v3) FU ((0 : Int32), (0 : Int32))) fun e6 =>
    Option.bind (whO (mX8_ask_l51 v3) FU (e6.1, (-4 : Int32), (0 : Int32))) fun e28 =>
    Option.bind (
      if e28.2.1 = (-4 : Int32) then
        some (.inl ())
      else
        if w = 0 then
          some (.inl ())
        else
          some (.inr (e28.1, v3.2))) fun (v31 : (Unit) ⊕ (Int32 × GS)) => esc v31 fun t32 =>
    some (e28.2.1, v3.2)
def mX8_drift_l44 (n : Int32) (s15 : Int32 × Int32 × Int32 × Int32 × GS) : Option ((Int32 × Int32 × Int32 × Int32 × GS) ⊕ (Int32 × Int32 × Int32 × Int32 × GS)) :=
  if n ≤ s15.2.2.2.1 then
    some (.inr (s15.1, s15.2.1, s15.2.2.1, s15.2.2.2.1, s15.2.2.2.2))
  else
    Option.bind (irm ((((s15.1 * (1103515245 : Int32)) + (12345 : Int32)) >>> ((16 : Int32) &&& 31)) &&& (32767 : Int32)) (6 : Int32)) fun v17 =>
    Option.bind (ast 240 (s15.2.2.2.2.1 0) (174 : Int32) v17) fun f18 =>
    Option.bind (idv ((((s15.1 * (1103515245 : Int32)) + (12345 : Int32)) >>> ((16 : Int32) &&& 31)) &&& (32767 : Int32)) (8 : Int32)) fun v19 =>
    Option.bind (irm v19 (12 : Int32)) fun v20 =>
    Option.bind (ast 240 ((sA s15.2.2.2.2 0 f18).1 0) (175 : Int32) v20) fun f21 =>
    Option.bind (mX8_yearOn (sA (sA s15.2.2.2.2 0 f18) 0 f21) (160 : Int32)) fun v22 =>
    Option.bind (mX8_frankOfAll v22 (160 : Int32)) fun v23 =>
    some (.inl (((s15.1 * (1103515245 : Int32)) + (12345 : Int32)), (s15.2.1 + v23), v23, (s15.2.2.2.1 + (1 : Int32)), v22))
def mX8_drift (g : GS) (x : Int32) (n : Int32) (w : Int32) : Option (Int32 × GS) :=
  Option.bind (mX8_in n.toInt64 (1 : Int64) (60 : Int64)) fun v1 =>
  if v1 = 0 then
    some ((-1 : Int32), g)
  else
    Option.bind (mX8_in w.toInt64 (0 : Int64) (1 : Int64)) fun v3 =>
    if v3 = 0 then
      some ((-1 : Int32), g)
    else
      Option.bind (mX8_copies g (0 : Int32) (160 : Int32)) fun v5 =>
      Option.bind (whO (mX8_drift_l44 n) FU (x, (0 : Int32), (0 : Int32), (0 : Int32), v5)) fun e24 =>
      if w = 0 then
        some (e24.2.1, e24.2.2.2.2)
      else
        some (e24.2.2.1, e24.2.2.2.2)
def mX8_keep (g : GS) (r : Int32) : Option (Int32 × GS) :=
  Option.bind (mX8_in r.toInt64 (0 : Int64) (1 : Int64)) fun v1 =>
  if v1 = 0 then
    some ((-1 : Int32), g)
  else
    Option.bind (mX8_copies g (0 : Int32) ((40 : Int32) * (r + (1 : Int32)))) fun v3 =>
    Option.bind (ald 2 (v3.1 19) r) fun v4 =>
    Option.bind (
      if v4 = 0 then
        some (0 : Int32)
      else
        some (1 : Int32)) fun (v6 : Int32) =>
    Option.bind (ast 2 (v3.1 19) r (vp_nar .boolean (1 : Int32))) fun f7 =>
    some (v6, (sA v3 19 f7))
def mX8_back (g : GS) (r : Int32) : Option (Int32 × GS) :=
  Option.bind (mX8_in r.toInt64 (0 : Int64) (1 : Int64)) fun v1 =>
  if v1 = 0 then
    some ((-1 : Int32), g)
  else
    Option.bind (ald 2 (g.1 19) r) fun v3 =>
    if v3 = 0 then
      some ((-2 : Int32), g)
    else
      Option.bind (mX8_copies g ((40 : Int32) * (r + (1 : Int32))) (0 : Int32)) fun v5 =>
      Option.bind (ald 240 (v5.1 0) (18 : Int32)) fun v6 =>
      some (v6, v5)
def mX8_sheet_l56 (r : Int32) (s12 : Int32 × GS) : Option ((Int32 × GS) ⊕ (Int32 × GS)) :=
  if (40 : Int32) ≤ s12.1 then
    some (.inr (s12.1, s12.2))
  else
    Option.bind (ast 160 (s12.2.1 22) (((40 : Int32) * r) + s12.1) (0 : Int32)) fun f14 =>
    some (.inl ((s12.1 + (1 : Int32)), (sA s12.2 22 f14)))
def mX8_sheet (g : GS) (r : Int32) (i : Int32) (n : Int32) : Option (Int32 × GS) :=
  Option.bind (mX8_in r.toInt64 (0 : Int64) (3 : Int64)) fun v1 =>
  if v1 = 0 then
    some ((-1 : Int32), g)
  else
    Option.bind (mX8_in i.toInt64 (0 : Int64) (2 : Int64)) fun v3 =>
    if v3 = 0 then
      some ((-1 : Int32), g)
    else
      if n ≤ (40 : Int32) then
        if 0 ≤ n then
          Option.bind (ast 4 (g.1 20) r i) fun f7 =>
          Option.bind (ast 4 ((sA g 20 f7).1 21) r n) fun f8 =>
          Option.bind (whO (mX8_sheet_l56 r) FU ((0 : Int32), (sA (sA g 20 f7) 21 f8))) fun e15 =>
          some ((1 : Int32), e15.2)
        else
          some ((-14 : Int32), g)
      else
        some ((-1 : Int32), g)
def mX8_lay (g : GS) (r : Int32) (i : Int32) (x : Int32) : Option (Int32 × GS) :=
  Option.bind (mX8_in r.toInt64 (0 : Int64) (3 : Int64)) fun v1 =>
  if v1 = 0 then
    some ((-1 : Int32), g)
  else
    Option.bind (ald 4 (g.1 20) r) fun v3 =>
    if v3 = (-4 : Int32) then
      some ((-11 : Int32), g)
    else
      Option.bind (ald 4 (g.1 21) r) fun v5 =>
      Option.bind (mX8_in i.toInt64 (0 : Int64) (v5 - (1 : Int32)).toInt64) fun v6 =>
      if v6 = 0 then
        some ((-12 : Int32), g)
      else
        Option.bind (ald 4 (g.1 20) r) fun v8 =>
        if v8 = 0 then
          Option.bind (ast 160 (g.1 22) (((40 : Int32) * r) + i) ((x <<< ((24 : Int32) &&& 31)) >>> ((24 : Int32) &&& 31))) fun f15 =>
          some ((1 : Int32), (sA g 22 f15))
        else
          Option.bind (ald 4 (g.1 20) r) fun v10 =>
          if v10 = (1 : Int32) then
            Option.bind (ast 160 (g.1 22) (((40 : Int32) * r) + i) ((x <<< ((16 : Int32) &&& 31)) >>> ((16 : Int32) &&& 31))) fun f14 =>
            some ((1 : Int32), (sA g 22 f14))
          else
            Option.bind (ast 160 (g.1 22) (((40 : Int32) * r) + i) x) fun f13 =>
            some ((1 : Int32), (sA g 22 f13))
def mX8_read_l55 (r : Int32) (i : Int32) (j : Int32) (n : Int32) (s30 : Int32 × Int32 × Int32 × GS) : Option ((Int32 × Int32 × Int32 × GS) ⊕ ((Int32 × Int32 × Int32 × GS) ⊕ (Int32 × GS))) :=
  if ((2 : Int32) * n) ≤ s30.2.2.1 then
    some (.inr (.inl (s30.1, s30.2.1, s30.2.2.1, s30.2.2.2)))
  else
    if s30.1 = 0 then
      Option.bind (ald 4 (s30.2.2.2.1 20) r) fun v33 =>
      Option.bind (
        if v33 = (-4 : Int32) then
          some (1 : Int32)
        else
          Option.bind (ald 4 (s30.2.2.2.1 20) r) fun v35 =>
          if v35 = i then
            Option.bind (ald 4 (s30.2.2.2.1 21) r) fun v37 =>
            Option.bind (mX8_in (j.toInt64 + s30.2.2.1.toInt64) (0 : Int64) (v37 - (1 : Int32)).toInt64) fun v38 =>
            if v38 = 0 then
              some (2 : Int32)
            else
              some (0 : Int32)
          else
            some (3 : Int32)) fun (v40 : Int32) =>
      Option.bind (
        if v40 = 0 then
          Option.bind (irm s30.2.2.1 (2 : Int32)) fun v42 =>
          if v42 = (1 : Int32) then
            Option.bind (ald 160 (s30.2.2.2.1 22) (((((40 : Int32) * r) + j) + s30.2.2.1) - (1 : Int32))) fun v44 =>
            Option.bind (ald 160 (s30.2.2.2.1 22) ((((40 : Int32) * r) + j) + s30.2.2.1)) fun v45 =>
            Option.bind (mX8_prints s30.2.2.2 v44 v45) fun v46 =>
            if 0 ≤ v46.1 then
              some (.inl ((s30.2.1 + (1 : Int32)), v46.2))
            else
              Option.bind (mX8_copies v46.2 (120 : Int32) (0 : Int32)) fun v49 =>
              some (.inr (.inr (.inr (((-20 : Int32) - s30.2.1), v49))))
          else
            some (.inl (s30.2.1, s30.2.2.2))
        else
          some (.inl (s30.2.1, s30.2.2.2))) fun (v50 : (Int32 × GS) ⊕ ((Int32 × Int32 × Int32 × GS) ⊕ ((Int32 × Int32 × Int32 × GS) ⊕ (Int32 × GS)))) => esc v50 fun t51 =>
      some (.inl (v40, t51.1, (s30.2.2.1 + (1 : Int32)), t51.2))
    else
      some (.inr (.inl (s30.1, s30.2.1, s30.2.2.1, s30.2.2.2)))
def mX8_read (g : GS) (r : Int32) (i : Int32) (j : Int32) (n : Int32) : Option (Int32 × GS) :=
  Option.bind (mX8_in r.toInt64 (0 : Int64) (3 : Int64)) fun v1 =>
  if v1 = 0 then
    some ((-1 : Int32), g)
  else
    Option.bind (mX8_in i.toInt64 (0 : Int64) (2 : Int64)) fun v3 =>
    if v3 = 0 then
      some ((-1 : Int32), g)
    else
      Option.bind (mX8_in n.toInt64 (0 : Int64) (20 : Int64)) fun v5 =>
      if v5 = 0 then
        some ((-1 : Int32), g)
      else
        Option.bind (mX8_copies g (0 : Int32) (120 : Int32)) fun v7 =>
        Option.bind (whO (mX8_read_l55 r i j n) FU ((0 : Int32), (0 : Int32), (0 : Int32), v7)) fun e52 => esc e52 fun t53 =>
        some (t53.2.1, (sI t53.2.2.2 23 t53.1))
def mX8_torn (g : GS) : Option (Int32) :=
  some (g.2 23)
def mX8_count_l7 (g : GS) (s1 : Int32 × Int32) : Option ((Int32 × Int32) ⊕ (Int32 × Int32)) :=
  Option.bind (ald 240 (g.1 0) (12 : Int32)) fun v2 =>
  if v2 ≤ s1.2 then
    some (.inr (s1.1, s1.2))
  else
    Option.bind (ald 240 (g.1 0) ((6 : Int32) + s1.2)) fun v4 =>
    some (.inl ((s1.1 + v4), (s1.2 + (1 : Int32))))
def mX8_count_l41 (g : GS) (s6 : Int32 × Int32) : Option ((Int32 × Int32) ⊕ (Int32 × Int32)) :=
  Option.bind (mX8_longOn g (0 : Int32)) fun v7 =>
  if v7 ≤ s6.2 then
    some (.inr (s6.1, s6.2))
  else
    Option.bind (ald 240 (g.1 0) ((19 : Int32) + s6.2)) fun v9 =>
    some (.inl ((s6.1 + v9), (s6.2 + (1 : Int32))))
def mX8_count (g : GS) (w : Int32) : Option (Int32) :=
  Option.bind (whO (mX8_count_l7 g) FU ((0 : Int32), (0 : Int32))) fun e5 =>
  Option.bind (whO (mX8_count_l41 g) FU ((0 : Int32), (0 : Int32))) fun e10 =>
  if w = (0 : Int32) then
    some (g.2 17)
  else
  if w = (1 : Int32) then
    Option.bind (ald 2 (g.1 19) (0 : Int32)) fun v13 =>
    Option.bind (
      if v13 = 0 then
        some (0 : Int32)
      else
        some (1 : Int32)) fun (v15 : Int32) =>
    Option.bind (ald 2 (g.1 19) (1 : Int32)) fun v16 =>
    if v16 = 0 then
      some (v15 + (0 : Int32))
    else
      some (v15 + (1 : Int32))
  else
  if w = (2 : Int32) then
    some (g.2 4)
  else
  if w = (3 : Int32) then
    Option.bind (ald 4 (g.1 20) (0 : Int32)) fun v20 =>
    if v20 = (-4 : Int32) then
      some (-4 : Int32)
    else
      Option.bind (ald 4 (g.1 21) (0 : Int32)) fun v23 =>
      some v23
  else
  if w = (4 : Int32) then
    some e5.1
  else
  if w = (5 : Int32) then
    some e10.1
  else
    some (-1 : Int32)
def mX7_isNoPair (w : Int32) : Option (Int32) :=
  if w = 0 then
    some (0 : Int32)
  else
    if w = (1 : Int32) then
      some (0 : Int32)
    else
      some (1 : Int32)
def mX7_inLowestTerms_l9 (s1 : Int64 × Int64 × Int32) : Option ((Int64 × Int64 × Int32) ⊕ (Int64 × Int64 × Int32)) :=
  if (100 : Int32) ≤ s1.2.2 then
    some (.inr (s1.1, s1.2.1, s1.2.2))
  else
    if s1.2.1 = (0 : Int64) then
      some (.inr (s1.1, s1.2.1, s1.2.2))
    else
      Option.bind (lrm s1.1 s1.2.1) fun v4 =>
      some (.inl (s1.2.1, v4, (s1.2.2 + (1 : Int32))))
def mX7_inLowestTerms (x : Int64) (y : Int64) (w : Int32) : Option (Int64) :=
  Option.bind (whO (mX7_inLowestTerms_l9) FU (x, y, (0 : Int32))) fun e5 =>
  if (1 : Int64) ≤ e5.1 then
    if w = 0 then
      Option.bind (ldv x e5.1) fun v10 =>
      some v10
    else
      Option.bind (ldv y e5.1) fun v9 =>
      some v9
  else
    some (-1 : Int64)
def mX7_end (rd : GS) (n : Int32) : Option (Int32 × GS) :=
  if n < 0 then
    some ((-1 : Int32), rd)
  else
    if n ≤ (rd.2 2) then
      some ((rd.2 2), (sI rd 2 n))
    else
      some ((-1 : Int32), rd)
def mX7_fault (rd : GS) : Option (Int32) :=
  some (rd.2 3)
def mX7_rule (h : GS) (n : Int32) : Option (Int32) :=
  if n = (0 : Int32) then
    some (h.2 5)
  else
  if n = (1 : Int32) then
    some (h.2 6)
  else
  if n = (2 : Int32) then
    some (h.2 7)
  else
  if n = (3 : Int32) then
    some (h.2 8)
  else
  if n = (4 : Int32) then
    some (h.2 9)
  else
  if n = (5 : Int32) then
    some (h.2 10)
  else
  if n = (6 : Int32) then
    some (h.2 11)
  else
  if n = (7 : Int32) then
    Option.bind (mX0_frankOfAll h) fun v18 =>
    some v18
  else
  if n = (8 : Int32) then
    some (h.2 12)
  else
    some (-1 : Int32)
def mX7_block (h : GS) (j : Int32) (n : Int32) : Option (Int32) :=
  Option.bind (mX0_hasBlock h j) fun v1 =>
  if v1 = 0 then
    some (-1 : Int32)
  else
    if n = (0 : Int32) then
      Option.bind (ald 6 (h.1 0) j) fun v4 =>
      some v4
    else
    if n = (1 : Int32) then
      Option.bind (ald 6 (h.1 1) j) fun v6 =>
      some v6
    else
    if n = (2 : Int32) then
      Option.bind (mX0_placesOf h j) fun v8 =>
      some v8
    else
    if n = (3 : Int32) then
      Option.bind (mX0_placesOf h j) fun v10 =>
      Option.bind (mX0_frankOf h v10) fun v11 =>
      some v11
    else
      some (-1 : Int32)
def mX7_place (h : GS) (i : Int32) (n : Int32) : Option (Int32) :=
  Option.bind (mX0_hasPlace h i) fun v1 =>
  if v1 = 0 then
    some (-1 : Int32)
  else
    if n = (0 : Int32) then
      Option.bind (mX0_whoAt h i) fun v4 =>
      some v4
    else
    if n = (1 : Int32) then
      Option.bind (ald 12 (h.1 2) i) fun v6 =>
      some v6
    else
    if n = (2 : Int32) then
      Option.bind (mX0_frankAt h i) fun v8 =>
      some v8
    else
      some (-1 : Int32)
def mX7_roll (h : GS) (r : Int32) (n : Int32) : Option (Int32) :=
  Option.bind (mX0_hasRoll h r) fun v1 =>
  if v1 = 0 then
    some (-1 : Int32)
  else
    if n = (0 : Int32) then
      Option.bind (ald 4 (h.1 3) r) fun v4 =>
      some v4
    else
    if n = (1 : Int32) then
      Option.bind (ald 4 (h.1 4) r) fun v6 =>
      some v6
    else
      some (-1 : Int32)
def mX7_alter (h : GS) (j : Int32) (n : Int32) (x : Int32) : Option (Int32 × GS) :=
  Option.bind (mX0_hasBlock h j) fun v1 =>
  if v1 = 0 then
    some ((-1 : Int32), h)
  else
    if 0 ≤ x then
      if n = 0 then
        if (4 : Int32) ≤ x then
          if n = (1 : Int32) then
            if (10 : Int32) ≤ x then
              some ((-1 : Int32), h)
            else
              Option.bind (ald 6 (h.1 1) j) fun v12 =>
              Option.bind (ast 6 (h.1 1) j x) fun f13 =>
              some (v12, (sA h 1 f13))
          else
            some ((-1 : Int32), h)
        else
          Option.bind (ald 6 (h.1 0) j) fun v14 =>
          Option.bind (ast 6 (h.1 0) j x) fun f15 =>
          some (v14, (sA h 0 f15))
      else
        if n = (1 : Int32) then
          if (10 : Int32) ≤ x then
            some ((-1 : Int32), h)
          else
            Option.bind (ald 6 (h.1 1) j) fun v7 =>
            Option.bind (ast 6 (h.1 1) j x) fun f8 =>
            some (v7, (sA h 1 f8))
        else
          some ((-1 : Int32), h)
    else
      some ((-1 : Int32), h)
def mX7_set (h : GS) (n : Int32) (x : Int32) : Option (Int32 × GS) :=
  if n = 0 then
    if x < (1 : Int32) then
      if n = (1 : Int32) then
        if x < 0 then
          if n = (2 : Int32) then
            if x < 0 then
              if n = (3 : Int32) then
                if x < 0 then
                  some ((-1 : Int32), h)
                else
                  if (12 : Int32) ≤ x then
                    some ((-1 : Int32), h)
                  else
                    some ((h.2 9), (sI h 9 x))
              else
                some ((-1 : Int32), h)
            else
              if (12 : Int32) ≤ x then
                if n = (3 : Int32) then
                  if x < 0 then
                    some ((-1 : Int32), h)
                  else
                    if (12 : Int32) ≤ x then
                      some ((-1 : Int32), h)
                    else
                      some ((h.2 9), (sI h 9 x))
                else
                  some ((-1 : Int32), h)
              else
                some ((h.2 8), (sI h 8 x))
          else
            if n = (3 : Int32) then
              if x < 0 then
                some ((-1 : Int32), h)
              else
                if (12 : Int32) ≤ x then
                  some ((-1 : Int32), h)
                else
                  some ((h.2 9), (sI h 9 x))
            else
              some ((-1 : Int32), h)
        else
          if (6 : Int32) ≤ x then
            if n = (2 : Int32) then
              if x < 0 then
                if n = (3 : Int32) then
                  if x < 0 then
                    some ((-1 : Int32), h)
                  else
                    if (12 : Int32) ≤ x then
                      some ((-1 : Int32), h)
                    else
                      some ((h.2 9), (sI h 9 x))
                else
                  some ((-1 : Int32), h)
              else
                if (12 : Int32) ≤ x then
                  if n = (3 : Int32) then
                    if x < 0 then
                      some ((-1 : Int32), h)
                    else
                      if (12 : Int32) ≤ x then
                        some ((-1 : Int32), h)
                      else
                        some ((h.2 9), (sI h 9 x))
                  else
                    some ((-1 : Int32), h)
                else
                  some ((h.2 8), (sI h 8 x))
            else
              if n = (3 : Int32) then
                if x < 0 then
                  some ((-1 : Int32), h)
                else
                  if (12 : Int32) ≤ x then
                    some ((-1 : Int32), h)
                  else
                    some ((h.2 9), (sI h 9 x))
              else
                some ((-1 : Int32), h)
          else
            some ((h.2 7), (sI h 7 x))
      else
        if n = (2 : Int32) then
          if x < 0 then
            if n = (3 : Int32) then
              if x < 0 then
                some ((-1 : Int32), h)
              else
                if (12 : Int32) ≤ x then
                  some ((-1 : Int32), h)
                else
                  some ((h.2 9), (sI h 9 x))
            else
              some ((-1 : Int32), h)
          else
            if (12 : Int32) ≤ x then
              if n = (3 : Int32) then
                if x < 0 then
                  some ((-1 : Int32), h)
                else
                  if (12 : Int32) ≤ x then
                    some ((-1 : Int32), h)
                  else
                    some ((h.2 9), (sI h 9 x))
              else
                some ((-1 : Int32), h)
            else
              some ((h.2 8), (sI h 8 x))
        else
          if n = (3 : Int32) then
            if x < 0 then
              some ((-1 : Int32), h)
            else
              if (12 : Int32) ≤ x then
                some ((-1 : Int32), h)
              else
                some ((h.2 9), (sI h 9 x))
          else
            some ((-1 : Int32), h)
    else
      if (12 : Int32) < x then
        if n = (1 : Int32) then
          if x < 0 then
            if n = (2 : Int32) then
              if x < 0 then
                if n = (3 : Int32) then
                  if x < 0 then
                    some ((-1 : Int32), h)
                  else
                    if (12 : Int32) ≤ x then
                      some ((-1 : Int32), h)
                    else
                      some ((h.2 9), (sI h 9 x))
                else
                  some ((-1 : Int32), h)
              else
                if (12 : Int32) ≤ x then
                  if n = (3 : Int32) then
                    if x < 0 then
                      some ((-1 : Int32), h)
                    else
                      if (12 : Int32) ≤ x then
                        some ((-1 : Int32), h)
                      else
                        some ((h.2 9), (sI h 9 x))
                  else
                    some ((-1 : Int32), h)
                else
                  some ((h.2 8), (sI h 8 x))
            else
              if n = (3 : Int32) then
                if x < 0 then
                  some ((-1 : Int32), h)
                else
                  if (12 : Int32) ≤ x then
                    some ((-1 : Int32), h)
                  else
                    some ((h.2 9), (sI h 9 x))
              else
                some ((-1 : Int32), h)
          else
            if (6 : Int32) ≤ x then
              if n = (2 : Int32) then
                if x < 0 then
                  if n = (3 : Int32) then
                    if x < 0 then
                      some ((-1 : Int32), h)
                    else
                      if (12 : Int32) ≤ x then
                        some ((-1 : Int32), h)
                      else
                        some ((h.2 9), (sI h 9 x))
                  else
                    some ((-1 : Int32), h)
                else
                  if (12 : Int32) ≤ x then
                    if n = (3 : Int32) then
                      if x < 0 then
                        some ((-1 : Int32), h)
                      else
                        if (12 : Int32) ≤ x then
                          some ((-1 : Int32), h)
                        else
                          some ((h.2 9), (sI h 9 x))
                    else
                      some ((-1 : Int32), h)
                  else
                    some ((h.2 8), (sI h 8 x))
              else
                if n = (3 : Int32) then
                  if x < 0 then
                    some ((-1 : Int32), h)
                  else
                    if (12 : Int32) ≤ x then
                      some ((-1 : Int32), h)
                    else
                      some ((h.2 9), (sI h 9 x))
                else
                  some ((-1 : Int32), h)
            else
              some ((h.2 7), (sI h 7 x))
        else
          if n = (2 : Int32) then
            if x < 0 then
              if n = (3 : Int32) then
                if x < 0 then
                  some ((-1 : Int32), h)
                else
                  if (12 : Int32) ≤ x then
                    some ((-1 : Int32), h)
                  else
                    some ((h.2 9), (sI h 9 x))
              else
                some ((-1 : Int32), h)
            else
              if (12 : Int32) ≤ x then
                if n = (3 : Int32) then
                  if x < 0 then
                    some ((-1 : Int32), h)
                  else
                    if (12 : Int32) ≤ x then
                      some ((-1 : Int32), h)
                    else
                      some ((h.2 9), (sI h 9 x))
                else
                  some ((-1 : Int32), h)
              else
                some ((h.2 8), (sI h 8 x))
          else
            if n = (3 : Int32) then
              if x < 0 then
                some ((-1 : Int32), h)
              else
                if (12 : Int32) ≤ x then
                  some ((-1 : Int32), h)
                else
                  some ((h.2 9), (sI h 9 x))
            else
              some ((-1 : Int32), h)
      else
        some ((h.2 6), (sI h 6 x))
  else
    if n = (1 : Int32) then
      if x < 0 then
        if n = (2 : Int32) then
          if x < 0 then
            if n = (3 : Int32) then
              if x < 0 then
                some ((-1 : Int32), h)
              else
                if (12 : Int32) ≤ x then
                  some ((-1 : Int32), h)
                else
                  some ((h.2 9), (sI h 9 x))
            else
              some ((-1 : Int32), h)
          else
            if (12 : Int32) ≤ x then
              if n = (3 : Int32) then
                if x < 0 then
                  some ((-1 : Int32), h)
                else
                  if (12 : Int32) ≤ x then
                    some ((-1 : Int32), h)
                  else
                    some ((h.2 9), (sI h 9 x))
              else
                some ((-1 : Int32), h)
            else
              some ((h.2 8), (sI h 8 x))
        else
          if n = (3 : Int32) then
            if x < 0 then
              some ((-1 : Int32), h)
            else
              if (12 : Int32) ≤ x then
                some ((-1 : Int32), h)
              else
                some ((h.2 9), (sI h 9 x))
          else
            some ((-1 : Int32), h)
      else
        if (6 : Int32) ≤ x then
          if n = (2 : Int32) then
            if x < 0 then
              if n = (3 : Int32) then
                if x < 0 then
                  some ((-1 : Int32), h)
                else
                  if (12 : Int32) ≤ x then
                    some ((-1 : Int32), h)
                  else
                    some ((h.2 9), (sI h 9 x))
              else
                some ((-1 : Int32), h)
            else
              if (12 : Int32) ≤ x then
                if n = (3 : Int32) then
                  if x < 0 then
                    some ((-1 : Int32), h)
                  else
                    if (12 : Int32) ≤ x then
                      some ((-1 : Int32), h)
                    else
                      some ((h.2 9), (sI h 9 x))
                else
                  some ((-1 : Int32), h)
              else
                some ((h.2 8), (sI h 8 x))
          else
            if n = (3 : Int32) then
              if x < 0 then
                some ((-1 : Int32), h)
              else
                if (12 : Int32) ≤ x then
                  some ((-1 : Int32), h)
                else
                  some ((h.2 9), (sI h 9 x))
            else
              some ((-1 : Int32), h)
        else
          some ((h.2 7), (sI h 7 x))
    else
      if n = (2 : Int32) then
        if x < 0 then
          if n = (3 : Int32) then
            if x < 0 then
              some ((-1 : Int32), h)
            else
              if (12 : Int32) ≤ x then
                some ((-1 : Int32), h)
              else
                some ((h.2 9), (sI h 9 x))
          else
            some ((-1 : Int32), h)
        else
          if (12 : Int32) ≤ x then
            if n = (3 : Int32) then
              if x < 0 then
                some ((-1 : Int32), h)
              else
                if (12 : Int32) ≤ x then
                  some ((-1 : Int32), h)
                else
                  some ((h.2 9), (sI h 9 x))
            else
              some ((-1 : Int32), h)
          else
            some ((h.2 8), (sI h 8 x))
      else
        if n = (3 : Int32) then
          if x < 0 then
            some ((-1 : Int32), h)
          else
            if (12 : Int32) ≤ x then
              some ((-1 : Int32), h)
            else
              some ((h.2 9), (sI h 9 x))
        else
          some ((-1 : Int32), h)
def mX7_turn (h : GS) (i : Int32) : Option (Int32 × GS) :=
  Option.bind (
    if i < 0 then
      if i = (99 : Int32) then
        some (.inl ())
      else
        some (.inr ((-1 : Int32), h))
    else
      if i < (12 : Int32) then
        some (.inl ())
      else
        if i = (99 : Int32) then
          some (.inl ())
        else
          some (.inr ((-1 : Int32), h))) fun (v5 : (Unit) ⊕ (Int32 × GS)) => esc v5 fun t6 =>
  if i = (99 : Int32) then
    some ((h.2 10), (sI h 10 (-4 : Int32)))
  else
    some ((h.2 10), (sI h 10 i))
def mX7_paint (h : GS) (i : Int32) (x : Int32) : Option (Int32 × GS) :=
  Option.bind (mX0_hasPlace h i) fun v1 =>
  if v1 = 0 then
    some ((-1 : Int32), h)
  else
    if x < 0 then
      some ((-1 : Int32), h)
    else
      if x ≤ (99 : Int32) then
        Option.bind (ald 12 (h.1 2) i) fun v5 =>
        Option.bind (ast 12 (h.1 2) i x) fun f6 =>
        some (v5, (sA h 2 f6))
      else
        some ((-1 : Int32), h)
def mX7_print (h : GS) (i : Int32) (j : Int32) : Option (Int32 × GS) :=
  Option.bind (mX0_addBlock h i j) fun v1 =>
  some (v1.1, v1.2)
def mX7_stock (h : GS) (i : Int32) (j : Int32) : Option (Int32 × GS) :=
  Option.bind (mX0_addRoll h i j) fun v1 =>
  some (v1.1, v1.2)
def mX7_drop (h : GS) (n : Int32) : Option (Int32 × GS) :=
  if n < 0 then
    some ((-1 : Int32), h)
  else
    if n ≤ (h.2 12) then
      some ((h.2 12), (sI h 12 n))
    else
      some ((-1 : Int32), h)
def mX7_years (h : GS) (n : Int32) : Option (Int32 × GS) :=
  if n < 0 then
    some ((-1 : Int32), h)
  else
    if n ≤ (30 : Int32) then
      if ((h.2 11) + n) < (1000 : Int32) then
        Option.bind (mX0_pass h n) fun v4 =>
        Option.bind (mX0_frankOfAll v4) fun v5 =>
        some (v5, v4)
      else
        some ((-3 : Int32), h)
    else
      some ((-1 : Int32), h)
def mX7_stretch (h : GS) (n : Int32) (w : Int32) : Option (Int32) :=
  if n < (1 : Int32) then
    some (-1 : Int32)
  else
    if (h.2 6) < n then
      some (-1 : Int32)
    else
      Option.bind (mX7_isNoPair w) fun v3 =>
      if v3 = 0 then
        Option.bind (mX0_frankestFrom h n) fun v5 =>
        if w = 0 then
          some v5
        else
          Option.bind (mX0_frankFrom h v5 n) fun v7 =>
          some v7
      else
        some (-1 : Int32)
def mX7_period_l15 (h : GS) (s2 : Int32) : Option ((Int32) ⊕ ((Int32) ⊕ (Int32))) :=
  if (h.2 6) ≤ s2 then
    some (.inr (.inl s2))
  else
    Option.bind (mX0_repeatsBy h s2) fun v4 =>
    if v4 = 0 then
      some (.inl (s2 + (1 : Int32)))
    else
      some (.inr (.inr s2))
def mX7_period (h : GS) : Option (Int32) :=
  if (h.2 5) = 0 then
    some (-2 : Int32)
  else
    Option.bind (whO (mX7_period_l15 h) FU (1 : Int32)) fun e6 => esc e6 fun t7 =>
    some (h.2 6)
def mX7_areNoLamps (h : GS) (x : Int32) (i : Int32) (j : Int32) : Option (Int32) :=
  Option.bind (
    if x < 0 then
      some (.inl ())
    else
      if (10 : Int32) < x then
        some (.inl ())
      else
        Option.bind (mX0_hasPlace h i) fun v3 =>
        if v3 = 0 then
          some (.inl ())
        else
          Option.bind (mX0_hasPlace h j) fun v5 =>
          if v5 = 0 then
            some (.inl ())
          else
            if i ≤ j then
              some (.inr (0 : Int32))
            else
              some (.inl ())) fun (v8 : (Unit) ⊕ (Int32)) => esc v8 fun t9 =>
  some (1 : Int32)
def mX7_mean (h : GS) (x : Int32) (i : Int32) (j : Int32) (w : Int32) : Option (Int64) :=
  Option.bind (mX7_areNoLamps h x i j) fun v1 =>
  if v1 = 0 then
    Option.bind (mX7_isNoPair w) fun v3 =>
    if v3 = 0 then
      Option.bind (mX0_frankFrom h i ((j - i) + (1 : Int32))) fun v5 =>
      Option.bind (mX7_inLowestTerms (((10 : Int32) - x).toInt64 * v5.toInt64) (10 : Int64) w) fun v6 =>
      some v6
    else
      some (-1 : Int64)
  else
    some (-1 : Int64)
def mX7_runs (h : GS) (tr : GS) (n : Int32) (w : Int32) : Option (Int32 × GS) :=
  if n < 0 then
    some ((-1 : Int32), tr)
  else
    if (60 : Int32) < n then
      some ((-1 : Int32), tr)
    else
      if w < 0 then
        some ((-1 : Int32), tr)
      else
        if w ≤ (3 : Int32) then
          Option.bind (mX0_copy tr h) fun v5 =>
          Option.bind (mX0_pass v5 n) fun v6 =>
          if w = (0 : Int32) then
            Option.bind (mX0_frankOfAll v6) fun v8 =>
            some (v8, v6)
          else
          if w = (1 : Int32) then
            Option.bind (mX0_placesWithout v6) fun v10 =>
            some (v10, v6)
          else
          if w = (2 : Int32) then
            Option.bind (mX0_frankestFrom v6 (1 : Int32)) fun v12 =>
            some (v12, v6)
          else
            Option.bind (mX0_frankestFrom v6 (1 : Int32)) fun v13 =>
            Option.bind (mX0_frankAt v6 v13) fun v14 =>
            some (v14, v6)
        else
          some ((-1 : Int32), tr)
def mX7_ahead (h : GS) (tr : GS) (i : Int32) (n : Int32) : Option (Int32 × GS) :=
  Option.bind (mX0_hasPlace h i) fun v1 =>
  if v1 = 0 then
    some ((-1 : Int32), tr)
  else
    if n < 0 then
      some ((-1 : Int32), tr)
    else
      if n ≤ (60 : Int32) then
        Option.bind (mX0_copy tr h) fun v5 =>
        Option.bind (mX0_pass v5 n) fun v6 =>
        Option.bind (mX0_frankAt v6 i) fun v7 =>
        some (v7, v6)
      else
        some ((-1 : Int32), tr)
def mX7_fades_l26 (i : Int32) (s9 : Int32 × GS) : Option ((Int32 × GS) ⊕ ((Int32 × GS) ⊕ (Int32 × GS))) :=
  if (60 : Int32) < s9.1 then
    some (.inr (.inl (s9.1, s9.2)))
  else
    Option.bind (mX0_frankAt s9.2 i) fun v11 =>
    if v11 = 0 then
      some (.inr (.inr (s9.1, s9.2)))
    else
      Option.bind (mX0_pass s9.2 (1 : Int32)) fun v13 =>
      some (.inl ((s9.1 + (1 : Int32)), v13))
def mX7_fades (h : GS) (tr : GS) (i : Int32) : Option (Int32 × GS) :=
  Option.bind (mX0_hasPlace h i) fun v1 =>
  if v1 = 0 then
    some ((-1 : Int32), tr)
  else
    Option.bind (mX0_copy tr h) fun v3 =>
    Option.bind (whO (mX7_fades_l26 i) FU ((0 : Int32), v3)) fun e14 => esc e14 fun t15 =>
    some ((-4 : Int32), t15.2)
def mX7_hang_l27 (s9 : Int32 × Int32 × Int32 × GS) : Option ((Int32 × Int32 × Int32 × GS) ⊕ (Int32 × Int32 × Int32 × GS)) :=
  if (6 : Int32) ≤ s9.2.2.1 then
    some (.inr (s9.1, s9.2.1, s9.2.2.1, s9.2.2.2))
  else
    Option.bind (mX0_frankOfAll (sI s9.2.2.2 7 s9.2.2.1)) fun v11 =>
    Option.bind (
      if v11 ≤ s9.2.1 then
        some (s9.1, s9.2.1)
      else
        some (s9.2.2.1, v11)) fun (v13 : Int32 × Int32) =>
    some (.inl (v13.1, v13.2, (s9.2.2.1 + (1 : Int32)), (sI s9.2.2.2 7 s9.2.2.1)))
def mX7_hang (h : GS) (tr : GS) (w : Int32) : Option (Int32 × GS) :=
  Option.bind (mX7_isNoPair w) fun v1 =>
  if v1 = 0 then
    Option.bind (mX0_copy tr h) fun v3 =>
    Option.bind (whO (mX7_hang_l27) FU ((0 : Int32), (-1 : Int32), (0 : Int32), v3)) fun e14 =>
    if w = 0 then
      some (e14.1, e14.2.2.2)
    else
      some (e14.2.1, e14.2.2.2)
  else
    some ((-1 : Int32), tr)
def mX7_shade_l27 (h : GS) (n : Int32) (s12 : Int32 × Int32 × Int32 × GS) : Option ((Int32 × Int32 × Int32 × GS) ⊕ (Int32 × Int32 × Int32 × GS)) :=
  if (12 : Int32) ≤ s12.2.2.1 then
    some (.inr (s12.1, s12.2.1, s12.2.2.1, s12.2.2.2))
  else
    Option.bind (mX0_copy s12.2.2.2 h) fun v14 =>
    Option.bind (mX0_pass (sI v14 8 s12.2.2.1) n) fun v15 =>
    Option.bind (mX0_frankOfAll v15) fun v16 =>
    Option.bind (
      if v16 ≤ s12.2.1 then
        some (s12.1, s12.2.1)
      else
        some (s12.2.2.1, v16)) fun (v18 : Int32 × Int32) =>
    some (.inl (v18.1, v18.2, (s12.2.2.1 + (1 : Int32)), v15))
def mX7_shade (h : GS) (tr : GS) (n : Int32) (w : Int32) : Option (Int32 × GS) :=
  if n < 0 then
    some ((-1 : Int32), tr)
  else
    if (60 : Int32) < n then
      some ((-1 : Int32), tr)
    else
      Option.bind (mX7_isNoPair w) fun v3 =>
      if v3 = 0 then
        Option.bind (whO (mX7_shade_l27 h n) FU ((0 : Int32), (-1 : Int32), (0 : Int32), tr)) fun e19 =>
        if w = 0 then
          some (e19.1, e19.2.2.2)
        else
          some (e19.2.1, e19.2.2.2)
      else
        some ((-1 : Int32), tr)
def mX7_swap_l52 (h : GS) (s22 : Int32 × Int32 × Int32 × GS) (s31 : Int32 × Int32 × Int32 × GS) : Option ((Int32 × Int32 × Int32 × GS) ⊕ (Int32 × Int32 × Int32 × GS)) :=
  if (h.2 5) ≤ s31.2.2.1 then
    some (.inr (s31.1, s31.2.1, s31.2.2.1, s31.2.2.2))
  else
    Option.bind (mX0_exchange s31.2.2.2 s22.2.2.1 s31.2.2.1) fun v33 =>
    Option.bind (mX0_frankOfAll v33) fun v34 =>
    Option.bind (
      if v34 ≤ s31.2.1 then
        some (s31.1, s31.2.1)
      else
        some ((((10 : Int32) * s22.2.2.1) + s31.2.2.1), v34)) fun (v36 : Int32 × Int32) =>
    Option.bind (mX0_exchange v33 s22.2.2.1 s31.2.2.1) fun v37 =>
    some (.inl (v36.1, v36.2, (s31.2.2.1 + (1 : Int32)), v37))
def mX7_swap_l34 (h : GS) (s22 : Int32 × Int32 × Int32 × GS) : Option ((Int32 × Int32 × Int32 × GS) ⊕ (Int32 × Int32 × Int32 × GS)) :=
  if (h.2 5) ≤ s22.2.2.1 then
    some (.inr (s22.1, s22.2.1, s22.2.2.1, s22.2.2.2))
  else
    Option.bind (whO (mX7_swap_l52 h s22) FU (s22.1, s22.2.1, (s22.2.2.1 + (1 : Int32)), s22.2.2.2)) fun e38 =>
    some (.inl (e38.1, e38.2.1, (s22.2.2.1 + (1 : Int32)), e38.2.2.2))
def mX7_swap (h : GS) (tr : GS) (w : Int32) : Option (Int32 × GS) :=
  Option.bind (mX7_isNoPair w) fun v1 =>
  if v1 = 0 then
    Option.bind (mX0_copy tr h) fun v3 =>
    Option.bind (mX0_frankOfAll h) fun v4 =>
    Option.bind (whO (mX7_swap_l34 h) FU ((-4 : Int32), v4, (0 : Int32), v3)) fun e39 =>
    Option.bind (
      if e39.1 = (-4 : Int32) then
        some (.inl ())
      else
        if w = 0 then
          some (.inl ())
        else
          some (.inr (e39.2.1, e39.2.2.2))) fun (v42 : (Unit) ⊕ (Int32 × GS)) => esc v42 fun t43 =>
    some (e39.1, e39.2.2.2)
  else
    some ((-1 : Int32), tr)
def mX7_alike_l28 (h : GS) (s8 : Int32 × Int32 × GS) : Option ((Int32 × Int32 × GS) ⊕ (Int32 × Int32 × GS)) :=
  if (6 : Int32) ≤ s8.2.1 then
    some (.inr (s8.1, s8.2.1, s8.2.2))
  else
    Option.bind (mX0_looksLike (sI s8.2.2 7 s8.2.1) h) fun v10 =>
    Option.bind (
      if v10 = 0 then
        some s8.1
      else
        some (s8.1 + (1 : Int32))) fun (v12 : Int32) =>
    some (.inl (v12, (s8.2.1 + (1 : Int32)), (sI s8.2.2 7 s8.2.1)))
def mX7_alike (h : GS) (tr : GS) : Option (Int32 × GS) :=
  if (h.2 5) = 0 then
    some ((-2 : Int32), tr)
  else
    Option.bind (mX0_copy tr h) fun v2 =>
    Option.bind (whO (mX7_alike_l28 h) FU ((0 : Int32), (0 : Int32), v2)) fun e13 =>
    some (e13.1, e13.2.2)
def mX7_drift_l43 (n : Int32) (s13 : Int32 × Int32 × Int32 × Int32 × GS) : Option ((Int32 × Int32 × Int32 × Int32 × GS) ⊕ (Int32 × Int32 × Int32 × Int32 × GS)) :=
  if n ≤ s13.2.2.2.1 then
    some (.inr (s13.1, s13.2.1, s13.2.2.1, s13.2.2.2.1, s13.2.2.2.2))
  else
    Option.bind (irm ((((s13.1 * (1103515245 : Int32)) + (12345 : Int32)).toUInt32 >>> ((16 : Int32).toUInt32 &&& Int32.toUInt32 31)).toInt32 &&& (32767 : Int32)) (6 : Int32)) fun v15 =>
    Option.bind (idv ((((s13.1 * (1103515245 : Int32)) + (12345 : Int32)).toUInt32 >>> ((16 : Int32).toUInt32 &&& Int32.toUInt32 31)).toInt32 &&& (32767 : Int32)) (8 : Int32)) fun v16 =>
    Option.bind (irm v16 (12 : Int32)) fun v17 =>
    Option.bind (mX0_pass (sI (sI s13.2.2.2.2 7 v15) 8 v17) (1 : Int32)) fun v18 =>
    Option.bind (mX0_frankOfAll v18) fun v19 =>
    some (.inl (((s13.1 * (1103515245 : Int32)) + (12345 : Int32)), (s13.2.1 + v19), v19, (s13.2.2.2.1 + (1 : Int32)), v18))
def mX7_drift (h : GS) (tr : GS) (x : Int32) (n : Int32) (w : Int32) : Option (Int32 × GS) :=
  if n < (1 : Int32) then
    some ((-1 : Int32), tr)
  else
    if (60 : Int32) < n then
      some ((-1 : Int32), tr)
    else
      Option.bind (mX7_isNoPair w) fun v3 =>
      if v3 = 0 then
        Option.bind (mX0_copy tr h) fun v5 =>
        Option.bind (whO (mX7_drift_l43 n) FU (x, (0 : Int32), (0 : Int32), (0 : Int32), v5)) fun e20 =>
        if w = 0 then
          some (e20.2.1, e20.2.2.2.2)
        else
          some (e20.2.2.1, e20.2.2.2.2)
      else
        some ((-1 : Int32), tr)
def mX7_cover (h : GS) (pa : GS) (n : Int32) (w : Int32) : Option (Int32 × GS) :=
  if n < 0 then
    some ((-1 : Int32), pa)
  else
    if (60 : Int32) < n then
      some ((-1 : Int32), pa)
    else
      Option.bind (mX7_isNoPair w) fun v3 =>
      if v3 = 0 then
        Option.bind (
          if (h.2 12) = 0 then
            if n ≤ 0 then
              some (.inl ())
            else
              some (.inr ((-4 : Int32), pa))
          else
            some (.inl ())) fun (v7 : (Unit) ⊕ (Int32 × GS)) => esc v7 fun t8 =>
        Option.bind (mX4_reckon pa h (-4 : Int32)) fun v9 =>
        Option.bind (mX4_leastPrice v9 n) fun v10 =>
        if w = 0 then
          some (v10, v9)
        else
          Option.bind (mX4_leastLeft v9 n v10) fun v12 =>
          some (v12, v9)
      else
        some ((-1 : Int32), pa)
def mX7_most (h : GS) (pa : GS) (r : Int32) (n : Int32) : Option (Int32 × GS) :=
  Option.bind (mX0_hasRoll h r) fun v1 =>
  if v1 = 0 then
    some ((-1 : Int32), pa)
  else
    if n < 0 then
      some ((-1 : Int32), pa)
    else
      if n ≤ (60 : Int32) then
        Option.bind (mX4_reckon pa h r) fun v5 =>
        Option.bind (mX4_leastPrice v5 n) fun v6 =>
        Option.bind (mX4_mostChosen v5 n v6) fun v7 =>
        some (v7, v5)
      else
        some ((-1 : Int32), pa)
def mX7_luck (h : GS) (la : LmS) (x : Int32) (i : Int32) (j : Int32) (y : Int32) (w : Int32) : Option (Int64 × LmS) :=
  Option.bind (mX7_areNoLamps h x i j) fun v1 =>
  if v1 = 0 then
    if y < 0 then
      some ((-1 : Int64), la)
    else
      if (999 : Int32) < y then
        some ((-1 : Int64), la)
      else
        Option.bind (mX7_isNoPair w) fun v5 =>
        if v5 = 0 then
          Option.bind (mX2_reckon la h x i j) fun v7 =>
          Option.bind (mX2_oddsOf v7 y) fun v8 =>
          Option.bind (mX7_inLowestTerms v8 v7.2 w) fun v9 =>
          some (v9, v7)
        else
          some ((-1 : Int64), la)
  else
    some ((-1 : Int64), la)
def mX7_see (me : GS) (i : Int32) (x : Int32) : Option (Int32 × GS) :=
  if i < 0 then
    some ((-1 : Int32), me)
  else
    if (12 : Int32) ≤ i then
      some ((-1 : Int32), me)
    else
      if x < 0 then
        some ((-1 : Int32), me)
      else
        if x ≤ (99 : Int32) then
          Option.bind (mX3_add me i x) fun v5 =>
          if v5.1 = 0 then
            some ((-3 : Int32), v5.2)
          else
            some ((v5.2.2 2), v5.2)
        else
          some ((-1 : Int32), me)
def mX7_forget (me : GS) (n : Int32) : Option (Int32 × GS) :=
  if n < 0 then
    some ((-1 : Int32), me)
  else
    if n ≤ (me.2 2) then
      some ((me.2 2), (sI me 2 n))
    else
      some ((-1 : Int32), me)
def mX7_kinds_l28 (me : GS) (j : Int32) (s10 : Int32 × Int32 × GS) : Option ((Int32 × Int32 × GS) ⊕ (Int32 × Int32 × GS)) :=
  if (4 : Int32) ≤ s10.2.1 then
    some (.inr (s10.1, s10.2.1, s10.2.2))
  else
    Option.bind (ast 6 (s10.2.2.1 0) j s10.2.1) fun f12 =>
    Option.bind (mX3_fits me (sA s10.2.2 0 f12)) fun v13 =>
    Option.bind (
      if v13 = 0 then
        some s10.1
      else
        some (s10.1 ||| ((1 : Int32) <<< (s10.2.1 &&& 31)))) fun (v15 : Int32) =>
    some (.inl (v15, (s10.2.1 + (1 : Int32)), (sA s10.2.2 0 f12)))
def mX7_kinds (h : GS) (tr : GS) (me : GS) (j : Int32) : Option (Int32 × GS) :=
  Option.bind (mX0_hasBlock h j) fun v1 =>
  if v1 = 0 then
    some ((-1 : Int32), tr)
  else
    Option.bind (mX0_copy tr h) fun v3 =>
    Option.bind (whO (mX7_kinds_l28 me j) FU ((0 : Int32), (0 : Int32), v3)) fun e16 =>
    some (e16.1, e16.2.2)
def mX7_warmths_l28 (me : GS) (j : Int32) (s10 : Int32 × Int32 × GS) : Option ((Int32 × Int32 × GS) ⊕ (Int32 × Int32 × GS)) :=
  if (10 : Int32) ≤ s10.2.1 then
    some (.inr (s10.1, s10.2.1, s10.2.2))
  else
    Option.bind (ast 6 (s10.2.2.1 1) j s10.2.1) fun f12 =>
    Option.bind (mX3_fits me (sA s10.2.2 1 f12)) fun v13 =>
    Option.bind (
      if v13 = 0 then
        some s10.1
      else
        some (s10.1 ||| ((1 : Int32) <<< (s10.2.1 &&& 31)))) fun (v15 : Int32) =>
    some (.inl (v15, (s10.2.1 + (1 : Int32)), (sA s10.2.2 1 f12)))
def mX7_warmths (h : GS) (tr : GS) (me : GS) (j : Int32) : Option (Int32 × GS) :=
  Option.bind (mX0_hasBlock h j) fun v1 =>
  if v1 = 0 then
    some ((-1 : Int32), tr)
  else
    Option.bind (mX0_copy tr h) fun v3 =>
    Option.bind (whO (mX7_warmths_l28 me j) FU ((0 : Int32), (0 : Int32), v3)) fun e16 =>
    some (e16.1, e16.2.2)
def mX7_fittingShifts_l15 (me : GS) (s7 : Int32 × Int32 × GS) : Option ((Int32 × Int32 × GS) ⊕ (Int32 × Int32 × GS)) :=
  if (6 : Int32) ≤ s7.2.1 then
    some (.inr (s7.1, s7.2.1, s7.2.2))
  else
    Option.bind (mX3_fits me (sI s7.2.2 7 s7.2.1)) fun v9 =>
    Option.bind (
      if v9 = 0 then
        some s7.1
      else
        some (s7.1 ||| ((1 : Int32) <<< (s7.2.1 &&& 31)))) fun (v11 : Int32) =>
    some (.inl (v11, (s7.2.1 + (1 : Int32)), (sI s7.2.2 7 s7.2.1)))
def mX7_fittingShifts (h : GS) (tr : GS) (me : GS) : Option (Int32 × GS) :=
  Option.bind (mX0_copy tr h) fun v1 =>
  Option.bind (whO (mX7_fittingShifts_l15 me) FU ((0 : Int32), (0 : Int32), v1)) fun e12 =>
  some (e12.1, e12.2.2)
def mX7_shifts (h : GS) (tr : GS) (me : GS) : Option (Int32 × GS) :=
  Option.bind (mX7_fittingShifts h tr me) fun v1 =>
  some (v1.1, v1.2)
def mX7_frankByShift (tr : GS) (j : Int32) (i : Int32) : Option (Int32 × GS) :=
  Option.bind (mX0_frankAt (sI tr 7 j) i) fun v1 =>
  some (v1, (sI tr 7 j))
def mX7_leftAtWorst_l36 (n : Int32) (i : Int32) (v21 : Int32 × GS) (s28 : Int32 × Int32 × GS) : Option ((Int32 × Int32 × GS) ⊕ (Int32 × Int32 × GS)) :=
  if (6 : Int32) ≤ s28.2.1 then
    some (.inr (s28.1, s28.2.1, s28.2.2))
  else
    Option.bind (
      if ((n >>> (s28.2.1 &&& 31)) &&& (1 : Int32)) = 0 then
        some (s28.1, s28.2.2)
      else
        Option.bind (mX7_frankByShift s28.2.2 s28.2.1 i) fun v31 =>
        if v31.1 = v21.1 then
          some ((s28.1 + (1 : Int32)), v31.2)
        else
          some (s28.1, v31.2)) fun (v33 : Int32 × GS) =>
    some (.inl (v33.1, (s28.2.1 + (1 : Int32)), v33.2))
def mX7_leftAtWorst_l5 (n : Int32) (i : Int32) (s18 : Int32 × Int32 × GS) : Option ((Int32 × Int32 × GS) ⊕ (Int32 × Int32 × GS)) :=
  if (6 : Int32) ≤ s18.2.1 then
    some (.inr (s18.1, s18.2.1, s18.2.2))
  else
    if ((n >>> (s18.2.1 &&& 31)) &&& (1 : Int32)) = 0 then
      some (.inl (s18.1, (s18.2.1 + (1 : Int32)), s18.2.2))
    else
      Option.bind (mX7_frankByShift s18.2.2 s18.2.1 i) fun v21 =>
      Option.bind (whO (mX7_leftAtWorst_l36 n i v21) FU ((0 : Int32), (0 : Int32), v21.2)) fun e34 =>
      some (.inl ((if s18.1 < e34.1 then e34.1 else s18.1), (s18.2.1 + (1 : Int32)), e34.2.2))
def mX7_leftAtWorst (tr : GS) (n : Int32) (i : Int32) : Option (Int32 × GS) :=
  Option.bind (whO (mX7_leftAtWorst_l5 n i) FU ((0 : Int32), (0 : Int32), tr)) fun e35 =>
  some (e35.1, e35.2.2)
def mX7_ask_l26 (h : GS) (v3 : Int32 × GS) (s10 : Int32 × Int32 × Int32 × GS) : Option ((Int32 × Int32 × Int32 × GS) ⊕ (Int32 × Int32 × Int32 × GS)) :=
  if (h.2 6) ≤ s10.2.2.1 then
    some (.inr (s10.1, s10.2.1, s10.2.2.1, s10.2.2.2))
  else
    Option.bind (mX7_leftAtWorst s10.2.2.2 v3.1 s10.2.2.1) fun v12 =>
    Option.bind (
      if s10.2.1 ≤ v12.1 then
        some (s10.1, s10.2.1)
      else
        some (s10.2.2.1, v12.1)) fun (v14 : Int32 × Int32) =>
    some (.inl (v14.1, v14.2, (s10.2.2.1 + (1 : Int32)), v12.2))
def mX7_ask (h : GS) (tr : GS) (me : GS) (w : Int32) : Option (Int32 × GS) :=
  Option.bind (mX7_isNoPair w) fun v1 =>
  if v1 = 0 then
    Option.bind (mX7_fittingShifts h tr me) fun v3 =>
    Option.bind (mJ6_bitCount_0f7a4 v3.1) fun v4 =>
    Option.bind (whO (mX7_ask_l26 h v3) FU ((-4 : Int32), v4, (0 : Int32), v3.2)) fun e15 =>
    Option.bind (
      if e15.1 = (-4 : Int32) then
        some (.inl ())
      else
        if w = 0 then
          some (.inl ())
        else
          some (.inr (e15.2.1, e15.2.2.2))) fun (v18 : (Unit) ⊕ (Int32 × GS)) => esc v18 fun t19 =>
    some (e15.1, e15.2.2.2)
  else
    some ((-1 : Int32), tr)
def mX7_torn (ff : Int32) : Option (Int32) :=
  some ff
def mX7_keep (h : GS) (im : Int32) (ih : GS) (r : Int32) : Option (Int32 × Int32 × GS) :=
  if (r < 0 ∨ 2 ≤ r.toNatClampNeg) then
    some ((-1 : Int32), im, ih)
  else
    Option.bind (
      if im = 0 then
        some (0 : Int32)
      else
        some (1 : Int32)) fun (v3 : Int32) =>
    Option.bind (mX0_copy ih h) fun v4 =>
    some (v3, (1 : Int32), v4)
def mX7_back (h : GS) (im : Int32) (ih : GS) (r : Int32) : Option (Int32 × GS) :=
  if (r < 0 ∨ 2 ≤ r.toNatClampNeg) then
    some ((-1 : Int32), h)
  else
    if im = 0 then
      some ((-2 : Int32), h)
    else
      Option.bind (mX0_copy h ih) fun v3 =>
      some ((v3.2 11), v3)
def mX7_sheet (ro : GS) (r : Int32) (i : Int32) (n : Int32) : Option (Int32 × GS) :=
  if (r < 0 ∨ 4 ≤ r.toNatClampNeg) then
    some ((-1 : Int32), ro)
  else
    if i < 0 then
      some ((-1 : Int32), ro)
    else
      if (3 : Int32) ≤ i then
        some ((-1 : Int32), ro)
      else
        if n ≤ (40 : Int32) then
          if 0 ≤ n then
            Option.bind (mX6_renew ro i n) fun v6 =>
            some ((1 : Int32), v6)
          else
            some ((-14 : Int32), ro)
        else
          some ((-1 : Int32), ro)
def mX7_lay (ro : GS) (r : Int32) (i : Int32) (x : Int32) : Option (Int32 × GS) :=
  if (r < 0 ∨ 4 ≤ r.toNatClampNeg) then
    some ((-1 : Int32), ro)
  else
    Option.bind (mX6_faultAt ro (ro.2 1) i) fun v2 =>
    if v2 = 0 then
      Option.bind (mX6_write ro i x) fun v4 =>
      some ((1 : Int32), v4)
    else
      some (((-10 : Int32) - v2), ro)
def mX7_read_l55 (ff : Int32) (h : GS) (ro : GS) (i : Int32) (j : Int32) (n : Int32) (s18 : Int32 × Int32 × Int32 × GS) : Option ((Int32 × Int32 × Int32 × GS) ⊕ ((Int32 × Int32 × Int32 × GS) ⊕ (Int32 × Int32 × GS × GS))) :=
  if n ≤ s18.2.2.1 then
    some (.inr (.inl (s18.1, s18.2.1, s18.2.2.1, s18.2.2.2)))
  else
    if s18.1 = 0 then
      Option.bind (mX6_faultOfPair ro i (j + ((2 : Int32) * s18.2.2.1))) fun v21 =>
      Option.bind (
        if v21 = 0 then
          Option.bind (mX6_cellAt ro (j + ((2 : Int32) * s18.2.2.1))) fun v23 =>
          Option.bind (mX6_cellAt ro ((j + ((2 : Int32) * s18.2.2.1)) + (1 : Int32))) fun v24 =>
          Option.bind (mX0_addBlock s18.2.2.2 v23 v24) fun v25 =>
          if 0 ≤ v25.1 then
            some (.inl ((s18.2.1 + (1 : Int32)), v25.2))
          else
            some (.inr (.inr (.inr (((-20 : Int32) - s18.2.2.1), ff, h, v25.2))))
        else
          some (.inl (s18.2.1, s18.2.2.2))) fun (v27 : (Int32 × GS) ⊕ ((Int32 × Int32 × Int32 × GS) ⊕ ((Int32 × Int32 × Int32 × GS) ⊕ (Int32 × Int32 × GS × GS)))) => esc v27 fun t28 =>
      some (.inl (v21, t28.1, (s18.2.2.1 + (1 : Int32)), t28.2))
    else
      some (.inr (.inl (s18.1, s18.2.1, s18.2.2.1, s18.2.2.2)))
def mX7_read (ff : Int32) (h : GS) (tr : GS) (ro : GS) (r : Int32) (i : Int32) (j : Int32) (n : Int32) : Option (Int32 × Int32 × GS × GS) :=
  if (r < 0 ∨ 4 ≤ r.toNatClampNeg) then
    some ((-1 : Int32), ff, h, tr)
  else
    if i < 0 then
      some ((-1 : Int32), ff, h, tr)
    else
      if (3 : Int32) ≤ i then
        some ((-1 : Int32), ff, h, tr)
      else
        if n < 0 then
          some ((-1 : Int32), ff, h, tr)
        else
          if n ≤ (20 : Int32) then
            Option.bind (mX0_copy tr h) fun v6 =>
            Option.bind (whO (mX7_read_l55 ff h ro i j n) FU ((0 : Int32), (0 : Int32), (0 : Int32), v6)) fun e29 => esc e29 fun t30 =>
            Option.bind (mX0_copy h t30.2.2.2) fun v31 =>
            some (t30.2.1, t30.1, v31, t30.2.2.2)
          else
            some ((-1 : Int32), ff, h, tr)
def mX7_loseImages : Option (Int32 × Int32) :=
  some ((0 : Int32), (0 : Int32))
def mX7_imagesHeld (i0 : Int32) (i1 : Int32) : Option (Int32) :=
  Option.bind (
    if i0 = 0 then
      some (0 : Int32)
    else
      some ((0 : Int32) + (1 : Int32))) fun (v4 : Int32) =>
  Option.bind (
    if i1 = 0 then
      some v4
    else
      some (v4 + (1 : Int32))) fun (v8 : Int32) =>
  some v8
def mX7_cellsOfFirst (ro : GS) : Option (Int32) :=
  if (ro.2 1) = (-4 : Int32) then
    some (-4 : Int32)
  else
    some (ro.2 2)
def mX7_count (h : GS) (rd : GS) (me : GS) (i0 : Int32) (i1 : Int32) (ro : GS) (w : Int32) : Option (Int32) :=
  if w = (0 : Int32) then
    some (me.2 2)
  else
  if w = (1 : Int32) then
    Option.bind (mX7_imagesHeld i0 i1) fun v3 =>
    some v3
  else
  if w = (2 : Int32) then
    some (rd.2 2)
  else
  if w = (3 : Int32) then
    Option.bind (mX7_cellsOfFirst ro) fun v6 =>
    some v6
  else
  if w = (4 : Int32) then
    Option.bind (mX0_warmthOfAll h) fun v8 =>
    some v8
  else
  if w = (5 : Int32) then
    Option.bind (mX0_fadeOfAll h) fun v10 =>
    some v10
  else
    some (-1 : Int32)
def mX5_isLetter (x : Int32) : Option (Int32) :=
  if x < (97 : Int32) then
    some (0 : Int32)
  else
    if (122 : Int32) < x then
      some (0 : Int32)
    else
      some (1 : Int32)
def mX5_isFigure (x : Int32) : Option (Int32) :=
  if x < (48 : Int32) then
    some (0 : Int32)
  else
    if (57 : Int32) < x then
      some (0 : Int32)
    else
      some (1 : Int32)
def mX5_append (g : GS) (n : Int32) : Option (Int32 × GS) :=
  if (g.2 2) < 0 then
    some ((0 : Int32), g)
  else
    if (g.2 2) < (160 : Int32) then
      Option.bind (ast 160 (g.1 1) (g.2 2) (vp_nar .byte n.toInt8.toInt32)) fun f3 =>
      some ((1 : Int32), (sI (sA g 1 f3) 2 (((sA g 1 f3).2 2) + (1 : Int32))))
    else
      some ((0 : Int32), g)
def mX5_byteAt (g : GS) (i : Int32) : Option (Int32) :=
  if i < 0 then
    some (-4 : Int32)
  else
    if (g.2 2) ≤ i then
      some (-4 : Int32)
    else
      if (160 : Int32) ≤ i then
        some (-4 : Int32)
      else
        Option.bind (ald 160 (g.1 1) i) fun v4 =>
        some v4
def mX5_takeLetters_l0 (s6 : GS) : Option ((GS) ⊕ (GS)) :=
  if (s6.2 2) ≤ (s6.2 7) then
    some (.inr s6)
  else
    Option.bind (mX5_byteAt s6 (s6.2 7)) fun v8 =>
    Option.bind (mX5_isLetter v8) fun v9 =>
    if v9 = 0 then
      some (.inr s6)
    else
      some (.inl (sI s6 7 ((s6.2 7) + (1 : Int32))))
def mX5_takeLetters (g : GS) : Option (GS) :=
  Option.bind (whO (mX5_takeLetters_l0) FU g) fun e11 =>
  some (sI e11 5 (1 : Int32))
def mX5_takeFigures_l5 (s7 : GS) : Option ((GS) ⊕ (GS)) :=
  if (s7.2 2) ≤ (s7.2 7) then
    some (.inr s7)
  else
    Option.bind (mX5_byteAt s7 (s7.2 7)) fun v9 =>
    Option.bind (mX5_isFigure v9) fun v10 =>
    if v10 = 0 then
      some (.inr s7)
    else
      Option.bind (mX5_byteAt s7 (s7.2 7)) fun v12 =>
      some (.inl (sI (sI s7 8 ((((s7.2 8) * (10 : Int32)) + v12) - (48 : Int32))) 7 (((sI s7 8 ((((s7.2 8) * (10 : Int32)) + v12) - (48 : Int32))).2 7) + (1 : Int32))))
def mX5_takeFigures (g : GS) : Option (GS) :=
  Option.bind (whO (mX5_takeFigures_l5) FU (sI g 8 (0 : Int32))) fun e13 =>
  if (2 : Int32) < ((e13.2 7) - (e13.2 6)) then
    some (sI e13 5 (4 : Int32))
  else
    some (sI e13 5 (2 : Int32))
def mX5_nextToken_l8 (s5 : GS) : Option ((GS) ⊕ (GS)) :=
  if (s5.2 2) ≤ (s5.2 6) then
    some (.inr s5)
  else
    Option.bind (mX5_byteAt s5 (s5.2 6)) fun v7 =>
    if v7 = (32 : Int32) then
      some (.inl (sI s5 6 ((s5.2 6) + (1 : Int32))))
    else
      some (.inr s5)
def mX5_nextToken (g : GS) : Option (GS) :=
  Option.bind (whO (mX5_nextToken_l8) FU (sI g 6 (g.2 7))) fun e9 =>
  if ((sI e9 7 (e9.2 6)).2 6) < ((sI e9 7 (e9.2 6)).2 2) then
    Option.bind (mX5_byteAt (sI e9 7 (e9.2 6)) ((sI e9 7 (e9.2 6)).2 6)) fun v11 =>
    Option.bind (mX5_isLetter v11) fun v12 =>
    if v12 = 0 then
      Option.bind (mX5_byteAt (sI e9 7 (e9.2 6)) ((sI e9 7 (e9.2 6)).2 6)) fun v14 =>
      Option.bind (mX5_isFigure v14) fun v15 =>
      if v15 = 0 then
        Option.bind (mX5_byteAt (sI e9 7 (e9.2 6)) ((sI e9 7 (e9.2 6)).2 6)) fun v17 =>
        Option.bind (
          if v17 = (59 : Int32) then
            some (3 : Int32)
          else
            some (4 : Int32)) fun (v19 : Int32) =>
        some (sI (sI (sI e9 7 (e9.2 6)) 5 v19) 7 (((sI (sI e9 7 (e9.2 6)) 5 v19).2 6) + (1 : Int32)))
      else
        Option.bind (mX5_takeFigures (sI e9 7 (e9.2 6))) fun v20 =>
        some v20
    else
      Option.bind (mX5_takeLetters (sI e9 7 (e9.2 6))) fun v21 =>
      some v21
  else
    some (sI (sI e9 7 (e9.2 6)) 5 (0 : Int32))
def mX5_refuse (g : GS) (n : Int32) : Option (Int32 × GS) :=
  Option.bind (
    if (g.2 5) = (4 : Int32) then
      some (1 : Int32)
    else
      some n) fun (v2 : Int32) =>
  some ((0 : Int32), (sI (sI g 3 v2) 4 ((sI g 3 v2).2 6)))
def mX5_hasTwo (n : Int32) : Option (Int32) :=
  Option.bind (
    if n = (4 : Int32) then
      some (.inl ())
    else
      if n = (5 : Int32) then
        some (.inl ())
      else
        if n = (7 : Int32) then
          some (.inl ())
        else
          some (.inr (0 : Int32))) fun (v4 : (Unit) ⊕ (Int32)) => esc v4 fun t5 =>
  some (1 : Int32)
def mX5_isSecond (g : GS) (n : Int32) : Option (Int32) :=
  Option.bind (
    if n = (4 : Int32) then
      some (.inl ())
    else
      if n = (5 : Int32) then
        some (.inl ())
      else
        if n = (6 : Int32) then
          some (.inl ())
        else
          some (.inr (0 : Int32))) fun (v4 : (Unit) ⊕ (Int32)) => esc v4 fun t5 =>
  if (((g.2 9) >>> (n &&& 31)) &&& (1 : Int32)) = 0 then
    some (0 : Int32)
  else
    some (1 : Int32)
def mX5_takeNumber (g : GS) (i : Int32) (j : Int32) : Option (Int32 × GS) :=
  Option.bind (mX5_nextToken g) fun v1 =>
  if (v1.2 5) = (2 : Int32) then
    Option.bind (
      if (v1.2 8) < i then
        Option.bind (mX5_refuse v1 (3 : Int32)) fun v4 =>
        if v4.1 = 0 then
          some (.inr ((0 : Int32), v4.2))
        else
          some (.inl v4.2)
      else
        if (v1.2 8) ≤ j then
          some (.inl v1)
        else
          Option.bind (mX5_refuse v1 (3 : Int32)) fun v7 =>
          if v7.1 = 0 then
            some (.inr ((0 : Int32), v7.2))
          else
            some (.inl v7.2)) fun (v9 : (GS) ⊕ (Int32 × GS)) => esc v9 fun t10 =>
    some ((1 : Int32), t10)
  else
    Option.bind (mX5_refuse v1 (2 : Int32)) fun v11 =>
    Option.bind (rtZ v11.1) fun z5 =>
    some (z5, v11.2)
def mX5_isTooMany (t : GS) (n : Int32) : Option (Int32) :=
  Option.bind (
    if (4 : Int32) ≤ n then
      if n = (7 : Int32) then
        if (t.2 12) < (4 : Int32) then
          some (.inr (0 : Int32))
        else
          some (.inl ())
      else
        some (.inr (0 : Int32))
    else
      if (6 : Int32) ≤ (t.2 5) then
        some (.inl ())
      else
        if n = (7 : Int32) then
          if (t.2 12) < (4 : Int32) then
            some (.inr (0 : Int32))
          else
            some (.inl ())
        else
          some (.inr (0 : Int32))) fun (v7 : (Unit) ⊕ (Int32)) => esc v7 fun t8 =>
  some (1 : Int32)
def mX5_tell (g : GS) (t : GS) (n : Int32) (i : Int32) (j : Int32) : Option (GS × GS) :=
  if n = (4 : Int32) then
    some ((sI g 9 ((g.2 9) ||| ((1 : Int32) <<< (n &&& 31)))), (sI (sI t 6 i) 7 j))
  else
  if n = (5 : Int32) then
    some ((sI g 9 ((g.2 9) ||| ((1 : Int32) <<< (n &&& 31)))), (sI (sI t 8 i) 9 j))
  else
  if n = (6 : Int32) then
    some ((sI g 9 ((g.2 9) ||| ((1 : Int32) <<< (n &&& 31)))), (sI t 10 i))
  else
  if n = (7 : Int32) then
    Option.bind (mX0_addRoll t i j) fun v5 =>
    some ((sI g 9 ((g.2 9) ||| ((1 : Int32) <<< (n &&& 31)))), v5.2)
  else
    Option.bind (mX0_addBlock t n i) fun v6 =>
    some ((sI g 9 ((g.2 9) ||| ((1 : Int32) <<< (n &&& 31)))), v6.2)
def mX7_feed (rd : GS) (n : Int32) : Option (Int32 × GS) :=
  if n < 0 then
    some ((-1 : Int32), rd)
  else
    if n ≤ (127 : Int32) then
      Option.bind (mX5_append rd n) fun v3 =>
      if v3.1 = 0 then
        some ((-3 : Int32), v3.2)
      else
        some ((v3.2.2 2), v3.2)
    else
      some ((-1 : Int32), rd)
def txL : List Nat := [5, 8, 5, 5, 4, 6, 6, 4]
def txB : List (List Int32) := [[112, 108, 97, 105, 110], [99, 111, 110, 102, 105, 100, 101, 114], [99, 104, 105, 108, 100], [99, 108, 101, 114, 107], [119, 97, 108, 108], [119, 105, 110, 100, 111, 119], [117, 112, 115, 105, 100, 101], [114, 111, 108, 108]]
def tabL : List (List Int32) := [[0, 0, 0, 0, 1, 0, 0, 1], [9, 9, 9, 9, 12, 11, 11, 9], [0, 0, 0, 0, 0, 0, 0, 1], [0, 0, 0, 0, 5, 11, 0, 9]]
def tabF (k : Nat) : Nat → Int32 := fun j => (tabL.getD k []).getD j 0
def chv (i k : Nat) : Int32 := ((((txB.getD i []).getD k 0) &&& 255).toUInt32 % 65536).toInt32
def chO (i : Nat) (k : Int32) : Option Int32 := if k < 0 ∨ txL.getD i 0 ≤ k.toNatClampNeg then none else some (chv i k.toNatClampNeg)
def mX5_isWord_l24 (g : GS) (wi : Nat) (s2 : Int32) : Option ((Int32) ⊕ ((Int32) ⊕ (Int32))) :=
  if (nI (txL.getD wi 0)) ≤ s2 then
    some (.inr (.inl s2))
  else
    Option.bind (mX5_byteAt g ((g.2 6) + s2)) fun v4 =>
    Option.bind (chO wi s2) fun v5 =>
    if v4 = v5 then
      some (.inl (s2 + (1 : Int32)))
    else
      some (.inr (.inr (0 : Int32)))
def mX5_isWord (g : GS) (wi : Nat) : Option (Int32) :=
  if ((g.2 7) - (g.2 6)) = (nI (txL.getD wi 0)) then
    Option.bind (whO (mX5_isWord_l24 g wi) FU (0 : Int32)) fun e7 => esc e7 fun t8 =>
    some (1 : Int32)
  else
    some (0 : Int32)
def mX5_lineNamed (g : GS) : Option (Int32) :=
  Option.bind (mX5_isWord g 0) fun v1 =>
  if v1 = 0 then
    Option.bind (mX5_isWord g 1) fun v3 =>
    if v3 = 0 then
      Option.bind (mX5_isWord g 2) fun v5 =>
      if v5 = 0 then
        Option.bind (mX5_isWord g 3) fun v7 =>
        if v7 = 0 then
          Option.bind (mX5_isWord g 4) fun v9 =>
          if v9 = 0 then
            Option.bind (mX5_isWord g 5) fun v11 =>
            if v11 = 0 then
              Option.bind (mX5_isWord g 6) fun v13 =>
              if v13 = 0 then
                Option.bind (mX5_isWord g 7) fun v15 =>
                if v15 = 0 then
                  some (-4 : Int32)
                else
                  some (7 : Int32)
              else
                some (6 : Int32)
            else
              some (5 : Int32)
          else
            some (4 : Int32)
        else
          some (3 : Int32)
      else
        some (2 : Int32)
    else
      some (1 : Int32)
  else
    some (0 : Int32)
def mX5_takeLine (g : GS) (t : GS) : Option (Int32 × GS × GS) :=
  Option.bind (
    if (g.2 5) = (1 : Int32) then
      Option.bind (mX5_lineNamed g) fun v2 =>
      some v2
    else
      some (-4 : Int32)) fun (v3 : Int32) =>
  if v3 < 0 then
    Option.bind (mX5_refuse g (2 : Int32)) fun v5 =>
    Option.bind (rtZ v5.1) fun z6 =>
    some (z6, v5.2, t)
  else
    if v3 < (8 : Int32) then
      Option.bind (mX5_isSecond g v3) fun v7 =>
      if v7 = 0 then
        Option.bind (mX5_isTooMany t v3) fun v9 =>
        if v9 = 0 then
          Option.bind (ald 8 (tabF 0) v3) fun v11 =>
          Option.bind (ald 8 (tabF 1) v3) fun v12 =>
          Option.bind (mX5_takeNumber g v11 v12) fun v13 =>
          if v13.1 = 0 then
            some ((0 : Int32), v13.2, t)
          else
            Option.bind (mX5_hasTwo v3) fun v15 =>
            Option.bind (
              if v15 = 0 then
                some (.inl v13.2)
              else
                Option.bind (ald 8 (tabF 2) v3) fun v17 =>
                Option.bind (ald 8 (tabF 3) v3) fun v18 =>
                Option.bind (mX5_takeNumber v13.2 v17 v18) fun v19 =>
                if v19.1 = 0 then
                  some (.inr ((0 : Int32), v19.2, t))
                else
                  some (.inl v19.2)) fun (v21 : (GS) ⊕ (Int32 × GS × GS)) => esc v21 fun t22 =>
            Option.bind (mX5_nextToken t22) fun v23 =>
            if (v23.2 5) = (3 : Int32) then
              Option.bind (mX5_tell v23 t v3 (v13.2.2 8) (t22.2 8)) fun v25 =>
              some ((1 : Int32), v25.1, v25.2)
            else
              Option.bind (mX5_refuse v23 (2 : Int32)) fun v26 =>
              Option.bind (rtZ v26.1) fun z7 =>
              some (z7, v26.2, t)
        else
          Option.bind (mX5_refuse g (5 : Int32)) fun v27 =>
          Option.bind (rtZ v27.1) fun z8 =>
          some (z8, v27.2, t)
      else
        Option.bind (mX5_refuse g (4 : Int32)) fun v28 =>
        Option.bind (rtZ v28.1) fun z9 =>
        some (z9, v28.2, t)
    else
      Option.bind (mX5_refuse g (2 : Int32)) fun v29 =>
      Option.bind (rtZ v29.1) fun z10 =>
      some (z10, v29.2, t)
def mX5_takeAll_l31 (s8 : Int32 × Int32 × GS × GS) : Option ((Int32 × Int32 × GS × GS) ⊕ ((Int32 × Int32 × GS × GS) ⊕ (Int32 × GS × GS))) :=
  if (160 : Int32) ≤ s8.2.1 then
    some (.inr (.inl (s8.1, s8.2.1, s8.2.2.1, s8.2.2.2)))
  else
    Option.bind (mX5_nextToken s8.2.2.1) fun v10 =>
    if (v10.2 5) = 0 then
      some (.inr (.inr (s8.1, v10, s8.2.2.2)))
    else
      Option.bind (mX5_takeLine v10 s8.2.2.2) fun v12 =>
      if v12.1 = 0 then
        some (.inr (.inr (s8.1, v12.2.1, v12.2.2)))
      else
        some (.inl ((s8.1 + (1 : Int32)), (s8.2.1 + (1 : Int32)), v12.2.1, v12.2.2))
def mX5_takeAll (g : GS) (t : GS) : Option (Int32 × GS × GS) :=
  Option.bind (mX0_clear t) fun v1 =>
  Option.bind (whO (mX5_takeAll_l31) FU ((0 : Int32), (0 : Int32), (sI (sI (sI (sI g 3 (0 : Int32)) 4 (0 : Int32)) 7 (0 : Int32)) 9 (0 : Int32)), v1)) fun e14 => esc e14 fun t15 =>
  some (t15.1, t15.2.2.1, t15.2.2.2)
def mX7_text (h : GS) (rd : GS) (t : GS) (me : GS) (i0 : Int32) (i1 : Int32) : Option (Int32 × GS × GS × GS × GS × Int32 × Int32) :=
  Option.bind (mX5_takeAll rd t) fun v1 =>
  if ((sI v1.2.1 2 (0 : Int32)).2 3) = 0 then
    Option.bind (mX0_copy h v1.2.2) fun v3 =>
    Option.bind (mX7_loseImages ) fun v4 =>
    some (v1.1, v3, (sI v1.2.1 2 (0 : Int32)), v1.2.2, (sI me 2 (0 : Int32)), v4.1, v4.2)
  else
    some (((-10 : Int32) - ((sI v1.2.1 2 (0 : Int32)).2 4)), h, (sI v1.2.1 2 (0 : Int32)), v1.2.2, me, i0, i1)
def lf (L : List Int32) (k : Nat) : Nat → Int32 := fun j => if j < k then L.getD j 0 else 0
theorem lf_0 (L : List Int32) : lf L 0 = fun _ => 0 := by funext j; simp [lf]
def CUTS : List Int32 := [0, 5, 13, 18, 23, 27, 31, 37, 43]
def LETS : List Int32 := [112, 108, 97, 105, 110, 99, 111, 110, 102, 105, 100, 101, 114, 99, 104, 105, 108, 100, 99, 108, 101, 114, 107, 114, 111, 108, 108, 119, 97, 108, 108, 119, 105, 110, 100, 111, 119, 117, 112, 115, 105, 100, 101]
abbrev FS : Type := (Nat → GS) × (Nat → Int32) × LmS
