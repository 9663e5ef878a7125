def mX2_hangLamp_l4 (i : Int32) (n : Int32) (s9 : Int32 × LmS) : Option ((Int32 × LmS) ⊕ (Int32 × LmS)) :=
  if s9.1 < 0 then
    some (.inr (s9.1, s9.2))
  else
    Option.bind (
      if (s9.1 - i) < 0 then
        some (0 : Int64)
      else
        if (288 : Int32) < (s9.1 - i) then
          some (0 : Int64)
        else
          Option.bind (aldL 289 s9.2.1 (s9.1 - i)) fun v13 =>
          some (v13 * ((10 : Int32) - n).toInt64)) fun (v14 : Int64) =>
    Option.bind (aldL 289 s9.2.1 s9.1) fun v15 =>
    Option.bind (astL 289 s9.2.1 s9.1 ((v15 * n.toInt64) + v14)) fun f16 =>
    some (.inl ((s9.1 + (-1 : Int32)), (f16, s9.2.2)))

def mX2_hangLamp (u : LmS) (i : Int32) (n : Int32) : Option (LmS) :=
  Option.bind (whO (mX2_hangLamp_l4 i n) FU ((288 : Int32), u)) fun e17 =>
  some (e17.2.1, (e17.2.2 * (10 : Int64)))
abbrev rmX2_hangLamp : Room := { frames := 0, cells := 0, slots := 0, locals := 0 }
set_option maxHeartbeats 4000000 in
set_option maxRecDepth 100000 in
theorem k_X2_hangLamp (l : Launch) (D : va_G) (ca : Nat → ClassId) (ua : Nat → Nat) (u : LmS) (i : Int32) (n : Int32) (o : LmS) (hm : mX2_hangLamp u i n = some o) : KV l yX2_hangLamp wsX2_hangLamp rmX2_hangLamp D ca [.ref (ua 0), .int i, .int n] (cL ca ua u) (cL ca ua o) := by
  refine KV.of (cc := cX2_hangLamp) (n := 7) (plainFor_of_name (by decide)) rfl (Nat.le_of_ble_eq_true rfl) ?_
  intro p e s m below meth c A Z hx hb hml hts hown hA hK hP hD hS hret ls hl
  have hown : s.vm.findClass RX2 = some m.cls := hown
  have hl : lv_has ls 7 [(0, .ref (ua 0)), (1, .int i), (2, .int n)] := hl
  have inX2 : ∀ w ∈ wsX20, w ∈ wsX2_hangLamp := by decide +kernel
  have k1 := hts (.fieldLink RX2 11 "FriezeFolk$Lamps" "ways" "[J") (by decide +kernel)
  have k2 := hts (.fieldLink RX2 15 "FriezeFolk$Lamps" "whole" "J") (by decide +kernel)
  have k3 := hts (.constantLong RX2 35 (10 : Int64)) (by decide +kernel)
  unfold mX2_hangLamp at hm
  refine lv_sipush (v := (288 : Int32)) hx hb dX2_hangLamp_0 (by decide) ?_
  refine lv_istore_n (lv' := [(3, .int (288 : Int32)), (0, .ref (ua 0)), (1, .int i), (2, .int n)]) hx hb dX2_hangLamp_3 rfl hl (by decide) rfl (fun ls hl => ?_)
  obtain ⟨e17, w18, h19⟩ := obn hm
  clear hm
  have AF17 : ∀ (ls : Array Slot) (H : Heap) (locs : List Loc), lv_has ls 7 [(0, .ref (ua 0))] → va_P D vwCl (cL ca ua e17.2) H → va_D A (cL ca ua e17.2) → va_S A s.heap H locs → W p l e rmX2_hangLamp s m ([.ref (ua 0), .int i, .int n] : List Value).toArray below meth c H locs 0 0 Z (F0 m 69 ls []) := by
    intro ls H locs hl hP hD hS
    refine lv_aload_n hx hb dX2_hangLamp_69 rfl (lv_at hl 0 rfl) ?_
    refine lv_dup hx hb dX2_hangLamp_70 rfl ?_
    refine xget (ref := "FriezeFolk$Lamps") (C := RX2) (T := TX2) (N := 2) (ci := 2) (v := .long e17.2.2) hx hb hts inX2 hown hK hP 0 rfl rfl 1 (by decide) k2 rfl rfl dX2_hangLamp_71 ?_
    refine lv_ldc2 hx hb hown k3 dX2_hangLamp_74 ?_
    refine lv_lmul hx hb dX2_hangLamp_77 ?_
    refine xput (ref := "FriezeFolk$Lamps") (C := RX2) (T := TX2) (N := 2) (ci := 2) (v := .long (e17.2.2 * (10 : Int64))) (ty := .long) hx hb hts inX2 tyX2 tyX2_ok nmX2 hown hK hP hD hS 0 rfl rfl 1 (by decide) k2 rfl rfl (by decide +kernel) rfl rfl (Nat.le_of_ble_eq_true rfl) dX2_hangLamp_78 (wn := (cL ca ua (e17.2.1, (e17.2.2 * (10 : Int64))))) rfl (fun H locs hP hD hS => ?_)
    obtain rfl := Option.some.inj h19
    exact hret _ _ _ _ hP hD hS dX2_hangLamp_81
  refine whO_walk (I := fun s9 => ∀ (ls : Array Slot) (H : Heap) (locs : List Loc), lv_has ls 7 [(0, .ref (ua 0)), (1, .int i), (2, .int n), (3, .int s9.1)] → va_P D vwCl (cL ca ua s9.2) H → va_D A (cL ca ua s9.2) → va_S A s.heap H locs → W p l e rmX2_hangLamp s m ([.ref (ua 0), .int i, .int n] : List Value).toArray below meth c H locs 0 0 Z (F0 m 4 ls [])) ?_ _ _ w18 _ _ _ (lv_sub hl [1, 2, 3, 0] rfl) hP hD hS
  clear w18
  intro s9 o17 h20 hi17 ho17 ls H locs hl hP hD hS
  unfold mX2_hangLamp_l4 at h20
  refine lv_iload_n hx hb dX2_hangLamp_4 rfl (lv_at hl 3 rfl) ?_
  refine lv_if_lt (tgt := 69) hx hb dX2_hangLamp_5 (by decide) (fun c10 => ?_) (fun c10 => ?_)
  · skip
    replace h20 := (if_pos c10).symm.trans h20
    have h21 := ho17 _ (Option.some.inj h20).symm
    subst h21
    exact AF17 _ _ _ (lv_sub hl [0] rfl) hP hD hS
  · skip
    replace h20 := (if_neg c10).symm.trans h20
    refine lv_iload_n hx hb dX2_hangLamp_8 rfl (lv_at hl 3 rfl) ?_
    refine lv_iload_n hx hb dX2_hangLamp_9 rfl (lv_at hl 1 rfl) ?_
    refine lv_isub hx hb dX2_hangLamp_10 ?_
    refine lv_istore (lv' := [(4, .int (s9.1 - i)), (0, .ref (ua 0)), (1, .int i), (2, .int n), (3, .int s9.1)]) hx hb dX2_hangLamp_11 hl (by decide) rfl (fun ls hl => ?_)
    refine lv_iload hx hb dX2_hangLamp_13 (lv_at hl 0 rfl) ?_
    obtain ⟨v14, q22, h23⟩ := obn h20
    clear h20
    have J14 : ∀ (ls : Array Slot) (H : Heap) (locs : List Loc), lv_has ls 7 [(0, .ref (ua 0)), (1, .int i), (2, .int n), (3, .int s9.1)] → va_P D vwCl (cL ca ua s9.2) H → va_D A (cL ca ua s9.2) → va_S A s.heap H locs → W p l e rmX2_hangLamp s m ([.ref (ua 0), .int i, .int n] : List Value).toArray below meth c H locs 0 0 Z (F0 m 43 ls [.long v14]) := by
      intro ls H locs hl hP hD hS
      refine lv_lstore (lv' := [(5, .long v14), (0, .ref (ua 0)), (1, .int i), (2, .int n), (3, .int s9.1)]) hx hb dX2_hangLamp_43 hl (by decide) rfl (fun ls hl => ?_)
      refine lv_aload_n hx hb dX2_hangLamp_45 rfl (lv_at hl 1 rfl) ?_
      refine xget (ref := "FriezeFolk$Lamps") (C := RX2) (T := TX2) (N := 2) (ci := 2) (v := .ref (ua 1)) hx hb hts inX2 hown hK hP 0 rfl rfl 0 (by decide) k1 rfl rfl dX2_hangLamp_46 ?_
      refine lv_iload_n hx hb dX2_hangLamp_49 rfl (lv_at hl 4 rfl) ?_
      refine lv_aload_n hx hb dX2_hangLamp_50 rfl (lv_at hl 1 rfl) ?_
      refine xget (ref := "FriezeFolk$Lamps") (C := RX2) (T := TX2) (N := 2) (ci := 2) (v := .ref (ua 1)) hx hb hts inX2 hown hK hP 0 rfl rfl 0 (by decide) k1 rfl rfl dX2_hangLamp_51 ?_
      refine lv_iload_n hx hb dX2_hangLamp_54 rfl (lv_at hl 4 rfl) ?_
      obtain ⟨v15, q15, h24⟩ := obn h23
      clear h23
      refine xlald hx hb hK hP 1 rfl q15 dX2_hangLamp_55 ?_
      refine lv_iload_n hx hb dX2_hangLamp_56 rfl (lv_at hl 3 rfl) ?_
      refine lv_i2l (v := n.toInt64) hx hb dX2_hangLamp_57 rfl ?_
      refine lv_lmul hx hb dX2_hangLamp_58 ?_
      refine lv_lload hx hb dX2_hangLamp_59 (lv_at hl 0 rfl) ?_
      refine lv_ladd hx hb dX2_hangLamp_61 ?_
      obtain ⟨f16, q16, h25⟩ := obn h24
      clear h24
      refine xlast hx hb hK hP hD hS 1 rfl q16 dX2_hangLamp_62 (wn := (cL ca ua (f16, s9.2.2))) rfl (fun H locs hP hD hS => ?_)
      refine lv_iinc (v := (s9.1 + (-1 : Int32))) (lv' := [(3, .int (s9.1 + (-1 : Int32))), (5, .long v14), (0, .ref (ua 0)), (1, .int i), (2, .int n)]) hx hb dX2_hangLamp_63 hl (k := 4) rfl rfl (by decide) rfl (fun ls hl => ?_)
      refine lv_goto (tgt := 4) hx hb dX2_hangLamp_66 (by decide) ?_
      exact hi17 _ (Option.some.inj h25).symm _ _ _ (lv_sub hl [2, 3, 4, 0] rfl) hP hD hS
    refine lv_if_lt (tgt := 42) hx hb dX2_hangLamp_15 (by decide) (fun c11 => ?_) (fun c11 => ?_)
    · skip
      replace q22 := (if_pos c11).symm.trans q22
      refine lv_lconst (v := (0 : Int64)) hx hb dX2_hangLamp_42 (by decide) ?_
      obtain rfl := Option.some.inj q22
      exact J14 _ _ _ (lv_sub hl [1, 2, 3, 4] rfl) hP hD hS
    · skip
      replace q22 := (if_neg c11).symm.trans q22
      refine lv_iload hx hb dX2_hangLamp_18 (lv_at hl 0 rfl) ?_
      refine lv_sipush (v := (288 : Int32)) hx hb dX2_hangLamp_20 (by decide) ?_
      refine lv_icmp_gt (tgt := 42) hx hb dX2_hangLamp_23 (by decide) (fun c12 => ?_) (fun c12 => ?_)
      · skip
        replace q22 := (if_pos c12).symm.trans q22
        refine lv_lconst (v := (0 : Int64)) hx hb dX2_hangLamp_42 (by decide) ?_
        obtain rfl := Option.some.inj q22
        exact J14 _ _ _ (lv_sub hl [1, 2, 3, 4] rfl) hP hD hS
      · skip
        replace q22 := (if_neg c12).symm.trans q22
        refine lv_aload_n hx hb dX2_hangLamp_26 rfl (lv_at hl 1 rfl) ?_
        refine xget (ref := "FriezeFolk$Lamps") (C := RX2) (T := TX2) (N := 2) (ci := 2) (v := .ref (ua 1)) hx hb hts inX2 hown hK hP 0 rfl rfl 0 (by decide) k1 rfl rfl dX2_hangLamp_27 ?_
        refine lv_iload hx hb dX2_hangLamp_30 (lv_at hl 0 rfl) ?_
        obtain ⟨v13, q13, h26⟩ := obn q22
        clear q22
        refine xlald hx hb hK hP 1 rfl q13 dX2_hangLamp_32 ?_
        refine lv_bipush (v := (10 : Int32)) hx hb dX2_hangLamp_33 (by decide) ?_
        refine lv_iload_n hx hb dX2_hangLamp_35 rfl (lv_at hl 3 rfl) ?_
        refine lv_isub hx hb dX2_hangLamp_36 ?_
        refine lv_i2l (v := ((10 : Int32) - n).toInt64) hx hb dX2_hangLamp_37 rfl ?_
        refine lv_lmul hx hb dX2_hangLamp_38 ?_
        refine lv_goto (tgt := 43) hx hb dX2_hangLamp_39 (by decide) ?_
        obtain rfl := Option.some.inj h26
        exact J14 _ _ _ (lv_sub hl [1, 2, 3, 4] rfl) hP hD hS
def mX2_oddsOf_l5 (u : LmS) (w : Int32) (s1 : Int64 × Int32) : Option ((Int64 × Int32) ⊕ (Int64 × Int32)) :=
  if (288 : Int32) < s1.2 then
    some (.inr (s1.1, s1.2))
  else
    Option.bind (
      if s1.2 < w then
        some s1.1
      else
        Option.bind (aldL 289 u.1 s1.2) fun v4 =>
        some (s1.1 + v4)) fun (v5 : Int64) =>
    some (.inl (v5, (s1.2 + (1 : Int32))))

def mX2_oddsOf (u : LmS) (w : Int32) : Option (Int64) :=
  Option.bind (whO (mX2_oddsOf_l5 u w) FU ((0 : Int64), (0 : Int32))) fun e6 =>
  some e6.1
abbrev rmX2_oddsOf : Room := { frames := 0, cells := 0, slots := 0, locals := 0 }
set_option maxHeartbeats 4000000 in
set_option maxRecDepth 100000 in
theorem k_X2_oddsOf (l : Launch) (D : va_G) (ca : Nat → ClassId) (ua : Nat → Nat) (u : LmS) (w : Int32) (o : Int64) (hm : mX2_oddsOf u w = some o) : KL l yX2_oddsOf wsX2_oddsOf rmX2_oddsOf D ca [.ref (ua 0), .int w] (cL ca ua u) (cL ca ua u) o := by
  refine KL.of (cc := cX2_oddsOf) (n := 5) (plainFor_of_name (by decide)) rfl (Nat.le_of_ble_eq_true rfl) ?_
  intro p e s m below meth c A Z hx hb hml hts hown hA hK hP hD hS hret ls hl
  have hown : s.vm.findClass RX2 = some m.cls := hown
  have hl : lv_has ls 5 [(0, .ref (ua 0)), (1, .int w)] := hl
  have inX2 : ∀ w ∈ wsX20, w ∈ wsX2_oddsOf := by decide +kernel
  have k1 := hts (.fieldLink RX2 11 "FriezeFolk$Lamps" "ways" "[J") (by decide +kernel)
  unfold mX2_oddsOf at hm
  refine lv_lconst (v := (0 : Int64)) hx hb dX2_oddsOf_0 (by decide) ?_
  refine lv_lstore_n (lv' := [(2, .long (0 : Int64)), (0, .ref (ua 0)), (1, .int w)]) hx hb dX2_oddsOf_1 rfl hl (by decide) rfl (fun ls hl => ?_)
  refine lv_iconst (v := (0 : Int32)) hx hb dX2_oddsOf_2 (by decide) ?_
  refine lv_istore (lv' := [(4, .int (0 : Int32)), (2, .long (0 : Int64)), (0, .ref (ua 0)), (1, .int w)]) hx hb dX2_oddsOf_3 hl (by decide) rfl (fun ls hl => ?_)
  obtain ⟨e6, w7, h8⟩ := obn hm
  clear hm
  have AF6 : ∀ (ls : Array Slot) (H : Heap) (locs : List Loc), lv_has ls 5 [(2, .long e6.1)] → va_P D vwCl (cL ca ua u) H → va_D A (cL ca ua u) → va_S A s.heap H locs → W p l e rmX2_oddsOf s m ([.ref (ua 0), .int w] : List Value).toArray below meth c H locs 0 0 Z (F0 m 35 ls []) := by
    intro ls H locs hl hP hD hS
    refine lv_lload_n hx hb dX2_oddsOf_35 rfl (lv_at hl 0 rfl) ?_
    obtain rfl := Option.some.inj h8
    exact hret _ _ _ _ hP hD hS dX2_oddsOf_36
  refine whO_walk (I := fun s1 => ∀ (ls : Array Slot) (H : Heap) (locs : List Loc), lv_has ls 5 [(0, .ref (ua 0)), (1, .int w), (2, .long s1.1), (4, .int s1.2)] → va_P D vwCl (cL ca ua u) H → va_D A (cL ca ua u) → va_S A s.heap H locs → W p l e rmX2_oddsOf s m ([.ref (ua 0), .int w] : List Value).toArray below meth c H locs 0 0 Z (F0 m 5 ls [])) ?_ _ _ w7 _ _ _ (lv_sub hl [2, 3, 1, 0] rfl) hP hD hS
  clear w7
  intro s1 o6 h9 hi6 ho6 ls H locs hl hP hD hS
  unfold mX2_oddsOf_l5 at h9
  refine lv_iload hx hb dX2_oddsOf_5 (lv_at hl 3 rfl) ?_
  refine lv_sipush (v := (288 : Int32)) hx hb dX2_oddsOf_7 (by decide) ?_
  refine lv_icmp_gt (tgt := 35) hx hb dX2_oddsOf_10 (by decide) (fun c2 => ?_) (fun c2 => ?_)
  · skip
    replace h9 := (if_pos c2).symm.trans h9
    have h10 := ho6 _ (Option.some.inj h9).symm
    subst h10
    exact AF6 _ _ _ (lv_sub hl [2] rfl) hP hD hS
  · skip
    replace h9 := (if_neg c2).symm.trans h9
    refine lv_iload hx hb dX2_oddsOf_13 (lv_at hl 3 rfl) ?_
    refine lv_iload_n hx hb dX2_oddsOf_15 rfl (lv_at hl 1 rfl) ?_
    obtain ⟨v5, q11, h12⟩ := obn h9
    clear h9
    have J5 : ∀ (ls : Array Slot) (H : Heap) (locs : List Loc), lv_has ls 5 [(0, .ref (ua 0)), (1, .int w), (2, .long v5), (4, .int s1.2)] → va_P D vwCl (cL ca ua u) H → va_D A (cL ca ua u) → va_S A s.heap H locs → W p l e rmX2_oddsOf s m ([.ref (ua 0), .int w] : List Value).toArray below meth c H locs 0 0 Z (F0 m 29 ls []) := by
      intro ls H locs hl hP hD hS
      refine lv_iinc (v := (s1.2 + (1 : Int32))) (lv' := [(4, .int (s1.2 + (1 : Int32))), (0, .ref (ua 0)), (1, .int w), (2, .long v5)]) hx hb dX2_oddsOf_29 hl (k := 3) rfl rfl (by decide) rfl (fun ls hl => ?_)
      refine lv_goto (tgt := 5) hx hb dX2_oddsOf_32 (by decide) ?_
      exact hi6 _ (Option.some.inj h12).symm _ _ _ (lv_sub hl [1, 2, 3, 0] rfl) hP hD hS
    refine lv_icmp_lt (tgt := 29) hx hb dX2_oddsOf_16 (by decide) (fun c3 => ?_) (fun c3 => ?_)
    · skip
      replace q11 := (if_pos c3).symm.trans q11
      obtain rfl := Option.some.inj q11
      exact J5 _ _ _ (lv_sub hl [0, 1, 2, 3] rfl) hP hD hS
    · skip
      replace q11 := (if_neg c3).symm.trans q11
      refine lv_lload_n hx hb dX2_oddsOf_19 rfl (lv_at hl 2 rfl) ?_
      refine lv_aload_n hx hb dX2_oddsOf_20 rfl (lv_at hl 0 rfl) ?_
      refine xget (ref := "FriezeFolk$Lamps") (C := RX2) (T := TX2) (N := 2) (ci := 2) (v := .ref (ua 1)) hx hb hts inX2 hown hK hP 0 rfl rfl 0 (by decide) k1 rfl rfl dX2_oddsOf_21 ?_
      refine lv_iload hx hb dX2_oddsOf_24 (lv_at hl 3 rfl) ?_
      obtain ⟨v4, q4, h13⟩ := obn q11
      clear q11
      refine xlald hx hb hK hP 1 rfl q4 dX2_oddsOf_26 ?_
      refine lv_ladd hx hb dX2_oddsOf_27 ?_
      refine lv_lstore_n (lv' := [(2, .long (s1.1 + v4)), (0, .ref (ua 0)), (1, .int w), (4, .int s1.2)]) hx hb dX2_oddsOf_28 rfl hl (by decide) rfl (fun ls hl => ?_)
      obtain rfl := Option.some.inj h13
      exact J5 _ _ _ (lv_sub hl [1, 2, 0, 3] rfl) hP hD hS
def mX2_reckon_l28 (k : GS) (n : Int32) (i : Int32) (j : Int32) (s10 : Int32 × LmS) : Option ((Int32 × LmS) ⊕ (Int32 × LmS)) :=
  if (12 : Int32) ≤ s10.1 then
    some (.inr (s10.1, s10.2))
  else
    Option.bind (
      if s10.1 < i then
        some s10.2
      else
        if j < s10.1 then
          some s10.2
        else
          Option.bind (mX0_frankAt k s10.1) fun v14 =>
          Option.bind (mX2_hangLamp s10.2 v14 n) fun v15 =>
          some v15) fun (v16 : LmS) =>
    some (.inl ((s10.1 + (1 : Int32)), v16))

def mX2_reckon (u : LmS) (k : GS) (n : Int32) (i : Int32) (j : Int32) : Option (LmS) :=
  Option.bind (mJ7_fill_d0a16 u.1 289 (0 : Int64)) fun v1 =>
  Option.bind (astL 289 (v1, u.2).1 (0 : Int32) (1 : Int64)) fun f2 =>
  Option.bind (whO (mX2_reckon_l28 k n i j) FU ((0 : Int32), ((f2, (v1, u.2).2).1, (1 : Int64)))) fun e17 =>
  some e17.2
abbrev rmX2_reckon : Room := { frames := 3, cells := 0, slots := 0, locals := 67 }
set_option maxHeartbeats 4000000 in
set_option maxRecDepth 100000 in
theorem k_X2_reckon (l : Launch) (D : va_G) (ca : Nat → ClassId) (ua : Nat → Nat) (ka : Nat → Nat) (u : LmS) (k : GS) (n : Int32) (i : Int32) (j : Int32) (o : LmS) (hm : mX2_reckon u k n i j = some o) : KV l yX2_reckon wsX2_reckon rmX2_reckon D ca [.ref (ua 0), .ref (ka 0), .int n, .int i, .int j] ((cL ca ua u) ++ (cH ca ka k)) ((cL ca ua o) ++ (cH ca ka k)) := by
  refine KV.of (cc := cX2_reckon) (n := 6) (plainFor_of_name (by decide)) rfl (Nat.le_of_ble_eq_true rfl) ?_
  intro p e s m below meth c A Z hx hb hml hts hown hA hK hP hD hS hret ls hl
  have hown : s.vm.findClass RX2 = some m.cls := hown
  have hl : lv_has ls 6 [(0, .ref (ua 0)), (1, .ref (ka 0)), (2, .int n), (3, .int i), (4, .int j)] := hl
  have inX2 : ∀ w ∈ wsX20, w ∈ wsX2_reckon := by decide +kernel
  have k1 := hts (.fieldLink RX2 11 "FriezeFolk$Lamps" "ways" "[J") (by decide +kernel)
  have k2 := hts (.fieldLink RX2 15 "FriezeFolk$Lamps" "whole" "J") (by decide +kernel)
  unfold mX2_reckon at hm
  refine lv_aload_n hx hb dX2_reckon_0 rfl (lv_at hl 0 rfl) ?_
  refine xget (ref := "FriezeFolk$Lamps") (C := RX2) (T := TX2) (N := 2) (ci := 2) (v := .ref (ua 1)) hx hb hts inX2 hown hK hP 0 rfl rfl 0 (by decide) k1 rfl rfl dX2_reckon_1 ?_
  refine lv_lconst (v := (0 : Int64)) hx hb dX2_reckon_4 (by decide) ?_
  obtain ⟨v1, q1, h18⟩ := obn hm
  clear hm
  refine xSv (As := [.ref (ua 1), .long (0 : Int64)]) ⟨hx, hb, hml, hown, hts⟩ (k_J7_fill_d0a16 l D ca 289 (ua 1) u.1 (0 : Int64) _ q1) (va_cwS 2 hts gX2_reckon_J7_fill_d0a16 rfl rfl rfl (by decide +kernel) ⟨Nat.le_of_ble_eq_true rfl, Nat.le_of_ble_eq_true rfl⟩) hK hA hP hD hS dX2_reckon_5 rfl hl.1 [1] [0, 2, 3, 4, 5, 6, 7] [0, 7, 1, 2, 3, 4, 5, 6] rfl rfl (wr := (((cL ca ua (v1, u.2)).eraseIdx 1) ++ (cH ca ka k))) rfl rfl (by decide) (wn := ((cL ca ua (v1, u.2)) ++ (cH ca ka k))) rfl rfl rfl (Nat.le_of_ble_eq_true rfl) (fun H locs hP hD hS => ?_)
  refine lv_aload_n hx hb dX2_reckon_8 rfl (lv_at hl 0 rfl) ?_
  refine xget (ref := "FriezeFolk$Lamps") (C := RX2) (T := TX2) (N := 2) (ci := 2) (v := .ref (ua 1)) hx hb hts inX2 hown hK hP 0 rfl rfl 0 (by decide) k1 rfl rfl dX2_reckon_9 ?_
  refine lv_iconst (v := (0 : Int32)) hx hb dX2_reckon_12 (by decide) ?_
  refine lv_lconst (v := (1 : Int64)) hx hb dX2_reckon_13 (by decide) ?_
  obtain ⟨f2, q2, h19⟩ := obn h18
  clear h18
  refine xlast hx hb hK hP hD hS 1 rfl q2 dX2_reckon_14 (wn := ((cL ca ua (f2, (v1, u.2).2)) ++ (cH ca ka k))) rfl (fun H locs hP hD hS => ?_)
  refine lv_aload_n hx hb dX2_reckon_15 rfl (lv_at hl 0 rfl) ?_
  refine lv_lconst (v := (1 : Int64)) hx hb dX2_reckon_16 (by decide) ?_
  refine xput (ref := "FriezeFolk$Lamps") (C := RX2) (T := TX2) (N := 2) (ci := 2) (v := .long (1 : Int64)) (ty := .long) hx hb hts inX2 tyX2 tyX2_ok nmX2 hown hK hP hD hS 0 rfl rfl 1 (by decide) k2 rfl rfl (by decide +kernel) rfl rfl (Nat.le_of_ble_eq_true rfl) dX2_reckon_17 (wn := ((cL ca ua ((f2, (v1, u.2).2).1, (1 : Int64))) ++ (cH ca ka k))) rfl (fun H locs hP hD hS => ?_)
  refine lv_aload_n hx hb dX2_reckon_20 rfl (lv_at hl 1 rfl) ?_
  refine lv_ifnonnull (tgt := 25) hx hb dX2_reckon_21 (by decide) ?_
  refine lv_iconst (v := (0 : Int32)) hx hb dX2_reckon_25 (by decide) ?_
  refine lv_istore (lv' := [(5, .int (0 : Int32)), (0, .ref (ua 0)), (1, .ref (ka 0)), (2, .int n), (3, .int i), (4, .int j)]) hx hb dX2_reckon_26 hl (by decide) rfl (fun ls hl => ?_)
  obtain ⟨e17, w20, h21⟩ := obn h19
  clear h19
  have AF17 : ∀ (ls : Array Slot) (H : Heap) (locs : List Loc), lv_has ls 6 [] → va_P D vwCl ((cL ca ua e17.2) ++ (cH ca ka k)) H → va_D A ((cL ca ua e17.2) ++ (cH ca ka k)) → va_S A s.heap H locs → W p l e rmX2_reckon s m ([.ref (ua 0), .ref (ka 0), .int n, .int i, .int j] : List Value).toArray below meth c H locs 0 0 Z (F0 m 65 ls []) := by
    intro ls H locs hl hP hD hS
    obtain rfl := Option.some.inj h21
    exact hret _ _ _ _ hP hD hS dX2_reckon_65
  refine whO_walk (I := fun s10 => ∀ (ls : Array Slot) (H : Heap) (locs : List Loc), lv_has ls 6 [(0, .ref (ua 0)), (1, .ref (ka 0)), (2, .int n), (3, .int i), (4, .int j), (5, .int s10.1)] → va_P D vwCl ((cL ca ua s10.2) ++ (cH ca ka k)) H → va_D A ((cL ca ua s10.2) ++ (cH ca ka k)) → va_S A s.heap H locs → W p l e rmX2_reckon s m ([.ref (ua 0), .ref (ka 0), .int n, .int i, .int j] : List Value).toArray below meth c H locs 0 0 Z (F0 m 28 ls [])) ?_ _ _ w20 _ _ _ (lv_sub hl [1, 2, 3, 4, 5, 0] rfl) hP hD hS
  clear w20
  intro s10 o17 h22 hi17 ho17 ls H locs hl hP hD hS
  unfold mX2_reckon_l28 at h22
  refine lv_iload hx hb dX2_reckon_28 (lv_at hl 5 rfl) ?_
  refine lv_bipush (v := (12 : Int32)) hx hb dX2_reckon_30 (by decide) ?_
  refine lv_icmp_ge (tgt := 65) hx hb dX2_reckon_32 (by decide) (fun c11 => ?_) (fun c11 => ?_)
  · skip
    replace h22 := (if_pos c11).symm.trans h22
    have h23 := ho17 _ (Option.some.inj h22).symm
    subst h23
    exact AF17 _ _ _ (lv_sub hl [] rfl) hP hD hS
  · skip
    replace h22 := (if_neg c11).symm.trans h22
    refine lv_iload hx hb dX2_reckon_35 (lv_at hl 5 rfl) ?_
    refine lv_iload_n hx hb dX2_reckon_37 rfl (lv_at hl 3 rfl) ?_
    obtain ⟨v16, q24, h25⟩ := obn h22
    clear h22
    have J16 : ∀ (ls : Array Slot) (H : Heap) (locs : List Loc), lv_has ls 6 [(0, .ref (ua 0)), (1, .ref (ka 0)), (2, .int n), (3, .int i), (4, .int j), (5, .int s10.1)] → va_P D vwCl ((cL ca ua v16) ++ (cH ca ka k)) H → va_D A ((cL ca ua v16) ++ (cH ca ka k)) → va_S A s.heap H locs → W p l e rmX2_reckon s m ([.ref (ua 0), .ref (ka 0), .int n, .int i, .int j] : List Value).toArray below meth c H locs 0 0 Z (F0 m 59 ls []) := by
      intro ls H locs hl hP hD hS
      refine lv_iinc (v := (s10.1 + (1 : Int32))) (lv' := [(5, .int (s10.1 + (1 : Int32))), (0, .ref (ua 0)), (1, .ref (ka 0)), (2, .int n), (3, .int i), (4, .int j)]) hx hb dX2_reckon_59 hl (k := 5) rfl rfl (by decide) rfl (fun ls hl => ?_)
      refine lv_goto (tgt := 28) hx hb dX2_reckon_62 (by decide) ?_
      exact hi17 _ (Option.some.inj h25).symm _ _ _ (lv_sub hl [1, 2, 3, 4, 5, 0] rfl) hP hD hS
    refine lv_icmp_lt (tgt := 59) hx hb dX2_reckon_38 (by decide) (fun c12 => ?_) (fun c12 => ?_)
    · skip
      replace q24 := (if_pos c12).symm.trans q24
      obtain rfl := Option.some.inj q24
      exact J16 _ _ _ (lv_sub hl [0, 1, 2, 3, 4, 5] rfl) hP hD hS
    · skip
      replace q24 := (if_neg c12).symm.trans q24
      refine lv_iload hx hb dX2_reckon_41 (lv_at hl 5 rfl) ?_
      refine lv_iload hx hb dX2_reckon_43 (lv_at hl 4 rfl) ?_
      refine lv_icmp_gt (tgt := 59) hx hb dX2_reckon_45 (by decide) (fun c13 => ?_) (fun c13 => ?_)
      · skip
        replace q24 := (if_pos c13).symm.trans q24
        obtain rfl := Option.some.inj q24
        exact J16 _ _ _ (lv_sub hl [0, 1, 2, 3, 4, 5] rfl) hP hD hS
      · skip
        replace q24 := (if_neg c13).symm.trans q24
        refine lv_aload_n hx hb dX2_reckon_48 rfl (lv_at hl 0 rfl) ?_
        refine lv_aload_n hx hb dX2_reckon_49 rfl (lv_at hl 1 rfl) ?_
        refine lv_iload hx hb dX2_reckon_50 (lv_at hl 5 rfl) ?_
        obtain ⟨v14, q14, h26⟩ := obn q24
        clear q24
        refine xVi (As := [.int s10.1]) (ci := 0) ⟨hx, hb, hml, hown, hts⟩ (k_X0_frankAt l D ca ka k s10.1 _ q14) (cwV 1 hts gX2_reckon_X0_frankAt rfl rfl rfl (by decide +kernel) ⟨Nat.le_of_ble_eq_true rfl, Nat.le_of_ble_eq_true rfl⟩) hK hA hP hD hS dX2_reckon_52 rfl hl.1 [2, 3, 4, 5, 6, 7] [0, 1] [0, 1, 2, 3, 4, 5, 6, 7] rfl rfl (wr := ((cL ca ua s10.2))) rfl rfl (by decide) (wn := ((cL ca ua s10.2) ++ (cH ca ka k))) rfl rfl rfl rfl rfl rfl (Nat.le_of_ble_eq_true rfl) (fun H locs hP hD hS => ?_)
        refine lv_iload_n hx hb dX2_reckon_55 rfl (lv_at hl 2 rfl) ?_
        obtain ⟨v15, q15, h27⟩ := obn h26
        clear h26
        refine xVv (As := [.int v14, .int n]) (ci := 2) ⟨hx, hb, hml, hown, hts⟩ (k_X2_hangLamp l D ca ua s10.2 v14 n _ q15) (cwV 2 hts gX2_reckon_X2_hangLamp rfl rfl rfl (by decide +kernel) ⟨Nat.le_of_ble_eq_true rfl, Nat.le_of_ble_eq_true rfl⟩) hK hA hP hD hS dX2_reckon_56 rfl hl.1 [0, 1] [2, 3, 4, 5, 6, 7] [6, 7, 0, 1, 2, 3, 4, 5] rfl rfl (wr := ((cH ca ka k))) rfl rfl (by decide) (wn := ((cL ca ua v15) ++ (cH ca ka k))) rfl rfl rfl rfl rfl rfl (Nat.le_of_ble_eq_true rfl) (fun H locs hP hD hS => ?_)
        obtain rfl := Option.some.inj h27
        exact J16 _ _ _ (lv_sub hl [0, 1, 2, 3, 4, 5] rfl) hP hD hS

def mX3_add (g : GS) (i : Int32) (n : Int32) : Option (Int32 × GS) :=
  if (g.2 2) < 0 then
    some ((0 : Int32), g)
  else
    if (g.2 2) < (6 : Int32) then
      Option.bind (ast 6 (g.1 0) (g.2 2) i) fun f3 =>
      Option.bind (ast 6 ((sA g 0 f3).1 1) ((sA g 0 f3).2 2) n) fun f4 =>
      some ((1 : Int32), (sI (sA (sA g 0 f3) 1 f4) 2 (((sA (sA g 0 f3) 1 f4).2 2) + (1 : Int32))))
    else
      some ((0 : Int32), g)
abbrev rmX3_add : Room := { frames := 0, cells := 0, slots := 0, locals := 0 }
set_option maxHeartbeats 4000000 in
set_option maxRecDepth 100000 in
theorem k_X3_add (l : Launch) (D : va_G) (ca : Nat → ClassId) (ga : Nat → Nat) (g : GS) (i : Int32) (n : Int32) (o : Int32 × GS) (hm : mX3_add g i n = some o) : KI l yX3_add wsX3_add rmX3_add D ca [.ref (ga 0), .int i, .int n] (cM ca ga g) (cM ca ga o.2) o.1 := by
  refine KI.of (cc := cX3_add) (n := 3) (plainFor_of_name (by decide)) rfl (Nat.le_of_ble_eq_true rfl) ?_
  intro p e s m below meth c A Z hx hb hml hts hown hA hK hP hD hS hret ls hl
  have hown : s.vm.findClass RX3 = some m.cls := hown
  have hl : lv_has ls 3 [(0, .ref (ga 0)), (1, .int i), (2, .int n)] := hl
  have inX3 : ∀ w ∈ wsX30, w ∈ wsX3_add := by decide +kernel
  have k1 := hts (.fieldLink RX3 18 "FriezeFolk$Memory" "size" "I") (by decide +kernel)
  have k2 := hts (.fieldLink RX3 9 "FriezeFolk$Memory" "where" "[I") (by decide +kernel)
  have k3 := hts (.fieldLink RX3 15 "FriezeFolk$Memory" "frank" "[I") (by decide +kernel)
  unfold mX3_add at hm
  refine lv_aload_n hx hb dX3_add_0 rfl (lv_at hl 0 rfl) ?_
  refine xget (ref := "FriezeFolk$Memory") (C := RX3) (T := TX3) (N := 3) (ci := 3) (v := .int (g.2 2)) hx hb hts inX3 hown hK hP 0 rfl rfl 2 (by decide) k1 rfl rfl dX3_add_1 ?_
  refine lv_if_lt (tgt := 16) hx hb dX3_add_4 (by decide) (fun c1 => ?_) (fun c1 => ?_)
  · skip
    replace hm := (if_pos c1).symm.trans hm
    refine lv_iconst (v := (0 : Int32)) hx hb dX3_add_16 (by decide) ?_
    obtain rfl := Option.some.inj hm
    exact hret _ _ _ _ nar0 hP hD hS dX3_add_17
  · skip
    replace hm := (if_neg c1).symm.trans hm
    refine lv_aload_n hx hb dX3_add_7 rfl (lv_at hl 0 rfl) ?_
    refine xget (ref := "FriezeFolk$Memory") (C := RX3) (T := TX3) (N := 3) (ci := 3) (v := .int (g.2 2)) hx hb hts inX3 hown hK hP 0 rfl rfl 2 (by decide) k1 rfl rfl dX3_add_8 ?_
    refine lv_bipush (v := (6 : Int32)) hx hb dX3_add_11 (by decide) ?_
    refine lv_icmp_lt (tgt := 18) hx hb dX3_add_13 (by decide) (fun c2 => ?_) (fun c2 => ?_)
    · skip
      replace hm := (if_pos c2).symm.trans hm
      refine lv_aload_n hx hb dX3_add_18 rfl (lv_at hl 0 rfl) ?_
      refine xget (ref := "FriezeFolk$Memory") (C := RX3) (T := TX3) (N := 3) (ci := 3) (v := .ref (ga 1)) hx hb hts inX3 hown hK hP 0 rfl rfl 0 (by decide) k2 rfl rfl dX3_add_19 ?_
      refine lv_aload_n hx hb dX3_add_22 rfl (lv_at hl 0 rfl) ?_
      refine xget (ref := "FriezeFolk$Memory") (C := RX3) (T := TX3) (N := 3) (ci := 3) (v := .int (g.2 2)) hx hb hts inX3 hown hK hP 0 rfl rfl 2 (by decide) k1 rfl rfl dX3_add_23 ?_
      refine lv_iload_n hx hb dX3_add_26 rfl (lv_at hl 1 rfl) ?_
      obtain ⟨f3, q3, h5⟩ := obn hm
      clear hm
      refine xast hx hb hK hP hD hS 1 rfl q3 dX3_add_27 (wn := (cM ca ga (sA g 0 f3))) rfl (fun H locs hP hD hS => ?_)
      refine lv_aload_n hx hb dX3_add_28 rfl (lv_at hl 0 rfl) ?_
      refine xget (ref := "FriezeFolk$Memory") (C := RX3) (T := TX3) (N := 3) (ci := 3) (v := .ref (ga 2)) hx hb hts inX3 hown hK hP 0 rfl rfl 1 (by decide) k3 rfl rfl dX3_add_29 ?_
      refine lv_aload_n hx hb dX3_add_32 rfl (lv_at hl 0 rfl) ?_
      refine xget (ref := "FriezeFolk$Memory") (C := RX3) (T := TX3) (N := 3) (ci := 3) (v := .int ((sA g 0 f3).2 2)) hx hb hts inX3 hown hK hP 0 rfl rfl 2 (by decide) k1 rfl rfl dX3_add_33 ?_
      refine lv_iload_n hx hb dX3_add_36 rfl (lv_at hl 2 rfl) ?_
      obtain ⟨f4, q4, h6⟩ := obn h5
      clear h5
      refine xast hx hb hK hP hD hS 2 rfl q4 dX3_add_37 (wn := (cM ca ga (sA (sA g 0 f3) 1 f4))) rfl (fun H locs hP hD hS => ?_)
      refine lv_aload_n hx hb dX3_add_38 rfl (lv_at hl 0 rfl) ?_
      refine lv_dup hx hb dX3_add_39 rfl ?_
      refine xget (ref := "FriezeFolk$Memory") (C := RX3) (T := TX3) (N := 3) (ci := 3) (v := .int ((sA (sA g 0 f3) 1 f4).2 2)) hx hb hts inX3 hown hK hP 0 rfl rfl 2 (by decide) k1 rfl rfl dX3_add_40 ?_
      refine lv_iconst (v := (1 : Int32)) hx hb dX3_add_43 (by decide) ?_
      refine lv_iadd hx hb dX3_add_44 ?_
      refine xput (ref := "FriezeFolk$Memory") (C := RX3) (T := TX3) (N := 3) (ci := 3) (v := .int (((sA (sA g 0 f3) 1 f4).2 2) + (1 : Int32))) (ty := .int) hx hb hts inX3 tyX3 tyX3_ok nmX3 hown hK hP hD hS 0 rfl rfl 2 (by decide) k1 rfl rfl (by decide +kernel) rfl rfl (Nat.le_of_ble_eq_true rfl) dX3_add_45 (wn := (cM ca ga (sI (sA (sA g 0 f3) 1 f4) 2 (((sA (sA g 0 f3) 1 f4).2 2) + (1 : Int32))))) rfl (fun H locs hP hD hS => ?_)
      refine lv_iconst (v := (1 : Int32)) hx hb dX3_add_48 (by decide) ?_
      obtain rfl := Option.some.inj h6
      exact hret _ _ _ _ nar1 hP hD hS dX3_add_49
    · skip
      replace hm := (if_neg c2).symm.trans hm
      refine lv_iconst (v := (0 : Int32)) hx hb dX3_add_16 (by decide) ?_
      obtain rfl := Option.some.inj hm
      exact hret _ _ _ _ nar0 hP hD hS dX3_add_17
def mX3_fits_l8 (g : GS) (k : GS) (s1 : Int32) : Option ((Int32) ⊕ ((Int32) ⊕ (Int32))) :=
  if (g.2 2) ≤ s1 then
    some (.inr (.inl s1))
  else
    if (6 : Int32) ≤ s1 then
      some (.inr (.inl s1))
    else
      Option.bind (ald 6 (g.1 0) s1) fun v4 =>
      Option.bind (mX0_hasPlace k v4) fun v5 =>
      if v5 = 0 then
        some (.inr (.inr (0 : Int32)))
      else
        Option.bind (ald 6 (g.1 0) s1) fun v7 =>
        Option.bind (mX0_frankAt k v7) fun v8 =>
        Option.bind (ald 6 (g.1 1) s1) fun v9 =>
        if v8 = v9 then
          some (.inl (s1 + (1 : Int32)))
        else
          some (.inr (.inr (0 : Int32)))

def mX3_fits (g : GS) (k : GS) : Option (Int32) :=
  Option.bind (whO (mX3_fits_l8 g k) FU (0 : Int32)) fun e11 => esc e11 fun t12 =>
  some (1 : Int32)
abbrev rmX3_fits : Room := { frames := 3, cells := 0, slots := 0, locals := 67 }
set_option maxHeartbeats 4000000 in
set_option maxRecDepth 100000 in
theorem k_X3_fits (l : Launch) (D : va_G) (ca : Nat → ClassId) (ga : Nat → Nat) (ka : Nat → Nat) (g : GS) (k : GS) (o : Int32) (hm : mX3_fits g k = some o) : KI l yX3_fits wsX3_fits rmX3_fits D ca [.ref (ga 0), .ref (ka 0)] ((cM ca ga g) ++ (cH ca ka k)) ((cM ca ga g) ++ (cH ca ka k)) o := by
  refine KI.of (cc := cX3_fits) (n := 3) (plainFor_of_name (by decide)) rfl (Nat.le_of_ble_eq_true rfl) ?_
  intro p e s m below meth c A Z hx hb hml hts hown hA hK hP hD hS hret ls hl
  have hown : s.vm.findClass RX3 = some m.cls := hown
  have hl : lv_has ls 3 [(0, .ref (ga 0)), (1, .ref (ka 0))] := hl
  have inX3 : ∀ w ∈ wsX30, w ∈ wsX3_fits := by decide +kernel
  have k1 := hts (.fieldLink RX3 18 "FriezeFolk$Memory" "size" "I") (by decide +kernel)
  have k2 := hts (.fieldLink RX3 9 "FriezeFolk$Memory" "where" "[I") (by decide +kernel)
  have k3 := hts (.fieldLink RX3 15 "FriezeFolk$Memory" "frank" "[I") (by decide +kernel)
  unfold mX3_fits at hm
  refine lv_aload_n hx hb dX3_fits_0 rfl (lv_at hl 1 rfl) ?_
  refine lv_ifnonnull (tgt := 6) hx hb dX3_fits_1 (by decide) ?_
  refine lv_iconst (v := (0 : Int32)) hx hb dX3_fits_6 (by decide) ?_
  refine lv_istore_n (lv' := [(2, .int (0 : Int32)), (0, .ref (ga 0)), (1, .ref (ka 0))]) hx hb dX3_fits_7 rfl hl (by decide) rfl (fun ls hl => ?_)
  obtain ⟨e11, w13, h14⟩ := obn hm
  clear hm
  have AF11 : ∀ t12, e11 = .inl t12 → ∀ (ls : Array Slot) (H : Heap) (locs : List Loc), lv_has ls 3 [] → va_P D vwCl ((cM ca ga g) ++ (cH ca ka k)) H → va_D A ((cM ca ga g) ++ (cH ca ka k)) → va_S A s.heap H locs → W p l e rmX3_fits s m ([.ref (ga 0), .ref (ka 0)] : List Value).toArray below meth c H locs 0 0 Z (F0 m 62 ls []) := by
    intro t12 ht ls H locs hl hP hD hS
    subst ht
    replace h14 := (esc_l _ _).symm.trans h14
    refine lv_iconst (v := (1 : Int32)) hx hb dX3_fits_62 (by decide) ?_
    obtain rfl := Option.some.inj h14
    exact hret _ _ _ _ nar1 hP hD hS dX3_fits_63
  refine whO_walk (I := fun s1 => ∀ (ls : Array Slot) (H : Heap) (locs : List Loc), lv_has ls 3 [(0, .ref (ga 0)), (1, .ref (ka 0)), (2, .int s1)] → va_P D vwCl ((cM ca ga g) ++ (cH ca ka k)) H → va_D A ((cM ca ga g) ++ (cH ca ka k)) → va_S A s.heap H locs → W p l e rmX3_fits s m ([.ref (ga 0), .ref (ka 0)] : List Value).toArray below meth c H locs 0 0 Z (F0 m 8 ls [])) ?_ _ _ w13 _ _ _ (lv_sub hl [1, 2, 0] rfl) hP hD hS
  clear w13
  intro s1 o11 h15 hi11 ho11 ls H locs hl hP hD hS
  unfold mX3_fits_l8 at h15
  refine lv_iload_n hx hb dX3_fits_8 rfl (lv_at hl 2 rfl) ?_
  refine lv_aload_n hx hb dX3_fits_9 rfl (lv_at hl 0 rfl) ?_
  refine xget (ref := "FriezeFolk$Memory") (C := RX3) (T := TX3) (N := 3) (ci := 3) (v := .int (g.2 2)) hx hb hts inX3 hown hK hP 0 rfl rfl 2 (by decide) k1 rfl rfl dX3_fits_10 ?_
  refine lv_icmp_ge (tgt := 62) hx hb dX3_fits_13 (by decide) (fun c2 => ?_) (fun c2 => ?_)
  · skip
    replace h15 := (if_pos c2).symm.trans h15
    have h16 := ho11 _ (Option.some.inj h15).symm
    subst h16
    exact AF11 _ rfl _ _ _ (lv_sub hl [] rfl) hP hD hS
  · skip
    replace h15 := (if_neg c2).symm.trans h15
    refine lv_iload_n hx hb dX3_fits_16 rfl (lv_at hl 2 rfl) ?_
    refine lv_bipush (v := (6 : Int32)) hx hb dX3_fits_17 (by decide) ?_
    refine lv_icmp_ge (tgt := 62) hx hb dX3_fits_19 (by decide) (fun c3 => ?_) (fun c3 => ?_)
    · skip
      replace h15 := (if_pos c3).symm.trans h15
      have h17 := ho11 _ (Option.some.inj h15).symm
      subst h17
      exact AF11 _ rfl _ _ _ (lv_sub hl [] rfl) hP hD hS
    · skip
      replace h15 := (if_neg c3).symm.trans h15
      refine lv_aload_n hx hb dX3_fits_22 rfl (lv_at hl 1 rfl) ?_
      refine lv_aload_n hx hb dX3_fits_23 rfl (lv_at hl 0 rfl) ?_
      refine xget (ref := "FriezeFolk$Memory") (C := RX3) (T := TX3) (N := 3) (ci := 3) (v := .ref (ga 1)) hx hb hts inX3 hown hK hP 0 rfl rfl 0 (by decide) k2 rfl rfl dX3_fits_24 ?_
      refine lv_iload_n hx hb dX3_fits_27 rfl (lv_at hl 2 rfl) ?_
      obtain ⟨v4, q4, h18⟩ := obn h15
      clear h15
      refine xald hx hb hK hP 1 rfl q4 dX3_fits_28 ?_
      obtain ⟨v5, q5, h19⟩ := obn h18
      clear h18
      refine xVi (As := [.int v4]) (ci := 0) ⟨hx, hb, hml, hown, hts⟩ (k_X0_hasPlace l D ca ka k v4 _ q5) (cwV 1 hts gX3_fits_X0_hasPlace rfl rfl rfl (by decide +kernel) ⟨Nat.le_of_ble_eq_true rfl, Nat.le_of_ble_eq_true rfl⟩) hK hA hP hD hS dX3_fits_29 rfl hl.1 [3, 4, 5, 6, 7, 8] [0, 1, 2] [0, 1, 2, 3, 4, 5, 6, 7, 8] rfl rfl (wr := ((cM ca ga g))) rfl rfl (by decide) (wn := ((cM ca ga g) ++ (cH ca ka k))) rfl rfl rfl rfl rfl rfl (Nat.le_of_ble_eq_true rfl) (fun H locs hP hD hS => ?_)
      refine lv_if_eq (tgt := 54) hx hb dX3_fits_32 (by decide) (fun c6 => ?_) (fun c6 => ?_)
      · skip
        replace h19 := (if_pos c6).symm.trans h19
        refine lv_iconst (v := (0 : Int32)) hx hb dX3_fits_54 (by decide) ?_
        have h20 := ho11 _ (Option.some.inj h19).symm
        subst h20
        replace h14 := (esc_r _ _).symm.trans h14
        obtain rfl := Option.some.inj h14
        exact hret _ _ _ _ nar0 hP hD hS dX3_fits_55
      · skip
        replace h19 := (if_neg c6).symm.trans h19
        refine lv_aload_n hx hb dX3_fits_35 rfl (lv_at hl 1 rfl) ?_
        refine lv_aload_n hx hb dX3_fits_36 rfl (lv_at hl 0 rfl) ?_
        refine xget (ref := "FriezeFolk$Memory") (C := RX3) (T := TX3) (N := 3) (ci := 3) (v := .ref (ga 1)) hx hb hts inX3 hown hK hP 0 rfl rfl 0 (by decide) k2 rfl rfl dX3_fits_37 ?_
        refine lv_iload_n hx hb dX3_fits_40 rfl (lv_at hl 2 rfl) ?_
        obtain ⟨v7, q7, h21⟩ := obn h19
        clear h19
        refine xald hx hb hK hP 1 rfl q7 dX3_fits_41 ?_
        obtain ⟨v8, q8, h22⟩ := obn h21
        clear h21
        refine xVi (As := [.int v7]) (ci := 0) ⟨hx, hb, hml, hown, hts⟩ (k_X0_frankAt l D ca ka k v7 _ q8) (cwV 1 hts gX3_fits_X0_frankAt rfl rfl rfl (by decide +kernel) ⟨Nat.le_of_ble_eq_true rfl, Nat.le_of_ble_eq_true rfl⟩) hK hA hP hD hS dX3_fits_42 rfl hl.1 [3, 4, 5, 6, 7, 8] [0, 1, 2] [0, 1, 2, 3, 4, 5, 6, 7, 8] rfl rfl (wr := ((cM ca ga g))) rfl rfl (by decide) (wn := ((cM ca ga g) ++ (cH ca ka k))) rfl rfl rfl rfl rfl rfl (Nat.le_of_ble_eq_true rfl) (fun H locs hP hD hS => ?_)
        refine lv_aload_n hx hb dX3_fits_45 rfl (lv_at hl 0 rfl) ?_
        refine xget (ref := "FriezeFolk$Memory") (C := RX3) (T := TX3) (N := 3) (ci := 3) (v := .ref (ga 2)) hx hb hts inX3 hown hK hP 0 rfl rfl 1 (by decide) k3 rfl rfl dX3_fits_46 ?_
        refine lv_iload_n hx hb dX3_fits_49 rfl (lv_at hl 2 rfl) ?_
        obtain ⟨v9, q9, h23⟩ := obn h22
        clear h22
        refine xald hx hb hK hP 2 rfl q9 dX3_fits_50 ?_
        refine lv_icmp_eq (tgt := 56) hx hb dX3_fits_51 (by decide) (fun c10 => ?_) (fun c10 => ?_)
        · skip
          replace h23 := (if_pos c10).symm.trans h23
          refine lv_iinc (v := (s1 + (1 : Int32))) (lv' := [(2, .int (s1 + (1 : Int32))), (0, .ref (ga 0)), (1, .ref (ka 0))]) hx hb dX3_fits_56 hl (k := 2) rfl rfl (by decide) rfl (fun ls hl => ?_)
          refine lv_goto (tgt := 8) hx hb dX3_fits_59 (by decide) ?_
          exact hi11 _ (Option.some.inj h23).symm _ _ _ (lv_sub hl [1, 2, 0] rfl) hP hD hS
        · skip
          replace h23 := (if_neg c10).symm.trans h23
          refine lv_iconst (v := (0 : Int32)) hx hb dX3_fits_54 (by decide) ?_
          have h24 := ho11 _ (Option.some.inj h23).symm
          subst h24
          replace h14 := (esc_r _ _).symm.trans h14
          obtain rfl := Option.some.inj h14
          exact hret _ _ _ _ nar0 hP hD hS dX3_fits_55

def mX4_lengthen (g : GS) (n : Int32) (i : Int32) (j : Int32) (w : Int32) : Option (GS) :=
  if i < 0 then
    some g
  else
    if (69 : Int32) ≤ i then
      some g
    else
      if n < 0 then
        some g
      else
        if (69 : Int32) ≤ n then
          some g
        else
          Option.bind (ald 69 (g.1 0) i) fun v5 =>
          if v5 = (1000000 : Int32) then
            some g
          else
            Option.bind (ald 69 (g.1 0) i) fun v7 =>
            Option.bind (ald 69 (g.1 1) i) fun v8 =>
            Option.bind (ald 69 (g.1 0) n) fun v9 =>
            Option.bind (
              if (v7 + j) < v9 then
                some (.inl ())
              else
                Option.bind (ald 69 (g.1 0) n) fun v11 =>
                if (v7 + j) = v11 then
                  Option.bind (ald 69 (g.1 1) n) fun v13 =>
                  if (v8 + w) ≤ v13 then
                    some (.inr g)
                  else
                    some (.inl ())
                else
                  some (.inr g)) fun (v15 : (Unit) ⊕ (GS)) => esc v15 fun t16 =>
            Option.bind (ast 69 (g.1 0) n (v7 + j)) fun f17 =>
            Option.bind (ast 69 ((sA g 0 f17).1 1) n (v8 + w)) fun f18 =>
            some (sA (sA g 0 f17) 1 f18)
abbrev rmX4_lengthen : Room := { frames := 0, cells := 0, slots := 0, locals := 0 }
set_option maxHeartbeats 4000000 in
set_option maxRecDepth 100000 in
theorem k_X4_lengthen (l : Launch) (D : va_G) (ca : Nat → ClassId) (ga : Nat → Nat) (g : GS) (n : Int32) (i : Int32) (j : Int32) (w : Int32) (o : GS) (hm : mX4_lengthen g n i j w = some o) : KV l yX4_lengthen wsX4_lengthen rmX4_lengthen D ca [.ref (ga 0), .int n, .int i, .int j, .int w] (cP ca ga g) (cP ca ga o) := by
  refine KV.of (cc := cX4_lengthen) (n := 7) (plainFor_of_name (by decide)) rfl (Nat.le_of_ble_eq_true rfl) ?_
  intro p e s m below meth c A Z hx hb hml hts hown hA hK hP hD hS hret ls hl
  have hown : s.vm.findClass RX4 = some m.cls := hown
  have hl : lv_has ls 7 [(0, .ref (ga 0)), (1, .int n), (2, .int i), (3, .int j), (4, .int w)] := hl
  have inX4 : ∀ w ∈ wsX40, w ∈ wsX4_lengthen := by decide +kernel
  have k1 := hts (.fieldLink RX4 11 "FriezeFolk$Paperer" "least" "[I") (by decide +kernel)
  have k2 := hts (.constant RX4 18 (1000000 : Int32)) (by decide +kernel)
  have k3 := hts (.fieldLink RX4 15 "FriezeFolk$Paperer" "chosen" "[I") (by decide +kernel)
  unfold mX4_lengthen at hm
  refine lv_iload_n hx hb dX4_lengthen_0 rfl (lv_at hl 2 rfl) ?_
  refine lv_if_lt (tgt := 31) hx hb dX4_lengthen_1 (by decide) (fun c1 => ?_) (fun c1 => ?_)
  · skip
    replace hm := (if_pos c1).symm.trans hm
    obtain rfl := Option.some.inj hm
    exact hret _ _ _ _ hP hD hS dX4_lengthen_31
  · skip
    replace hm := (if_neg c1).symm.trans hm
    refine lv_iload_n hx hb dX4_lengthen_4 rfl (lv_at hl 2 rfl) ?_
    refine lv_bipush (v := (69 : Int32)) hx hb dX4_lengthen_5 (by decide) ?_
    refine lv_icmp_ge (tgt := 31) hx hb dX4_lengthen_7 (by decide) (fun c2 => ?_) (fun c2 => ?_)
    · skip
      replace hm := (if_pos c2).symm.trans hm
      obtain rfl := Option.some.inj hm
      exact hret _ _ _ _ hP hD hS dX4_lengthen_31
    · skip
      replace hm := (if_neg c2).symm.trans hm
      refine lv_iload_n hx hb dX4_lengthen_10 rfl (lv_at hl 1 rfl) ?_
      refine lv_if_lt (tgt := 31) hx hb dX4_lengthen_11 (by decide) (fun c3 => ?_) (fun c3 => ?_)
      · skip
        replace hm := (if_pos c3).symm.trans hm
        obtain rfl := Option.some.inj hm
        exact hret _ _ _ _ hP hD hS dX4_lengthen_31
      · skip
        replace hm := (if_neg c3).symm.trans hm
        refine lv_iload_n hx hb dX4_lengthen_14 rfl (lv_at hl 1 rfl) ?_
        refine lv_bipush (v := (69 : Int32)) hx hb dX4_lengthen_15 (by decide) ?_
        refine lv_icmp_ge (tgt := 31) hx hb dX4_lengthen_17 (by decide) (fun c4 => ?_) (fun c4 => ?_)
        · skip
          replace hm := (if_pos c4).symm.trans hm
          obtain rfl := Option.some.inj hm
          exact hret _ _ _ _ hP hD hS dX4_lengthen_31
        · skip
          replace hm := (if_neg c4).symm.trans hm
          refine lv_aload_n hx hb dX4_lengthen_20 rfl (lv_at hl 0 rfl) ?_
          refine xget (ref := "FriezeFolk$Paperer") (C := RX4) (T := TX4) (N := 2) (ci := 4) (v := .ref (ga 1)) hx hb hts inX4 hown hK hP 0 rfl rfl 0 (by decide) k1 rfl rfl dX4_lengthen_21 ?_
          refine lv_iload_n hx hb dX4_lengthen_24 rfl (lv_at hl 2 rfl) ?_
          obtain ⟨v5, q5, h19⟩ := obn hm
          clear hm
          refine xald hx hb hK hP 1 rfl q5 dX4_lengthen_25 ?_
          refine lv_ldc hx hb hown k2 dX4_lengthen_26 ?_
          refine lv_icmp_ne (tgt := 32) hx hb dX4_lengthen_28 (by decide) (fun c6 => ?_) (fun c6 => ?_)
          · skip
            replace h19 := (if_neg c6).symm.trans h19
            refine lv_aload_n hx hb dX4_lengthen_32 rfl (lv_at hl 0 rfl) ?_
            refine xget (ref := "FriezeFolk$Paperer") (C := RX4) (T := TX4) (N := 2) (ci := 4) (v := .ref (ga 1)) hx hb hts inX4 hown hK hP 0 rfl rfl 0 (by decide) k1 rfl rfl dX4_lengthen_33 ?_
            refine lv_iload_n hx hb dX4_lengthen_36 rfl (lv_at hl 2 rfl) ?_
            obtain ⟨v7, q7, h20⟩ := obn h19
            clear h19
            refine xald hx hb hK hP 1 rfl q7 dX4_lengthen_37 ?_
            refine lv_iload_n hx hb dX4_lengthen_38 rfl (lv_at hl 3 rfl) ?_
            refine lv_iadd hx hb dX4_lengthen_39 ?_
            refine lv_istore (lv' := [(5, .int (v7 + j)), (0, .ref (ga 0)), (1, .int n), (2, .int i), (3, .int j), (4, .int w)]) hx hb dX4_lengthen_40 hl (by decide) rfl (fun ls hl => ?_)
            refine lv_aload_n hx hb dX4_lengthen_42 rfl (lv_at hl 1 rfl) ?_
            refine xget (ref := "FriezeFolk$Paperer") (C := RX4) (T := TX4) (N := 2) (ci := 4) (v := .ref (ga 2)) hx hb hts inX4 hown hK hP 0 rfl rfl 1 (by decide) k3 rfl rfl dX4_lengthen_43 ?_
            refine lv_iload_n hx hb dX4_lengthen_46 rfl (lv_at hl 3 rfl) ?_
            obtain ⟨v8, q8, h21⟩ := obn h20
            clear h20
            refine xald hx hb hK hP 2 rfl q8 dX4_lengthen_47 ?_
            refine lv_iload hx hb dX4_lengthen_48 (lv_at hl 5 rfl) ?_
            refine lv_iadd hx hb dX4_lengthen_50 ?_
            refine lv_istore (lv' := [(6, .int (v8 + w)), (5, .int (v7 + j)), (0, .ref (ga 0)), (1, .int n), (2, .int i), (3, .int j), (4, .int w)]) hx hb dX4_lengthen_51 hl (by decide) rfl (fun ls hl => ?_)
            refine lv_iload hx hb dX4_lengthen_53 (lv_at hl 1 rfl) ?_
            refine lv_aload_n hx hb dX4_lengthen_55 rfl (lv_at hl 2 rfl) ?_
            refine xget (ref := "FriezeFolk$Paperer") (C := RX4) (T := TX4) (N := 2) (ci := 4) (v := .ref (ga 1)) hx hb hts inX4 hown hK hP 0 rfl rfl 0 (by decide) k1 rfl rfl dX4_lengthen_56 ?_
            refine lv_iload_n hx hb dX4_lengthen_59 rfl (lv_at hl 3 rfl) ?_
            obtain ⟨v9, q9, h22⟩ := obn h21
            clear h21
            refine xald hx hb hK hP 1 rfl q9 dX4_lengthen_60 ?_
            obtain ⟨v15, q23, h24⟩ := obn h22
            clear h22
            have J15 : ∀ t16, v15 = .inl t16 → ∀ (ls : Array Slot) (H : Heap) (locs : List Loc), lv_has ls 7 [(0, .ref (ga 0)), (1, .int n), (5, .int (v7 + j)), (6, .int (v8 + w))] → va_P D vwCl (cP ca ga g) H → va_D A (cP ca ga g) → va_S A s.heap H locs → W p l e rmX4_lengthen s m ([.ref (ga 0), .int n, .int i, .int j, .int w] : List Value).toArray below meth c H locs 0 0 Z (F0 m 86 ls []) := by
              intro t16 ht ls H locs hl hP hD hS
              subst ht
              replace h24 := (esc_l _ _).symm.trans h24
              refine lv_aload_n hx hb dX4_lengthen_86 rfl (lv_at hl 0 rfl) ?_
              refine xget (ref := "FriezeFolk$Paperer") (C := RX4) (T := TX4) (N := 2) (ci := 4) (v := .ref (ga 1)) hx hb hts inX4 hown hK hP 0 rfl rfl 0 (by decide) k1 rfl rfl dX4_lengthen_87 ?_
              refine lv_iload_n hx hb dX4_lengthen_90 rfl (lv_at hl 1 rfl) ?_
              refine lv_iload hx hb dX4_lengthen_91 (lv_at hl 2 rfl) ?_
              obtain ⟨f17, q17, h25⟩ := obn h24
              clear h24
              refine xast hx hb hK hP hD hS 1 rfl q17 dX4_lengthen_93 (wn := (cP ca ga (sA g 0 f17))) rfl (fun H locs hP hD hS => ?_)
              refine lv_aload_n hx hb dX4_lengthen_94 rfl (lv_at hl 0 rfl) ?_
              refine xget (ref := "FriezeFolk$Paperer") (C := RX4) (T := TX4) (N := 2) (ci := 4) (v := .ref (ga 2)) hx hb hts inX4 hown hK hP 0 rfl rfl 1 (by decide) k3 rfl rfl dX4_lengthen_95 ?_
              refine lv_iload_n hx hb dX4_lengthen_98 rfl (lv_at hl 1 rfl) ?_
              refine lv_iload hx hb dX4_lengthen_99 (lv_at hl 3 rfl) ?_
              obtain ⟨f18, q18, h26⟩ := obn h25
              clear h25
              refine xast hx hb hK hP hD hS 2 rfl q18 dX4_lengthen_101 (wn := (cP ca ga (sA (sA g 0 f17) 1 f18))) rfl (fun H locs hP hD hS => ?_)
              obtain rfl := Option.some.inj h26
              exact hret _ _ _ _ hP hD hS dX4_lengthen_102
            refine lv_icmp_lt (tgt := 86) hx hb dX4_lengthen_61 (by decide) (fun c10 => ?_) (fun c10 => ?_)
            · skip
              replace q23 := (if_pos c10).symm.trans q23
              obtain rfl := Option.some.inj q23
              exact J15 _ rfl _ _ _ (lv_sub hl [2, 3, 1, 0] rfl) hP hD hS
            · skip
              replace q23 := (if_neg c10).symm.trans q23
              refine lv_iload hx hb dX4_lengthen_64 (lv_at hl 1 rfl) ?_
              refine lv_aload_n hx hb dX4_lengthen_66 rfl (lv_at hl 2 rfl) ?_
              refine xget (ref := "FriezeFolk$Paperer") (C := RX4) (T := TX4) (N := 2) (ci := 4) (v := .ref (ga 1)) hx hb hts inX4 hown hK hP 0 rfl rfl 0 (by decide) k1 rfl rfl dX4_lengthen_67 ?_
              refine lv_iload_n hx hb dX4_lengthen_70 rfl (lv_at hl 3 rfl) ?_
              obtain ⟨v11, q11, h27⟩ := obn q23
              clear q23
              refine xald hx hb hK hP 1 rfl q11 dX4_lengthen_71 ?_
              refine lv_icmp_ne (tgt := 102) hx hb dX4_lengthen_72 (by decide) (fun c12 => ?_) (fun c12 => ?_)
              · skip
                replace h27 := (if_neg c12).symm.trans h27
                obtain rfl := Option.some.inj h27
                replace h24 := (esc_r _ _).symm.trans h24
                obtain rfl := Option.some.inj h24
                exact hret _ _ _ _ hP hD hS dX4_lengthen_102
              · skip
                replace h27 := (if_pos c12).symm.trans h27
                refine lv_iload hx hb dX4_lengthen_75 (lv_at hl 0 rfl) ?_
                refine lv_aload_n hx hb dX4_lengthen_77 rfl (lv_at hl 2 rfl) ?_
                refine xget (ref := "FriezeFolk$Paperer") (C := RX4) (T := TX4) (N := 2) (ci := 4) (v := .ref (ga 2)) hx hb hts inX4 hown hK hP 0 rfl rfl 1 (by decide) k3 rfl rfl dX4_lengthen_78 ?_
                refine lv_iload_n hx hb dX4_lengthen_81 rfl (lv_at hl 3 rfl) ?_
                obtain ⟨v13, q13, h28⟩ := obn h27
                clear h27
                refine xald hx hb hK hP 2 rfl q13 dX4_lengthen_82 ?_
                refine lv_icmp_le (tgt := 102) hx hb dX4_lengthen_83 (by decide) (fun c14 => ?_) (fun c14 => ?_)
                · skip
                  replace h28 := (if_pos c14).symm.trans h28
                  obtain rfl := Option.some.inj h28
                  replace h24 := (esc_r _ _).symm.trans h24
                  obtain rfl := Option.some.inj h24
                  exact hret _ _ _ _ hP hD hS dX4_lengthen_102
                · skip
                  replace h28 := (if_neg c14).symm.trans h28
                  obtain rfl := Option.some.inj h28
                  exact J15 _ rfl _ _ _ (lv_sub hl [2, 3, 1, 0] rfl) hP hD hS
          · skip
            replace h19 := (if_pos c6).symm.trans h19
            obtain rfl := Option.some.inj h19
            exact hret _ _ _ _ hP hD hS dX4_lengthen_31
def mX4_reckon_l45 (k : GS) (r : Int32) (s26 : Int32 × GS) (s39 : Int32 × GS) : Option ((Int32 × GS) ⊕ (Int32 × GS)) :=
  if (4 : Int32) ≤ s39.1 then
    some (.inr (s39.1, s39.2))
  else
    Option.bind (mX0_hasRoll k s39.1) fun v41 =>
    if v41 = 0 then
      some (.inr (s39.1, s39.2))
    else
      Option.bind (ald 4 (k.1 3) s39.1) fun v43 =>
      Option.bind (ald 4 (k.1 4) s39.1) fun v44 =>
      Option.bind (
        if s39.1 = r then
          some (1 : Int32)
        else
          some (0 : Int32)) fun (v46 : Int32) =>
      Option.bind (mX4_lengthen s39.2 s26.1 (s26.1 - v43) v44 v46) fun v47 =>
      some (.inl ((s39.1 + (1 : Int32)), v47))

def mX4_reckon_l21 (k : GS) (r : Int32) (s26 : Int32 × GS) : Option ((Int32 × GS) ⊕ (Int32 × GS)) :=
  if (69 : Int32) ≤ s26.1 then
    some (.inr (s26.1, s26.2))
  else
    Option.bind (ast 69 (s26.2.1 0) s26.1 (1000000 : Int32)) fun f28 =>
    Option.bind (ast 69 ((sA s26.2 0 f28).1 1) s26.1 (0 : Int32)) fun f29 =>
    Option.bind (whO (mX4_reckon_l45 k r s26) FU ((0 : Int32), (sA (sA s26.2 0 f28) 1 f29))) fun e48 =>
    some (.inl ((s26.1 + (1 : Int32)), e48.2))

def mX4_reckon (g : GS) (k : GS) (r : Int32) : Option (GS) :=
  Option.bind (ast 69 (g.1 0) (0 : Int32) (0 : Int32)) fun f1 =>
  Option.bind (ast 69 ((sA g 0 f1).1 1) (0 : Int32) (0 : Int32)) fun f2 =>
  Option.bind (whO (mX4_reckon_l21 k r) FU ((1 : Int32), (sA (sA g 0 f1) 1 f2))) fun e49 =>
  some e49.2
abbrev rmX4_reckon : Room := { frames := 1, cells := 0, slots := 0, locals := 26 }
set_option maxHeartbeats 4000000 in
set_option maxRecDepth 100000 in
theorem k_X4_reckon (l : Launch) (D : va_G) (ca : Nat → ClassId) (ga : Nat → Nat) (ka : Nat → Nat) (g : GS) (k : GS) (r : Int32) (o : GS) (hm : mX4_reckon g k r = some o) : KV l yX4_reckon wsX4_reckon rmX4_reckon D ca [.ref (ga 0), .ref (ka 0), .int r] ((cP ca ga g) ++ (cH ca ka k)) ((cP ca ga o) ++ (cH ca ka k)) := by
  refine KV.of (cc := cX4_reckon) (n := 5) (plainFor_of_name (by decide)) rfl (Nat.le_of_ble_eq_true rfl) ?_
  intro p e s m below meth c A Z hx hb hml hts hown hA hK hP hD hS hret ls hl
  have hown : s.vm.findClass RX4 = some m.cls := hown
  have hl : lv_has ls 5 [(0, .ref (ga 0)), (1, .ref (ka 0)), (2, .int r)] := hl
  have inX0 : ∀ w ∈ wsX00, w ∈ wsX4_reckon := by decide +kernel
  have inX4 : ∀ w ∈ wsX40, w ∈ wsX4_reckon := by decide +kernel
  have k1 := hts (.fieldLink RX4 11 "FriezeFolk$Paperer" "least" "[I") (by decide +kernel)
  have k2 := hts (.fieldLink RX4 15 "FriezeFolk$Paperer" "chosen" "[I") (by decide +kernel)
  have k3 := hts (.constant RX4 18 (1000000 : Int32)) (by decide +kernel)
  have k4 := hts (.fieldLink RX4 25 "FriezeFolk$Hall" "length" "[I") (by decide +kernel)
  have k5 := hts (.fieldLink RX4 28 "FriezeFolk$Hall" "price" "[I") (by decide +kernel)
  unfold mX4_reckon at hm
  refine lv_aload_n hx hb dX4_reckon_0 rfl (lv_at hl 1 rfl) ?_
  refine lv_ifnonnull (tgt := 5) hx hb dX4_reckon_1 (by decide) ?_
  refine lv_aload_n hx hb dX4_reckon_5 rfl (lv_at hl 0 rfl) ?_
  refine xget (ref := "FriezeFolk$Paperer") (C := RX4) (T := TX4) (N := 2) (ci := 4) (v := .ref (ga 1)) hx hb hts inX4 hown hK hP 0 rfl rfl 0 (by decide) k1 rfl rfl dX4_reckon_6 ?_
  refine lv_iconst (v := (0 : Int32)) hx hb dX4_reckon_9 (by decide) ?_
  refine lv_iconst (v := (0 : Int32)) hx hb dX4_reckon_10 (by decide) ?_
  obtain ⟨f1, q1, h50⟩ := obn hm
  clear hm
  refine xast hx hb hK hP hD hS 1 rfl q1 dX4_reckon_11 (wn := ((cP ca ga (sA g 0 f1)) ++ (cH ca ka k))) rfl (fun H locs hP hD hS => ?_)
  refine lv_aload_n hx hb dX4_reckon_12 rfl (lv_at hl 0 rfl) ?_
  refine xget (ref := "FriezeFolk$Paperer") (C := RX4) (T := TX4) (N := 2) (ci := 4) (v := .ref (ga 2)) hx hb hts inX4 hown hK hP 0 rfl rfl 1 (by decide) k2 rfl rfl dX4_reckon_13 ?_
  refine lv_iconst (v := (0 : Int32)) hx hb dX4_reckon_16 (by decide) ?_
  refine lv_iconst (v := (0 : Int32)) hx hb dX4_reckon_17 (by decide) ?_
  obtain ⟨f2, q2, h51⟩ := obn h50
  clear h50
  refine xast hx hb hK hP hD hS 2 rfl q2 dX4_reckon_18 (wn := ((cP ca ga (sA (sA g 0 f1) 1 f2)) ++ (cH ca ka k))) rfl (fun H locs hP hD hS => ?_)
  refine lv_iconst (v := (1 : Int32)) hx hb dX4_reckon_19 (by decide) ?_
  refine lv_istore_n (lv' := [(3, .int (1 : Int32)), (0, .ref (ga 0)), (1, .ref (ka 0)), (2, .int r)]) hx hb dX4_reckon_20 rfl hl (by decide) rfl (fun ls hl => ?_)
  obtain ⟨e49, w52, h53⟩ := obn h51
  clear h51
  have AF49 : ∀ (ls : Array Slot) (H : Heap) (locs : List Loc), lv_has ls 5 [] → va_P D vwCl ((cP ca ga e49.2) ++ (cH ca ka k)) H → va_D A ((cP ca ga e49.2) ++ (cH ca ka k)) → va_S A s.heap H locs → W p l e rmX4_reckon s m ([.ref (ga 0), .ref (ka 0), .int r] : List Value).toArray below meth c H locs 0 0 Z (F0 m 104 ls []) := by
    intro ls H locs hl hP hD hS
    obtain rfl := Option.some.inj h53
    exact hret _ _ _ _ hP hD hS dX4_reckon_104
  refine whO_walk (I := fun s26 => ∀ (ls : Array Slot) (H : Heap) (locs : List Loc), lv_has ls 5 [(0, .ref (ga 0)), (1, .ref (ka 0)), (2, .int r), (3, .int s26.1)] → va_P D vwCl ((cP ca ga s26.2) ++ (cH ca ka k)) H → va_D A ((cP ca ga s26.2) ++ (cH ca ka k)) → va_S A s.heap H locs → W p l e rmX4_reckon s m ([.ref (ga 0), .ref (ka 0), .int r] : List Value).toArray below meth c H locs 0 0 Z (F0 m 21 ls [])) ?_ _ _ w52 _ _ _ (lv_sub hl [1, 2, 3, 0] rfl) hP hD hS
  clear w52
  intro s26 o49 h54 hi49 ho49 ls H locs hl hP hD hS
  unfold mX4_reckon_l21 at h54
  refine lv_iload_n hx hb dX4_reckon_21 rfl (lv_at hl 3 rfl) ?_
  refine lv_bipush (v := (69 : Int32)) hx hb dX4_reckon_22 (by decide) ?_
  refine lv_icmp_ge (tgt := 104) hx hb dX4_reckon_24 (by decide) (fun c27 => ?_) (fun c27 => ?_)
  · skip
    replace h54 := (if_pos c27).symm.trans h54
    have h55 := ho49 _ (Option.some.inj h54).symm
    subst h55
    exact AF49 _ _ _ (lv_sub hl [] rfl) hP hD hS
  · skip
    replace h54 := (if_neg c27).symm.trans h54
    refine lv_aload_n hx hb dX4_reckon_27 rfl (lv_at hl 0 rfl) ?_
    refine xget (ref := "FriezeFolk$Paperer") (C := RX4) (T := TX4) (N := 2) (ci := 4) (v := .ref (ga 1)) hx hb hts inX4 hown hK hP 0 rfl rfl 0 (by decide) k1 rfl rfl dX4_reckon_28 ?_
    refine lv_iload_n hx hb dX4_reckon_31 rfl (lv_at hl 3 rfl) ?_
    refine lv_ldc hx hb hown k3 dX4_reckon_32 ?_
    obtain ⟨f28, q28, h56⟩ := obn h54
    clear h54
    refine xast hx hb hK hP hD hS 1 rfl q28 dX4_reckon_34 (wn := ((cP ca ga (sA s26.2 0 f28)) ++ (cH ca ka k))) rfl (fun H locs hP hD hS => ?_)
    refine lv_aload_n hx hb dX4_reckon_35 rfl (lv_at hl 0 rfl) ?_
    refine xget (ref := "FriezeFolk$Paperer") (C := RX4) (T := TX4) (N := 2) (ci := 4) (v := .ref (ga 2)) hx hb hts inX4 hown hK hP 0 rfl rfl 1 (by decide) k2 rfl rfl dX4_reckon_36 ?_
    refine lv_iload_n hx hb dX4_reckon_39 rfl (lv_at hl 3 rfl) ?_
    refine lv_iconst (v := (0 : Int32)) hx hb dX4_reckon_40 (by decide) ?_
    obtain ⟨f29, q29, h57⟩ := obn h56
    clear h56
    refine xast hx hb hK hP hD hS 2 rfl q29 dX4_reckon_41 (wn := ((cP ca ga (sA (sA s26.2 0 f28) 1 f29)) ++ (cH ca ka k))) rfl (fun H locs hP hD hS => ?_)
    refine lv_iconst (v := (0 : Int32)) hx hb dX4_reckon_42 (by decide) ?_
    refine lv_istore (lv' := [(4, .int (0 : Int32)), (0, .ref (ga 0)), (1, .ref (ka 0)), (2, .int r), (3, .int s26.1)]) hx hb dX4_reckon_43 hl (by decide) rfl (fun ls hl => ?_)
    obtain ⟨e48, w58, h59⟩ := obn h57
    clear h57
    have AF48 : ∀ (ls : Array Slot) (H : Heap) (locs : List Loc), lv_has ls 5 [(0, .ref (ga 0)), (1, .ref (ka 0)), (2, .int r), (3, .int s26.1)] → va_P D vwCl ((cP ca ga e48.2) ++ (cH ca ka k)) H → va_D A ((cP ca ga e48.2) ++ (cH ca ka k)) → va_S A s.heap H locs → W p l e rmX4_reckon s m ([.ref (ga 0), .ref (ka 0), .int r] : List Value).toArray below meth c H locs 0 0 Z (F0 m 98 ls []) := by
      intro ls H locs hl hP hD hS
      refine lv_iinc (v := (s26.1 + (1 : Int32))) (lv' := [(3, .int (s26.1 + (1 : Int32))), (0, .ref (ga 0)), (1, .ref (ka 0)), (2, .int r)]) hx hb dX4_reckon_98 hl (k := 3) rfl rfl (by decide) rfl (fun ls hl => ?_)
      refine lv_goto (tgt := 21) hx hb dX4_reckon_101 (by decide) ?_
      exact hi49 _ (Option.some.inj h59).symm _ _ _ (lv_sub hl [1, 2, 3, 0] rfl) hP hD hS
    refine whO_walk (I := fun s39 => ∀ (ls : Array Slot) (H : Heap) (locs : List Loc), lv_has ls 5 [(0, .ref (ga 0)), (1, .ref (ka 0)), (2, .int r), (3, .int s26.1), (4, .int s39.1)] → va_P D vwCl ((cP ca ga s39.2) ++ (cH ca ka k)) H → va_D A ((cP ca ga s39.2) ++ (cH ca ka k)) → va_S A s.heap H locs → W p l e rmX4_reckon s m ([.ref (ga 0), .ref (ka 0), .int r] : List Value).toArray below meth c H locs 0 0 Z (F0 m 45 ls [])) ?_ _ _ w58 _ _ _ (lv_sub hl [1, 2, 3, 4, 0] rfl) hP hD hS
    clear w58
    intro s39 o48 h60 hi48 ho48 ls H locs hl hP hD hS
    unfold mX4_reckon_l45 at h60
    refine lv_iload hx hb dX4_reckon_45 (lv_at hl 4 rfl) ?_
    refine lv_iconst (v := (4 : Int32)) hx hb dX4_reckon_47 (by decide) ?_
    refine lv_icmp_ge (tgt := 98) hx hb dX4_reckon_48 (by decide) (fun c40 => ?_) (fun c40 => ?_)
    · skip
      replace h60 := (if_pos c40).symm.trans h60
      have h61 := ho48 _ (Option.some.inj h60).symm
      subst h61
      exact AF48 _ _ _ (lv_sub hl [0, 1, 2, 3] rfl) hP hD hS
    · skip
      replace h60 := (if_neg c40).symm.trans h60
      refine lv_aload_n hx hb dX4_reckon_51 rfl (lv_at hl 1 rfl) ?_
      refine lv_iload hx hb dX4_reckon_52 (lv_at hl 4 rfl) ?_
      obtain ⟨v41, q41, h62⟩ := obn h60
      clear h60
      refine xVi (As := [.int s39.1]) (ci := 0) ⟨hx, hb, hml, hown, hts⟩ (k_X0_hasRoll l D ca ka k s39.1 _ q41) (cwV 1 hts gX4_reckon_X0_hasRoll rfl rfl rfl (by decide +kernel) ⟨Nat.le_of_ble_eq_true rfl, Nat.le_of_ble_eq_true rfl⟩) hK hA hP hD hS dX4_reckon_54 rfl hl.1 [3, 4, 5, 6, 7, 8] [0, 1, 2] [0, 1, 2, 3, 4, 5, 6, 7, 8] rfl rfl (wr := ((cP ca ga s39.2))) rfl rfl (by decide) (wn := ((cP ca ga s39.2) ++ (cH ca ka k))) rfl rfl rfl rfl rfl rfl (Nat.le_of_ble_eq_true rfl) (fun H locs hP hD hS => ?_)
      refine lv_if_eq (tgt := 98) hx hb dX4_reckon_57 (by decide) (fun c42 => ?_) (fun c42 => ?_)
      · skip
        replace h62 := (if_pos c42).symm.trans h62
        have h63 := ho48 _ (Option.some.inj h62).symm
        subst h63
        exact AF48 _ _ _ (lv_sub hl [0, 1, 2, 3] rfl) hP hD hS
      · skip
        replace h62 := (if_neg c42).symm.trans h62
        refine lv_aload_n hx hb dX4_reckon_60 rfl (lv_at hl 0 rfl) ?_
        refine lv_iload_n hx hb dX4_reckon_61 rfl (lv_at hl 3 rfl) ?_
        refine lv_iload_n hx hb dX4_reckon_62 rfl (lv_at hl 3 rfl) ?_
        refine lv_aload_n hx hb dX4_reckon_63 rfl (lv_at hl 1 rfl) ?_
        refine xget (ref := "FriezeFolk$Hall") (C := RX0) (T := TX0) (N := 13) (ci := 0) (v := .ref (ka 4)) hx hb hts inX0 hown hK hP 3 rfl rfl 3 (by decide) k4 rfl rfl dX4_reckon_64 ?_
        refine lv_iload hx hb dX4_reckon_67 (lv_at hl 4 rfl) ?_
        obtain ⟨v43, q43, h64⟩ := obn h62
        clear h62
        refine xald hx hb hK hP 7 rfl q43 dX4_reckon_69 ?_
        refine lv_isub hx hb dX4_reckon_70 ?_
        refine lv_aload_n hx hb dX4_reckon_71 rfl (lv_at hl 1 rfl) ?_
        refine xget (ref := "FriezeFolk$Hall") (C := RX0) (T := TX0) (N := 13) (ci := 0) (v := .ref (ka 5)) hx hb hts inX0 hown hK hP 3 rfl rfl 4 (by decide) k5 rfl rfl dX4_reckon_72 ?_
        refine lv_iload hx hb dX4_reckon_75 (lv_at hl 4 rfl) ?_
        obtain ⟨v44, q44, h65⟩ := obn h64
        clear h64
        refine xald hx hb hK hP 8 rfl q44 dX4_reckon_77 ?_
        refine lv_iload hx hb dX4_reckon_78 (lv_at hl 4 rfl) ?_
        refine lv_iload_n hx hb dX4_reckon_80 rfl (lv_at hl 2 rfl) ?_
        obtain ⟨v46, q66, h67⟩ := obn h65
        clear h65
        have J46 : ∀ (ls : Array Slot) (H : Heap) (locs : List Loc), lv_has ls 5 [(0, .ref (ga 0)), (1, .ref (ka 0)), (2, .int r), (3, .int s26.1), (4, .int s39.1)] → va_P D vwCl ((cP ca ga s39.2) ++ (cH ca ka k)) H → va_D A ((cP ca ga s39.2) ++ (cH ca ka k)) → va_S A s.heap H locs → W p l e rmX4_reckon s m ([.ref (ga 0), .ref (ka 0), .int r] : List Value).toArray below meth c H locs 0 0 Z (F0 m 89 ls [.int v46, .int v44, .int (s26.1 - v43), .int s26.1, .ref (ga 0)]) := by
          intro ls H locs hl hP hD hS
          obtain ⟨v47, q47, h68⟩ := obn h67
          clear h67
          refine xVv (As := [.int s26.1, .int (s26.1 - v43), .int v44, .int v46]) (ci := 4) ⟨hx, hb, hml, hown, hts⟩ (k_X4_lengthen l D ca ga s39.2 s26.1 (s26.1 - v43) v44 v46 _ q47) (cwV 4 hts gX4_reckon_X4_lengthen rfl rfl rfl (by decide +kernel) ⟨Nat.le_of_ble_eq_true rfl, Nat.le_of_ble_eq_true rfl⟩) hK hA hP hD hS dX4_reckon_89 rfl hl.1 [0, 1, 2] [3, 4, 5, 6, 7, 8] [6, 7, 8, 0, 1, 2, 3, 4, 5] rfl rfl (wr := ((cH ca ka k))) rfl rfl (by decide) (wn := ((cP ca ga v47) ++ (cH ca ka k))) rfl rfl rfl rfl rfl rfl (Nat.le_of_ble_eq_true rfl) (fun H locs hP hD hS => ?_)
          refine lv_iinc (v := (s39.1 + (1 : Int32))) (lv' := [(4, .int (s39.1 + (1 : Int32))), (0, .ref (ga 0)), (1, .ref (ka 0)), (2, .int r), (3, .int s26.1)]) hx hb dX4_reckon_92 hl (k := 4) rfl rfl (by decide) rfl (fun ls hl => ?_)
          refine lv_goto (tgt := 45) hx hb dX4_reckon_95 (by decide) ?_
          exact hi48 _ (Option.some.inj h68).symm _ _ _ (lv_sub hl [1, 2, 3, 4, 0] rfl) hP hD hS
        refine lv_icmp_ne (tgt := 88) hx hb dX4_reckon_81 (by decide) (fun c45 => ?_) (fun c45 => ?_)
        · skip
          replace q66 := (if_neg c45).symm.trans q66
          refine lv_iconst (v := (0 : Int32)) hx hb dX4_reckon_88 (by decide) ?_
          obtain rfl := Option.some.inj q66
          exact J46 _ _ _ (lv_sub hl [0, 1, 2, 3, 4] rfl) hP hD hS
        · skip
          replace q66 := (if_pos c45).symm.trans q66
          refine lv_iconst (v := (1 : Int32)) hx hb dX4_reckon_84 (by decide) ?_
          refine lv_goto (tgt := 89) hx hb dX4_reckon_85 (by decide) ?_
          obtain rfl := Option.some.inj q66
          exact J46 _ _ _ (lv_sub hl [0, 1, 2, 3, 4] rfl) hP hD hS
def mX4_leastPrice_l5 (g : GS) (n : Int32) (s1 : Int32 × Int32) : Option ((Int32 × Int32) ⊕ (Int32 × Int32)) :=
  if (69 : Int32) ≤ s1.2 then
    some (.inr (s1.1, s1.2))
  else
    Option.bind (
      if s1.2 < n then
        some s1.1
      else
        Option.bind (ald 69 (g.1 0) s1.2) fun v4 =>
        some (if v4 < s1.1 then v4 else s1.1)) fun (v5 : Int32) =>
    some (.inl (v5, (s1.2 + (1 : Int32))))

def mX4_leastPrice (g : GS) (n : Int32) : Option (Int32) :=
  Option.bind (whO (mX4_leastPrice_l5 g n) FU ((1000000 : Int32), (0 : Int32))) fun e6 =>
  some e6.1
abbrev rmX4_leastPrice : Room := { frames := 1, cells := 0, slots := 0, locals := 21 }
set_option maxHeartbeats 4000000 in
set_option maxRecDepth 100000 in
theorem k_X4_leastPrice (l : Launch) (D : va_G) (ca : Nat → ClassId) (ga : Nat → Nat) (g : GS) (n : Int32) (o : Int32) (hm : mX4_leastPrice g n = some o) : KI l yX4_leastPrice wsX4_leastPrice rmX4_leastPrice D ca [.ref (ga 0), .int n] (cP ca ga g) (cP ca ga g) o := by
  refine KI.of (cc := cX4_leastPrice) (n := 4) (plainFor_of_name (by decide)) rfl (Nat.le_of_ble_eq_true rfl) ?_
  intro p e s m below meth c A Z hx hb hml hts hown hA hK hP hD hS hret ls hl
  have hown : s.vm.findClass RX4 = some m.cls := hown
  have hl : lv_has ls 4 [(0, .ref (ga 0)), (1, .int n)] := hl
  have inX4 : ∀ w ∈ wsX40, w ∈ wsX4_leastPrice := by decide +kernel
  have k1 := hts (.constant RX4 18 (1000000 : Int32)) (by decide +kernel)
  have k2 := hts (.fieldLink RX4 11 "FriezeFolk$Paperer" "least" "[I") (by decide +kernel)
  have k3 := hts (.methodLink RX4 35 Lib.Math.min.name) (by decide +kernel)
  have k4 := hts (.static Lib.Math.min.name) (by decide +kernel)
  have k5 := hts (.initialized "java/lang/Math") (by decide +kernel)
  have k6 := hts (.code Lib.Math.min.name Lib.Math.min.code 2 (some .int)) (by decide +kernel)
  unfold mX4_leastPrice at hm
  refine lv_ldc hx hb hown k1 dX4_leastPrice_0 ?_
  refine lv_istore_n (lv' := [(2, .int (1000000 : Int32)), (0, .ref (ga 0)), (1, .int n)]) hx hb dX4_leastPrice_2 rfl hl (by decide) rfl (fun ls hl => ?_)
  refine lv_iconst (v := (0 : Int32)) hx hb dX4_leastPrice_3 (by decide) ?_
  refine lv_istore_n (lv' := [(3, .int (0 : Int32)), (2, .int (1000000 : Int32)), (0, .ref (ga 0)), (1, .int n)]) hx hb dX4_leastPrice_4 rfl hl (by decide) rfl (fun ls hl => ?_)
  obtain ⟨e6, w7, h8⟩ := obn hm
  clear hm
  have AF6 : ∀ (ls : Array Slot) (H : Heap) (locs : List Loc), lv_has ls 4 [(2, .int e6.1)] → va_P D vwCl (cP ca ga g) H → va_D A (cP ca ga g) → va_S A s.heap H locs → W p l e rmX4_leastPrice s m ([.ref (ga 0), .int n] : List Value).toArray below meth c H locs 0 0 Z (F0 m 33 ls []) := by
    intro ls H locs hl hP hD hS
    refine lv_iload_n hx hb dX4_leastPrice_33 rfl (lv_at hl 0 rfl) ?_
    obtain rfl := Option.some.inj h8
    exact hret _ _ _ _ (vp_nar_int _) hP hD hS dX4_leastPrice_34
  refine whO_walk (I := fun s1 => ∀ (ls : Array Slot) (H : Heap) (locs : List Loc), lv_has ls 4 [(0, .ref (ga 0)), (1, .int n), (2, .int s1.1), (3, .int s1.2)] → va_P D vwCl (cP ca ga g) H → va_D A (cP ca ga g) → va_S A s.heap H locs → W p l e rmX4_leastPrice s m ([.ref (ga 0), .int n] : List Value).toArray below meth c H locs 0 0 Z (F0 m 5 ls [])) ?_ _ _ w7 _ _ _ (lv_sub hl [2, 3, 1, 0] rfl) hP hD hS
  clear w7
  intro s1 o6 h9 hi6 ho6 ls H locs hl hP hD hS
  unfold mX4_leastPrice_l5 at h9
  refine lv_iload_n hx hb dX4_leastPrice_5 rfl (lv_at hl 3 rfl) ?_
  refine lv_bipush (v := (69 : Int32)) hx hb dX4_leastPrice_6 (by decide) ?_
  refine lv_icmp_ge (tgt := 33) hx hb dX4_leastPrice_8 (by decide) (fun c2 => ?_) (fun c2 => ?_)
  · skip
    replace h9 := (if_pos c2).symm.trans h9
    have h10 := ho6 _ (Option.some.inj h9).symm
    subst h10
    exact AF6 _ _ _ (lv_sub hl [2] rfl) hP hD hS
  · skip
    replace h9 := (if_neg c2).symm.trans h9
    refine lv_iload_n hx hb dX4_leastPrice_11 rfl (lv_at hl 3 rfl) ?_
    refine lv_iload_n hx hb dX4_leastPrice_12 rfl (lv_at hl 1 rfl) ?_
    obtain ⟨v5, q11, h12⟩ := obn h9
    clear h9
    have J5 : ∀ (ls : Array Slot) (H : Heap) (locs : List Loc), lv_has ls 4 [(0, .ref (ga 0)), (1, .int n), (2, .int v5), (3, .int s1.2)] → va_P D vwCl (cP ca ga g) H → va_D A (cP ca ga g) → va_S A s.heap H locs → W p l e rmX4_leastPrice s m ([.ref (ga 0), .int n] : List Value).toArray below meth c H locs 0 0 Z (F0 m 27 ls []) := by
      intro ls H locs hl hP hD hS
      refine lv_iinc (v := (s1.2 + (1 : Int32))) (lv' := [(3, .int (s1.2 + (1 : Int32))), (0, .ref (ga 0)), (1, .int n), (2, .int v5)]) hx hb dX4_leastPrice_27 hl (k := 3) rfl rfl (by decide) rfl (fun ls hl => ?_)
      refine lv_goto (tgt := 5) hx hb dX4_leastPrice_30 (by decide) ?_
      exact hi6 _ (Option.some.inj h12).symm _ _ _ (lv_sub hl [1, 2, 3, 0] rfl) hP hD hS
    refine lv_icmp_lt (tgt := 27) hx hb dX4_leastPrice_13 (by decide) (fun c3 => ?_) (fun c3 => ?_)
    · skip
      replace q11 := (if_pos c3).symm.trans q11
      obtain rfl := Option.some.inj q11
      exact J5 _ _ _ (lv_sub hl [0, 1, 2, 3] rfl) hP hD hS
    · skip
      replace q11 := (if_neg c3).symm.trans q11
      refine lv_iload_n hx hb dX4_leastPrice_16 rfl (lv_at hl 2 rfl) ?_
      refine lv_aload_n hx hb dX4_leastPrice_17 rfl (lv_at hl 0 rfl) ?_
      refine xget (ref := "FriezeFolk$Paperer") (C := RX4) (T := TX4) (N := 2) (ci := 4) (v := .ref (ga 1)) hx hb hts inX4 hown hK hP 0 rfl rfl 0 (by decide) k2 rfl rfl dX4_leastPrice_18 ?_
      refine lv_iload_n hx hb dX4_leastPrice_21 rfl (lv_at hl 3 rfl) ?_
      obtain ⟨v4, q4, h13⟩ := obn q11
      clear q11
      refine xald hx hb hK hP 1 rfl q4 dX4_leastPrice_22 ?_
      refine va_mmin hx hb (hml.trans hl.1.symm) hown k3 k4 k5 k6 (Nat.le_of_ble_eq_true rfl) (Nat.le_of_ble_eq_true rfl) (Nat.zero_le _) (Nat.zero_le _) dX4_leastPrice_23 ?_
      refine lv_istore_n (lv' := [(2, .int (if v4 < s1.1 then v4 else s1.1)), (0, .ref (ga 0)), (1, .int n), (3, .int s1.2)]) hx hb dX4_leastPrice_26 rfl hl (by decide) rfl (fun ls hl => ?_)
      obtain rfl := Option.some.inj h13
      exact J5 _ _ _ (lv_sub hl [1, 2, 0, 3] rfl) hP hD hS
def mX4_leastLeft_l2 (g : GS) (n : Int32) (w : Int32) (s1 : Int32) : Option ((Int32) ⊕ ((Int32) ⊕ (Int32))) :=
  if (69 : Int32) ≤ s1 then
    some (.inr (.inl s1))
  else
    Option.bind (
      if s1 < n then
        some (.inl ())
      else
        Option.bind (ald 69 (g.1 0) s1) fun v4 =>
        if v4 = w then
          some (.inr (.inr (.inr (s1 - n))))
        else
          some (.inl ())) fun (v6 : (Unit) ⊕ ((Int32) ⊕ ((Int32) ⊕ (Int32)))) => esc v6 fun t7 =>
    some (.inl (s1 + (1 : Int32)))

def mX4_leastLeft (g : GS) (n : Int32) (w : Int32) : Option (Int32) :=
  Option.bind (whO (mX4_leastLeft_l2 g n w) FU (0 : Int32)) fun e8 => esc e8 fun t9 =>
  some (-4 : Int32)
abbrev rmX4_leastLeft : Room := { frames := 0, cells := 0, slots := 0, locals := 0 }
set_option maxHeartbeats 4000000 in
set_option maxRecDepth 100000 in
theorem k_X4_leastLeft (l : Launch) (D : va_G) (ca : Nat → ClassId) (ga : Nat → Nat) (g : GS) (n : Int32) (w : Int32) (o : Int32) (hm : mX4_leastLeft g n w = some o) : KI l yX4_leastLeft wsX4_leastLeft rmX4_leastLeft D ca [.ref (ga 0), .int n, .int w] (cP ca ga g) (cP ca ga g) o := by
  refine KI.of (cc := cX4_leastLeft) (n := 4) (plainFor_of_name (by decide)) rfl (Nat.le_of_ble_eq_true rfl) ?_
  intro p e s m below meth c A Z hx hb hml hts hown hA hK hP hD hS hret ls hl
  have hown : s.vm.findClass RX4 = some m.cls := hown
  have hl : lv_has ls 4 [(0, .ref (ga 0)), (1, .int n), (2, .int w)] := hl
  have inX4 : ∀ w ∈ wsX40, w ∈ wsX4_leastLeft := by decide +kernel
  have k1 := hts (.fieldLink RX4 11 "FriezeFolk$Paperer" "least" "[I") (by decide +kernel)
  unfold mX4_leastLeft at hm
  refine lv_iconst (v := (0 : Int32)) hx hb dX4_leastLeft_0 (by decide) ?_
  refine lv_istore_n (lv' := [(3, .int (0 : Int32)), (0, .ref (ga 0)), (1, .int n), (2, .int w)]) hx hb dX4_leastLeft_1 rfl hl (by decide) rfl (fun ls hl => ?_)
  obtain ⟨e8, w10, h11⟩ := obn hm
  clear hm
  have AF8 : ∀ t9, e8 = .inl t9 → ∀ (ls : Array Slot) (H : Heap) (locs : List Loc), lv_has ls 4 [] → va_P D vwCl (cP ca ga g) H → va_D A (cP ca ga g) → va_S A s.heap H locs → W p l e rmX4_leastLeft s m ([.ref (ga 0), .int n, .int w] : List Value).toArray below meth c H locs 0 0 Z (F0 m 33 ls []) := by
    intro t9 ht ls H locs hl hP hD hS
    subst ht
    replace h11 := (esc_l _ _).symm.trans h11
    refine lv_bipush (v := (-4 : Int32)) hx hb dX4_leastLeft_33 (by decide) ?_
    obtain rfl := Option.some.inj h11
    exact hret _ _ _ _ (vp_nar_int _) hP hD hS dX4_leastLeft_35
  refine whO_walk (I := fun s1 => ∀ (ls : Array Slot) (H : Heap) (locs : List Loc), lv_has ls 4 [(0, .ref (ga 0)), (1, .int n), (2, .int w), (3, .int s1)] → va_P D vwCl (cP ca ga g) H → va_D A (cP ca ga g) → va_S A s.heap H locs → W p l e rmX4_leastLeft s m ([.ref (ga 0), .int n, .int w] : List Value).toArray below meth c H locs 0 0 Z (F0 m 2 ls [])) ?_ _ _ w10 _ _ _ (lv_sub hl [1, 2, 3, 0] rfl) hP hD hS
  clear w10
  intro s1 o8 h12 hi8 ho8 ls H locs hl hP hD hS
  unfold mX4_leastLeft_l2 at h12
  refine lv_iload_n hx hb dX4_leastLeft_2 rfl (lv_at hl 3 rfl) ?_
  refine lv_bipush (v := (69 : Int32)) hx hb dX4_leastLeft_3 (by decide) ?_
  refine lv_icmp_ge (tgt := 33) hx hb dX4_leastLeft_5 (by decide) (fun c2 => ?_) (fun c2 => ?_)
  · skip
    replace h12 := (if_pos c2).symm.trans h12
    have h13 := ho8 _ (Option.some.inj h12).symm
    subst h13
    exact AF8 _ rfl _ _ _ (lv_sub hl [] rfl) hP hD hS
  · skip
    replace h12 := (if_neg c2).symm.trans h12
    refine lv_iload_n hx hb dX4_leastLeft_8 rfl (lv_at hl 3 rfl) ?_
    refine lv_iload_n hx hb dX4_leastLeft_9 rfl (lv_at hl 1 rfl) ?_
    obtain ⟨v6, q14, h15⟩ := obn h12
    clear h12
    have J6 : ∀ t7, v6 = .inl t7 → ∀ (ls : Array Slot) (H : Heap) (locs : List Loc), lv_has ls 4 [(0, .ref (ga 0)), (1, .int n), (2, .int w), (3, .int s1)] → va_P D vwCl (cP ca ga g) H → va_D A (cP ca ga g) → va_S A s.heap H locs → W p l e rmX4_leastLeft s m ([.ref (ga 0), .int n, .int w] : List Value).toArray below meth c H locs 0 0 Z (F0 m 27 ls []) := by
      intro t7 ht ls H locs hl hP hD hS
      subst ht
      replace h15 := (esc_l _ _).symm.trans h15
      refine lv_iinc (v := (s1 + (1 : Int32))) (lv' := [(3, .int (s1 + (1 : Int32))), (0, .ref (ga 0)), (1, .int n), (2, .int w)]) hx hb dX4_leastLeft_27 hl (k := 3) rfl rfl (by decide) rfl (fun ls hl => ?_)
      refine lv_goto (tgt := 2) hx hb dX4_leastLeft_30 (by decide) ?_
      exact hi8 _ (Option.some.inj h15).symm _ _ _ (lv_sub hl [1, 2, 3, 0] rfl) hP hD hS
    refine lv_icmp_lt (tgt := 27) hx hb dX4_leastLeft_10 (by decide) (fun c3 => ?_) (fun c3 => ?_)
    · skip
      replace q14 := (if_pos c3).symm.trans q14
      obtain rfl := Option.some.inj q14
      exact J6 _ rfl _ _ _ (lv_sub hl [0, 1, 2, 3] rfl) hP hD hS
    · skip
      replace q14 := (if_neg c3).symm.trans q14
      refine lv_aload_n hx hb dX4_leastLeft_13 rfl (lv_at hl 0 rfl) ?_
      refine xget (ref := "FriezeFolk$Paperer") (C := RX4) (T := TX4) (N := 2) (ci := 4) (v := .ref (ga 1)) hx hb hts inX4 hown hK hP 0 rfl rfl 0 (by decide) k1 rfl rfl dX4_leastLeft_14 ?_
      refine lv_iload_n hx hb dX4_leastLeft_17 rfl (lv_at hl 3 rfl) ?_
      obtain ⟨v4, q4, h16⟩ := obn q14
      clear q14
      refine xald hx hb hK hP 1 rfl q4 dX4_leastLeft_18 ?_
      refine lv_iload_n hx hb dX4_leastLeft_19 rfl (lv_at hl 2 rfl) ?_
      refine lv_icmp_ne (tgt := 27) hx hb dX4_leastLeft_20 (by decide) (fun c5 => ?_) (fun c5 => ?_)
      · skip
        replace h16 := (if_neg c5).symm.trans h16
        obtain rfl := Option.some.inj h16
        exact J6 _ rfl _ _ _ (lv_sub hl [0, 1, 2, 3] rfl) hP hD hS
      · skip
        replace h16 := (if_pos c5).symm.trans h16
        refine lv_iload_n hx hb dX4_leastLeft_23 rfl (lv_at hl 3 rfl) ?_
        refine lv_iload_n hx hb dX4_leastLeft_24 rfl (lv_at hl 1 rfl) ?_
        refine lv_isub hx hb dX4_leastLeft_25 ?_
        obtain rfl := Option.some.inj h16
        replace h15 := (esc_r _ _).symm.trans h15
        have h17 := ho8 _ (Option.some.inj h15).symm
        subst h17
        replace h11 := (esc_r _ _).symm.trans h11
        obtain rfl := Option.some.inj h11
        exact hret _ _ _ _ (vp_nar_int _) hP hD hS dX4_leastLeft_26
def mX4_mostChosen_l5 (g : GS) (n : Int32) (w : Int32) (s1 : Int32 × Int32) : Option ((Int32 × Int32) ⊕ (Int32 × Int32)) :=
  if (69 : Int32) ≤ s1.2 then
    some (.inr (s1.1, s1.2))
  else
    Option.bind (
      if s1.2 < n then
        some s1.1
      else
        Option.bind (ald 69 (g.1 0) s1.2) fun v4 =>
        if v4 = w then
          Option.bind (ald 69 (g.1 1) s1.2) fun v6 =>
          some (if s1.1 < v6 then v6 else s1.1)
        else
          some s1.1) fun (v7 : Int32) =>
    some (.inl (v7, (s1.2 + (1 : Int32))))

def mX4_mostChosen (g : GS) (n : Int32) (w : Int32) : Option (Int32) :=
  Option.bind (whO (mX4_mostChosen_l5 g n w) FU ((0 : Int32), (0 : Int32))) fun e8 =>
  some e8.1
abbrev rmX4_mostChosen : Room := { frames := 1, cells := 0, slots := 0, locals := 21 }
set_option maxHeartbeats 4000000 in
set_option maxRecDepth 100000 in
theorem k_X4_mostChosen (l : Launch) (D : va_G) (ca : Nat → ClassId) (ga : Nat → Nat) (g : GS) (n : Int32) (w : Int32) (o : Int32) (hm : mX4_mostChosen g n w = some o) : KI l yX4_mostChosen wsX4_mostChosen rmX4_mostChosen D ca [.ref (ga 0), .int n, .int w] (cP ca ga g) (cP ca ga g) o := by
  refine KI.of (cc := cX4_mostChosen) (n := 5) (plainFor_of_name (by decide)) rfl (Nat.le_of_ble_eq_true rfl) ?_
  intro p e s m below meth c A Z hx hb hml hts hown hA hK hP hD hS hret ls hl
  have hown : s.vm.findClass RX4 = some m.cls := hown
  have hl : lv_has ls 5 [(0, .ref (ga 0)), (1, .int n), (2, .int w)] := hl
  have inX4 : ∀ w ∈ wsX40, w ∈ wsX4_mostChosen := by decide +kernel
  have k1 := hts (.fieldLink RX4 11 "FriezeFolk$Paperer" "least" "[I") (by decide +kernel)
  have k2 := hts (.fieldLink RX4 15 "FriezeFolk$Paperer" "chosen" "[I") (by decide +kernel)
  have k3 := hts (.methodLink RX4 41 Lib.Math.max.name) (by decide +kernel)
  have k4 := hts (.static Lib.Math.max.name) (by decide +kernel)
  have k5 := hts (.initialized "java/lang/Math") (by decide +kernel)
  have k6 := hts (.code Lib.Math.max.name Lib.Math.max.code 2 (some .int)) (by decide +kernel)
  unfold mX4_mostChosen at hm
  refine lv_iconst (v := (0 : Int32)) hx hb dX4_mostChosen_0 (by decide) ?_
  refine lv_istore_n (lv' := [(3, .int (0 : Int32)), (0, .ref (ga 0)), (1, .int n), (2, .int w)]) hx hb dX4_mostChosen_1 rfl hl (by decide) rfl (fun ls hl => ?_)
  refine lv_iconst (v := (0 : Int32)) hx hb dX4_mostChosen_2 (by decide) ?_
  refine lv_istore (lv' := [(4, .int (0 : Int32)), (3, .int (0 : Int32)), (0, .ref (ga 0)), (1, .int n), (2, .int w)]) hx hb dX4_mostChosen_3 hl (by decide) rfl (fun ls hl => ?_)
  obtain ⟨e8, w9, h10⟩ := obn hm
  clear hm
  have AF8 : ∀ (ls : Array Slot) (H : Heap) (locs : List Loc), lv_has ls 5 [(3, .int e8.1)] → va_P D vwCl (cP ca ga g) H → va_D A (cP ca ga g) → va_S A s.heap H locs → W p l e rmX4_mostChosen s m ([.ref (ga 0), .int n, .int w] : List Value).toArray below meth c H locs 0 0 Z (F0 m 47 ls []) := by
    intro ls H locs hl hP hD hS
    refine lv_iload_n hx hb dX4_mostChosen_47 rfl (lv_at hl 0 rfl) ?_
    obtain rfl := Option.some.inj h10
    exact hret _ _ _ _ (vp_nar_int _) hP hD hS dX4_mostChosen_48
  refine whO_walk (I := fun s1 => ∀ (ls : Array Slot) (H : Heap) (locs : List Loc), lv_has ls 5 [(0, .ref (ga 0)), (1, .int n), (2, .int w), (3, .int s1.1), (4, .int s1.2)] → va_P D vwCl (cP ca ga g) H → va_D A (cP ca ga g) → va_S A s.heap H locs → W p l e rmX4_mostChosen s m ([.ref (ga 0), .int n, .int w] : List Value).toArray below meth c H locs 0 0 Z (F0 m 5 ls [])) ?_ _ _ w9 _ _ _ (lv_sub hl [2, 3, 4, 1, 0] rfl) hP hD hS
  clear w9
  intro s1 o8 h11 hi8 ho8 ls H locs hl hP hD hS
  unfold mX4_mostChosen_l5 at h11
  refine lv_iload hx hb dX4_mostChosen_5 (lv_at hl 4 rfl) ?_
  refine lv_bipush (v := (69 : Int32)) hx hb dX4_mostChosen_7 (by decide) ?_
  refine lv_icmp_ge (tgt := 47) hx hb dX4_mostChosen_9 (by decide) (fun c2 => ?_) (fun c2 => ?_)
  · skip
    replace h11 := (if_pos c2).symm.trans h11
    have h12 := ho8 _ (Option.some.inj h11).symm
    subst h12
    exact AF8 _ _ _ (lv_sub hl [3] rfl) hP hD hS
  · skip
    replace h11 := (if_neg c2).symm.trans h11
    refine lv_iload hx hb dX4_mostChosen_12 (lv_at hl 4 rfl) ?_
    refine lv_iload_n hx hb dX4_mostChosen_14 rfl (lv_at hl 1 rfl) ?_
    obtain ⟨v7, q13, h14⟩ := obn h11
    clear h11
    have J7 : ∀ (ls : Array Slot) (H : Heap) (locs : List Loc), lv_has ls 5 [(0, .ref (ga 0)), (1, .int n), (2, .int w), (3, .int v7), (4, .int s1.2)] → va_P D vwCl (cP ca ga g) H → va_D A (cP ca ga g) → va_S A s.heap H locs → W p l e rmX4_mostChosen s m ([.ref (ga 0), .int n, .int w] : List Value).toArray below meth c H locs 0 0 Z (F0 m 41 ls []) := by
      intro ls H locs hl hP hD hS
      refine lv_iinc (v := (s1.2 + (1 : Int32))) (lv' := [(4, .int (s1.2 + (1 : Int32))), (0, .ref (ga 0)), (1, .int n), (2, .int w), (3, .int v7)]) hx hb dX4_mostChosen_41 hl (k := 4) rfl rfl (by decide) rfl (fun ls hl => ?_)
      refine lv_goto (tgt := 5) hx hb dX4_mostChosen_44 (by decide) ?_
      exact hi8 _ (Option.some.inj h14).symm _ _ _ (lv_sub hl [1, 2, 3, 4, 0] rfl) hP hD hS
    refine lv_icmp_lt (tgt := 41) hx hb dX4_mostChosen_15 (by decide) (fun c3 => ?_) (fun c3 => ?_)
    · skip
      replace q13 := (if_pos c3).symm.trans q13
      obtain rfl := Option.some.inj q13
      exact J7 _ _ _ (lv_sub hl [0, 1, 2, 3, 4] rfl) hP hD hS
    · skip
      replace q13 := (if_neg c3).symm.trans q13
      refine lv_aload_n hx hb dX4_mostChosen_18 rfl (lv_at hl 0 rfl) ?_
      refine xget (ref := "FriezeFolk$Paperer") (C := RX4) (T := TX4) (N := 2) (ci := 4) (v := .ref (ga 1)) hx hb hts inX4 hown hK hP 0 rfl rfl 0 (by decide) k1 rfl rfl dX4_mostChosen_19 ?_
      refine lv_iload hx hb dX4_mostChosen_22 (lv_at hl 4 rfl) ?_
      obtain ⟨v4, q4, h15⟩ := obn q13
      clear q13
      refine xald hx hb hK hP 1 rfl q4 dX4_mostChosen_24 ?_
      refine lv_iload_n hx hb dX4_mostChosen_25 rfl (lv_at hl 2 rfl) ?_
      refine lv_icmp_ne (tgt := 41) hx hb dX4_mostChosen_26 (by decide) (fun c5 => ?_) (fun c5 => ?_)
      · skip
        replace h15 := (if_neg c5).symm.trans h15
        obtain rfl := Option.some.inj h15
        exact J7 _ _ _ (lv_sub hl [0, 1, 2, 3, 4] rfl) hP hD hS
      · skip
        replace h15 := (if_pos c5).symm.trans h15
        refine lv_iload_n hx hb dX4_mostChosen_29 rfl (lv_at hl 3 rfl) ?_
        refine lv_aload_n hx hb dX4_mostChosen_30 rfl (lv_at hl 0 rfl) ?_
        refine xget (ref := "FriezeFolk$Paperer") (C := RX4) (T := TX4) (N := 2) (ci := 4) (v := .ref (ga 2)) hx hb hts inX4 hown hK hP 0 rfl rfl 1 (by decide) k2 rfl rfl dX4_mostChosen_31 ?_
        refine lv_iload hx hb dX4_mostChosen_34 (lv_at hl 4 rfl) ?_
        obtain ⟨v6, q6, h16⟩ := obn h15
        clear h15
        refine xald hx hb hK hP 2 rfl q6 dX4_mostChosen_36 ?_
        refine va_mmax hx hb (hml.trans hl.1.symm) hown k3 k4 k5 k6 (Nat.le_of_ble_eq_true rfl) (Nat.le_of_ble_eq_true rfl) (Nat.zero_le _) (Nat.zero_le _) dX4_mostChosen_37 ?_
        refine lv_istore_n (lv' := [(3, .int (if s1.1 < v6 then v6 else s1.1)), (0, .ref (ga 0)), (1, .int n), (2, .int w), (4, .int s1.2)]) hx hb dX4_mostChosen_40 rfl hl (by decide) rfl (fun ls hl => ?_)
        obtain rfl := Option.some.inj h16
        exact J7 _ _ _ (lv_sub hl [1, 2, 3, 0, 4] rfl) hP hD hS

def mX6_renew (g : GS) (i : Int32) (n : Int32) : Option (GS) :=
  Option.bind (mJ7_fill_53178 (g.1 0) 40 (0 : Int32)) fun v1 =>
  some (sI (sI (sA g 0 v1) 1 i) 2 n)
abbrev rmX6_renew : Room := { frames := 1, cells := 0, slots := 0, locals := 23 }
set_option maxHeartbeats 4000000 in
set_option maxRecDepth 100000 in
theorem k_X6_renew (l : Launch) (D : va_G) (ca : Nat → ClassId) (ga : Nat → Nat) (g : GS) (i : Int32) (n : Int32) (o : GS) (hm : mX6_renew g i n = some o) : KV l yX6_renew wsX6_renew rmX6_renew D ca [.ref (ga 0), .int i, .int n] (cW ca ga g) (cW ca ga o) := by
  refine KV.of (cc := cX6_renew) (n := 3) (plainFor_of_name (by decide)) rfl (Nat.le_of_ble_eq_true rfl) ?_
  intro p e s m below meth c A Z hx hb hml hts hown hA hK hP hD hS hret ls hl
  have hown : s.vm.findClass RX6 = some m.cls := hown
  have hl : lv_has ls 3 [(0, .ref (ga 0)), (1, .int i), (2, .int n)] := hl
  have inX6 : ∀ w ∈ wsX60, w ∈ wsX6_renew := by decide +kernel
  have k1 := hts (.fieldLink RX6 9 "FriezeFolk$Row" "cells" "[I") (by decide +kernel)
  have k2 := hts (.fieldLink RX6 15 "FriezeFolk$Row" "lane" "I") (by decide +kernel)
  have k3 := hts (.fieldLink RX6 19 "FriezeFolk$Row" "size" "I") (by decide +kernel)
  unfold mX6_renew at hm
  refine lv_aload_n hx hb dX6_renew_0 rfl (lv_at hl 0 rfl) ?_
  refine xget (ref := "FriezeFolk$Row") (C := RX6) (T := TX6) (N := 3) (ci := 6) (v := .ref (ga 1)) hx hb hts inX6 hown hK hP 0 rfl rfl 0 (by decide) k1 rfl rfl dX6_renew_1 ?_
  refine lv_iconst (v := (0 : Int32)) hx hb dX6_renew_4 (by decide) ?_
  obtain ⟨v1, q1, h2⟩ := obn hm
  clear hm
  refine xSv (As := [.ref (ga 1), .int (0 : Int32)]) ⟨hx, hb, hml, hown, hts⟩ (k_J7_fill_53178 l D ca 40 (ga 1) (g.1 0) (0 : Int32) _ q1) (va_cwS 2 hts gX6_renew_J7_fill_53178 rfl rfl rfl (by decide +kernel) ⟨Nat.le_of_ble_eq_true rfl, Nat.le_of_ble_eq_true rfl⟩) hK hA hP hD hS dX6_renew_5 rfl hl.1 [1] [0] [0, 1] rfl rfl (wr := (((cW ca ga (sA g 0 v1)).eraseIdx 1))) rfl rfl (by decide) (wn := (cW ca ga (sA g 0 v1))) rfl rfl rfl (Nat.le_of_ble_eq_true rfl) (fun H locs hP hD hS => ?_)
  refine lv_aload_n hx hb dX6_renew_8 rfl (lv_at hl 0 rfl) ?_
  refine lv_iload_n hx hb dX6_renew_9 rfl (lv_at hl 1 rfl) ?_
  refine xput (ref := "FriezeFolk$Row") (C := RX6) (T := TX6) (N := 3) (ci := 6) (v := .int i) (ty := .int) hx hb hts inX6 tyX6 tyX6_ok nmX6 hown hK hP hD hS 0 rfl rfl 1 (by decide) k2 rfl rfl (by decide +kernel) rfl rfl (Nat.le_of_ble_eq_true rfl) dX6_renew_10 (wn := (cW ca ga (sI (sA g 0 v1) 1 i))) rfl (fun H locs hP hD hS => ?_)
  refine lv_aload_n hx hb dX6_renew_13 rfl (lv_at hl 0 rfl) ?_
  refine lv_iload_n hx hb dX6_renew_14 rfl (lv_at hl 2 rfl) ?_
  refine xput (ref := "FriezeFolk$Row") (C := RX6) (T := TX6) (N := 3) (ci := 6) (v := .int n) (ty := .int) hx hb hts inX6 tyX6 tyX6_ok nmX6 hown hK hP hD hS 0 rfl rfl 2 (by decide) k3 rfl rfl (by decide +kernel) rfl rfl (Nat.le_of_ble_eq_true rfl) dX6_renew_15 (wn := (cW ca ga (sI (sI (sA g 0 v1) 1 i) 2 n))) rfl (fun H locs hP hD hS => ?_)
  obtain rfl := Option.some.inj h2
  exact hret _ _ _ _ hP hD hS dX6_renew_18

def mX6_faultAt (g : GS) (i : Int32) (j : Int32) : Option (Int32) :=
  if (g.2 1) = (-4 : Int32) then
    some (1 : Int32)
  else
    if (g.2 1) = i then
      Option.bind (
        if j < 0 then
          some (.inl ())
        else
          if j < (g.2 2) then
            some (.inr (0 : Int32))
          else
            some (.inl ())) fun (v5 : (Unit) ⊕ (Int32)) => esc v5 fun t6 =>
      some (2 : Int32)
    else
      some (3 : Int32)
abbrev rmX6_faultAt : Room := { frames := 0, cells := 0, slots := 0, locals := 0 }
set_option maxHeartbeats 4000000 in
set_option maxRecDepth 100000 in
theorem k_X6_faultAt (l : Launch) (D : va_G) (ca : Nat → ClassId) (ga : Nat → Nat) (g : GS) (i : Int32) (j : Int32) (o : Int32) (hm : mX6_faultAt g i j = some o) : KI l yX6_faultAt wsX6_faultAt rmX6_faultAt D ca [.ref (ga 0), .int i, .int j] (cW ca ga g) (cW ca ga g) o := by
  refine KI.of (cc := cX6_faultAt) (n := 3) (plainFor_of_name (by decide)) rfl (Nat.le_of_ble_eq_true rfl) ?_
  intro p e s m below meth c A Z hx hb hml hts hown hA hK hP hD hS hret ls hl
  have hown : s.vm.findClass RX6 = some m.cls := hown
  have hl : lv_has ls 3 [(0, .ref (ga 0)), (1, .int i), (2, .int j)] := hl
  have inX6 : ∀ w ∈ wsX60, w ∈ wsX6_faultAt := by decide +kernel
  have k1 := hts (.fieldLink RX6 15 "FriezeFolk$Row" "lane" "I") (by decide +kernel)
  have k2 := hts (.fieldLink RX6 19 "FriezeFolk$Row" "size" "I") (by decide +kernel)
  unfold mX6_faultAt at hm
  refine lv_aload_n hx hb dX6_faultAt_0 rfl (lv_at hl 0 rfl) ?_
  refine xget (ref := "FriezeFolk$Row") (C := RX6) (T := TX6) (N := 3) (ci := 6) (v := .int (g.2 1)) hx hb hts inX6 hown hK hP 0 rfl rfl 1 (by decide) k1 rfl rfl dX6_faultAt_1 ?_
  refine lv_bipush (v := (-4 : Int32)) hx hb dX6_faultAt_4 (by decide) ?_
  refine lv_icmp_ne (tgt := 11) hx hb dX6_faultAt_6 (by decide) (fun c1 => ?_) (fun c1 => ?_)
  · skip
    replace hm := (if_neg c1).symm.trans hm
    refine lv_aload_n hx hb dX6_faultAt_11 rfl (lv_at hl 0 rfl) ?_
    refine xget (ref := "FriezeFolk$Row") (C := RX6) (T := TX6) (N := 3) (ci := 6) (v := .int (g.2 1)) hx hb hts inX6 hown hK hP 0 rfl rfl 1 (by decide) k1 rfl rfl dX6_faultAt_12 ?_
    refine lv_iload_n hx hb dX6_faultAt_15 rfl (lv_at hl 1 rfl) ?_
    refine lv_icmp_eq (tgt := 21) hx hb dX6_faultAt_16 (by decide) (fun c2 => ?_) (fun c2 => ?_)
    · skip
      replace hm := (if_pos c2).symm.trans hm
      refine lv_iload_n hx hb dX6_faultAt_21 rfl (lv_at hl 2 rfl) ?_
      obtain ⟨v5, q7, h8⟩ := obn hm
      clear hm
      have J5 : ∀ t6, v5 = .inl t6 → ∀ (ls : Array Slot) (H : Heap) (locs : List Loc), lv_has ls 3 [] → va_P D vwCl (cW ca ga g) H → va_D A (cW ca ga g) → va_S A s.heap H locs → W p l e rmX6_faultAt s m ([.ref (ga 0), .int i, .int j] : List Value).toArray below meth c H locs 0 0 Z (F0 m 33 ls []) := by
        intro t6 ht ls H locs hl hP hD hS
        subst ht
        replace h8 := (esc_l _ _).symm.trans h8
        refine lv_iconst (v := (2 : Int32)) hx hb dX6_faultAt_33 (by decide) ?_
        refine lv_goto (tgt := 38) hx hb dX6_faultAt_34 (by decide) ?_
        obtain rfl := Option.some.inj h8
        exact hret _ _ _ _ (vp_nar_int _) hP hD hS dX6_faultAt_38
      refine lv_if_lt (tgt := 33) hx hb dX6_faultAt_22 (by decide) (fun c3 => ?_) (fun c3 => ?_)
      · skip
        replace q7 := (if_pos c3).symm.trans q7
        obtain rfl := Option.some.inj q7
        exact J5 _ rfl _ _ _ (lv_sub hl [] rfl) hP hD hS
      · skip
        replace q7 := (if_neg c3).symm.trans q7
        refine lv_iload_n hx hb dX6_faultAt_25 rfl (lv_at hl 2 rfl) ?_
        refine lv_aload_n hx hb dX6_faultAt_26 rfl (lv_at hl 0 rfl) ?_
        refine xget (ref := "FriezeFolk$Row") (C := RX6) (T := TX6) (N := 3) (ci := 6) (v := .int (g.2 2)) hx hb hts inX6 hown hK hP 0 rfl rfl 2 (by decide) k2 rfl rfl dX6_faultAt_27 ?_
        refine lv_icmp_lt (tgt := 37) hx hb dX6_faultAt_30 (by decide) (fun c4 => ?_) (fun c4 => ?_)
        · skip
          replace q7 := (if_pos c4).symm.trans q7
          refine lv_iconst (v := (0 : Int32)) hx hb dX6_faultAt_37 (by decide) ?_
          obtain rfl := Option.some.inj q7
          replace h8 := (esc_r _ _).symm.trans h8
          obtain rfl := Option.some.inj h8
          exact hret _ _ _ _ (vp_nar_int _) hP hD hS dX6_faultAt_38
        · skip
          replace q7 := (if_neg c4).symm.trans q7
          obtain rfl := Option.some.inj q7
          exact J5 _ rfl _ _ _ (lv_sub hl [] rfl) hP hD hS
    · skip
      replace hm := (if_neg c2).symm.trans hm
      refine lv_iconst (v := (3 : Int32)) hx hb dX6_faultAt_19 (by decide) ?_
      obtain rfl := Option.some.inj hm
      exact hret _ _ _ _ (vp_nar_int _) hP hD hS dX6_faultAt_20
  · skip
    replace hm := (if_pos c1).symm.trans hm
    refine lv_iconst (v := (1 : Int32)) hx hb dX6_faultAt_9 (by decide) ?_
    obtain rfl := Option.some.inj hm
    exact hret _ _ _ _ (vp_nar_int _) hP hD hS dX6_faultAt_10

def mX6_faultOfPair (g : GS) (i : Int32) (j : Int32) : Option (Int32) :=
  Option.bind (mX6_faultAt g i j) fun v1 =>
  if v1 = 0 then
    Option.bind (mX6_faultAt g i (j + (1 : Int32))) fun v3 =>
    some v3
  else
    some v1
abbrev rmX6_faultOfPair : Room := { frames := 1, cells := 0, slots := 0, locals := 22 }
set_option maxHeartbeats 4000000 in
set_option maxRecDepth 100000 in
theorem k_X6_faultOfPair (l : Launch) (D : va_G) (ca : Nat → ClassId) (ga : Nat → Nat) (g : GS) (i : Int32) (j : Int32) (o : Int32) (hm : mX6_faultOfPair g i j = some o) : KI l yX6_faultOfPair wsX6_faultOfPair rmX6_faultOfPair D ca [.ref (ga 0), .int i, .int j] (cW ca ga g) (cW ca ga g) o := by
  refine KI.of (cc := cX6_faultOfPair) (n := 4) (plainFor_of_name (by decide)) rfl (Nat.le_of_ble_eq_true rfl) ?_
  intro p e s m below meth c A Z hx hb hml hts hown hA hK hP hD hS hret ls hl
  have hown : s.vm.findClass RX6 = some m.cls := hown
  have hl : lv_has ls 4 [(0, .ref (ga 0)), (1, .int i), (2, .int j)] := hl
  unfold mX6_faultOfPair at hm
  refine lv_aload_n hx hb dX6_faultOfPair_0 rfl (lv_at hl 0 rfl) ?_
  refine lv_iload_n hx hb dX6_faultOfPair_1 rfl (lv_at hl 1 rfl) ?_
  refine lv_iload_n hx hb dX6_faultOfPair_2 rfl (lv_at hl 2 rfl) ?_
  obtain ⟨v1, q1, h4⟩ := obn hm
  clear hm
  refine xVi (As := [.int i, .int j]) (ci := 6) ⟨hx, hb, hml, hown, hts⟩ (k_X6_faultAt l D ca ga g i j _ q1) (cwV 2 hts gX6_faultOfPair_X6_faultAt rfl rfl rfl (by decide +kernel) ⟨Nat.le_of_ble_eq_true rfl, Nat.le_of_ble_eq_true rfl⟩) hK hA hP hD hS dX6_faultOfPair_3 rfl hl.1 [0, 1] [] [0, 1] rfl rfl (wr := []) rfl rfl (by decide) (wn := (cW ca ga g)) rfl rfl rfl rfl rfl rfl (Nat.le_of_ble_eq_true rfl) (fun H locs hP hD hS => ?_)
  refine lv_istore_n (lv' := [(3, .int v1), (0, .ref (ga 0)), (1, .int i), (2, .int j)]) hx hb dX6_faultOfPair_6 rfl hl (by decide) rfl (fun ls hl => ?_)
  refine lv_iload_n hx hb dX6_faultOfPair_7 rfl (lv_at hl 0 rfl) ?_
  refine lv_if_eq (tgt := 15) hx hb dX6_faultOfPair_8 (by decide) (fun c2 => ?_) (fun c2 => ?_)
  · skip
    replace h4 := (if_pos c2).symm.trans h4
    refine lv_aload_n hx hb dX6_faultOfPair_15 rfl (lv_at hl 1 rfl) ?_
    refine lv_iload_n hx hb dX6_faultOfPair_16 rfl (lv_at hl 2 rfl) ?_
    refine lv_iload_n hx hb dX6_faultOfPair_17 rfl (lv_at hl 3 rfl) ?_
    refine lv_iconst (v := (1 : Int32)) hx hb dX6_faultOfPair_18 (by decide) ?_
    refine lv_iadd hx hb dX6_faultOfPair_19 ?_
    obtain ⟨v3, q3, h5⟩ := obn h4
    clear h4
    refine xVi (As := [.int i, .int (j + (1 : Int32))]) (ci := 6) ⟨hx, hb, hml, hown, hts⟩ (k_X6_faultAt l D ca ga g i (j + (1 : Int32)) _ q3) (cwV 2 hts gX6_faultOfPair_X6_faultAt rfl rfl rfl (by decide +kernel) ⟨Nat.le_of_ble_eq_true rfl, Nat.le_of_ble_eq_true rfl⟩) hK hA hP hD hS dX6_faultOfPair_20 rfl hl.1 [0, 1] [] [0, 1] rfl rfl (wr := []) rfl rfl (by decide) (wn := (cW ca ga g)) rfl rfl rfl rfl rfl rfl (Nat.le_of_ble_eq_true rfl) (fun H locs hP hD hS => ?_)
    obtain rfl := Option.some.inj h5
    exact hret _ _ _ _ (vp_nar_int _) hP hD hS dX6_faultOfPair_23
  · skip
    replace h4 := (if_neg c2).symm.trans h4
    refine lv_iload_n hx hb dX6_faultOfPair_11 rfl (lv_at hl 0 rfl) ?_
    refine lv_goto (tgt := 23) hx hb dX6_faultOfPair_12 (by decide) ?_
    obtain rfl := Option.some.inj h4
    exact hret _ _ _ _ (vp_nar_int _) hP hD hS dX6_faultOfPair_23

def mX6_cellAt (g : GS) (i : Int32) : Option (Int32) :=
  if i < 0 then
    some (0 : Int32)
  else
    if (g.2 2) ≤ i then
      some (0 : Int32)
    else
      if (40 : Int32) ≤ i then
        some (0 : Int32)
      else
        Option.bind (ald 40 (g.1 0) i) fun v4 =>
        some v4
abbrev rmX6_cellAt : Room := { frames := 0, cells := 0, slots := 0, locals := 0 }
set_option maxHeartbeats 4000000 in
set_option maxRecDepth 100000 in
theorem k_X6_cellAt (l : Launch) (D : va_G) (ca : Nat → ClassId) (ga : Nat → Nat) (g : GS) (i : Int32) (o : Int32) (hm : mX6_cellAt g i = some o) : KI l yX6_cellAt wsX6_cellAt rmX6_cellAt D ca [.ref (ga 0), .int i] (cW ca ga g) (cW ca ga g) o := by
  refine KI.of (cc := cX6_cellAt) (n := 2) (plainFor_of_name (by decide)) rfl (Nat.le_of_ble_eq_true rfl) ?_
  intro p e s m below meth c A Z hx hb hml hts hown hA hK hP hD hS hret ls hl
  have hown : s.vm.findClass RX6 = some m.cls := hown
  have hl : lv_has ls 2 [(0, .ref (ga 0)), (1, .int i)] := hl
  have inX6 : ∀ w ∈ wsX60, w ∈ wsX6_cellAt := by decide +kernel
  have k1 := hts (.fieldLink RX6 19 "FriezeFolk$Row" "size" "I") (by decide +kernel)
  have k2 := hts (.fieldLink RX6 9 "FriezeFolk$Row" "cells" "[I") (by decide +kernel)
  unfold mX6_cellAt at hm
  refine lv_iload_n hx hb dX6_cellAt_0 rfl (lv_at hl 1 rfl) ?_
  refine lv_if_lt (tgt := 27) hx hb dX6_cellAt_1 (by decide) (fun c1 => ?_) (fun c1 => ?_)
  · skip
    replace hm := (if_pos c1).symm.trans hm
    refine lv_iconst (v := (0 : Int32)) hx hb dX6_cellAt_27 (by decide) ?_
    obtain rfl := Option.some.inj hm
    exact hret _ _ _ _ (vp_nar_int _) hP hD hS dX6_cellAt_28
  · skip
    replace hm := (if_neg c1).symm.trans hm
    refine lv_iload_n hx hb dX6_cellAt_4 rfl (lv_at hl 1 rfl) ?_
    refine lv_aload_n hx hb dX6_cellAt_5 rfl (lv_at hl 0 rfl) ?_
    refine xget (ref := "FriezeFolk$Row") (C := RX6) (T := TX6) (N := 3) (ci := 6) (v := .int (g.2 2)) hx hb hts inX6 hown hK hP 0 rfl rfl 2 (by decide) k1 rfl rfl dX6_cellAt_6 ?_
    refine lv_icmp_ge (tgt := 27) hx hb dX6_cellAt_9 (by decide) (fun c2 => ?_) (fun c2 => ?_)
    · skip
      replace hm := (if_pos c2).symm.trans hm
      refine lv_iconst (v := (0 : Int32)) hx hb dX6_cellAt_27 (by decide) ?_
      obtain rfl := Option.some.inj hm
      exact hret _ _ _ _ (vp_nar_int _) hP hD hS dX6_cellAt_28
    · skip
      replace hm := (if_neg c2).symm.trans hm
      refine lv_iload_n hx hb dX6_cellAt_12 rfl (lv_at hl 1 rfl) ?_
      refine lv_bipush (v := (40 : Int32)) hx hb dX6_cellAt_13 (by decide) ?_
      refine lv_icmp_ge (tgt := 27) hx hb dX6_cellAt_15 (by decide) (fun c3 => ?_) (fun c3 => ?_)
      · skip
        replace hm := (if_pos c3).symm.trans hm
        refine lv_iconst (v := (0 : Int32)) hx hb dX6_cellAt_27 (by decide) ?_
        obtain rfl := Option.some.inj hm
        exact hret _ _ _ _ (vp_nar_int _) hP hD hS dX6_cellAt_28
      · skip
        replace hm := (if_neg c3).symm.trans hm
        refine lv_aload_n hx hb dX6_cellAt_18 rfl (lv_at hl 0 rfl) ?_
        refine xget (ref := "FriezeFolk$Row") (C := RX6) (T := TX6) (N := 3) (ci := 6) (v := .ref (ga 1)) hx hb hts inX6 hown hK hP 0 rfl rfl 0 (by decide) k2 rfl rfl dX6_cellAt_19 ?_
        refine lv_iload_n hx hb dX6_cellAt_22 rfl (lv_at hl 1 rfl) ?_
        obtain ⟨v4, q4, h5⟩ := obn hm
        clear hm
        refine xald hx hb hK hP 1 rfl q4 dX6_cellAt_23 ?_
        refine lv_goto (tgt := 28) hx hb dX6_cellAt_24 (by decide) ?_
        obtain rfl := Option.some.inj h5
        exact hret _ _ _ _ (vp_nar_int _) hP hD hS dX6_cellAt_28

def mX6_write (g : GS) (i : Int32) (n : Int32) : Option (GS) :=
  if i < 0 then
    some g
  else
    if i < (40 : Int32) then
      if (g.2 1) = (0 : Int32) then
        Option.bind (ast 40 (g.1 0) i n.toInt8.toInt32) fun f4 =>
        some (sA g 0 f4)
      else
      if (g.2 1) = (1 : Int32) then
        Option.bind (ast 40 (g.1 0) i n.toInt16.toInt32) fun f6 =>
        some (sA g 0 f6)
      else
        Option.bind (ast 40 (g.1 0) i n) fun f7 =>
        some (sA g 0 f7)
    else
      some g
abbrev rmX6_write : Room := { frames := 0, cells := 0, slots := 0, locals := 0 }
set_option maxHeartbeats 4000000 in
set_option maxRecDepth 100000 in
theorem k_X6_write (l : Launch) (D : va_G) (ca : Nat → ClassId) (ga : Nat → Nat) (g : GS) (i : Int32) (n : Int32) (o : GS) (hm : mX6_write g i n = some o) : KV l yX6_write wsX6_write rmX6_write D ca [.ref (ga 0), .int i, .int n] (cW ca ga g) (cW ca ga o) := by
  refine KV.of (cc := cX6_write) (n := 3) (plainFor_of_name (by decide)) rfl (Nat.le_of_ble_eq_true rfl) ?_
  intro p e s m below meth c A Z hx hb hml hts hown hA hK hP hD hS hret ls hl
  have hown : s.vm.findClass RX6 = some m.cls := hown
  have hl : lv_has ls 3 [(0, .ref (ga 0)), (1, .int i), (2, .int n)] := hl
  have inX6 : ∀ w ∈ wsX60, w ∈ wsX6_write := by decide +kernel
  have k1 := hts (.fieldLink RX6 15 "FriezeFolk$Row" "lane" "I") (by decide +kernel)
  have k2 := hts (.fieldLink RX6 9 "FriezeFolk$Row" "cells" "[I") (by decide +kernel)
  unfold mX6_write at hm
  refine lv_iload_n hx hb dX6_write_0 rfl (lv_at hl 1 rfl) ?_
  refine lv_if_lt (tgt := 10) hx hb dX6_write_1 (by decide) (fun c1 => ?_) (fun c1 => ?_)
  · skip
    replace hm := (if_pos c1).symm.trans hm
    obtain rfl := Option.some.inj hm
    exact hret _ _ _ _ hP hD hS dX6_write_10
  · skip
    replace hm := (if_neg c1).symm.trans hm
    refine lv_iload_n hx hb dX6_write_4 rfl (lv_at hl 1 rfl) ?_
    refine lv_bipush (v := (40 : Int32)) hx hb dX6_write_5 (by decide) ?_
    refine lv_icmp_lt (tgt := 11) hx hb dX6_write_7 (by decide) (fun c2 => ?_) (fun c2 => ?_)
    · skip
      replace hm := (if_pos c2).symm.trans hm
      refine lv_aload_n hx hb dX6_write_11 rfl (lv_at hl 0 rfl) ?_
      refine xget (ref := "FriezeFolk$Row") (C := RX6) (T := TX6) (N := 3) (ci := 6) (v := .int (g.2 1)) hx hb hts inX6 hown hK hP 0 rfl rfl 1 (by decide) k1 rfl rfl dX6_write_12 ?_
      by_cases c3 : (g.2 1) = (0 : Int32)
      · replace hm := (if_pos c3).symm.trans hm
        refine lv_lookup (tgt := 40) hx hb dX6_write_15 (by decide) (by rw [c3] <;> rfl) (by decide) ?_
        refine lv_aload_n hx hb dX6_write_40 rfl (lv_at hl 0 rfl) ?_
        refine xget (ref := "FriezeFolk$Row") (C := RX6) (T := TX6) (N := 3) (ci := 6) (v := .ref (ga 1)) hx hb hts inX6 hown hK hP 0 rfl rfl 0 (by decide) k2 rfl rfl dX6_write_41 ?_
        refine lv_iload_n hx hb dX6_write_44 rfl (lv_at hl 1 rfl) ?_
        refine lv_iload_n hx hb dX6_write_45 rfl (lv_at hl 2 rfl) ?_
        refine lv_i2b (v := n.toInt8.toInt32) hx hb dX6_write_46 rfl ?_
        obtain ⟨f4, q4, h8⟩ := obn hm
        clear hm
        refine xast hx hb hK hP hD hS 1 rfl q4 dX6_write_47 (wn := (cW ca ga (sA g 0 f4))) rfl (fun H locs hP hD hS => ?_)
        refine lv_goto (tgt := 69) hx hb dX6_write_48 (by decide) ?_
        obtain rfl := Option.some.inj h8
        exact hret _ _ _ _ hP hD hS dX6_write_69
      replace hm := (if_neg c3).symm.trans hm
      have ec3 : ¬ ((g.2 1)).toInt = 0 := fun z => c3 (Int32.toInt_inj.mp (z.trans (by decide)))
      by_cases c5 : (g.2 1) = (1 : Int32)
      · replace hm := (if_pos c5).symm.trans hm
        refine lv_lookup (tgt := 51) hx hb dX6_write_15 (by decide) (by rw [c5] <;> rfl) (by decide) ?_
        refine lv_aload_n hx hb dX6_write_51 rfl (lv_at hl 0 rfl) ?_
        refine xget (ref := "FriezeFolk$Row") (C := RX6) (T := TX6) (N := 3) (ci := 6) (v := .ref (ga 1)) hx hb hts inX6 hown hK hP 0 rfl rfl 0 (by decide) k2 rfl rfl dX6_write_52 ?_
        refine lv_iload_n hx hb dX6_write_55 rfl (lv_at hl 1 rfl) ?_
        refine lv_iload_n hx hb dX6_write_56 rfl (lv_at hl 2 rfl) ?_
        refine lv_i2s (v := n.toInt16.toInt32) hx hb dX6_write_57 rfl ?_
        obtain ⟨f6, q6, h9⟩ := obn hm
        clear hm
        refine xast hx hb hK hP hD hS 1 rfl q6 dX6_write_58 (wn := (cW ca ga (sA g 0 f6))) rfl (fun H locs hP hD hS => ?_)
        refine lv_goto (tgt := 69) hx hb dX6_write_59 (by decide) ?_
        obtain rfl := Option.some.inj h9
        exact hret _ _ _ _ hP hD hS dX6_write_69
      replace hm := (if_neg c5).symm.trans hm
      have ec5 : ¬ ((g.2 1)).toInt = 1 := fun z => c5 (Int32.toInt_inj.mp (z.trans (by decide)))
      refine lv_lookup (tgt := 62) hx hb dX6_write_15 (by decide) (lk_out2 ec3 ec5) (by decide) ?_
      refine lv_aload_n hx hb dX6_write_62 rfl (lv_at hl 0 rfl) ?_
      refine xget (ref := "FriezeFolk$Row") (C := RX6) (T := TX6) (N := 3) (ci := 6) (v := .ref (ga 1)) hx hb hts inX6 hown hK hP 0 rfl rfl 0 (by decide) k2 rfl rfl dX6_write_63 ?_
      refine lv_iload_n hx hb dX6_write_66 rfl (lv_at hl 1 rfl) ?_
      refine lv_iload_n hx hb dX6_write_67 rfl (lv_at hl 2 rfl) ?_
      obtain ⟨f7, q7, h10⟩ := obn hm
      clear hm
      refine xast hx hb hK hP hD hS 1 rfl q7 dX6_write_68 (wn := (cW ca ga (sA g 0 f7))) rfl (fun H locs hP hD hS => ?_)
      obtain rfl := Option.some.inj h10
      exact hret _ _ _ _ hP hD hS dX6_write_69
    · skip
      replace hm := (if_neg c2).symm.trans hm
      obtain rfl := Option.some.inj hm
      exact hret _ _ _ _ hP hD hS dX6_write_10
