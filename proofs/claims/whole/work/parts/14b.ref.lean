
def mX8_frankOn (g : GS) (j : Int32) (i : Int32) : Option (Int32) :=
  Option.bind (mX8_whoOn g j i) fun v1 =>
  if v1 = (-4 : Int32) then
    some (0 : Int32)
  else
    Option.bind (ald 240 (g.1 0) (j + (17 : Int32))) fun v3 =>
    if v3 = (i + (1 : Int32)) then
      some (0 : Int32)
    else
      Option.bind (ald 240 (g.1 0) (j + v1)) fun v5 =>
      Option.bind (ald 240 (g.1 0) ((j + (6 : Int32)) + v1)) fun v6 =>
      Option.bind (irm i (3 : Int32)) fun v7 =>
      Option.bind (
        if v7 = (2 : Int32) then
          some (v6 + (3 : Int32))
        else
          some v6) fun (v9 : Int32) =>
      Option.bind (
        if v5 = 0 then
          some v6
        else
          if v5 = (1 : Int32) then
            some v9
          else
            if v5 = (2 : Int32) then
              some ((2 : Int32) * v9)
            else
              Option.bind (idv v6 (2 : Int32)) fun v13 =>
              some v13) fun (v14 : Int32) =>
      Option.bind (ald 240 (g.1 0) ((j + (19 : Int32)) + i)) fun v15 =>
      if v14 ≤ v15 then
        some (0 : Int32)
      else
        Option.bind (ald 240 (g.1 0) ((j + (19 : Int32)) + i)) fun v17 =>
        some (v14 - v17)
abbrev rmX8_frankOn : Room := { frames := 1, cells := 0, slots := 0, locals := 23 }
set_option maxHeartbeats 4000000 in
set_option maxRecDepth 100000 in
theorem k_X8_frankOn (l : Launch) (D : va_G) (ca : Nat → ClassId) (ga : Nat → Nat) (g : GS) (j : Int32) (i : Int32) (o : Int32) (hm : mX8_frankOn g j i = some o) : KI l yX8_frankOn wsX8_frankOn rmX8_frankOn D ca [.ref (ga 0), .int j, .int i] (cO ca ga g) (cO ca ga g) o := by
  refine KI.of (cc := cX8_frankOn) (n := 8) (plainFor_of_name (by decide)) rfl (Nat.le_of_ble_eq_true rfl) ?_
  intro p e s m below meth c A Z hx hb hml hts hown hA hK hP hD hS hret ls hl
  have hown : s.vm.findClass RX8 = some m.cls := hown
  have hl : lv_has ls 8 [(0, .ref (ga 0)), (1, .int j), (2, .int i)] := hl
  have inX8 : ∀ w ∈ wsX80, w ∈ wsX8_frankOn := by decide +kernel
  have k1 := hts (.fieldLink RX8 7 "FriezeFolkModel" "state" "[I") (by decide +kernel)
  unfold mX8_frankOn at hm
  refine lv_aload_n hx hb dX8_frankOn_0 rfl (lv_at hl 0 rfl) ?_
  refine lv_iload_n hx hb dX8_frankOn_1 rfl (lv_at hl 1 rfl) ?_
  refine lv_iload_n hx hb dX8_frankOn_2 rfl (lv_at hl 2 rfl) ?_
  obtain ⟨v1, q1, h18⟩ := obn hm
  clear hm
  refine xVi (As := [.int j, .int i]) (ci := 8) ⟨hx, hb, hml, hown, hts⟩ (k_X8_whoOn l D ca ga g j i _ q1) (cwV 2 hts gX8_frankOn_X8_whoOn rfl rfl rfl (by decide +kernel) ⟨Nat.le_of_ble_eq_true rfl, Nat.le_of_ble_eq_true rfl⟩) hK hA hP hD hS dX8_frankOn_3 rfl hl.1 [0, 1, 2, 3, 4, 5, 6, 7, 8, 9, 10, 11, 12, 13] [] [0, 1, 2, 3, 4, 5, 6, 7, 8, 9, 10, 11, 12, 13] rfl rfl (wr := []) rfl rfl (by decide) (wn := (cO ca ga g)) rfl rfl rfl rfl rfl rfl (Nat.le_of_ble_eq_true rfl) (fun H locs hP hD hS => ?_)
  refine lv_istore_n (lv' := [(3, .int v1), (0, .ref (ga 0)), (1, .int j), (2, .int i)]) hx hb dX8_frankOn_6 rfl hl (by decide) rfl (fun ls hl => ?_)
  refine lv_iload_n hx hb dX8_frankOn_7 rfl (lv_at hl 0 rfl) ?_
  refine lv_bipush (v := (-4 : Int32)) hx hb dX8_frankOn_8 (by decide) ?_
  refine lv_icmp_eq (tgt := 28) hx hb dX8_frankOn_10 (by decide) (fun c2 => ?_) (fun c2 => ?_)
  · skip
    replace h18 := (if_pos c2).symm.trans h18
    refine lv_iconst (v := (0 : Int32)) hx hb dX8_frankOn_28 (by decide) ?_
    obtain rfl := Option.some.inj h18
    exact hret _ _ _ _ (vp_nar_int _) hP hD hS dX8_frankOn_29
  · skip
    replace h18 := (if_neg c2).symm.trans h18
    refine lv_aload_n hx hb dX8_frankOn_13 rfl (lv_at hl 1 rfl) ?_
    refine xget (ref := "FriezeFolkModel") (C := RX8) (T := TX8) (N := 24) (ci := 8) (v := .ref (ga 1)) hx hb hts inX8 hown hK hP 0 rfl rfl 0 (by decide) k1 rfl rfl dX8_frankOn_14 ?_
    refine lv_iload_n hx hb dX8_frankOn_17 rfl (lv_at hl 2 rfl) ?_
    refine lv_bipush (v := (17 : Int32)) hx hb dX8_frankOn_18 (by decide) ?_
    refine lv_iadd hx hb dX8_frankOn_20 ?_
    obtain ⟨v3, q3, h19⟩ := obn h18
    clear h18
    refine xald hx hb hK hP 1 rfl q3 dX8_frankOn_21 ?_
    refine lv_iload_n hx hb dX8_frankOn_22 rfl (lv_at hl 3 rfl) ?_
    refine lv_iconst (v := (1 : Int32)) hx hb dX8_frankOn_23 (by decide) ?_
    refine lv_iadd hx hb dX8_frankOn_24 ?_
    refine lv_icmp_ne (tgt := 30) hx hb dX8_frankOn_25 (by decide) (fun c4 => ?_) (fun c4 => ?_)
    · skip
      replace h19 := (if_neg c4).symm.trans h19
      refine lv_aload_n hx hb dX8_frankOn_30 rfl (lv_at hl 1 rfl) ?_
      refine xget (ref := "FriezeFolkModel") (C := RX8) (T := TX8) (N := 24) (ci := 8) (v := .ref (ga 1)) hx hb hts inX8 hown hK hP 0 rfl rfl 0 (by decide) k1 rfl rfl dX8_frankOn_31 ?_
      refine lv_iload_n hx hb dX8_frankOn_34 rfl (lv_at hl 2 rfl) ?_
      refine lv_iload_n hx hb dX8_frankOn_35 rfl (lv_at hl 0 rfl) ?_
      refine lv_iadd hx hb dX8_frankOn_36 ?_
      obtain ⟨v5, q5, h20⟩ := obn h19
      clear h19
      refine xald hx hb hK hP 1 rfl q5 dX8_frankOn_37 ?_
      refine lv_istore (lv' := [(4, .int v5), (3, .int v1), (0, .ref (ga 0)), (1, .int j), (2, .int i)]) hx hb dX8_frankOn_38 hl (by decide) rfl (fun ls hl => ?_)
      refine lv_aload_n hx hb dX8_frankOn_40 rfl (lv_at hl 2 rfl) ?_
      refine xget (ref := "FriezeFolkModel") (C := RX8) (T := TX8) (N := 24) (ci := 8) (v := .ref (ga 1)) hx hb hts inX8 hown hK hP 0 rfl rfl 0 (by decide) k1 rfl rfl dX8_frankOn_41 ?_
      refine lv_iload_n hx hb dX8_frankOn_44 rfl (lv_at hl 3 rfl) ?_
      refine lv_bipush (v := (6 : Int32)) hx hb dX8_frankOn_45 (by decide) ?_
      refine lv_iadd hx hb dX8_frankOn_47 ?_
      refine lv_iload_n hx hb dX8_frankOn_48 rfl (lv_at hl 1 rfl) ?_
      refine lv_iadd hx hb dX8_frankOn_49 ?_
      obtain ⟨v6, q6, h21⟩ := obn h20
      clear h20
      refine xald hx hb hK hP 1 rfl q6 dX8_frankOn_50 ?_
      refine lv_istore (lv' := [(5, .int v6), (4, .int v5), (3, .int v1), (0, .ref (ga 0)), (1, .int j), (2, .int i)]) hx hb dX8_frankOn_51 hl (by decide) rfl (fun ls hl => ?_)
      refine lv_iload_n hx hb dX8_frankOn_53 rfl (lv_at hl 5 rfl) ?_
      refine lv_iconst (v := (3 : Int32)) hx hb dX8_frankOn_54 (by decide) ?_
      obtain ⟨v7, q7, h22⟩ := obn h21
      clear h21
      refine xirm hx hb q7 dX8_frankOn_55 ?_
      refine lv_iconst (v := (2 : Int32)) hx hb dX8_frankOn_56 (by decide) ?_
      obtain ⟨v9, q23, h24⟩ := obn h22
      clear h22
      have J9 : ∀ (ls : Array Slot) (H : Heap) (locs : List Loc), lv_has ls 8 [(0, .ref (ga 0)), (1, .int j), (2, .int i), (4, .int v5), (5, .int v6)] → va_P D vwCl (cO ca ga g) H → va_D A (cO ca ga g) → va_S A s.heap H locs → W p l e rmX8_frankOn s m ([.ref (ga 0), .int j, .int i] : List Value).toArray below meth c H locs 0 0 Z (F0 m 69 ls [.int v9]) := by
        intro ls H locs hl hP hD hS
        refine lv_istore (lv' := [(6, .int v9), (0, .ref (ga 0)), (1, .int j), (2, .int i), (4, .int v5), (5, .int v6)]) hx hb dX8_frankOn_69 hl (by decide) rfl (fun ls hl => ?_)
        refine lv_iload hx hb dX8_frankOn_71 (lv_at hl 4 rfl) ?_
        obtain ⟨v14, q25, h26⟩ := obn h24
        clear h24
        have J14 : ∀ (ls : Array Slot) (H : Heap) (locs : List Loc), lv_has ls 8 [(0, .ref (ga 0)), (1, .int j), (2, .int i)] → va_P D vwCl (cO ca ga g) H → va_D A (cO ca ga g) → va_S A s.heap H locs → W p l e rmX8_frankOn s m ([.ref (ga 0), .int j, .int i] : List Value).toArray below meth c H locs 0 0 Z (F0 m 109 ls [.int v14]) := by
          intro ls H locs hl hP hD hS
          refine lv_istore (lv' := [(7, .int v14), (0, .ref (ga 0)), (1, .int j), (2, .int i)]) hx hb dX8_frankOn_109 hl (by decide) rfl (fun ls hl => ?_)
          refine lv_iload hx hb dX8_frankOn_111 (lv_at hl 0 rfl) ?_
          refine lv_aload_n hx hb dX8_frankOn_113 rfl (lv_at hl 1 rfl) ?_
          refine xget (ref := "FriezeFolkModel") (C := RX8) (T := TX8) (N := 24) (ci := 8) (v := .ref (ga 1)) hx hb hts inX8 hown hK hP 0 rfl rfl 0 (by decide) k1 rfl rfl dX8_frankOn_114 ?_
          refine lv_iload_n hx hb dX8_frankOn_117 rfl (lv_at hl 2 rfl) ?_
          refine lv_bipush (v := (19 : Int32)) hx hb dX8_frankOn_118 (by decide) ?_
          refine lv_iadd hx hb dX8_frankOn_120 ?_
          refine lv_iload_n hx hb dX8_frankOn_121 rfl (lv_at hl 3 rfl) ?_
          refine lv_iadd hx hb dX8_frankOn_122 ?_
          obtain ⟨v15, q15, h27⟩ := obn h26
          clear h26
          refine xald hx hb hK hP 1 rfl q15 dX8_frankOn_123 ?_
          refine lv_icmp_le (tgt := 144) hx hb dX8_frankOn_124 (by decide) (fun c16 => ?_) (fun c16 => ?_)
          · skip
            replace h27 := (if_pos c16).symm.trans h27
            refine lv_iconst (v := (0 : Int32)) hx hb dX8_frankOn_144 (by decide) ?_
            obtain rfl := Option.some.inj h27
            exact hret _ _ _ _ (vp_nar_int _) hP hD hS dX8_frankOn_145
          · skip
            replace h27 := (if_neg c16).symm.trans h27
            refine lv_iload hx hb dX8_frankOn_127 (lv_at hl 0 rfl) ?_
            refine lv_aload_n hx hb dX8_frankOn_129 rfl (lv_at hl 1 rfl) ?_
            refine xget (ref := "FriezeFolkModel") (C := RX8) (T := TX8) (N := 24) (ci := 8) (v := .ref (ga 1)) hx hb hts inX8 hown hK hP 0 rfl rfl 0 (by decide) k1 rfl rfl dX8_frankOn_130 ?_
            refine lv_iload_n hx hb dX8_frankOn_133 rfl (lv_at hl 2 rfl) ?_
            refine lv_bipush (v := (19 : Int32)) hx hb dX8_frankOn_134 (by decide) ?_
            refine lv_iadd hx hb dX8_frankOn_136 ?_
            refine lv_iload_n hx hb dX8_frankOn_137 rfl (lv_at hl 3 rfl) ?_
            refine lv_iadd hx hb dX8_frankOn_138 ?_
            obtain ⟨v17, q17, h28⟩ := obn h27
            clear h27
            refine xald hx hb hK hP 1 rfl q17 dX8_frankOn_139 ?_
            refine lv_isub hx hb dX8_frankOn_140 ?_
            refine lv_goto (tgt := 145) hx hb dX8_frankOn_141 (by decide) ?_
            obtain rfl := Option.some.inj h28
            exact hret _ _ _ _ (vp_nar_int _) hP hD hS dX8_frankOn_145
        refine lv_if_ne (tgt := 81) hx hb dX8_frankOn_73 (by decide) (fun c10 => ?_) (fun c10 => ?_)
        · skip
          replace q25 := (if_neg c10).symm.trans q25
          refine lv_iload hx hb dX8_frankOn_81 (lv_at hl 4 rfl) ?_
          refine lv_iconst (v := (1 : Int32)) hx hb dX8_frankOn_83 (by decide) ?_
          refine lv_icmp_ne (tgt := 92) hx hb dX8_frankOn_84 (by decide) (fun c11 => ?_) (fun c11 => ?_)
          · skip
            replace q25 := (if_neg c11).symm.trans q25
            refine lv_iload hx hb dX8_frankOn_92 (lv_at hl 4 rfl) ?_
            refine lv_iconst (v := (2 : Int32)) hx hb dX8_frankOn_94 (by decide) ?_
            refine lv_icmp_ne (tgt := 105) hx hb dX8_frankOn_95 (by decide) (fun c12 => ?_) (fun c12 => ?_)
            · skip
              replace q25 := (if_neg c12).symm.trans q25
              refine lv_iload hx hb dX8_frankOn_105 (lv_at hl 5 rfl) ?_
              refine lv_iconst (v := (2 : Int32)) hx hb dX8_frankOn_107 (by decide) ?_
              obtain ⟨v13, q13, h29⟩ := obn q25
              clear q25
              refine xidv hx hb q13 dX8_frankOn_108 ?_
              obtain rfl := Option.some.inj h29
              exact J14 _ _ _ (lv_sub hl [1, 2, 3] rfl) hP hD hS
            · skip
              replace q25 := (if_pos c12).symm.trans q25
              refine lv_iconst (v := (2 : Int32)) hx hb dX8_frankOn_98 (by decide) ?_
              refine lv_iload hx hb dX8_frankOn_99 (lv_at hl 0 rfl) ?_
              refine lv_imul hx hb dX8_frankOn_101 ?_
              refine lv_goto (tgt := 109) hx hb dX8_frankOn_102 (by decide) ?_
              obtain rfl := Option.some.inj q25
              exact J14 _ _ _ (lv_sub hl [1, 2, 3] rfl) hP hD hS
          · skip
            replace q25 := (if_pos c11).symm.trans q25
            refine lv_iload hx hb dX8_frankOn_87 (lv_at hl 0 rfl) ?_
            refine lv_goto (tgt := 109) hx hb dX8_frankOn_89 (by decide) ?_
            obtain rfl := Option.some.inj q25
            exact J14 _ _ _ (lv_sub hl [1, 2, 3] rfl) hP hD hS
        · skip
          replace q25 := (if_pos c10).symm.trans q25
          refine lv_iload hx hb dX8_frankOn_76 (lv_at hl 5 rfl) ?_
          refine lv_goto (tgt := 109) hx hb dX8_frankOn_78 (by decide) ?_
          obtain rfl := Option.some.inj q25
          exact J14 _ _ _ (lv_sub hl [1, 2, 3] rfl) hP hD hS
      refine lv_icmp_ne (tgt := 67) hx hb dX8_frankOn_57 (by decide) (fun c8 => ?_) (fun c8 => ?_)
      · skip
        replace q23 := (if_neg c8).symm.trans q23
        refine lv_iload hx hb dX8_frankOn_67 (lv_at hl 0 rfl) ?_
        obtain rfl := Option.some.inj q23
        exact J9 _ _ _ (lv_sub hl [3, 4, 5, 1, 0] rfl) hP hD hS
      · skip
        replace q23 := (if_pos c8).symm.trans q23
        refine lv_iload hx hb dX8_frankOn_60 (lv_at hl 0 rfl) ?_
        refine lv_iconst (v := (3 : Int32)) hx hb dX8_frankOn_62 (by decide) ?_
        refine lv_iadd hx hb dX8_frankOn_63 ?_
        refine lv_goto (tgt := 69) hx hb dX8_frankOn_64 (by decide) ?_
        obtain rfl := Option.some.inj q23
        exact J9 _ _ _ (lv_sub hl [3, 4, 5, 1, 0] rfl) hP hD hS
    · skip
      replace h19 := (if_pos c4).symm.trans h19
      refine lv_iconst (v := (0 : Int32)) hx hb dX8_frankOn_28 (by decide) ?_
      obtain rfl := Option.some.inj h19
      exact hret _ _ _ _ (vp_nar_int _) hP hD hS dX8_frankOn_29
def mX8_frankOfAll_l4 (g : GS) (j : Int32) (s1 : Int32 × Int32) : Option ((Int32 × Int32) ⊕ (Int32 × Int32)) :=
  Option.bind (mX8_longOn g j) fun v2 =>
  if v2 ≤ s1.2 then
    some (.inr (s1.1, s1.2))
  else
    Option.bind (mX8_frankOn g j s1.2) fun v4 =>
    some (.inl ((s1.1 + v4), (s1.2 + (1 : Int32))))

def mX8_frankOfAll (g : GS) (j : Int32) : Option (Int32) :=
  Option.bind (whO (mX8_frankOfAll_l4 g j) FU ((0 : Int32), (0 : Int32))) fun e5 =>
  some e5.1
abbrev rmX8_frankOfAll : Room := { frames := 2, cells := 0, slots := 0, locals := 50 }
set_option maxHeartbeats 4000000 in
set_option maxRecDepth 100000 in
theorem k_X8_frankOfAll (l : Launch) (D : va_G) (ca : Nat → ClassId) (ga : Nat → Nat) (g : GS) (j : Int32) (o : Int32) (hm : mX8_frankOfAll g j = some o) : KI l yX8_frankOfAll wsX8_frankOfAll rmX8_frankOfAll D ca [.ref (ga 0), .int j] (cO ca ga g) (cO ca ga g) o := by
  refine KI.of (cc := cX8_frankOfAll) (n := 4) (plainFor_of_name (by decide)) rfl (Nat.le_of_ble_eq_true rfl) ?_
  intro p e s m below meth c A Z hx hb hml hts hown hA hK hP hD hS hret ls hl
  have hown : s.vm.findClass RX8 = some m.cls := hown
  have hl : lv_has ls 4 [(0, .ref (ga 0)), (1, .int j)] := hl
  unfold mX8_frankOfAll at hm
  refine lv_iconst (v := (0 : Int32)) hx hb dX8_frankOfAll_0 (by decide) ?_
  refine lv_istore_n (lv' := [(2, .int (0 : Int32)), (0, .ref (ga 0)), (1, .int j)]) hx hb dX8_frankOfAll_1 rfl hl (by decide) rfl (fun ls hl => ?_)
  refine lv_iconst (v := (0 : Int32)) hx hb dX8_frankOfAll_2 (by decide) ?_
  refine lv_istore_n (lv' := [(3, .int (0 : Int32)), (2, .int (0 : Int32)), (0, .ref (ga 0)), (1, .int j)]) hx hb dX8_frankOfAll_3 rfl hl (by decide) rfl (fun ls hl => ?_)
  obtain ⟨e5, w6, h7⟩ := obn hm
  clear hm
  have AF5 : ∀ (ls : Array Slot) (H : Heap) (locs : List Loc), lv_has ls 4 [(2, .int e5.1)] → va_P D vwCl (cO ca ga g) H → va_D A (cO ca ga g) → va_S A s.heap H locs → W p l e rmX8_frankOfAll s m ([.ref (ga 0), .int j] : List Value).toArray below meth c H locs 0 0 Z (F0 m 28 ls []) := by
    intro ls H locs hl hP hD hS
    refine lv_iload_n hx hb dX8_frankOfAll_28 rfl (lv_at hl 0 rfl) ?_
    obtain rfl := Option.some.inj h7
    exact hret _ _ _ _ (vp_nar_int _) hP hD hS dX8_frankOfAll_29
  refine whO_walk (I := fun s1 => ∀ (ls : Array Slot) (H : Heap) (locs : List Loc), lv_has ls 4 [(0, .ref (ga 0)), (1, .int j), (2, .int s1.1), (3, .int s1.2)] → va_P D vwCl (cO ca ga g) H → va_D A (cO ca ga g) → va_S A s.heap H locs → W p l e rmX8_frankOfAll s m ([.ref (ga 0), .int j] : List Value).toArray below meth c H locs 0 0 Z (F0 m 4 ls [])) ?_ _ _ w6 _ _ _ (lv_sub hl [2, 3, 1, 0] rfl) hP hD hS
  clear w6
  intro s1 o5 h8 hi5 ho5 ls H locs hl hP hD hS
  unfold mX8_frankOfAll_l4 at h8
  refine lv_iload_n hx hb dX8_frankOfAll_4 rfl (lv_at hl 3 rfl) ?_
  refine lv_aload_n hx hb dX8_frankOfAll_5 rfl (lv_at hl 0 rfl) ?_
  refine lv_iload_n hx hb dX8_frankOfAll_6 rfl (lv_at hl 1 rfl) ?_
  obtain ⟨v2, q2, h9⟩ := obn h8
  clear h8
  refine xVi (As := [.int j]) (ci := 8) ⟨hx, hb, hml, hown, hts⟩ (k_X8_longOn l D ca ga g j _ q2) (cwV 1 hts gX8_frankOfAll_X8_longOn rfl rfl rfl (by decide +kernel) ⟨Nat.le_of_ble_eq_true rfl, Nat.le_of_ble_eq_true rfl⟩) hK hA hP hD hS dX8_frankOfAll_7 rfl hl.1 [0, 1, 2, 3, 4, 5, 6, 7, 8, 9, 10, 11, 12, 13] [] [0, 1, 2, 3, 4, 5, 6, 7, 8, 9, 10, 11, 12, 13] rfl rfl (wr := []) rfl rfl (by decide) (wn := (cO ca ga g)) rfl rfl rfl rfl rfl rfl (Nat.le_of_ble_eq_true rfl) (fun H locs hP hD hS => ?_)
  refine lv_icmp_ge (tgt := 28) hx hb dX8_frankOfAll_10 (by decide) (fun c3 => ?_) (fun c3 => ?_)
  · skip
    replace h9 := (if_pos c3).symm.trans h9
    have h10 := ho5 _ (Option.some.inj h9).symm
    subst h10
    exact AF5 _ _ _ (lv_sub hl [2] rfl) hP hD hS
  · skip
    replace h9 := (if_neg c3).symm.trans h9
    refine lv_iload_n hx hb dX8_frankOfAll_13 rfl (lv_at hl 2 rfl) ?_
    refine lv_aload_n hx hb dX8_frankOfAll_14 rfl (lv_at hl 0 rfl) ?_
    refine lv_iload_n hx hb dX8_frankOfAll_15 rfl (lv_at hl 1 rfl) ?_
    refine lv_iload_n hx hb dX8_frankOfAll_16 rfl (lv_at hl 3 rfl) ?_
    obtain ⟨v4, q4, h11⟩ := obn h9
    clear h9
    refine xVi (As := [.int j, .int s1.2]) (ci := 8) ⟨hx, hb, hml, hown, hts⟩ (k_X8_frankOn l D ca ga g j s1.2 _ q4) (cwV 2 hts gX8_frankOfAll_X8_frankOn rfl rfl rfl (by decide +kernel) ⟨Nat.le_of_ble_eq_true rfl, Nat.le_of_ble_eq_true rfl⟩) hK hA hP hD hS dX8_frankOfAll_17 rfl hl.1 [0, 1, 2, 3, 4, 5, 6, 7, 8, 9, 10, 11, 12, 13] [] [0, 1, 2, 3, 4, 5, 6, 7, 8, 9, 10, 11, 12, 13] rfl rfl (wr := []) rfl rfl (by decide) (wn := (cO ca ga g)) rfl rfl rfl rfl rfl rfl (Nat.le_of_ble_eq_true rfl) (fun H locs hP hD hS => ?_)
    refine lv_iadd hx hb dX8_frankOfAll_20 ?_
    refine lv_istore_n (lv' := [(2, .int (s1.1 + v4)), (0, .ref (ga 0)), (1, .int j), (3, .int s1.2)]) hx hb dX8_frankOfAll_21 rfl hl (by decide) rfl (fun ls hl => ?_)
    refine lv_iinc (v := (s1.2 + (1 : Int32))) (lv' := [(3, .int (s1.2 + (1 : Int32))), (2, .int (s1.1 + v4)), (0, .ref (ga 0)), (1, .int j)]) hx hb dX8_frankOfAll_22 hl (k := 3) rfl rfl (by decide) rfl (fun ls hl => ?_)
    refine lv_goto (tgt := 4) hx hb dX8_frankOfAll_25 (by decide) ?_
    exact hi5 _ (Option.some.inj h11).symm _ _ _ (lv_sub hl [2, 3, 1, 0] rfl) hP hD hS
def mX8_yearOn_l2 (j : Int32) (s14 : Int32 × GS) : Option ((Int32 × GS) ⊕ (Int32 × GS)) :=
  Option.bind (mX8_longOn s14.2 j) fun v15 =>
  if v15 ≤ s14.1 then
    some (.inr (s14.1, s14.2))
  else
    Option.bind (ald 240 (s14.2.1 0) (j + (15 : Int32))) fun v17 =>
    Option.bind (
      if 0 ≤ (s14.1 - v17) then
        some (s14.1 - v17)
      else
        some (-(s14.1 - v17))) fun (v19 : Int32) =>
    Option.bind (ald 240 (s14.2.1 0) ((j + (19 : Int32)) + s14.1)) fun v20 =>
    Option.bind (ald 240 (s14.2.1 0) (j + (16 : Int32))) fun v21 =>
    Option.bind (
      if (v21 + (2 : Int32)) < v19 then
        some (0 : Int32)
      else
        Option.bind (ald 240 (s14.2.1 0) ((j + (19 : Int32)) + s14.1)) fun v23 =>
        if (99 : Int32) ≤ v23 then
          some (0 : Int32)
        else
          some (1 : Int32)) fun (v25 : Int32) =>
    Option.bind (ast 240 (s14.2.1 0) ((j + (19 : Int32)) + s14.1) (v20 + v25)) fun f26 =>
    some (.inl ((s14.1 + (1 : Int32)), (sA s14.2 0 f26)))

def mX8_yearOn (g : GS) (j : Int32) : Option (GS) :=
  Option.bind (whO (mX8_yearOn_l2 j) FU ((0 : Int32), g)) fun e27 =>
  Option.bind (ald 240 (e27.2.1 0) (j + (18 : Int32))) fun v28 =>
  Option.bind (ast 240 (e27.2.1 0) (j + (18 : Int32)) (v28 + (1 : Int32))) fun f29 =>
  some (sA e27.2 0 f29)
abbrev rmX8_yearOn : Room := { frames := 1, cells := 0, slots := 0, locals := 21 }
set_option maxHeartbeats 4000000 in
set_option maxRecDepth 100000 in
theorem k_X8_yearOn (l : Launch) (D : va_G) (ca : Nat → ClassId) (ga : Nat → Nat) (g : GS) (j : Int32) (o : GS) (hm : mX8_yearOn g j = some o) : KV l yX8_yearOn wsX8_yearOn rmX8_yearOn D ca [.ref (ga 0), .int j] (cO ca ga g) (cO ca ga o) := by
  refine KV.of (cc := cX8_yearOn) (n := 4) (plainFor_of_name (by decide)) rfl (Nat.le_of_ble_eq_true rfl) ?_
  intro p e s m below meth c A Z hx hb hml hts hown hA hK hP hD hS hret ls hl
  have hown : s.vm.findClass RX8 = some m.cls := hown
  have hl : lv_has ls 4 [(0, .ref (ga 0)), (1, .int j)] := hl
  have inX8 : ∀ w ∈ wsX80, w ∈ wsX8_yearOn := by decide +kernel
  have k1 := hts (.fieldLink RX8 7 "FriezeFolkModel" "state" "[I") (by decide +kernel)
  unfold mX8_yearOn at hm
  refine lv_iconst (v := (0 : Int32)) hx hb dX8_yearOn_0 (by decide) ?_
  refine lv_istore_n (lv' := [(2, .int (0 : Int32)), (0, .ref (ga 0)), (1, .int j)]) hx hb dX8_yearOn_1 rfl hl (by decide) rfl (fun ls hl => ?_)
  obtain ⟨e27, w30, h31⟩ := obn hm
  clear hm
  have AF27 : ∀ (ls : Array Slot) (H : Heap) (locs : List Loc), lv_has ls 4 [(0, .ref (ga 0)), (1, .int j)] → va_P D vwCl (cO ca ga e27.2) H → va_D A (cO ca ga e27.2) → va_S A s.heap H locs → W p l e rmX8_yearOn s m ([.ref (ga 0), .int j] : List Value).toArray below meth c H locs 0 0 Z (F0 m 90 ls []) := by
    intro ls H locs hl hP hD hS
    refine lv_aload_n hx hb dX8_yearOn_90 rfl (lv_at hl 0 rfl) ?_
    refine xget (ref := "FriezeFolkModel") (C := RX8) (T := TX8) (N := 24) (ci := 8) (v := .ref (ga 1)) hx hb hts inX8 hown hK hP 0 rfl rfl 0 (by decide) k1 rfl rfl dX8_yearOn_91 ?_
    refine lv_iload_n hx hb dX8_yearOn_94 rfl (lv_at hl 1 rfl) ?_
    refine lv_bipush (v := (18 : Int32)) hx hb dX8_yearOn_95 (by decide) ?_
    refine lv_iadd hx hb dX8_yearOn_97 ?_
    refine lv_dup2_11 hx hb dX8_yearOn_98 rfl rfl ?_
    obtain ⟨v28, q28, h32⟩ := obn h31
    clear h31
    refine xald hx hb hK hP 1 rfl q28 dX8_yearOn_99 ?_
    refine lv_iconst (v := (1 : Int32)) hx hb dX8_yearOn_100 (by decide) ?_
    refine lv_iadd hx hb dX8_yearOn_101 ?_
    obtain ⟨f29, q29, h33⟩ := obn h32
    clear h32
    refine xast hx hb hK hP hD hS 1 rfl q29 dX8_yearOn_102 (wn := (cO ca ga (sA e27.2 0 f29))) rfl (fun H locs hP hD hS => ?_)
    obtain rfl := Option.some.inj h33
    exact hret _ _ _ _ hP hD hS dX8_yearOn_103
  refine whO_walk (I := fun s14 => ∀ (ls : Array Slot) (H : Heap) (locs : List Loc), lv_has ls 4 [(0, .ref (ga 0)), (1, .int j), (2, .int s14.1)] → va_P D vwCl (cO ca ga s14.2) H → va_D A (cO ca ga s14.2) → va_S A s.heap H locs → W p l e rmX8_yearOn s m ([.ref (ga 0), .int j] : List Value).toArray below meth c H locs 0 0 Z (F0 m 2 ls [])) ?_ _ _ w30 _ _ _ (lv_sub hl [1, 2, 0] rfl) hP hD hS
  clear w30
  intro s14 o27 h34 hi27 ho27 ls H locs hl hP hD hS
  unfold mX8_yearOn_l2 at h34
  refine lv_iload_n hx hb dX8_yearOn_2 rfl (lv_at hl 2 rfl) ?_
  refine lv_aload_n hx hb dX8_yearOn_3 rfl (lv_at hl 0 rfl) ?_
  refine lv_iload_n hx hb dX8_yearOn_4 rfl (lv_at hl 1 rfl) ?_
  obtain ⟨v15, q15, h35⟩ := obn h34
  clear h34
  refine xVi (As := [.int j]) (ci := 8) ⟨hx, hb, hml, hown, hts⟩ (k_X8_longOn l D ca ga s14.2 j _ q15) (cwV 1 hts gX8_yearOn_X8_longOn rfl rfl rfl (by decide +kernel) ⟨Nat.le_of_ble_eq_true rfl, Nat.le_of_ble_eq_true rfl⟩) hK hA hP hD hS dX8_yearOn_5 rfl hl.1 [0, 1, 2, 3, 4, 5, 6, 7, 8, 9, 10, 11, 12, 13] [] [0, 1, 2, 3, 4, 5, 6, 7, 8, 9, 10, 11, 12, 13] rfl rfl (wr := []) rfl rfl (by decide) (wn := (cO ca ga s14.2)) rfl rfl rfl rfl rfl rfl (Nat.le_of_ble_eq_true rfl) (fun H locs hP hD hS => ?_)
  refine lv_icmp_ge (tgt := 90) hx hb dX8_yearOn_8 (by decide) (fun c16 => ?_) (fun c16 => ?_)
  · skip
    replace h35 := (if_pos c16).symm.trans h35
    have h36 := ho27 _ (Option.some.inj h35).symm
    subst h36
    exact AF27 _ _ _ (lv_sub hl [0, 1] rfl) hP hD hS
  · skip
    replace h35 := (if_neg c16).symm.trans h35
    refine lv_iload_n hx hb dX8_yearOn_11 rfl (lv_at hl 2 rfl) ?_
    refine lv_aload_n hx hb dX8_yearOn_12 rfl (lv_at hl 0 rfl) ?_
    refine xget (ref := "FriezeFolkModel") (C := RX8) (T := TX8) (N := 24) (ci := 8) (v := .ref (ga 1)) hx hb hts inX8 hown hK hP 0 rfl rfl 0 (by decide) k1 rfl rfl dX8_yearOn_13 ?_
    refine lv_iload_n hx hb dX8_yearOn_16 rfl (lv_at hl 1 rfl) ?_
    refine lv_bipush (v := (15 : Int32)) hx hb dX8_yearOn_17 (by decide) ?_
    refine lv_iadd hx hb dX8_yearOn_19 ?_
    obtain ⟨v17, q17, h37⟩ := obn h35
    clear h35
    refine xald hx hb hK hP 1 rfl q17 dX8_yearOn_20 ?_
    refine lv_isub hx hb dX8_yearOn_21 ?_
    refine lv_istore_n (lv' := [(3, .int (s14.1 - v17)), (0, .ref (ga 0)), (1, .int j), (2, .int s14.1)]) hx hb dX8_yearOn_22 rfl hl (by decide) rfl (fun ls hl => ?_)
    refine lv_iload_n hx hb dX8_yearOn_23 rfl (lv_at hl 0 rfl) ?_
    obtain ⟨v19, q38, h39⟩ := obn h37
    clear h37
    have J19 : ∀ (ls : Array Slot) (H : Heap) (locs : List Loc), lv_has ls 4 [(0, .ref (ga 0)), (1, .int j), (2, .int s14.1)] → va_P D vwCl (cO ca ga s14.2) H → va_D A (cO ca ga s14.2) → va_S A s.heap H locs → W p l e rmX8_yearOn s m ([.ref (ga 0), .int j] : List Value).toArray below meth c H locs 0 0 Z (F0 m 33 ls [.int v19]) := by
      intro ls H locs hl hP hD hS
      refine lv_istore_n (lv' := [(3, .int v19), (0, .ref (ga 0)), (1, .int j), (2, .int s14.1)]) hx hb dX8_yearOn_33 rfl hl (by decide) rfl (fun ls hl => ?_)
      refine lv_aload_n hx hb dX8_yearOn_34 rfl (lv_at hl 1 rfl) ?_
      refine xget (ref := "FriezeFolkModel") (C := RX8) (T := TX8) (N := 24) (ci := 8) (v := .ref (ga 1)) hx hb hts inX8 hown hK hP 0 rfl rfl 0 (by decide) k1 rfl rfl dX8_yearOn_35 ?_
      refine lv_iload_n hx hb dX8_yearOn_38 rfl (lv_at hl 2 rfl) ?_
      refine lv_bipush (v := (19 : Int32)) hx hb dX8_yearOn_39 (by decide) ?_
      refine lv_iadd hx hb dX8_yearOn_41 ?_
      refine lv_iload_n hx hb dX8_yearOn_42 rfl (lv_at hl 3 rfl) ?_
      refine lv_iadd hx hb dX8_yearOn_43 ?_
      refine lv_dup2_11 hx hb dX8_yearOn_44 rfl rfl ?_
      obtain ⟨v20, q20, h40⟩ := obn h39
      clear h39
      refine xald hx hb hK hP 1 rfl q20 dX8_yearOn_45 ?_
      refine lv_iload_n hx hb dX8_yearOn_46 rfl (lv_at hl 0 rfl) ?_
      refine lv_aload_n hx hb dX8_yearOn_47 rfl (lv_at hl 1 rfl) ?_
      refine xget (ref := "FriezeFolkModel") (C := RX8) (T := TX8) (N := 24) (ci := 8) (v := .ref (ga 1)) hx hb hts inX8 hown hK hP 0 rfl rfl 0 (by decide) k1 rfl rfl dX8_yearOn_48 ?_
      refine lv_iload_n hx hb dX8_yearOn_51 rfl (lv_at hl 2 rfl) ?_
      refine lv_bipush (v := (16 : Int32)) hx hb dX8_yearOn_52 (by decide) ?_
      refine lv_iadd hx hb dX8_yearOn_54 ?_
      obtain ⟨v21, q21, h41⟩ := obn h40
      clear h40
      refine xald hx hb hK hP 1 rfl q21 dX8_yearOn_55 ?_
      refine lv_iconst (v := (2 : Int32)) hx hb dX8_yearOn_56 (by decide) ?_
      refine lv_iadd hx hb dX8_yearOn_57 ?_
      obtain ⟨v25, q42, h43⟩ := obn h41
      clear h41
      have J25 : ∀ (ls : Array Slot) (H : Heap) (locs : List Loc), lv_has ls 4 [(0, .ref (ga 0)), (1, .int j), (2, .int s14.1)] → va_P D vwCl (cO ca ga s14.2) H → va_D A (cO ca ga s14.2) → va_S A s.heap H locs → W p l e rmX8_yearOn s m ([.ref (ga 0), .int j] : List Value).toArray below meth c H locs 0 0 Z (F0 m 82 ls [.int v25, .int v20, .int ((j + (19 : Int32)) + s14.1), .ref (ga 1)]) := by
        intro ls H locs hl hP hD hS
        refine lv_iadd hx hb dX8_yearOn_82 ?_
        obtain ⟨f26, q26, h44⟩ := obn h43
        clear h43
        refine xast hx hb hK hP hD hS 1 rfl q26 dX8_yearOn_83 (wn := (cO ca ga (sA s14.2 0 f26))) rfl (fun H locs hP hD hS => ?_)
        refine lv_iinc (v := (s14.1 + (1 : Int32))) (lv' := [(2, .int (s14.1 + (1 : Int32))), (0, .ref (ga 0)), (1, .int j)]) hx hb dX8_yearOn_84 hl (k := 2) rfl rfl (by decide) rfl (fun ls hl => ?_)
        refine lv_goto (tgt := 2) hx hb dX8_yearOn_87 (by decide) ?_
        exact hi27 _ (Option.some.inj h44).symm _ _ _ (lv_sub hl [1, 2, 0] rfl) hP hD hS
      refine lv_icmp_gt (tgt := 81) hx hb dX8_yearOn_58 (by decide) (fun c22 => ?_) (fun c22 => ?_)
      · skip
        replace q42 := (if_pos c22).symm.trans q42
        refine lv_iconst (v := (0 : Int32)) hx hb dX8_yearOn_81 (by decide) ?_
        obtain rfl := Option.some.inj q42
        exact J25 _ _ _ (lv_sub hl [1, 2, 3] rfl) hP hD hS
      · skip
        replace q42 := (if_neg c22).symm.trans q42
        refine lv_aload_n hx hb dX8_yearOn_61 rfl (lv_at hl 1 rfl) ?_
        refine xget (ref := "FriezeFolkModel") (C := RX8) (T := TX8) (N := 24) (ci := 8) (v := .ref (ga 1)) hx hb hts inX8 hown hK hP 0 rfl rfl 0 (by decide) k1 rfl rfl dX8_yearOn_62 ?_
        refine lv_iload_n hx hb dX8_yearOn_65 rfl (lv_at hl 2 rfl) ?_
        refine lv_bipush (v := (19 : Int32)) hx hb dX8_yearOn_66 (by decide) ?_
        refine lv_iadd hx hb dX8_yearOn_68 ?_
        refine lv_iload_n hx hb dX8_yearOn_69 rfl (lv_at hl 3 rfl) ?_
        refine lv_iadd hx hb dX8_yearOn_70 ?_
        obtain ⟨v23, q23, h45⟩ := obn q42
        clear q42
        refine xald hx hb hK hP 1 rfl q23 dX8_yearOn_71 ?_
        refine lv_bipush (v := (99 : Int32)) hx hb dX8_yearOn_72 (by decide) ?_
        refine lv_icmp_ge (tgt := 81) hx hb dX8_yearOn_74 (by decide) (fun c24 => ?_) (fun c24 => ?_)
        · skip
          replace h45 := (if_pos c24).symm.trans h45
          refine lv_iconst (v := (0 : Int32)) hx hb dX8_yearOn_81 (by decide) ?_
          obtain rfl := Option.some.inj h45
          exact J25 _ _ _ (lv_sub hl [1, 2, 3] rfl) hP hD hS
        · skip
          replace h45 := (if_neg c24).symm.trans h45
          refine lv_iconst (v := (1 : Int32)) hx hb dX8_yearOn_77 (by decide) ?_
          refine lv_goto (tgt := 82) hx hb dX8_yearOn_78 (by decide) ?_
          obtain rfl := Option.some.inj h45
          exact J25 _ _ _ (lv_sub hl [1, 2, 3] rfl) hP hD hS
    refine lv_if_ge (tgt := 32) hx hb dX8_yearOn_24 (by decide) (fun c18 => ?_) (fun c18 => ?_)
    · skip
      replace q38 := (if_pos c18).symm.trans q38
      refine lv_iload_n hx hb dX8_yearOn_32 rfl (lv_at hl 0 rfl) ?_
      obtain rfl := Option.some.inj q38
      exact J19 _ _ _ (lv_sub hl [1, 2, 3] rfl) hP hD hS
    · skip
      replace q38 := (if_neg c18).symm.trans q38
      refine lv_iload_n hx hb dX8_yearOn_27 rfl (lv_at hl 0 rfl) ?_
      refine lv_ineg hx hb dX8_yearOn_28 ?_
      refine lv_goto (tgt := 33) hx hb dX8_yearOn_29 (by decide) ?_
      obtain rfl := Option.some.inj q38
      exact J19 _ _ _ (lv_sub hl [1, 2, 3] rfl) hP hD hS

def mX8_rule (g : GS) (n : Int32) : Option (Int32) :=
  if n = (0 : Int32) then
    Option.bind (ald 240 (g.1 0) (12 : Int32)) fun v2 =>
    some v2
  else
  if n = (1 : Int32) then
    Option.bind (mX8_longOn g (0 : Int32)) fun v4 =>
    some v4
  else
  if n = (2 : Int32) then
    Option.bind (ald 240 (g.1 0) (14 : Int32)) fun v6 =>
    some v6
  else
  if n = (3 : Int32) then
    Option.bind (ald 240 (g.1 0) (15 : Int32)) fun v8 =>
    some v8
  else
  if n = (4 : Int32) then
    Option.bind (ald 240 (g.1 0) (16 : Int32)) fun v10 =>
    some (v10 + (2 : Int32))
  else
  if n = (5 : Int32) then
    Option.bind (ald 240 (g.1 0) (17 : Int32)) fun v12 =>
    if v12 = 0 then
      some (-4 : Int32)
    else
      Option.bind (ald 240 (g.1 0) (17 : Int32)) fun v14 =>
      some (v14 - (1 : Int32))
  else
  if n = (6 : Int32) then
    Option.bind (ald 240 (g.1 0) (18 : Int32)) fun v16 =>
    some v16
  else
  if n = (7 : Int32) then
    Option.bind (mX8_frankOfAll g (0 : Int32)) fun v18 =>
    some v18
  else
  if n = (8 : Int32) then
    Option.bind (ald 240 (g.1 0) (39 : Int32)) fun v20 =>
    some v20
  else
    some (-1 : Int32)
abbrev rmX8_rule : Room := { frames := 3, cells := 0, slots := 0, locals := 73 }
set_option maxHeartbeats 4000000 in
set_option maxRecDepth 100000 in
theorem k_X8_rule (l : Launch) (D : va_G) (ca : Nat → ClassId) (ga : Nat → Nat) (g : GS) (n : Int32) (o : Int32) (hm : mX8_rule g n = some o) : KI l yX8_rule wsX8_rule rmX8_rule D ca [.ref (ga 0), .int n] (cO ca ga g) (cO ca ga g) o := by
  refine KI.of (cc := cX8_rule) (n := 2) (plainFor_of_name (by decide)) rfl (Nat.le_of_ble_eq_true rfl) ?_
  intro p e s m below meth c A Z hx hb hml hts hown hA hK hP hD hS hret ls hl
  have hown : s.vm.findClass RX8 = some m.cls := hown
  have hl : lv_has ls 2 [(0, .ref (ga 0)), (1, .int n)] := hl
  have inX8 : ∀ w ∈ wsX80, w ∈ wsX8_rule := by decide +kernel
  have k1 := hts (.fieldLink RX8 7 "FriezeFolkModel" "state" "[I") (by decide +kernel)
  unfold mX8_rule at hm
  refine lv_iload_n hx hb dX8_rule_0 rfl (lv_at hl 1 rfl) ?_
  by_cases c1 : n = (0 : Int32)
  · replace hm := (if_pos c1).symm.trans hm
    refine lv_tableIn (tgt := 52) hx hb dX8_rule_1 (by rw [c1]; decide) (by rw [c1]; decide) (by rw [c1] <;> rfl) (by decide) ?_
    refine lv_aload_n hx hb dX8_rule_52 rfl (lv_at hl 0 rfl) ?_
    refine xget (ref := "FriezeFolkModel") (C := RX8) (T := TX8) (N := 24) (ci := 8) (v := .ref (ga 1)) hx hb hts inX8 hown hK hP 0 rfl rfl 0 (by decide) k1 rfl rfl dX8_rule_53 ?_
    refine lv_bipush (v := (12 : Int32)) hx hb dX8_rule_56 (by decide) ?_
    obtain ⟨v2, q2, h21⟩ := obn hm
    clear hm
    refine xald hx hb hK hP 1 rfl q2 dX8_rule_58 ?_
    obtain rfl := Option.some.inj h21
    exact hret _ _ _ _ (vp_nar_int _) hP hD hS dX8_rule_59
  replace hm := (if_neg c1).symm.trans hm
  have ec1 : ¬ (n).toInt = 0 := fun z => c1 (Int32.toInt_inj.mp (z.trans (by decide)))
  by_cases c3 : n = (1 : Int32)
  · replace hm := (if_pos c3).symm.trans hm
    refine lv_tableIn (tgt := 60) hx hb dX8_rule_1 (by rw [c3]; decide) (by rw [c3]; decide) (by rw [c3] <;> rfl) (by decide) ?_
    refine lv_aload_n hx hb dX8_rule_60 rfl (lv_at hl 0 rfl) ?_
    refine lv_iconst (v := (0 : Int32)) hx hb dX8_rule_61 (by decide) ?_
    obtain ⟨v4, q4, h22⟩ := obn hm
    clear hm
    refine xVi (As := [.int (0 : Int32)]) (ci := 8) ⟨hx, hb, hml, hown, hts⟩ (k_X8_longOn l D ca ga g (0 : Int32) _ q4) (cwV 1 hts gX8_rule_X8_longOn rfl rfl rfl (by decide +kernel) ⟨Nat.le_of_ble_eq_true rfl, Nat.le_of_ble_eq_true rfl⟩) hK hA hP hD hS dX8_rule_62 rfl hl.1 [0, 1, 2, 3, 4, 5, 6, 7, 8, 9, 10, 11, 12, 13] [] [0, 1, 2, 3, 4, 5, 6, 7, 8, 9, 10, 11, 12, 13] rfl rfl (wr := []) rfl rfl (by decide) (wn := (cO ca ga g)) rfl rfl rfl rfl rfl rfl (Nat.le_of_ble_eq_true rfl) (fun H locs hP hD hS => ?_)
    obtain rfl := Option.some.inj h22
    exact hret _ _ _ _ (vp_nar_int _) hP hD hS dX8_rule_65
  replace hm := (if_neg c3).symm.trans hm
  have ec3 : ¬ (n).toInt = 1 := fun z => c3 (Int32.toInt_inj.mp (z.trans (by decide)))
  by_cases c5 : n = (2 : Int32)
  · replace hm := (if_pos c5).symm.trans hm
    refine lv_tableIn (tgt := 66) hx hb dX8_rule_1 (by rw [c5]; decide) (by rw [c5]; decide) (by rw [c5] <;> rfl) (by decide) ?_
    refine lv_aload_n hx hb dX8_rule_66 rfl (lv_at hl 0 rfl) ?_
    refine xget (ref := "FriezeFolkModel") (C := RX8) (T := TX8) (N := 24) (ci := 8) (v := .ref (ga 1)) hx hb hts inX8 hown hK hP 0 rfl rfl 0 (by decide) k1 rfl rfl dX8_rule_67 ?_
    refine lv_bipush (v := (14 : Int32)) hx hb dX8_rule_70 (by decide) ?_
    obtain ⟨v6, q6, h23⟩ := obn hm
    clear hm
    refine xald hx hb hK hP 1 rfl q6 dX8_rule_72 ?_
    obtain rfl := Option.some.inj h23
    exact hret _ _ _ _ (vp_nar_int _) hP hD hS dX8_rule_73
  replace hm := (if_neg c5).symm.trans hm
  have ec5 : ¬ (n).toInt = 2 := fun z => c5 (Int32.toInt_inj.mp (z.trans (by decide)))
  by_cases c7 : n = (3 : Int32)
  · replace hm := (if_pos c7).symm.trans hm
    refine lv_tableIn (tgt := 74) hx hb dX8_rule_1 (by rw [c7]; decide) (by rw [c7]; decide) (by rw [c7] <;> rfl) (by decide) ?_
    refine lv_aload_n hx hb dX8_rule_74 rfl (lv_at hl 0 rfl) ?_
    refine xget (ref := "FriezeFolkModel") (C := RX8) (T := TX8) (N := 24) (ci := 8) (v := .ref (ga 1)) hx hb hts inX8 hown hK hP 0 rfl rfl 0 (by decide) k1 rfl rfl dX8_rule_75 ?_
    refine lv_bipush (v := (15 : Int32)) hx hb dX8_rule_78 (by decide) ?_
    obtain ⟨v8, q8, h24⟩ := obn hm
    clear hm
    refine xald hx hb hK hP 1 rfl q8 dX8_rule_80 ?_
    obtain rfl := Option.some.inj h24
    exact hret _ _ _ _ (vp_nar_int _) hP hD hS dX8_rule_81
  replace hm := (if_neg c7).symm.trans hm
  have ec7 : ¬ (n).toInt = 3 := fun z => c7 (Int32.toInt_inj.mp (z.trans (by decide)))
  by_cases c9 : n = (4 : Int32)
  · replace hm := (if_pos c9).symm.trans hm
    refine lv_tableIn (tgt := 82) hx hb dX8_rule_1 (by rw [c9]; decide) (by rw [c9]; decide) (by rw [c9] <;> rfl) (by decide) ?_
    refine lv_aload_n hx hb dX8_rule_82 rfl (lv_at hl 0 rfl) ?_
    refine xget (ref := "FriezeFolkModel") (C := RX8) (T := TX8) (N := 24) (ci := 8) (v := .ref (ga 1)) hx hb hts inX8 hown hK hP 0 rfl rfl 0 (by decide) k1 rfl rfl dX8_rule_83 ?_
    refine lv_bipush (v := (16 : Int32)) hx hb dX8_rule_86 (by decide) ?_
    obtain ⟨v10, q10, h25⟩ := obn hm
    clear hm
    refine xald hx hb hK hP 1 rfl q10 dX8_rule_88 ?_
    refine lv_iconst (v := (2 : Int32)) hx hb dX8_rule_89 (by decide) ?_
    refine lv_iadd hx hb dX8_rule_90 ?_
    obtain rfl := Option.some.inj h25
    exact hret _ _ _ _ (vp_nar_int _) hP hD hS dX8_rule_91
  replace hm := (if_neg c9).symm.trans hm
  have ec9 : ¬ (n).toInt = 4 := fun z => c9 (Int32.toInt_inj.mp (z.trans (by decide)))
  by_cases c11 : n = (5 : Int32)
  · replace hm := (if_pos c11).symm.trans hm
    refine lv_tableIn (tgt := 92) hx hb dX8_rule_1 (by rw [c11]; decide) (by rw [c11]; decide) (by rw [c11] <;> rfl) (by decide) ?_
    refine lv_aload_n hx hb dX8_rule_92 rfl (lv_at hl 0 rfl) ?_
    refine xget (ref := "FriezeFolkModel") (C := RX8) (T := TX8) (N := 24) (ci := 8) (v := .ref (ga 1)) hx hb hts inX8 hown hK hP 0 rfl rfl 0 (by decide) k1 rfl rfl dX8_rule_93 ?_
    refine lv_bipush (v := (17 : Int32)) hx hb dX8_rule_96 (by decide) ?_
    obtain ⟨v12, q12, h26⟩ := obn hm
    clear hm
    refine xald hx hb hK hP 1 rfl q12 dX8_rule_98 ?_
    refine lv_if_ne (tgt := 107) hx hb dX8_rule_99 (by decide) (fun c13 => ?_) (fun c13 => ?_)
    · skip
      replace h26 := (if_neg c13).symm.trans h26
      refine lv_aload_n hx hb dX8_rule_107 rfl (lv_at hl 0 rfl) ?_
      refine xget (ref := "FriezeFolkModel") (C := RX8) (T := TX8) (N := 24) (ci := 8) (v := .ref (ga 1)) hx hb hts inX8 hown hK hP 0 rfl rfl 0 (by decide) k1 rfl rfl dX8_rule_108 ?_
      refine lv_bipush (v := (17 : Int32)) hx hb dX8_rule_111 (by decide) ?_
      obtain ⟨v14, q14, h27⟩ := obn h26
      clear h26
      refine xald hx hb hK hP 1 rfl q14 dX8_rule_113 ?_
      refine lv_iconst (v := (1 : Int32)) hx hb dX8_rule_114 (by decide) ?_
      refine lv_isub hx hb dX8_rule_115 ?_
      obtain rfl := Option.some.inj h27
      exact hret _ _ _ _ (vp_nar_int _) hP hD hS dX8_rule_116
    · skip
      replace h26 := (if_pos c13).symm.trans h26
      refine lv_bipush (v := (-4 : Int32)) hx hb dX8_rule_102 (by decide) ?_
      refine lv_goto (tgt := 116) hx hb dX8_rule_104 (by decide) ?_
      obtain rfl := Option.some.inj h26
      exact hret _ _ _ _ (vp_nar_int _) hP hD hS dX8_rule_116
  replace hm := (if_neg c11).symm.trans hm
  have ec11 : ¬ (n).toInt = 5 := fun z => c11 (Int32.toInt_inj.mp (z.trans (by decide)))
  by_cases c15 : n = (6 : Int32)
  · replace hm := (if_pos c15).symm.trans hm
    refine lv_tableIn (tgt := 117) hx hb dX8_rule_1 (by rw [c15]; decide) (by rw [c15]; decide) (by rw [c15] <;> rfl) (by decide) ?_
    refine lv_aload_n hx hb dX8_rule_117 rfl (lv_at hl 0 rfl) ?_
    refine xget (ref := "FriezeFolkModel") (C := RX8) (T := TX8) (N := 24) (ci := 8) (v := .ref (ga 1)) hx hb hts inX8 hown hK hP 0 rfl rfl 0 (by decide) k1 rfl rfl dX8_rule_118 ?_
    refine lv_bipush (v := (18 : Int32)) hx hb dX8_rule_121 (by decide) ?_
    obtain ⟨v16, q16, h28⟩ := obn hm
    clear hm
    refine xald hx hb hK hP 1 rfl q16 dX8_rule_123 ?_
    obtain rfl := Option.some.inj h28
    exact hret _ _ _ _ (vp_nar_int _) hP hD hS dX8_rule_124
  replace hm := (if_neg c15).symm.trans hm
  have ec15 : ¬ (n).toInt = 6 := fun z => c15 (Int32.toInt_inj.mp (z.trans (by decide)))
  by_cases c17 : n = (7 : Int32)
  · replace hm := (if_pos c17).symm.trans hm
    refine lv_tableIn (tgt := 125) hx hb dX8_rule_1 (by rw [c17]; decide) (by rw [c17]; decide) (by rw [c17] <;> rfl) (by decide) ?_
    refine lv_aload_n hx hb dX8_rule_125 rfl (lv_at hl 0 rfl) ?_
    refine lv_iconst (v := (0 : Int32)) hx hb dX8_rule_126 (by decide) ?_
    obtain ⟨v18, q18, h29⟩ := obn hm
    clear hm
    refine xVi (As := [.int (0 : Int32)]) (ci := 8) ⟨hx, hb, hml, hown, hts⟩ (k_X8_frankOfAll l D ca ga g (0 : Int32) _ q18) (cwV 1 hts gX8_rule_X8_frankOfAll rfl rfl rfl (by decide +kernel) ⟨Nat.le_of_ble_eq_true rfl, Nat.le_of_ble_eq_true rfl⟩) hK hA hP hD hS dX8_rule_127 rfl hl.1 [0, 1, 2, 3, 4, 5, 6, 7, 8, 9, 10, 11, 12, 13] [] [0, 1, 2, 3, 4, 5, 6, 7, 8, 9, 10, 11, 12, 13] rfl rfl (wr := []) rfl rfl (by decide) (wn := (cO ca ga g)) rfl rfl rfl rfl rfl rfl (Nat.le_of_ble_eq_true rfl) (fun H locs hP hD hS => ?_)
    obtain rfl := Option.some.inj h29
    exact hret _ _ _ _ (vp_nar_int _) hP hD hS dX8_rule_130
  replace hm := (if_neg c17).symm.trans hm
  have ec17 : ¬ (n).toInt = 7 := fun z => c17 (Int32.toInt_inj.mp (z.trans (by decide)))
  by_cases c19 : n = (8 : Int32)
  · replace hm := (if_pos c19).symm.trans hm
    refine lv_tableIn (tgt := 131) hx hb dX8_rule_1 (by rw [c19]; decide) (by rw [c19]; decide) (by rw [c19] <;> rfl) (by decide) ?_
    refine lv_aload_n hx hb dX8_rule_131 rfl (lv_at hl 0 rfl) ?_
    refine xget (ref := "FriezeFolkModel") (C := RX8) (T := TX8) (N := 24) (ci := 8) (v := .ref (ga 1)) hx hb hts inX8 hown hK hP 0 rfl rfl 0 (by decide) k1 rfl rfl dX8_rule_132 ?_
    refine lv_bipush (v := (39 : Int32)) hx hb dX8_rule_135 (by decide) ?_
    obtain ⟨v20, q20, h30⟩ := obn hm
    clear hm
    refine xald hx hb hK hP 1 rfl q20 dX8_rule_137 ?_
    obtain rfl := Option.some.inj h30
    exact hret _ _ _ _ (vp_nar_int _) hP hD hS dX8_rule_138
  replace hm := (if_neg c19).symm.trans hm
  have ec19 : ¬ (n).toInt = 8 := fun z => c19 (Int32.toInt_inj.mp (z.trans (by decide)))
  refine lv_tableOut (tgt := 139) hx hb dX8_rule_1 (by omega) (by decide) ?_
  refine lv_iconst (v := (-1 : Int32)) hx hb dX8_rule_139 (by decide) ?_
  obtain rfl := Option.some.inj hm
  exact hret _ _ _ _ (vp_nar_int _) hP hD hS dX8_rule_140
def mX8_block_l30 (g : GS) (j : Int32) (s5 : Int32 × Int32 × Int32) : Option ((Int32 × Int32 × Int32) ⊕ (Int32 × Int32 × Int32)) :=
  Option.bind (mX8_longOn g (0 : Int32)) fun v6 =>
  if v6 ≤ s5.2.2 then
    some (.inr (s5.1, s5.2.1, s5.2.2))
  else
    Option.bind (mX8_whoOn g (0 : Int32) s5.2.2) fun v8 =>
    Option.bind (
      if v8 = j then
        some ((1 : Int32) <<< (s5.2.2 &&& 31))
      else
        some (0 : Int32)) fun (v10 : Int32) =>
    Option.bind (mX8_whoOn g (0 : Int32) s5.2.2) fun v11 =>
    Option.bind (
      if v11 = j then
        Option.bind (mX8_frankOn g (0 : Int32) s5.2.2) fun v13 =>
        some v13
      else
        some (0 : Int32)) fun (v14 : Int32) =>
    some (.inl ((s5.1 ||| v10), (s5.2.1 + v14), (s5.2.2 + (1 : Int32))))

def mX8_block (g : GS) (j : Int32) (n : Int32) : Option (Int32) :=
  Option.bind (mX8_isBlock g j) fun v1 =>
  if v1 = 0 then
    some (-1 : Int32)
  else
    Option.bind (mX8_in n.toInt64 (0 : Int64) (3 : Int64)) fun v3 =>
    if v3 = 0 then
      some (-1 : Int32)
    else
      Option.bind (whO (mX8_block_l30 g j) FU ((0 : Int32), (0 : Int32), (0 : Int32))) fun e15 =>
      if (2 : Int32) ≤ n then
        if n = (2 : Int32) then
          some e15.1
        else
          some e15.2.1
      else
        Option.bind (ald 240 (g.1 0) (((6 : Int32) * n) + j)) fun v18 =>
        some v18
abbrev rmX8_block : Room := { frames := 2, cells := 0, slots := 0, locals := 50 }
set_option maxHeartbeats 4000000 in
set_option maxRecDepth 100000 in
theorem k_X8_block (l : Launch) (D : va_G) (ca : Nat → ClassId) (ga : Nat → Nat) (g : GS) (j : Int32) (n : Int32) (o : Int32) (hm : mX8_block g j n = some o) : KI l yX8_block wsX8_block rmX8_block D ca [.ref (ga 0), .int j, .int n] (cO ca ga g) (cO ca ga g) o := by
  refine KI.of (cc := cX8_block) (n := 6) (plainFor_of_name (by decide)) rfl (Nat.le_of_ble_eq_true rfl) ?_
  intro p e s m below meth c A Z hx hb hml hts hown hA hK hP hD hS hret ls hl
  have hown : s.vm.findClass RX8 = some m.cls := hown
  have hl : lv_has ls 6 [(0, .ref (ga 0)), (1, .int j), (2, .int n)] := hl
  have inX8 : ∀ w ∈ wsX80, w ∈ wsX8_block := by decide +kernel
  have k1 := hts (.constantLong RX8 138 (3 : Int64)) (by decide +kernel)
  have k2 := hts (.fieldLink RX8 7 "FriezeFolkModel" "state" "[I") (by decide +kernel)
  unfold mX8_block at hm
  refine lv_aload_n hx hb dX8_block_0 rfl (lv_at hl 0 rfl) ?_
  refine lv_iload_n hx hb dX8_block_1 rfl (lv_at hl 1 rfl) ?_
  obtain ⟨v1, q1, h19⟩ := obn hm
  clear hm
  refine xVi (As := [.int j]) (ci := 8) ⟨hx, hb, hml, hown, hts⟩ (k_X8_isBlock l D ca ga g j _ q1) (cwV 1 hts gX8_block_X8_isBlock rfl rfl rfl (by decide +kernel) ⟨Nat.le_of_ble_eq_true rfl, Nat.le_of_ble_eq_true rfl⟩) hK hA hP hD hS dX8_block_2 rfl hl.1 [0, 1, 2, 3, 4, 5, 6, 7, 8, 9, 10, 11, 12, 13] [] [0, 1, 2, 3, 4, 5, 6, 7, 8, 9, 10, 11, 12, 13] rfl rfl (wr := []) rfl rfl (by decide) (wn := (cO ca ga g)) rfl rfl rfl rfl rfl rfl (Nat.le_of_ble_eq_true rfl) (fun H locs hP hD hS => ?_)
  refine lv_if_eq (tgt := 20) hx hb dX8_block_5 (by decide) (fun c2 => ?_) (fun c2 => ?_)
  · skip
    replace h19 := (if_pos c2).symm.trans h19
    refine lv_iconst (v := (-1 : Int32)) hx hb dX8_block_20 (by decide) ?_
    obtain rfl := Option.some.inj h19
    exact hret _ _ _ _ (vp_nar_int _) hP hD hS dX8_block_21
  · skip
    replace h19 := (if_neg c2).symm.trans h19
    refine lv_iload_n hx hb dX8_block_8 rfl (lv_at hl 2 rfl) ?_
    refine lv_i2l (v := n.toInt64) hx hb dX8_block_9 rfl ?_
    refine lv_lconst (v := (0 : Int64)) hx hb dX8_block_10 (by decide) ?_
    refine lv_ldc2 hx hb hown k1 dX8_block_11 ?_
    obtain ⟨v3, q3, h20⟩ := obn h19
    clear h19
    refine xSi (As := [.long n.toInt64, .long (0 : Int64), .long (3 : Int64)]) ⟨hx, hb, hml, hown, hts⟩ (k_X8_in l D ca  n.toInt64 (0 : Int64) (3 : Int64) _ q3) (va_cwS 3 hts gX8_block_X8_in rfl rfl rfl (by decide +kernel) ⟨Nat.le_of_ble_eq_true rfl, Nat.le_of_ble_eq_true rfl⟩) hK hA hP hD hS dX8_block_14 rfl hl.1 [] [0, 1, 2, 3, 4, 5, 6, 7, 8, 9, 10, 11, 12, 13] [0, 1, 2, 3, 4, 5, 6, 7, 8, 9, 10, 11, 12, 13] rfl rfl (wr := ((cO ca ga g))) rfl rfl (by decide) (wn := (cO ca ga g)) rfl rfl rfl (Nat.le_of_ble_eq_true rfl) (fun H locs hP hD hS => ?_)
    refine lv_if_ne (tgt := 22) hx hb dX8_block_17 (by decide) (fun c4 => ?_) (fun c4 => ?_)
    · skip
      replace h20 := (if_neg c4).symm.trans h20
      refine lv_iconst (v := (0 : Int32)) hx hb dX8_block_22 (by decide) ?_
      refine lv_istore_n (lv' := [(3, .int (0 : Int32)), (0, .ref (ga 0)), (1, .int j), (2, .int n)]) hx hb dX8_block_23 rfl hl (by decide) rfl (fun ls hl => ?_)
      refine lv_iconst (v := (0 : Int32)) hx hb dX8_block_24 (by decide) ?_
      refine lv_istore (lv' := [(4, .int (0 : Int32)), (3, .int (0 : Int32)), (0, .ref (ga 0)), (1, .int j), (2, .int n)]) hx hb dX8_block_25 hl (by decide) rfl (fun ls hl => ?_)
      refine lv_iconst (v := (0 : Int32)) hx hb dX8_block_27 (by decide) ?_
      refine lv_istore (lv' := [(5, .int (0 : Int32)), (4, .int (0 : Int32)), (3, .int (0 : Int32)), (0, .ref (ga 0)), (1, .int j), (2, .int n)]) hx hb dX8_block_28 hl (by decide) rfl (fun ls hl => ?_)
      obtain ⟨e15, w21, h22⟩ := obn h20
      clear h20
      have AF15 : ∀ (ls : Array Slot) (H : Heap) (locs : List Loc), lv_has ls 6 [(0, .ref (ga 0)), (1, .int j), (2, .int n), (3, .int e15.1), (4, .int e15.2.1)] → va_P D vwCl (cO ca ga g) H → va_D A (cO ca ga g) → va_S A s.heap H locs → W p l e rmX8_block s m ([.ref (ga 0), .int j, .int n] : List Value).toArray below meth c H locs 0 0 Z (F0 m 95 ls []) := by
        intro ls H locs hl hP hD hS
        refine lv_iload_n hx hb dX8_block_95 rfl (lv_at hl 2 rfl) ?_
        refine lv_iconst (v := (2 : Int32)) hx hb dX8_block_96 (by decide) ?_
        refine lv_icmp_ge (tgt := 114) hx hb dX8_block_97 (by decide) (fun c16 => ?_) (fun c16 => ?_)
        · skip
          replace h22 := (if_pos c16).symm.trans h22
          refine lv_iload_n hx hb dX8_block_114 rfl (lv_at hl 2 rfl) ?_
          refine lv_iconst (v := (2 : Int32)) hx hb dX8_block_115 (by decide) ?_
          refine lv_icmp_ne (tgt := 123) hx hb dX8_block_116 (by decide) (fun c17 => ?_) (fun c17 => ?_)
          · skip
            replace h22 := (if_neg c17).symm.trans h22
            refine lv_iload hx hb dX8_block_123 (lv_at hl 4 rfl) ?_
            obtain rfl := Option.some.inj h22
            exact hret _ _ _ _ (vp_nar_int _) hP hD hS dX8_block_125
          · skip
            replace h22 := (if_pos c17).symm.trans h22
            refine lv_iload_n hx hb dX8_block_119 rfl (lv_at hl 3 rfl) ?_
            refine lv_goto (tgt := 125) hx hb dX8_block_120 (by decide) ?_
            obtain rfl := Option.some.inj h22
            exact hret _ _ _ _ (vp_nar_int _) hP hD hS dX8_block_125
        · skip
          replace h22 := (if_neg c16).symm.trans h22
          refine lv_aload_n hx hb dX8_block_100 rfl (lv_at hl 0 rfl) ?_
          refine xget (ref := "FriezeFolkModel") (C := RX8) (T := TX8) (N := 24) (ci := 8) (v := .ref (ga 1)) hx hb hts inX8 hown hK hP 0 rfl rfl 0 (by decide) k2 rfl rfl dX8_block_101 ?_
          refine lv_bipush (v := (6 : Int32)) hx hb dX8_block_104 (by decide) ?_
          refine lv_iload_n hx hb dX8_block_106 rfl (lv_at hl 2 rfl) ?_
          refine lv_imul hx hb dX8_block_107 ?_
          refine lv_iload_n hx hb dX8_block_108 rfl (lv_at hl 1 rfl) ?_
          refine lv_iadd hx hb dX8_block_109 ?_
          obtain ⟨v18, q18, h23⟩ := obn h22
          clear h22
          refine xald hx hb hK hP 1 rfl q18 dX8_block_110 ?_
          refine lv_goto (tgt := 125) hx hb dX8_block_111 (by decide) ?_
          obtain rfl := Option.some.inj h23
          exact hret _ _ _ _ (vp_nar_int _) hP hD hS dX8_block_125
      refine whO_walk (I := fun s5 => ∀ (ls : Array Slot) (H : Heap) (locs : List Loc), lv_has ls 6 [(0, .ref (ga 0)), (1, .int j), (2, .int n), (3, .int s5.1), (4, .int s5.2.1), (5, .int s5.2.2)] → va_P D vwCl (cO ca ga g) H → va_D A (cO ca ga g) → va_S A s.heap H locs → W p l e rmX8_block s m ([.ref (ga 0), .int j, .int n] : List Value).toArray below meth c H locs 0 0 Z (F0 m 30 ls [])) ?_ _ _ w21 _ _ _ (lv_sub hl [3, 4, 5, 2, 1, 0] rfl) hP hD hS
      clear w21
      intro s5 o15 h24 hi15 ho15 ls H locs hl hP hD hS
      unfold mX8_block_l30 at h24
      refine lv_iload hx hb dX8_block_30 (lv_at hl 5 rfl) ?_
      refine lv_aload_n hx hb dX8_block_32 rfl (lv_at hl 0 rfl) ?_
      refine lv_iconst (v := (0 : Int32)) hx hb dX8_block_33 (by decide) ?_
      obtain ⟨v6, q6, h25⟩ := obn h24
      clear h24
      refine xVi (As := [.int (0 : Int32)]) (ci := 8) ⟨hx, hb, hml, hown, hts⟩ (k_X8_longOn l D ca ga g (0 : Int32) _ q6) (cwV 1 hts gX8_block_X8_longOn rfl rfl rfl (by decide +kernel) ⟨Nat.le_of_ble_eq_true rfl, Nat.le_of_ble_eq_true rfl⟩) hK hA hP hD hS dX8_block_34 rfl hl.1 [0, 1, 2, 3, 4, 5, 6, 7, 8, 9, 10, 11, 12, 13] [] [0, 1, 2, 3, 4, 5, 6, 7, 8, 9, 10, 11, 12, 13] rfl rfl (wr := []) rfl rfl (by decide) (wn := (cO ca ga g)) rfl rfl rfl rfl rfl rfl (Nat.le_of_ble_eq_true rfl) (fun H locs hP hD hS => ?_)
      refine lv_icmp_ge (tgt := 95) hx hb dX8_block_37 (by decide) (fun c7 => ?_) (fun c7 => ?_)
      · skip
        replace h25 := (if_pos c7).symm.trans h25
        have h26 := ho15 _ (Option.some.inj h25).symm
        subst h26
        exact AF15 _ _ _ (lv_sub hl [0, 1, 2, 3, 4] rfl) hP hD hS
      · skip
        replace h25 := (if_neg c7).symm.trans h25
        refine lv_iload_n hx hb dX8_block_40 rfl (lv_at hl 3 rfl) ?_
        refine lv_aload_n hx hb dX8_block_41 rfl (lv_at hl 0 rfl) ?_
        refine lv_iconst (v := (0 : Int32)) hx hb dX8_block_42 (by decide) ?_
        refine lv_iload hx hb dX8_block_43 (lv_at hl 5 rfl) ?_
        obtain ⟨v8, q8, h27⟩ := obn h25
        clear h25
        refine xVi (As := [.int (0 : Int32), .int s5.2.2]) (ci := 8) ⟨hx, hb, hml, hown, hts⟩ (k_X8_whoOn l D ca ga g (0 : Int32) s5.2.2 _ q8) (cwV 2 hts gX8_block_X8_whoOn rfl rfl rfl (by decide +kernel) ⟨Nat.le_of_ble_eq_true rfl, Nat.le_of_ble_eq_true rfl⟩) hK hA hP hD hS dX8_block_45 rfl hl.1 [0, 1, 2, 3, 4, 5, 6, 7, 8, 9, 10, 11, 12, 13] [] [0, 1, 2, 3, 4, 5, 6, 7, 8, 9, 10, 11, 12, 13] rfl rfl (wr := []) rfl rfl (by decide) (wn := (cO ca ga g)) rfl rfl rfl rfl rfl rfl (Nat.le_of_ble_eq_true rfl) (fun H locs hP hD hS => ?_)
        refine lv_iload_n hx hb dX8_block_48 rfl (lv_at hl 1 rfl) ?_
        obtain ⟨v10, q28, h29⟩ := obn h27
        clear h27
        have J10 : ∀ (ls : Array Slot) (H : Heap) (locs : List Loc), lv_has ls 6 [(0, .ref (ga 0)), (1, .int j), (2, .int n), (4, .int s5.2.1), (5, .int s5.2.2)] → va_P D vwCl (cO ca ga g) H → va_D A (cO ca ga g) → va_S A s.heap H locs → W p l e rmX8_block s m ([.ref (ga 0), .int j, .int n] : List Value).toArray below meth c H locs 0 0 Z (F0 m 60 ls [.int v10, .int s5.1]) := by
          intro ls H locs hl hP hD hS
          refine lv_ior hx hb dX8_block_60 ?_
          refine lv_istore_n (lv' := [(3, .int (s5.1 ||| v10)), (0, .ref (ga 0)), (1, .int j), (2, .int n), (4, .int s5.2.1), (5, .int s5.2.2)]) hx hb dX8_block_61 rfl hl (by decide) rfl (fun ls hl => ?_)
          refine lv_iload hx hb dX8_block_62 (lv_at hl 4 rfl) ?_
          refine lv_aload_n hx hb dX8_block_64 rfl (lv_at hl 1 rfl) ?_
          refine lv_iconst (v := (0 : Int32)) hx hb dX8_block_65 (by decide) ?_
          refine lv_iload hx hb dX8_block_66 (lv_at hl 5 rfl) ?_
          obtain ⟨v11, q11, h30⟩ := obn h29
          clear h29
          refine xVi (As := [.int (0 : Int32), .int s5.2.2]) (ci := 8) ⟨hx, hb, hml, hown, hts⟩ (k_X8_whoOn l D ca ga g (0 : Int32) s5.2.2 _ q11) (cwV 2 hts gX8_block_X8_whoOn rfl rfl rfl (by decide +kernel) ⟨Nat.le_of_ble_eq_true rfl, Nat.le_of_ble_eq_true rfl⟩) hK hA hP hD hS dX8_block_68 rfl hl.1 [0, 1, 2, 3, 4, 5, 6, 7, 8, 9, 10, 11, 12, 13] [] [0, 1, 2, 3, 4, 5, 6, 7, 8, 9, 10, 11, 12, 13] rfl rfl (wr := []) rfl rfl (by decide) (wn := (cO ca ga g)) rfl rfl rfl rfl rfl rfl (Nat.le_of_ble_eq_true rfl) (fun H locs hP hD hS => ?_)
          refine lv_iload_n hx hb dX8_block_71 rfl (lv_at hl 2 rfl) ?_
          obtain ⟨v14, q31, h32⟩ := obn h30
          clear h30
          have J14 : ∀ (ls : Array Slot) (H : Heap) (locs : List Loc), lv_has ls 6 [(0, .ref (ga 0)), (1, .int j), (2, .int n), (3, .int (s5.1 ||| v10)), (5, .int s5.2.2)] → va_P D vwCl (cO ca ga g) H → va_D A (cO ca ga g) → va_S A s.heap H locs → W p l e rmX8_block s m ([.ref (ga 0), .int j, .int n] : List Value).toArray below meth c H locs 0 0 Z (F0 m 86 ls [.int v14, .int s5.2.1]) := by
            intro ls H locs hl hP hD hS
            refine lv_iadd hx hb dX8_block_86 ?_
            refine lv_istore (lv' := [(4, .int (s5.2.1 + v14)), (0, .ref (ga 0)), (1, .int j), (2, .int n), (3, .int (s5.1 ||| v10)), (5, .int s5.2.2)]) hx hb dX8_block_87 hl (by decide) rfl (fun ls hl => ?_)
            refine lv_iinc (v := (s5.2.2 + (1 : Int32))) (lv' := [(5, .int (s5.2.2 + (1 : Int32))), (4, .int (s5.2.1 + v14)), (0, .ref (ga 0)), (1, .int j), (2, .int n), (3, .int (s5.1 ||| v10))]) hx hb dX8_block_89 hl (k := 5) rfl rfl (by decide) rfl (fun ls hl => ?_)
            refine lv_goto (tgt := 30) hx hb dX8_block_92 (by decide) ?_
            exact hi15 _ (Option.some.inj h32).symm _ _ _ (lv_sub hl [2, 3, 4, 5, 1, 0] rfl) hP hD hS
          refine lv_icmp_ne (tgt := 85) hx hb dX8_block_72 (by decide) (fun c12 => ?_) (fun c12 => ?_)
          · skip
            replace q31 := (if_neg c12).symm.trans q31
            refine lv_iconst (v := (0 : Int32)) hx hb dX8_block_85 (by decide) ?_
            obtain rfl := Option.some.inj q31
            exact J14 _ _ _ (lv_sub hl [1, 2, 3, 0, 5] rfl) hP hD hS
          · skip
            replace q31 := (if_pos c12).symm.trans q31
            refine lv_aload_n hx hb dX8_block_75 rfl (lv_at hl 1 rfl) ?_
            refine lv_iconst (v := (0 : Int32)) hx hb dX8_block_76 (by decide) ?_
            refine lv_iload hx hb dX8_block_77 (lv_at hl 5 rfl) ?_
            obtain ⟨v13, q13, h33⟩ := obn q31
            clear q31
            refine xVi (As := [.int (0 : Int32), .int s5.2.2]) (ci := 8) ⟨hx, hb, hml, hown, hts⟩ (k_X8_frankOn l D ca ga g (0 : Int32) s5.2.2 _ q13) (cwV 2 hts gX8_block_X8_frankOn rfl rfl rfl (by decide +kernel) ⟨Nat.le_of_ble_eq_true rfl, Nat.le_of_ble_eq_true rfl⟩) hK hA hP hD hS dX8_block_79 rfl hl.1 [0, 1, 2, 3, 4, 5, 6, 7, 8, 9, 10, 11, 12, 13] [] [0, 1, 2, 3, 4, 5, 6, 7, 8, 9, 10, 11, 12, 13] rfl rfl (wr := []) rfl rfl (by decide) (wn := (cO ca ga g)) rfl rfl rfl rfl rfl rfl (Nat.le_of_ble_eq_true rfl) (fun H locs hP hD hS => ?_)
            refine lv_goto (tgt := 86) hx hb dX8_block_82 (by decide) ?_
            obtain rfl := Option.some.inj h33
            exact J14 _ _ _ (lv_sub hl [1, 2, 3, 0, 5] rfl) hP hD hS
        refine lv_icmp_ne (tgt := 59) hx hb dX8_block_49 (by decide) (fun c9 => ?_) (fun c9 => ?_)
        · skip
          replace q28 := (if_neg c9).symm.trans q28
          refine lv_iconst (v := (0 : Int32)) hx hb dX8_block_59 (by decide) ?_
          obtain rfl := Option.some.inj q28
          exact J10 _ _ _ (lv_sub hl [0, 1, 2, 4, 5] rfl) hP hD hS
        · skip
          replace q28 := (if_pos c9).symm.trans q28
          refine lv_iconst (v := (1 : Int32)) hx hb dX8_block_52 (by decide) ?_
          refine lv_iload hx hb dX8_block_53 (lv_at hl 5 rfl) ?_
          refine lv_ishl hx hb dX8_block_55 ?_
          refine lv_goto (tgt := 60) hx hb dX8_block_56 (by decide) ?_
          obtain rfl := Option.some.inj q28
          exact J10 _ _ _ (lv_sub hl [0, 1, 2, 4, 5] rfl) hP hD hS
    · skip
      replace h20 := (if_pos c4).symm.trans h20
      refine lv_iconst (v := (-1 : Int32)) hx hb dX8_block_20 (by decide) ?_
      obtain rfl := Option.some.inj h20
      exact hret _ _ _ _ (vp_nar_int _) hP hD hS dX8_block_21

def mX8_place (g : GS) (i : Int32) (n : Int32) : Option (Int32) :=
  Option.bind (mX8_isPlace g i) fun v1 =>
  if v1 = 0 then
    some (-1 : Int32)
  else
    Option.bind (mX8_in n.toInt64 (0 : Int64) (2 : Int64)) fun v3 =>
    if v3 = 0 then
      some (-1 : Int32)
    else
      if n = 0 then
        Option.bind (mX8_whoOn g (0 : Int32) i) fun v9 =>
        some v9
      else
        if n = (1 : Int32) then
          Option.bind (ald 240 (g.1 0) ((19 : Int32) + i)) fun v8 =>
          some v8
        else
          Option.bind (mX8_frankOn g (0 : Int32) i) fun v7 =>
          some v7
abbrev rmX8_place : Room := { frames := 2, cells := 0, slots := 0, locals := 50 }
set_option maxHeartbeats 4000000 in
set_option maxRecDepth 100000 in
theorem k_X8_place (l : Launch) (D : va_G) (ca : Nat → ClassId) (ga : Nat → Nat) (g : GS) (i : Int32) (n : Int32) (o : Int32) (hm : mX8_place g i n = some o) : KI l yX8_place wsX8_place rmX8_place D ca [.ref (ga 0), .int i, .int n] (cO ca ga g) (cO ca ga g) o := by
  refine KI.of (cc := cX8_place) (n := 3) (plainFor_of_name (by decide)) rfl (Nat.le_of_ble_eq_true rfl) ?_
  intro p e s m below meth c A Z hx hb hml hts hown hA hK hP hD hS hret ls hl
  have hown : s.vm.findClass RX8 = some m.cls := hown
  have hl : lv_has ls 3 [(0, .ref (ga 0)), (1, .int i), (2, .int n)] := hl
  have inX8 : ∀ w ∈ wsX80, w ∈ wsX8_place := by decide +kernel
  have k1 := hts (.constantLong RX8 143 (2 : Int64)) (by decide +kernel)
  have k2 := hts (.fieldLink RX8 7 "FriezeFolkModel" "state" "[I") (by decide +kernel)
  unfold mX8_place at hm
  refine lv_aload_n hx hb dX8_place_0 rfl (lv_at hl 0 rfl) ?_
  refine lv_iload_n hx hb dX8_place_1 rfl (lv_at hl 1 rfl) ?_
  obtain ⟨v1, q1, h10⟩ := obn hm
  clear hm
  refine xVi (As := [.int i]) (ci := 8) ⟨hx, hb, hml, hown, hts⟩ (k_X8_isPlace l D ca ga g i _ q1) (cwV 1 hts gX8_place_X8_isPlace rfl rfl rfl (by decide +kernel) ⟨Nat.le_of_ble_eq_true rfl, Nat.le_of_ble_eq_true rfl⟩) hK hA hP hD hS dX8_place_2 rfl hl.1 [0, 1, 2, 3, 4, 5, 6, 7, 8, 9, 10, 11, 12, 13] [] [0, 1, 2, 3, 4, 5, 6, 7, 8, 9, 10, 11, 12, 13] rfl rfl (wr := []) rfl rfl (by decide) (wn := (cO ca ga g)) rfl rfl rfl rfl rfl rfl (Nat.le_of_ble_eq_true rfl) (fun H locs hP hD hS => ?_)
  refine lv_if_eq (tgt := 20) hx hb dX8_place_5 (by decide) (fun c2 => ?_) (fun c2 => ?_)
  · skip
    replace h10 := (if_pos c2).symm.trans h10
    refine lv_iconst (v := (-1 : Int32)) hx hb dX8_place_20 (by decide) ?_
    obtain rfl := Option.some.inj h10
    exact hret _ _ _ _ (vp_nar_int _) hP hD hS dX8_place_21
  · skip
    replace h10 := (if_neg c2).symm.trans h10
    refine lv_iload_n hx hb dX8_place_8 rfl (lv_at hl 2 rfl) ?_
    refine lv_i2l (v := n.toInt64) hx hb dX8_place_9 rfl ?_
    refine lv_lconst (v := (0 : Int64)) hx hb dX8_place_10 (by decide) ?_
    refine lv_ldc2 hx hb hown k1 dX8_place_11 ?_
    obtain ⟨v3, q3, h11⟩ := obn h10
    clear h10
    refine xSi (As := [.long n.toInt64, .long (0 : Int64), .long (2 : Int64)]) ⟨hx, hb, hml, hown, hts⟩ (k_X8_in l D ca  n.toInt64 (0 : Int64) (2 : Int64) _ q3) (va_cwS 3 hts gX8_place_X8_in rfl rfl rfl (by decide +kernel) ⟨Nat.le_of_ble_eq_true rfl, Nat.le_of_ble_eq_true rfl⟩) hK hA hP hD hS dX8_place_14 rfl hl.1 [] [0, 1, 2, 3, 4, 5, 6, 7, 8, 9, 10, 11, 12, 13] [0, 1, 2, 3, 4, 5, 6, 7, 8, 9, 10, 11, 12, 13] rfl rfl (wr := ((cO ca ga g))) rfl rfl (by decide) (wn := (cO ca ga g)) rfl rfl rfl (Nat.le_of_ble_eq_true rfl) (fun H locs hP hD hS => ?_)
    refine lv_if_ne (tgt := 22) hx hb dX8_place_17 (by decide) (fun c4 => ?_) (fun c4 => ?_)
    · skip
      replace h11 := (if_neg c4).symm.trans h11
      refine lv_iload_n hx hb dX8_place_22 rfl (lv_at hl 2 rfl) ?_
      refine lv_if_ne (tgt := 35) hx hb dX8_place_23 (by decide) (fun c5 => ?_) (fun c5 => ?_)
      · skip
        replace h11 := (if_neg c5).symm.trans h11
        refine lv_iload_n hx hb dX8_place_35 rfl (lv_at hl 2 rfl) ?_
        refine lv_iconst (v := (1 : Int32)) hx hb dX8_place_36 (by decide) ?_
        refine lv_icmp_ne (tgt := 52) hx hb dX8_place_37 (by decide) (fun c6 => ?_) (fun c6 => ?_)
        · skip
          replace h11 := (if_neg c6).symm.trans h11
          refine lv_aload_n hx hb dX8_place_52 rfl (lv_at hl 0 rfl) ?_
          refine lv_iconst (v := (0 : Int32)) hx hb dX8_place_53 (by decide) ?_
          refine lv_iload_n hx hb dX8_place_54 rfl (lv_at hl 1 rfl) ?_
          obtain ⟨v7, q7, h12⟩ := obn h11
          clear h11
          refine xVi (As := [.int (0 : Int32), .int i]) (ci := 8) ⟨hx, hb, hml, hown, hts⟩ (k_X8_frankOn l D ca ga g (0 : Int32) i _ q7) (cwV 2 hts gX8_place_X8_frankOn rfl rfl rfl (by decide +kernel) ⟨Nat.le_of_ble_eq_true rfl, Nat.le_of_ble_eq_true rfl⟩) hK hA hP hD hS dX8_place_55 rfl hl.1 [0, 1, 2, 3, 4, 5, 6, 7, 8, 9, 10, 11, 12, 13] [] [0, 1, 2, 3, 4, 5, 6, 7, 8, 9, 10, 11, 12, 13] rfl rfl (wr := []) rfl rfl (by decide) (wn := (cO ca ga g)) rfl rfl rfl rfl rfl rfl (Nat.le_of_ble_eq_true rfl) (fun H locs hP hD hS => ?_)
          obtain rfl := Option.some.inj h12
          exact hret _ _ _ _ (vp_nar_int _) hP hD hS dX8_place_58
        · skip
          replace h11 := (if_pos c6).symm.trans h11
          refine lv_aload_n hx hb dX8_place_40 rfl (lv_at hl 0 rfl) ?_
          refine xget (ref := "FriezeFolkModel") (C := RX8) (T := TX8) (N := 24) (ci := 8) (v := .ref (ga 1)) hx hb hts inX8 hown hK hP 0 rfl rfl 0 (by decide) k2 rfl rfl dX8_place_41 ?_
          refine lv_bipush (v := (19 : Int32)) hx hb dX8_place_44 (by decide) ?_
          refine lv_iload_n hx hb dX8_place_46 rfl (lv_at hl 1 rfl) ?_
          refine lv_iadd hx hb dX8_place_47 ?_
          obtain ⟨v8, q8, h13⟩ := obn h11
          clear h11
          refine xald hx hb hK hP 1 rfl q8 dX8_place_48 ?_
          refine lv_goto (tgt := 58) hx hb dX8_place_49 (by decide) ?_
          obtain rfl := Option.some.inj h13
          exact hret _ _ _ _ (vp_nar_int _) hP hD hS dX8_place_58
      · skip
        replace h11 := (if_pos c5).symm.trans h11
        refine lv_aload_n hx hb dX8_place_26 rfl (lv_at hl 0 rfl) ?_
        refine lv_iconst (v := (0 : Int32)) hx hb dX8_place_27 (by decide) ?_
        refine lv_iload_n hx hb dX8_place_28 rfl (lv_at hl 1 rfl) ?_
        obtain ⟨v9, q9, h14⟩ := obn h11
        clear h11
        refine xVi (As := [.int (0 : Int32), .int i]) (ci := 8) ⟨hx, hb, hml, hown, hts⟩ (k_X8_whoOn l D ca ga g (0 : Int32) i _ q9) (cwV 2 hts gX8_place_X8_whoOn rfl rfl rfl (by decide +kernel) ⟨Nat.le_of_ble_eq_true rfl, Nat.le_of_ble_eq_true rfl⟩) hK hA hP hD hS dX8_place_29 rfl hl.1 [0, 1, 2, 3, 4, 5, 6, 7, 8, 9, 10, 11, 12, 13] [] [0, 1, 2, 3, 4, 5, 6, 7, 8, 9, 10, 11, 12, 13] rfl rfl (wr := []) rfl rfl (by decide) (wn := (cO ca ga g)) rfl rfl rfl rfl rfl rfl (Nat.le_of_ble_eq_true rfl) (fun H locs hP hD hS => ?_)
        refine lv_goto (tgt := 58) hx hb dX8_place_32 (by decide) ?_
        obtain rfl := Option.some.inj h14
        exact hret _ _ _ _ (vp_nar_int _) hP hD hS dX8_place_58
    · skip
      replace h11 := (if_pos c4).symm.trans h11
      refine lv_iconst (v := (-1 : Int32)) hx hb dX8_place_20 (by decide) ?_
      obtain rfl := Option.some.inj h11
      exact hret _ _ _ _ (vp_nar_int _) hP hD hS dX8_place_21

def mX8_roll (g : GS) (r : Int32) (n : Int32) : Option (Int32) :=
  Option.bind (mX8_isRoll g r) fun v1 =>
  if v1 = 0 then
    some (-1 : Int32)
  else
    Option.bind (mX8_in n.toInt64 (0 : Int64) (1 : Int64)) fun v3 =>
    if v3 = 0 then
      some (-1 : Int32)
    else
      Option.bind (ald 240 (g.1 0) (((31 : Int32) + ((4 : Int32) * n)) + r)) fun v5 =>
      some v5
abbrev rmX8_roll : Room := { frames := 2, cells := 0, slots := 0, locals := 46 }
set_option maxHeartbeats 4000000 in
set_option maxRecDepth 100000 in
theorem k_X8_roll (l : Launch) (D : va_G) (ca : Nat → ClassId) (ga : Nat → Nat) (g : GS) (r : Int32) (n : Int32) (o : Int32) (hm : mX8_roll g r n = some o) : KI l yX8_roll wsX8_roll rmX8_roll D ca [.ref (ga 0), .int r, .int n] (cO ca ga g) (cO ca ga g) o := by
  refine KI.of (cc := cX8_roll) (n := 3) (plainFor_of_name (by decide)) rfl (Nat.le_of_ble_eq_true rfl) ?_
  intro p e s m below meth c A Z hx hb hml hts hown hA hK hP hD hS hret ls hl
  have hown : s.vm.findClass RX8 = some m.cls := hown
  have hl : lv_has ls 3 [(0, .ref (ga 0)), (1, .int r), (2, .int n)] := hl
  have inX8 : ∀ w ∈ wsX80, w ∈ wsX8_roll := by decide +kernel
  have k1 := hts (.fieldLink RX8 7 "FriezeFolkModel" "state" "[I") (by decide +kernel)
  unfold mX8_roll at hm
  refine lv_aload_n hx hb dX8_roll_0 rfl (lv_at hl 0 rfl) ?_
  refine lv_iload_n hx hb dX8_roll_1 rfl (lv_at hl 1 rfl) ?_
  obtain ⟨v1, q1, h6⟩ := obn hm
  clear hm
  refine xVi (As := [.int r]) (ci := 8) ⟨hx, hb, hml, hown, hts⟩ (k_X8_isRoll l D ca ga g r _ q1) (cwV 1 hts gX8_roll_X8_isRoll rfl rfl rfl (by decide +kernel) ⟨Nat.le_of_ble_eq_true rfl, Nat.le_of_ble_eq_true rfl⟩) hK hA hP hD hS dX8_roll_2 rfl hl.1 [0, 1, 2, 3, 4, 5, 6, 7, 8, 9, 10, 11, 12, 13] [] [0, 1, 2, 3, 4, 5, 6, 7, 8, 9, 10, 11, 12, 13] rfl rfl (wr := []) rfl rfl (by decide) (wn := (cO ca ga g)) rfl rfl rfl rfl rfl rfl (Nat.le_of_ble_eq_true rfl) (fun H locs hP hD hS => ?_)
  refine lv_if_eq (tgt := 34) hx hb dX8_roll_5 (by decide) (fun c2 => ?_) (fun c2 => ?_)
  · skip
    replace h6 := (if_pos c2).symm.trans h6
    refine lv_iconst (v := (-1 : Int32)) hx hb dX8_roll_34 (by decide) ?_
    obtain rfl := Option.some.inj h6
    exact hret _ _ _ _ (vp_nar_int _) hP hD hS dX8_roll_35
  · skip
    replace h6 := (if_neg c2).symm.trans h6
    refine lv_iload_n hx hb dX8_roll_8 rfl (lv_at hl 2 rfl) ?_
    refine lv_i2l (v := n.toInt64) hx hb dX8_roll_9 rfl ?_
    refine lv_lconst (v := (0 : Int64)) hx hb dX8_roll_10 (by decide) ?_
    refine lv_lconst (v := (1 : Int64)) hx hb dX8_roll_11 (by decide) ?_
    obtain ⟨v3, q3, h7⟩ := obn h6
    clear h6
    refine xSi (As := [.long n.toInt64, .long (0 : Int64), .long (1 : Int64)]) ⟨hx, hb, hml, hown, hts⟩ (k_X8_in l D ca  n.toInt64 (0 : Int64) (1 : Int64) _ q3) (va_cwS 3 hts gX8_roll_X8_in rfl rfl rfl (by decide +kernel) ⟨Nat.le_of_ble_eq_true rfl, Nat.le_of_ble_eq_true rfl⟩) hK hA hP hD hS dX8_roll_12 rfl hl.1 [] [0, 1, 2, 3, 4, 5, 6, 7, 8, 9, 10, 11, 12, 13] [0, 1, 2, 3, 4, 5, 6, 7, 8, 9, 10, 11, 12, 13] rfl rfl (wr := ((cO ca ga g))) rfl rfl (by decide) (wn := (cO ca ga g)) rfl rfl rfl (Nat.le_of_ble_eq_true rfl) (fun H locs hP hD hS => ?_)
    refine lv_if_eq (tgt := 34) hx hb dX8_roll_15 (by decide) (fun c4 => ?_) (fun c4 => ?_)
    · skip
      replace h7 := (if_pos c4).symm.trans h7
      refine lv_iconst (v := (-1 : Int32)) hx hb dX8_roll_34 (by decide) ?_
      obtain rfl := Option.some.inj h7
      exact hret _ _ _ _ (vp_nar_int _) hP hD hS dX8_roll_35
    · skip
      replace h7 := (if_neg c4).symm.trans h7
      refine lv_aload_n hx hb dX8_roll_18 rfl (lv_at hl 0 rfl) ?_
      refine xget (ref := "FriezeFolkModel") (C := RX8) (T := TX8) (N := 24) (ci := 8) (v := .ref (ga 1)) hx hb hts inX8 hown hK hP 0 rfl rfl 0 (by decide) k1 rfl rfl dX8_roll_19 ?_
      refine lv_bipush (v := (31 : Int32)) hx hb dX8_roll_22 (by decide) ?_
      refine lv_iconst (v := (4 : Int32)) hx hb dX8_roll_24 (by decide) ?_
      refine lv_iload_n hx hb dX8_roll_25 rfl (lv_at hl 2 rfl) ?_
      refine lv_imul hx hb dX8_roll_26 ?_
      refine lv_iadd hx hb dX8_roll_27 ?_
      refine lv_iload_n hx hb dX8_roll_28 rfl (lv_at hl 1 rfl) ?_
      refine lv_iadd hx hb dX8_roll_29 ?_
      obtain ⟨v5, q5, h8⟩ := obn h7
      clear h7
      refine xald hx hb hK hP 1 rfl q5 dX8_roll_30 ?_
      refine lv_goto (tgt := 35) hx hb dX8_roll_31 (by decide) ?_
      obtain rfl := Option.some.inj h8
      exact hret _ _ _ _ (vp_nar_int _) hP hD hS dX8_roll_35

def mX8_puts (g : GS) (u : Int32) (i : Int32) (n : Int32) (j : Int32) : Option (Int32 × GS) :=
  if u = 0 then
    some ((-1 : Int32), g)
  else
    Option.bind (ald 240 (g.1 0) i) fun v2 =>
    Option.bind (ast 240 (g.1 0) i (n - j)) fun f3 =>
    some ((v2 + j), (sA g 0 f3))
abbrev rmX8_puts : Room := { frames := 0, cells := 0, slots := 0, locals := 0 }
set_option maxHeartbeats 4000000 in
set_option maxRecDepth 100000 in
theorem k_X8_puts (l : Launch) (D : va_G) (ca : Nat → ClassId) (ga : Nat → Nat) (g : GS) (u : Int32) (i : Int32) (n : Int32) (j : Int32) (o : Int32 × GS) (hm : mX8_puts g u i n j = some o) : KI l yX8_puts wsX8_puts rmX8_puts D ca [.ref (ga 0), .int u, .int i, .int n, .int j] (cO ca ga g) (cO ca ga o.2) o.1 := by
  refine KI.of (cc := cX8_puts) (n := 6) (plainFor_of_name (by decide)) rfl (Nat.le_of_ble_eq_true rfl) ?_
  intro p e s m below meth c A Z hx hb hml hts hown hA hK hP hD hS hret ls hl
  have hown : s.vm.findClass RX8 = some m.cls := hown
  have hl : lv_has ls 6 [(0, .ref (ga 0)), (1, .int u), (2, .int i), (3, .int n), (4, .int j)] := hl
  have inX8 : ∀ w ∈ wsX80, w ∈ wsX8_puts := by decide +kernel
  have k1 := hts (.fieldLink RX8 7 "FriezeFolkModel" "state" "[I") (by decide +kernel)
  unfold mX8_puts at hm
  refine lv_iload_n hx hb dX8_puts_0 rfl (lv_at hl 1 rfl) ?_
  refine lv_if_ne (tgt := 6) hx hb dX8_puts_1 (by decide) (fun c1 => ?_) (fun c1 => ?_)
  · skip
    replace hm := (if_neg c1).symm.trans hm
    refine lv_aload_n hx hb dX8_puts_6 rfl (lv_at hl 0 rfl) ?_
    refine xget (ref := "FriezeFolkModel") (C := RX8) (T := TX8) (N := 24) (ci := 8) (v := .ref (ga 1)) hx hb hts inX8 hown hK hP 0 rfl rfl 0 (by decide) k1 rfl rfl dX8_puts_7 ?_
    refine lv_iload_n hx hb dX8_puts_10 rfl (lv_at hl 2 rfl) ?_
    obtain ⟨v2, q2, h4⟩ := obn hm
    clear hm
    refine xald hx hb hK hP 1 rfl q2 dX8_puts_11 ?_
    refine lv_iload hx hb dX8_puts_12 (lv_at hl 4 rfl) ?_
    refine lv_iadd hx hb dX8_puts_14 ?_
    refine lv_istore (lv' := [(5, .int (v2 + j)), (0, .ref (ga 0)), (1, .int u), (2, .int i), (3, .int n), (4, .int j)]) hx hb dX8_puts_15 hl (by decide) rfl (fun ls hl => ?_)
    refine lv_aload_n hx hb dX8_puts_17 rfl (lv_at hl 1 rfl) ?_
    refine xget (ref := "FriezeFolkModel") (C := RX8) (T := TX8) (N := 24) (ci := 8) (v := .ref (ga 1)) hx hb hts inX8 hown hK hP 0 rfl rfl 0 (by decide) k1 rfl rfl dX8_puts_18 ?_
    refine lv_iload_n hx hb dX8_puts_21 rfl (lv_at hl 3 rfl) ?_
    refine lv_iload_n hx hb dX8_puts_22 rfl (lv_at hl 4 rfl) ?_
    refine lv_iload hx hb dX8_puts_23 (lv_at hl 5 rfl) ?_
    refine lv_isub hx hb dX8_puts_25 ?_
    obtain ⟨f3, q3, h5⟩ := obn h4
    clear h4
    refine xast hx hb hK hP hD hS 1 rfl q3 dX8_puts_26 (wn := (cO ca ga (sA g 0 f3))) rfl (fun H locs hP hD hS => ?_)
    refine lv_iload hx hb dX8_puts_27 (lv_at hl 0 rfl) ?_
    obtain rfl := Option.some.inj h5
    exact hret _ _ _ _ (vp_nar_int _) hP hD hS dX8_puts_29
  · skip
    replace hm := (if_pos c1).symm.trans hm
    refine lv_iconst (v := (-1 : Int32)) hx hb dX8_puts_4 (by decide) ?_
    obtain rfl := Option.some.inj hm
    exact hret _ _ _ _ (vp_nar_int _) hP hD hS dX8_puts_5

def mX8_alter (g : GS) (j : Int32) (n : Int32) (x : Int32) : Option (Int32 × GS) :=
  Option.bind (
    if n = 0 then
      Option.bind (mX8_in x.toInt64 (0 : Int64) (3 : Int64)) fun v5 =>
      some v5
    else
      if n = (1 : Int32) then
        Option.bind (mX8_in x.toInt64 (0 : Int64) (9 : Int64)) fun v3 =>
        if v3 = 0 then
          some (0 : Int32)
        else
          some (1 : Int32)
      else
        some (0 : Int32)) fun (v6 : Int32) =>
  Option.bind (mX8_isBlock g j) fun v7 =>
  Option.bind (
    if v7 = 0 then
      some (0 : Int32)
    else
      if v6 = 0 then
        some (0 : Int32)
      else
        some (1 : Int32)) fun (v10 : Int32) =>
  Option.bind (mX8_puts g v10 (((6 : Int32) * n) + j) x (0 : Int32)) fun v11 =>
  some (v11.1, v11.2)
abbrev rmX8_alter : Room := { frames := 2, cells := 0, slots := 0, locals := 46 }
set_option maxHeartbeats 4000000 in
set_option maxRecDepth 100000 in
theorem k_X8_alter (l : Launch) (D : va_G) (ca : Nat → ClassId) (ga : Nat → Nat) (g : GS) (j : Int32) (n : Int32) (x : Int32) (o : Int32 × GS) (hm : mX8_alter g j n x = some o) : KI l yX8_alter wsX8_alter rmX8_alter D ca [.ref (ga 0), .int j, .int n, .int x] (cO ca ga g) (cO ca ga o.2) o.1 := by
  refine KI.of (cc := cX8_alter) (n := 5) (plainFor_of_name (by decide)) rfl (Nat.le_of_ble_eq_true rfl) ?_
  intro p e s m below meth c A Z hx hb hml hts hown hA hK hP hD hS hret ls hl
  have hown : s.vm.findClass RX8 = some m.cls := hown
  have hl : lv_has ls 5 [(0, .ref (ga 0)), (1, .int j), (2, .int n), (3, .int x)] := hl
  have k1 := hts (.constantLong RX8 148 (9 : Int64)) (by decide +kernel)
  have k2 := hts (.constantLong RX8 138 (3 : Int64)) (by decide +kernel)
  unfold mX8_alter at hm
  refine lv_iload_n hx hb dX8_alter_0 rfl (lv_at hl 2 rfl) ?_
  obtain ⟨v6, q12, h13⟩ := obn hm
  clear hm
  have J6 : ∀ (ls : Array Slot) (H : Heap) (locs : List Loc), lv_has ls 5 [(0, .ref (ga 0)), (1, .int j), (2, .int n), (3, .int x)] → va_P D vwCl (cO ca ga g) H → va_D A (cO ca ga g) → va_S A s.heap H locs → W p l e rmX8_alter s m ([.ref (ga 0), .int j, .int n, .int x] : List Value).toArray below meth c H locs 0 0 Z (F0 m 38 ls [.int v6]) := by
    intro ls H locs hl hP hD hS
    refine lv_istore (lv' := [(4, .int v6), (0, .ref (ga 0)), (1, .int j), (2, .int n), (3, .int x)]) hx hb dX8_alter_38 hl (by decide) rfl (fun ls hl => ?_)
    refine lv_aload_n hx hb dX8_alter_40 rfl (lv_at hl 1 rfl) ?_
    refine lv_aload_n hx hb dX8_alter_41 rfl (lv_at hl 1 rfl) ?_
    refine lv_iload_n hx hb dX8_alter_42 rfl (lv_at hl 2 rfl) ?_
    obtain ⟨v7, q7, h14⟩ := obn h13
    clear h13
    refine xVi (As := [.int j]) (ci := 8) ⟨hx, hb, hml, hown, hts⟩ (k_X8_isBlock l D ca ga g j _ q7) (cwV 1 hts gX8_alter_X8_isBlock rfl rfl rfl (by decide +kernel) ⟨Nat.le_of_ble_eq_true rfl, Nat.le_of_ble_eq_true rfl⟩) hK hA hP hD hS dX8_alter_43 rfl hl.1 [0, 1, 2, 3, 4, 5, 6, 7, 8, 9, 10, 11, 12, 13] [] [0, 1, 2, 3, 4, 5, 6, 7, 8, 9, 10, 11, 12, 13] rfl rfl (wr := []) rfl rfl (by decide) (wn := (cO ca ga g)) rfl rfl rfl rfl rfl rfl (Nat.le_of_ble_eq_true rfl) (fun H locs hP hD hS => ?_)
    obtain ⟨v10, q15, h16⟩ := obn h14
    clear h14
    have J10 : ∀ (ls : Array Slot) (H : Heap) (locs : List Loc), lv_has ls 5 [(1, .int j), (2, .int n), (3, .int x)] → va_P D vwCl (cO ca ga g) H → va_D A (cO ca ga g) → va_S A s.heap H locs → W p l e rmX8_alter s m ([.ref (ga 0), .int j, .int n, .int x] : List Value).toArray below meth c H locs 0 0 Z (F0 m 59 ls [.int v10, .ref (ga 0)]) := by
      intro ls H locs hl hP hD hS
      refine lv_bipush (v := (6 : Int32)) hx hb dX8_alter_59 (by decide) ?_
      refine lv_iload_n hx hb dX8_alter_61 rfl (lv_at hl 1 rfl) ?_
      refine lv_imul hx hb dX8_alter_62 ?_
      refine lv_iload_n hx hb dX8_alter_63 rfl (lv_at hl 0 rfl) ?_
      refine lv_iadd hx hb dX8_alter_64 ?_
      refine lv_iload_n hx hb dX8_alter_65 rfl (lv_at hl 2 rfl) ?_
      refine lv_iconst (v := (0 : Int32)) hx hb dX8_alter_66 (by decide) ?_
      obtain ⟨v11, q11, h17⟩ := obn h16
      clear h16
      refine xVi (As := [.int v10, .int (((6 : Int32) * n) + j), .int x, .int (0 : Int32)]) (ci := 8) ⟨hx, hb, hml, hown, hts⟩ (k_X8_puts l D ca ga g v10 (((6 : Int32) * n) + j) x (0 : Int32) _ q11) (cwV 4 hts gX8_alter_X8_puts rfl rfl rfl (by decide +kernel) ⟨Nat.le_of_ble_eq_true rfl, Nat.le_of_ble_eq_true rfl⟩) hK hA hP hD hS dX8_alter_67 rfl hl.1 [0, 1, 2, 3, 4, 5, 6, 7, 8, 9, 10, 11, 12, 13] [] [0, 1, 2, 3, 4, 5, 6, 7, 8, 9, 10, 11, 12, 13] rfl rfl (wr := []) rfl rfl (by decide) (wn := (cO ca ga v11.2)) rfl rfl rfl rfl rfl rfl (Nat.le_of_ble_eq_true rfl) (fun H locs hP hD hS => ?_)
      obtain rfl := Option.some.inj h17
      exact hret _ _ _ _ (vp_nar_int _) hP hD hS dX8_alter_70
    refine lv_if_eq (tgt := 58) hx hb dX8_alter_46 (by decide) (fun c8 => ?_) (fun c8 => ?_)
    · skip
      replace q15 := (if_pos c8).symm.trans q15
      refine lv_iconst (v := (0 : Int32)) hx hb dX8_alter_58 (by decide) ?_
      obtain rfl := Option.some.inj q15
      exact J10 _ _ _ (lv_sub hl [2, 3, 4] rfl) hP hD hS
    · skip
      replace q15 := (if_neg c8).symm.trans q15
      refine lv_iload hx hb dX8_alter_49 (lv_at hl 0 rfl) ?_
      refine lv_if_eq (tgt := 58) hx hb dX8_alter_51 (by decide) (fun c9 => ?_) (fun c9 => ?_)
      · skip
        replace q15 := (if_pos c9).symm.trans q15
        refine lv_iconst (v := (0 : Int32)) hx hb dX8_alter_58 (by decide) ?_
        obtain rfl := Option.some.inj q15
        exact J10 _ _ _ (lv_sub hl [2, 3, 4] rfl) hP hD hS
      · skip
        replace q15 := (if_neg c9).symm.trans q15
        refine lv_iconst (v := (1 : Int32)) hx hb dX8_alter_54 (by decide) ?_
        refine lv_goto (tgt := 59) hx hb dX8_alter_55 (by decide) ?_
        obtain rfl := Option.some.inj q15
        exact J10 _ _ _ (lv_sub hl [2, 3, 4] rfl) hP hD hS
  refine lv_if_ne (tgt := 16) hx hb dX8_alter_1 (by decide) (fun c1 => ?_) (fun c1 => ?_)
  · skip
    replace q12 := (if_neg c1).symm.trans q12
    refine lv_iload_n hx hb dX8_alter_16 rfl (lv_at hl 2 rfl) ?_
    refine lv_iconst (v := (1 : Int32)) hx hb dX8_alter_17 (by decide) ?_
    refine lv_icmp_ne (tgt := 37) hx hb dX8_alter_18 (by decide) (fun c2 => ?_) (fun c2 => ?_)
    · skip
      replace q12 := (if_neg c2).symm.trans q12
      refine lv_iconst (v := (0 : Int32)) hx hb dX8_alter_37 (by decide) ?_
      obtain rfl := Option.some.inj q12
      exact J6 _ _ _ (lv_sub hl [0, 1, 2, 3] rfl) hP hD hS
    · skip
      replace q12 := (if_pos c2).symm.trans q12
      refine lv_iload_n hx hb dX8_alter_21 rfl (lv_at hl 3 rfl) ?_
      refine lv_i2l (v := x.toInt64) hx hb dX8_alter_22 rfl ?_
      refine lv_lconst (v := (0 : Int64)) hx hb dX8_alter_23 (by decide) ?_
      refine lv_ldc2 hx hb hown k1 dX8_alter_24 ?_
      obtain ⟨v3, q3, h18⟩ := obn q12
      clear q12
      refine xSi (As := [.long x.toInt64, .long (0 : Int64), .long (9 : Int64)]) ⟨hx, hb, hml, hown, hts⟩ (k_X8_in l D ca  x.toInt64 (0 : Int64) (9 : Int64) _ q3) (va_cwS 3 hts gX8_alter_X8_in rfl rfl rfl (by decide +kernel) ⟨Nat.le_of_ble_eq_true rfl, Nat.le_of_ble_eq_true rfl⟩) hK hA hP hD hS dX8_alter_27 rfl hl.1 [] [0, 1, 2, 3, 4, 5, 6, 7, 8, 9, 10, 11, 12, 13] [0, 1, 2, 3, 4, 5, 6, 7, 8, 9, 10, 11, 12, 13] rfl rfl (wr := ((cO ca ga g))) rfl rfl (by decide) (wn := (cO ca ga g)) rfl rfl rfl (Nat.le_of_ble_eq_true rfl) (fun H locs hP hD hS => ?_)
      refine lv_if_eq (tgt := 37) hx hb dX8_alter_30 (by decide) (fun c4 => ?_) (fun c4 => ?_)
      · skip
        replace h18 := (if_pos c4).symm.trans h18
        refine lv_iconst (v := (0 : Int32)) hx hb dX8_alter_37 (by decide) ?_
        obtain rfl := Option.some.inj h18
        exact J6 _ _ _ (lv_sub hl [0, 1, 2, 3] rfl) hP hD hS
      · skip
        replace h18 := (if_neg c4).symm.trans h18
        refine lv_iconst (v := (1 : Int32)) hx hb dX8_alter_33 (by decide) ?_
        refine lv_goto (tgt := 38) hx hb dX8_alter_34 (by decide) ?_
        obtain rfl := Option.some.inj h18
        exact J6 _ _ _ (lv_sub hl [0, 1, 2, 3] rfl) hP hD hS
  · skip
    replace q12 := (if_pos c1).symm.trans q12
    refine lv_iload_n hx hb dX8_alter_4 rfl (lv_at hl 3 rfl) ?_
    refine lv_i2l (v := x.toInt64) hx hb dX8_alter_5 rfl ?_
    refine lv_lconst (v := (0 : Int64)) hx hb dX8_alter_6 (by decide) ?_
    refine lv_ldc2 hx hb hown k2 dX8_alter_7 ?_
    obtain ⟨v5, q5, h19⟩ := obn q12
    clear q12
    refine xSi (As := [.long x.toInt64, .long (0 : Int64), .long (3 : Int64)]) ⟨hx, hb, hml, hown, hts⟩ (k_X8_in l D ca  x.toInt64 (0 : Int64) (3 : Int64) _ q5) (va_cwS 3 hts gX8_alter_X8_in rfl rfl rfl (by decide +kernel) ⟨Nat.le_of_ble_eq_true rfl, Nat.le_of_ble_eq_true rfl⟩) hK hA hP hD hS dX8_alter_10 rfl hl.1 [] [0, 1, 2, 3, 4, 5, 6, 7, 8, 9, 10, 11, 12, 13] [0, 1, 2, 3, 4, 5, 6, 7, 8, 9, 10, 11, 12, 13] rfl rfl (wr := ((cO ca ga g))) rfl rfl (by decide) (wn := (cO ca ga g)) rfl rfl rfl (Nat.le_of_ble_eq_true rfl) (fun H locs hP hD hS => ?_)
    refine lv_goto (tgt := 38) hx hb dX8_alter_13 (by decide) ?_
    obtain rfl := Option.some.inj h19
    exact J6 _ _ _ (lv_sub hl [0, 1, 2, 3] rfl) hP hD hS

def mX8_set (g : GS) (n : Int32) (x : Int32) : Option (Int32 × GS) :=
  Option.bind (
    if n = 0 then
      Option.bind (mX8_in x.toInt64 (1 : Int64) (12 : Int64)) fun v8 =>
      some v8
    else
      if n = (1 : Int32) then
        Option.bind (mX8_in x.toInt64 (0 : Int64) (5 : Int64)) fun v7 =>
        some v7
      else
        Option.bind (mX8_in n.toInt64 (2 : Int64) (3 : Int64)) fun v3 =>
        if v3 = 0 then
          some (0 : Int32)
        else
          Option.bind (mX8_in x.toInt64 (0 : Int64) (11 : Int64)) fun v5 =>
          if v5 = 0 then
            some (0 : Int32)
          else
            some (1 : Int32)) fun (v9 : Int32) =>
  Option.bind (
    if n = 0 then
      some (12 : Int32)
    else
      if n = (3 : Int32) then
        some (2 : Int32)
      else
        some (0 : Int32)) fun (v12 : Int32) =>
  Option.bind (mX8_puts g v9 ((13 : Int32) + n) x v12) fun v13 =>
  some (v13.1, v13.2)
abbrev rmX8_set : Room := { frames := 1, cells := 0, slots := 0, locals := 25 }
set_option maxHeartbeats 4000000 in
set_option maxRecDepth 100000 in
theorem k_X8_set (l : Launch) (D : va_G) (ca : Nat → ClassId) (ga : Nat → Nat) (g : GS) (n : Int32) (x : Int32) (o : Int32 × GS) (hm : mX8_set g n x = some o) : KI l yX8_set wsX8_set rmX8_set D ca [.ref (ga 0), .int n, .int x] (cO ca ga g) (cO ca ga o.2) o.1 := by
  refine KI.of (cc := cX8_set) (n := 4) (plainFor_of_name (by decide)) rfl (Nat.le_of_ble_eq_true rfl) ?_
  intro p e s m below meth c A Z hx hb hml hts hown hA hK hP hD hS hret ls hl
  have hown : s.vm.findClass RX8 = some m.cls := hown
  have hl : lv_has ls 4 [(0, .ref (ga 0)), (1, .int n), (2, .int x)] := hl
  have k1 := hts (.constantLong RX8 143 (2 : Int64)) (by decide +kernel)
  have k2 := hts (.constantLong RX8 138 (3 : Int64)) (by decide +kernel)
  have k3 := hts (.constantLong RX8 158 (11 : Int64)) (by decide +kernel)
  have k4 := hts (.constantLong RX8 156 (5 : Int64)) (by decide +kernel)
  have k5 := hts (.constantLong RX8 154 (12 : Int64)) (by decide +kernel)
  unfold mX8_set at hm
  refine lv_iload_n hx hb dX8_set_0 rfl (lv_at hl 1 rfl) ?_
  obtain ⟨v9, q14, h15⟩ := obn hm
  clear hm
  have J9 : ∀ (ls : Array Slot) (H : Heap) (locs : List Loc), lv_has ls 4 [(0, .ref (ga 0)), (1, .int n), (2, .int x)] → va_P D vwCl (cO ca ga g) H → va_D A (cO ca ga g) → va_S A s.heap H locs → W p l e rmX8_set s m ([.ref (ga 0), .int n, .int x] : List Value).toArray below meth c H locs 0 0 Z (F0 m 64 ls [.int v9]) := by
    intro ls H locs hl hP hD hS
    refine lv_istore_n (lv' := [(3, .int v9), (0, .ref (ga 0)), (1, .int n), (2, .int x)]) hx hb dX8_set_64 rfl hl (by decide) rfl (fun ls hl => ?_)
    refine lv_aload_n hx hb dX8_set_65 rfl (lv_at hl 1 rfl) ?_
    refine lv_iload_n hx hb dX8_set_66 rfl (lv_at hl 0 rfl) ?_
    refine lv_bipush (v := (13 : Int32)) hx hb dX8_set_67 (by decide) ?_
    refine lv_iload_n hx hb dX8_set_69 rfl (lv_at hl 2 rfl) ?_
    refine lv_iadd hx hb dX8_set_70 ?_
    refine lv_iload_n hx hb dX8_set_71 rfl (lv_at hl 3 rfl) ?_
    refine lv_iload_n hx hb dX8_set_72 rfl (lv_at hl 2 rfl) ?_
    obtain ⟨v12, q16, h17⟩ := obn h15
    clear h15
    have J12 : ∀ (ls : Array Slot) (H : Heap) (locs : List Loc), lv_has ls 4 [] → va_P D vwCl (cO ca ga g) H → va_D A (cO ca ga g) → va_S A s.heap H locs → W p l e rmX8_set s m ([.ref (ga 0), .int n, .int x] : List Value).toArray below meth c H locs 0 0 Z (F0 m 91 ls [.int v12, .int x, .int ((13 : Int32) + n), .int v9, .ref (ga 0)]) := by
      intro ls H locs hl hP hD hS
      obtain ⟨v13, q13, h18⟩ := obn h17
      clear h17
      refine xVi (As := [.int v9, .int ((13 : Int32) + n), .int x, .int v12]) (ci := 8) ⟨hx, hb, hml, hown, hts⟩ (k_X8_puts l D ca ga g v9 ((13 : Int32) + n) x v12 _ q13) (cwV 4 hts gX8_set_X8_puts rfl rfl rfl (by decide +kernel) ⟨Nat.le_of_ble_eq_true rfl, Nat.le_of_ble_eq_true rfl⟩) hK hA hP hD hS dX8_set_91 rfl hl.1 [0, 1, 2, 3, 4, 5, 6, 7, 8, 9, 10, 11, 12, 13] [] [0, 1, 2, 3, 4, 5, 6, 7, 8, 9, 10, 11, 12, 13] rfl rfl (wr := []) rfl rfl (by decide) (wn := (cO ca ga v13.2)) rfl rfl rfl rfl rfl rfl (Nat.le_of_ble_eq_true rfl) (fun H locs hP hD hS => ?_)
      obtain rfl := Option.some.inj h18
      exact hret _ _ _ _ (vp_nar_int _) hP hD hS dX8_set_94
    refine lv_if_ne (tgt := 81) hx hb dX8_set_73 (by decide) (fun c10 => ?_) (fun c10 => ?_)
    · skip
      replace q16 := (if_neg c10).symm.trans q16
      refine lv_iload_n hx hb dX8_set_81 rfl (lv_at hl 2 rfl) ?_
      refine lv_iconst (v := (3 : Int32)) hx hb dX8_set_82 (by decide) ?_
      refine lv_icmp_ne (tgt := 90) hx hb dX8_set_83 (by decide) (fun c11 => ?_) (fun c11 => ?_)
      · skip
        replace q16 := (if_neg c11).symm.trans q16
        refine lv_iconst (v := (0 : Int32)) hx hb dX8_set_90 (by decide) ?_
        obtain rfl := Option.some.inj q16
        exact J12 _ _ _ (lv_sub hl [] rfl) hP hD hS
      · skip
        replace q16 := (if_pos c11).symm.trans q16
        refine lv_iconst (v := (2 : Int32)) hx hb dX8_set_86 (by decide) ?_
        refine lv_goto (tgt := 91) hx hb dX8_set_87 (by decide) ?_
        obtain rfl := Option.some.inj q16
        exact J12 _ _ _ (lv_sub hl [] rfl) hP hD hS
    · skip
      replace q16 := (if_pos c10).symm.trans q16
      refine lv_bipush (v := (12 : Int32)) hx hb dX8_set_76 (by decide) ?_
      refine lv_goto (tgt := 91) hx hb dX8_set_78 (by decide) ?_
      obtain rfl := Option.some.inj q16
      exact J12 _ _ _ (lv_sub hl [] rfl) hP hD hS
  refine lv_if_ne (tgt := 16) hx hb dX8_set_1 (by decide) (fun c1 => ?_) (fun c1 => ?_)
  · skip
    replace q14 := (if_neg c1).symm.trans q14
    refine lv_iload_n hx hb dX8_set_16 rfl (lv_at hl 1 rfl) ?_
    refine lv_iconst (v := (1 : Int32)) hx hb dX8_set_17 (by decide) ?_
    refine lv_icmp_ne (tgt := 33) hx hb dX8_set_18 (by decide) (fun c2 => ?_) (fun c2 => ?_)
    · skip
      replace q14 := (if_neg c2).symm.trans q14
      refine lv_iload_n hx hb dX8_set_33 rfl (lv_at hl 1 rfl) ?_
      refine lv_i2l (v := n.toInt64) hx hb dX8_set_34 rfl ?_
      refine lv_ldc2 hx hb hown k1 dX8_set_35 ?_
      refine lv_ldc2 hx hb hown k2 dX8_set_38 ?_
      obtain ⟨v3, q3, h19⟩ := obn q14
      clear q14
      refine xSi (As := [.long n.toInt64, .long (2 : Int64), .long (3 : Int64)]) ⟨hx, hb, hml, hown, hts⟩ (k_X8_in l D ca  n.toInt64 (2 : Int64) (3 : Int64) _ q3) (va_cwS 3 hts gX8_set_X8_in rfl rfl rfl (by decide +kernel) ⟨Nat.le_of_ble_eq_true rfl, Nat.le_of_ble_eq_true rfl⟩) hK hA hP hD hS dX8_set_41 rfl hl.1 [] [0, 1, 2, 3, 4, 5, 6, 7, 8, 9, 10, 11, 12, 13] [0, 1, 2, 3, 4, 5, 6, 7, 8, 9, 10, 11, 12, 13] rfl rfl (wr := ((cO ca ga g))) rfl rfl (by decide) (wn := (cO ca ga g)) rfl rfl rfl (Nat.le_of_ble_eq_true rfl) (fun H locs hP hD hS => ?_)
      refine lv_if_eq (tgt := 63) hx hb dX8_set_44 (by decide) (fun c4 => ?_) (fun c4 => ?_)
      · skip
        replace h19 := (if_pos c4).symm.trans h19
        refine lv_iconst (v := (0 : Int32)) hx hb dX8_set_63 (by decide) ?_
        obtain rfl := Option.some.inj h19
        exact J9 _ _ _ (lv_sub hl [0, 1, 2] rfl) hP hD hS
      · skip
        replace h19 := (if_neg c4).symm.trans h19
        refine lv_iload_n hx hb dX8_set_47 rfl (lv_at hl 2 rfl) ?_
        refine lv_i2l (v := x.toInt64) hx hb dX8_set_48 rfl ?_
        refine lv_lconst (v := (0 : Int64)) hx hb dX8_set_49 (by decide) ?_
        refine lv_ldc2 hx hb hown k3 dX8_set_50 ?_
        obtain ⟨v5, q5, h20⟩ := obn h19
        clear h19
        refine xSi (As := [.long x.toInt64, .long (0 : Int64), .long (11 : Int64)]) ⟨hx, hb, hml, hown, hts⟩ (k_X8_in l D ca  x.toInt64 (0 : Int64) (11 : Int64) _ q5) (va_cwS 3 hts gX8_set_X8_in rfl rfl rfl (by decide +kernel) ⟨Nat.le_of_ble_eq_true rfl, Nat.le_of_ble_eq_true rfl⟩) hK hA hP hD hS dX8_set_53 rfl hl.1 [] [0, 1, 2, 3, 4, 5, 6, 7, 8, 9, 10, 11, 12, 13] [0, 1, 2, 3, 4, 5, 6, 7, 8, 9, 10, 11, 12, 13] rfl rfl (wr := ((cO ca ga g))) rfl rfl (by decide) (wn := (cO ca ga g)) rfl rfl rfl (Nat.le_of_ble_eq_true rfl) (fun H locs hP hD hS => ?_)
        refine lv_if_eq (tgt := 63) hx hb dX8_set_56 (by decide) (fun c6 => ?_) (fun c6 => ?_)
        · skip
          replace h20 := (if_pos c6).symm.trans h20
          refine lv_iconst (v := (0 : Int32)) hx hb dX8_set_63 (by decide) ?_
          obtain rfl := Option.some.inj h20
          exact J9 _ _ _ (lv_sub hl [0, 1, 2] rfl) hP hD hS
        · skip
          replace h20 := (if_neg c6).symm.trans h20
          refine lv_iconst (v := (1 : Int32)) hx hb dX8_set_59 (by decide) ?_
          refine lv_goto (tgt := 64) hx hb dX8_set_60 (by decide) ?_
          obtain rfl := Option.some.inj h20
          exact J9 _ _ _ (lv_sub hl [0, 1, 2] rfl) hP hD hS
    · skip
      replace q14 := (if_pos c2).symm.trans q14
      refine lv_iload_n hx hb dX8_set_21 rfl (lv_at hl 2 rfl) ?_
      refine lv_i2l (v := x.toInt64) hx hb dX8_set_22 rfl ?_
      refine lv_lconst (v := (0 : Int64)) hx hb dX8_set_23 (by decide) ?_
      refine lv_ldc2 hx hb hown k4 dX8_set_24 ?_
      obtain ⟨v7, q7, h21⟩ := obn q14
      clear q14
      refine xSi (As := [.long x.toInt64, .long (0 : Int64), .long (5 : Int64)]) ⟨hx, hb, hml, hown, hts⟩ (k_X8_in l D ca  x.toInt64 (0 : Int64) (5 : Int64) _ q7) (va_cwS 3 hts gX8_set_X8_in rfl rfl rfl (by decide +kernel) ⟨Nat.le_of_ble_eq_true rfl, Nat.le_of_ble_eq_true rfl⟩) hK hA hP hD hS dX8_set_27 rfl hl.1 [] [0, 1, 2, 3, 4, 5, 6, 7, 8, 9, 10, 11, 12, 13] [0, 1, 2, 3, 4, 5, 6, 7, 8, 9, 10, 11, 12, 13] rfl rfl (wr := ((cO ca ga g))) rfl rfl (by decide) (wn := (cO ca ga g)) rfl rfl rfl (Nat.le_of_ble_eq_true rfl) (fun H locs hP hD hS => ?_)
      refine lv_goto (tgt := 64) hx hb dX8_set_30 (by decide) ?_
      obtain rfl := Option.some.inj h21
      exact J9 _ _ _ (lv_sub hl [0, 1, 2] rfl) hP hD hS
  · skip
    replace q14 := (if_pos c1).symm.trans q14
    refine lv_iload_n hx hb dX8_set_4 rfl (lv_at hl 2 rfl) ?_
    refine lv_i2l (v := x.toInt64) hx hb dX8_set_5 rfl ?_
    refine lv_lconst (v := (1 : Int64)) hx hb dX8_set_6 (by decide) ?_
    refine lv_ldc2 hx hb hown k5 dX8_set_7 ?_
    obtain ⟨v8, q8, h22⟩ := obn q14
    clear q14
    refine xSi (As := [.long x.toInt64, .long (1 : Int64), .long (12 : Int64)]) ⟨hx, hb, hml, hown, hts⟩ (k_X8_in l D ca  x.toInt64 (1 : Int64) (12 : Int64) _ q8) (va_cwS 3 hts gX8_set_X8_in rfl rfl rfl (by decide +kernel) ⟨Nat.le_of_ble_eq_true rfl, Nat.le_of_ble_eq_true rfl⟩) hK hA hP hD hS dX8_set_10 rfl hl.1 [] [0, 1, 2, 3, 4, 5, 6, 7, 8, 9, 10, 11, 12, 13] [0, 1, 2, 3, 4, 5, 6, 7, 8, 9, 10, 11, 12, 13] rfl rfl (wr := ((cO ca ga g))) rfl rfl (by decide) (wn := (cO ca ga g)) rfl rfl rfl (Nat.le_of_ble_eq_true rfl) (fun H locs hP hD hS => ?_)
    refine lv_goto (tgt := 64) hx hb dX8_set_13 (by decide) ?_
    obtain rfl := Option.some.inj h22
    exact J9 _ _ _ (lv_sub hl [0, 1, 2] rfl) hP hD hS

def mX8_turn (g : GS) (i : Int32) : Option (Int32 × GS) :=
  Option.bind (mX8_in i.toInt64 (0 : Int64) (11 : Int64)) fun v1 =>
  Option.bind (
    if v1 = 0 then
      if i = (99 : Int32) then
        some (.inl ())
      else
        some (.inr ((-1 : Int32), g))
    else
      some (.inl ())) fun (v4 : (Unit) ⊕ (Int32 × GS)) => esc v4 fun t5 =>
  Option.bind (ald 240 (g.1 0) (17 : Int32)) fun v6 =>
  Option.bind (
    if v6 = 0 then
      some (-4 : Int32)
    else
      Option.bind (ald 240 (g.1 0) (17 : Int32)) fun v8 =>
      some (v8 - (1 : Int32))) fun (v9 : Int32) =>
  if i = (99 : Int32) then
    Option.bind (ast 240 (g.1 0) (17 : Int32) (0 : Int32)) fun f13 =>
    some (v9, (sA g 0 f13))
  else
    Option.bind (ast 240 (g.1 0) (17 : Int32) (i + (1 : Int32))) fun f12 =>
    some (v9, (sA g 0 f12))
abbrev rmX8_turn : Room := { frames := 1, cells := 0, slots := 0, locals := 25 }
set_option maxHeartbeats 4000000 in
set_option maxRecDepth 100000 in
theorem k_X8_turn (l : Launch) (D : va_G) (ca : Nat → ClassId) (ga : Nat → Nat) (g : GS) (i : Int32) (o : Int32 × GS) (hm : mX8_turn g i = some o) : KI l yX8_turn wsX8_turn rmX8_turn D ca [.ref (ga 0), .int i] (cO ca ga g) (cO ca ga o.2) o.1 := by
  refine KI.of (cc := cX8_turn) (n := 3) (plainFor_of_name (by decide)) rfl (Nat.le_of_ble_eq_true rfl) ?_
  intro p e s m below meth c A Z hx hb hml hts hown hA hK hP hD hS hret ls hl
  have hown : s.vm.findClass RX8 = some m.cls := hown
  have hl : lv_has ls 3 [(0, .ref (ga 0)), (1, .int i)] := hl
  have inX8 : ∀ w ∈ wsX80, w ∈ wsX8_turn := by decide +kernel
  have k1 := hts (.constantLong RX8 158 (11 : Int64)) (by decide +kernel)
  have k2 := hts (.fieldLink RX8 7 "FriezeFolkModel" "state" "[I") (by decide +kernel)
  unfold mX8_turn at hm
  refine lv_iload_n hx hb dX8_turn_0 rfl (lv_at hl 1 rfl) ?_
  refine lv_i2l (v := i.toInt64) hx hb dX8_turn_1 rfl ?_
  refine lv_lconst (v := (0 : Int64)) hx hb dX8_turn_2 (by decide) ?_
  refine lv_ldc2 hx hb hown k1 dX8_turn_3 ?_
  obtain ⟨v1, q1, h14⟩ := obn hm
  clear hm
  refine xSi (As := [.long i.toInt64, .long (0 : Int64), .long (11 : Int64)]) ⟨hx, hb, hml, hown, hts⟩ (k_X8_in l D ca  i.toInt64 (0 : Int64) (11 : Int64) _ q1) (va_cwS 3 hts gX8_turn_X8_in rfl rfl rfl (by decide +kernel) ⟨Nat.le_of_ble_eq_true rfl, Nat.le_of_ble_eq_true rfl⟩) hK hA hP hD hS dX8_turn_6 rfl hl.1 [] [0, 1, 2, 3, 4, 5, 6, 7, 8, 9, 10, 11, 12, 13] [0, 1, 2, 3, 4, 5, 6, 7, 8, 9, 10, 11, 12, 13] rfl rfl (wr := ((cO ca ga g))) rfl rfl (by decide) (wn := (cO ca ga g)) rfl rfl rfl (Nat.le_of_ble_eq_true rfl) (fun H locs hP hD hS => ?_)
  obtain ⟨v4, q15, h16⟩ := obn h14
  clear h14
  have J4 : ∀ t5, v4 = .inl t5 → ∀ (ls : Array Slot) (H : Heap) (locs : List Loc), lv_has ls 3 [(0, .ref (ga 0)), (1, .int i)] → va_P D vwCl (cO ca ga g) H → va_D A (cO ca ga g) → va_S A s.heap H locs → W p l e rmX8_turn s m ([.ref (ga 0), .int i] : List Value).toArray below meth c H locs 0 0 Z (F0 m 20 ls []) := by
    intro t5 ht ls H locs hl hP hD hS
    subst ht
    replace h16 := (esc_l _ _).symm.trans h16
    refine lv_aload_n hx hb dX8_turn_20 rfl (lv_at hl 0 rfl) ?_
    refine xget (ref := "FriezeFolkModel") (C := RX8) (T := TX8) (N := 24) (ci := 8) (v := .ref (ga 1)) hx hb hts inX8 hown hK hP 0 rfl rfl 0 (by decide) k2 rfl rfl dX8_turn_21 ?_
    refine lv_bipush (v := (17 : Int32)) hx hb dX8_turn_24 (by decide) ?_
    obtain ⟨v6, q6, h17⟩ := obn h16
    clear h16
    refine xald hx hb hK hP 1 rfl q6 dX8_turn_26 ?_
    obtain ⟨v9, q18, h19⟩ := obn h17
    clear h17
    have J9 : ∀ (ls : Array Slot) (H : Heap) (locs : List Loc), lv_has ls 3 [(0, .ref (ga 0)), (1, .int i)] → va_P D vwCl (cO ca ga g) H → va_D A (cO ca ga g) → va_S A s.heap H locs → W p l e rmX8_turn s m ([.ref (ga 0), .int i] : List Value).toArray below meth c H locs 0 0 Z (F0 m 44 ls [.int v9]) := by
      intro ls H locs hl hP hD hS
      refine lv_istore_n (lv' := [(2, .int v9), (0, .ref (ga 0)), (1, .int i)]) hx hb dX8_turn_44 rfl hl (by decide) rfl (fun ls hl => ?_)
      refine lv_aload_n hx hb dX8_turn_45 rfl (lv_at hl 1 rfl) ?_
      refine xget (ref := "FriezeFolkModel") (C := RX8) (T := TX8) (N := 24) (ci := 8) (v := .ref (ga 1)) hx hb hts inX8 hown hK hP 0 rfl rfl 0 (by decide) k2 rfl rfl dX8_turn_46 ?_
      refine lv_bipush (v := (17 : Int32)) hx hb dX8_turn_49 (by decide) ?_
      refine lv_iload_n hx hb dX8_turn_51 rfl (lv_at hl 2 rfl) ?_
      refine lv_bipush (v := (99 : Int32)) hx hb dX8_turn_52 (by decide) ?_
      refine lv_icmp_ne (tgt := 61) hx hb dX8_turn_54 (by decide) (fun c10 => ?_) (fun c10 => ?_)
      · skip
        replace h19 := (if_neg c10).symm.trans h19
        refine lv_iload_n hx hb dX8_turn_61 rfl (lv_at hl 2 rfl) ?_
        refine lv_iconst (v := (1 : Int32)) hx hb dX8_turn_62 (by decide) ?_
        refine lv_iadd hx hb dX8_turn_63 ?_
        obtain ⟨f12, q12, h20⟩ := obn h19
        clear h19
        refine xast hx hb hK hP hD hS 1 rfl q12 dX8_turn_64 (wn := (cO ca ga (sA g 0 f12))) rfl (fun H locs hP hD hS => ?_)
        refine lv_iload_n hx hb dX8_turn_65 rfl (lv_at hl 0 rfl) ?_
        obtain rfl := Option.some.inj h20
        exact hret _ _ _ _ (vp_nar_int _) hP hD hS dX8_turn_66
      · skip
        replace h19 := (if_pos c10).symm.trans h19
        refine lv_iconst (v := (0 : Int32)) hx hb dX8_turn_57 (by decide) ?_
        refine lv_goto (tgt := 64) hx hb dX8_turn_58 (by decide) ?_
        obtain ⟨f13, q13, h21⟩ := obn h19
        clear h19
        refine xast hx hb hK hP hD hS 1 rfl q13 dX8_turn_64 (wn := (cO ca ga (sA g 0 f13))) rfl (fun H locs hP hD hS => ?_)
        refine lv_iload_n hx hb dX8_turn_65 rfl (lv_at hl 0 rfl) ?_
        obtain rfl := Option.some.inj h21
        exact hret _ _ _ _ (vp_nar_int _) hP hD hS dX8_turn_66
    refine lv_if_ne (tgt := 35) hx hb dX8_turn_27 (by decide) (fun c7 => ?_) (fun c7 => ?_)
    · skip
      replace q18 := (if_neg c7).symm.trans q18
      refine lv_aload_n hx hb dX8_turn_35 rfl (lv_at hl 0 rfl) ?_
      refine xget (ref := "FriezeFolkModel") (C := RX8) (T := TX8) (N := 24) (ci := 8) (v := .ref (ga 1)) hx hb hts inX8 hown hK hP 0 rfl rfl 0 (by decide) k2 rfl rfl dX8_turn_36 ?_
      refine lv_bipush (v := (17 : Int32)) hx hb dX8_turn_39 (by decide) ?_
      obtain ⟨v8, q8, h22⟩ := obn q18
      clear q18
      refine xald hx hb hK hP 1 rfl q8 dX8_turn_41 ?_
      refine lv_iconst (v := (1 : Int32)) hx hb dX8_turn_42 (by decide) ?_
      refine lv_isub hx hb dX8_turn_43 ?_
      obtain rfl := Option.some.inj h22
      exact J9 _ _ _ (lv_sub hl [0, 1] rfl) hP hD hS
    · skip
      replace q18 := (if_pos c7).symm.trans q18
      refine lv_bipush (v := (-4 : Int32)) hx hb dX8_turn_30 (by decide) ?_
      refine lv_goto (tgt := 44) hx hb dX8_turn_32 (by decide) ?_
      obtain rfl := Option.some.inj q18
      exact J9 _ _ _ (lv_sub hl [0, 1] rfl) hP hD hS
  refine lv_if_ne (tgt := 20) hx hb dX8_turn_9 (by decide) (fun c2 => ?_) (fun c2 => ?_)
  · skip
    replace q15 := (if_neg c2).symm.trans q15
    obtain rfl := Option.some.inj q15
    exact J4 _ rfl _ _ _ (lv_sub hl [0, 1] rfl) hP hD hS
  · skip
    replace q15 := (if_pos c2).symm.trans q15
    refine lv_iload_n hx hb dX8_turn_12 rfl (lv_at hl 1 rfl) ?_
    refine lv_bipush (v := (99 : Int32)) hx hb dX8_turn_13 (by decide) ?_
    refine lv_icmp_eq (tgt := 20) hx hb dX8_turn_15 (by decide) (fun c3 => ?_) (fun c3 => ?_)
    · skip
      replace q15 := (if_pos c3).symm.trans q15
      obtain rfl := Option.some.inj q15
      exact J4 _ rfl _ _ _ (lv_sub hl [0, 1] rfl) hP hD hS
    · skip
      replace q15 := (if_neg c3).symm.trans q15
      refine lv_iconst (v := (-1 : Int32)) hx hb dX8_turn_18 (by decide) ?_
      obtain rfl := Option.some.inj q15
      replace h16 := (esc_r _ _).symm.trans h16
      obtain rfl := Option.some.inj h16
      exact hret _ _ _ _ (vp_nar_int _) hP hD hS dX8_turn_19

def mX8_paint (g : GS) (i : Int32) (x : Int32) : Option (Int32 × GS) :=
  Option.bind (mX8_isPlace g i) fun v1 =>
  Option.bind (
    if v1 = 0 then
      some (0 : Int32)
    else
      Option.bind (mX8_in x.toInt64 (0 : Int64) (99 : Int64)) fun v3 =>
      if v3 = 0 then
        some (0 : Int32)
      else
        some (1 : Int32)) fun (v5 : Int32) =>
  Option.bind (mX8_puts g v5 ((19 : Int32) + i) x (0 : Int32)) fun v6 =>
  some (v6.1, v6.2)
abbrev rmX8_paint : Room := { frames := 2, cells := 0, slots := 0, locals := 46 }
set_option maxHeartbeats 4000000 in
set_option maxRecDepth 100000 in
theorem k_X8_paint (l : Launch) (D : va_G) (ca : Nat → ClassId) (ga : Nat → Nat) (g : GS) (i : Int32) (x : Int32) (o : Int32 × GS) (hm : mX8_paint g i x = some o) : KI l yX8_paint wsX8_paint rmX8_paint D ca [.ref (ga 0), .int i, .int x] (cO ca ga g) (cO ca ga o.2) o.1 := by
  refine KI.of (cc := cX8_paint) (n := 3) (plainFor_of_name (by decide)) rfl (Nat.le_of_ble_eq_true rfl) ?_
  intro p e s m below meth c A Z hx hb hml hts hown hA hK hP hD hS hret ls hl
  have hown : s.vm.findClass RX8 = some m.cls := hown
  have hl : lv_has ls 3 [(0, .ref (ga 0)), (1, .int i), (2, .int x)] := hl
  have k1 := hts (.constantLong RX8 160 (99 : Int64)) (by decide +kernel)
  unfold mX8_paint at hm
  refine lv_aload_n hx hb dX8_paint_0 rfl (lv_at hl 0 rfl) ?_
  refine lv_aload_n hx hb dX8_paint_1 rfl (lv_at hl 0 rfl) ?_
  refine lv_iload_n hx hb dX8_paint_2 rfl (lv_at hl 1 rfl) ?_
  obtain ⟨v1, q1, h7⟩ := obn hm
  clear hm
  refine xVi (As := [.int i]) (ci := 8) ⟨hx, hb, hml, hown, hts⟩ (k_X8_isPlace l D ca ga g i _ q1) (cwV 1 hts gX8_paint_X8_isPlace rfl rfl rfl (by decide +kernel) ⟨Nat.le_of_ble_eq_true rfl, Nat.le_of_ble_eq_true rfl⟩) hK hA hP hD hS dX8_paint_3 rfl hl.1 [0, 1, 2, 3, 4, 5, 6, 7, 8, 9, 10, 11, 12, 13] [] [0, 1, 2, 3, 4, 5, 6, 7, 8, 9, 10, 11, 12, 13] rfl rfl (wr := []) rfl rfl (by decide) (wn := (cO ca ga g)) rfl rfl rfl rfl rfl rfl (Nat.le_of_ble_eq_true rfl) (fun H locs hP hD hS => ?_)
  obtain ⟨v5, q8, h9⟩ := obn h7
  clear h7
  have J5 : ∀ (ls : Array Slot) (H : Heap) (locs : List Loc), lv_has ls 3 [(1, .int i), (2, .int x)] → va_P D vwCl (cO ca ga g) H → va_D A (cO ca ga g) → va_S A s.heap H locs → W p l e rmX8_paint s m ([.ref (ga 0), .int i, .int x] : List Value).toArray below meth c H locs 0 0 Z (F0 m 26 ls [.int v5, .ref (ga 0)]) := by
    intro ls H locs hl hP hD hS
    refine lv_bipush (v := (19 : Int32)) hx hb dX8_paint_26 (by decide) ?_
    refine lv_iload_n hx hb dX8_paint_28 rfl (lv_at hl 0 rfl) ?_
    refine lv_iadd hx hb dX8_paint_29 ?_
    refine lv_iload_n hx hb dX8_paint_30 rfl (lv_at hl 1 rfl) ?_
    refine lv_iconst (v := (0 : Int32)) hx hb dX8_paint_31 (by decide) ?_
    obtain ⟨v6, q6, h10⟩ := obn h9
    clear h9
    refine xVi (As := [.int v5, .int ((19 : Int32) + i), .int x, .int (0 : Int32)]) (ci := 8) ⟨hx, hb, hml, hown, hts⟩ (k_X8_puts l D ca ga g v5 ((19 : Int32) + i) x (0 : Int32) _ q6) (cwV 4 hts gX8_paint_X8_puts rfl rfl rfl (by decide +kernel) ⟨Nat.le_of_ble_eq_true rfl, Nat.le_of_ble_eq_true rfl⟩) hK hA hP hD hS dX8_paint_32 rfl hl.1 [0, 1, 2, 3, 4, 5, 6, 7, 8, 9, 10, 11, 12, 13] [] [0, 1, 2, 3, 4, 5, 6, 7, 8, 9, 10, 11, 12, 13] rfl rfl (wr := []) rfl rfl (by decide) (wn := (cO ca ga v6.2)) rfl rfl rfl rfl rfl rfl (Nat.le_of_ble_eq_true rfl) (fun H locs hP hD hS => ?_)
    obtain rfl := Option.some.inj h10
    exact hret _ _ _ _ (vp_nar_int _) hP hD hS dX8_paint_35
  refine lv_if_eq (tgt := 25) hx hb dX8_paint_6 (by decide) (fun c2 => ?_) (fun c2 => ?_)
  · skip
    replace q8 := (if_pos c2).symm.trans q8
    refine lv_iconst (v := (0 : Int32)) hx hb dX8_paint_25 (by decide) ?_
    obtain rfl := Option.some.inj q8
    exact J5 _ _ _ (lv_sub hl [1, 2] rfl) hP hD hS
  · skip
    replace q8 := (if_neg c2).symm.trans q8
    refine lv_iload_n hx hb dX8_paint_9 rfl (lv_at hl 2 rfl) ?_
    refine lv_i2l (v := x.toInt64) hx hb dX8_paint_10 rfl ?_
    refine lv_lconst (v := (0 : Int64)) hx hb dX8_paint_11 (by decide) ?_
    refine lv_ldc2 hx hb hown k1 dX8_paint_12 ?_
    obtain ⟨v3, q3, h11⟩ := obn q8
    clear q8
    refine xSi (As := [.long x.toInt64, .long (0 : Int64), .long (99 : Int64)]) ⟨hx, hb, hml, hown, hts⟩ (k_X8_in l D ca  x.toInt64 (0 : Int64) (99 : Int64) _ q3) (va_cwS 3 hts gX8_paint_X8_in rfl rfl rfl (by decide +kernel) ⟨Nat.le_of_ble_eq_true rfl, Nat.le_of_ble_eq_true rfl⟩) hK hA hP hD hS dX8_paint_15 rfl hl.1 [] [0, 1, 2, 3, 4, 5, 6, 7, 8, 9, 10, 11, 12, 13] [0, 1, 2, 3, 4, 5, 6, 7, 8, 9, 10, 11, 12, 13] rfl rfl (wr := ((cO ca ga g))) rfl rfl (by decide) (wn := (cO ca ga g)) rfl rfl rfl (Nat.le_of_ble_eq_true rfl) (fun H locs hP hD hS => ?_)
    refine lv_if_eq (tgt := 25) hx hb dX8_paint_18 (by decide) (fun c4 => ?_) (fun c4 => ?_)
    · skip
      replace h11 := (if_pos c4).symm.trans h11
      refine lv_iconst (v := (0 : Int32)) hx hb dX8_paint_25 (by decide) ?_
      obtain rfl := Option.some.inj h11
      exact J5 _ _ _ (lv_sub hl [1, 2] rfl) hP hD hS
    · skip
      replace h11 := (if_neg c4).symm.trans h11
      refine lv_iconst (v := (1 : Int32)) hx hb dX8_paint_21 (by decide) ?_
      refine lv_goto (tgt := 26) hx hb dX8_paint_22 (by decide) ?_
      obtain rfl := Option.some.inj h11
      exact J5 _ _ _ (lv_sub hl [1, 2] rfl) hP hD hS

def mX8_prints (g : GS) (i : Int32) (j : Int32) : Option (Int32 × GS) :=
  Option.bind (mX8_in i.toInt64 (0 : Int64) (3 : Int64)) fun v1 =>
  if v1 = 0 then
    some ((-1 : Int32), g)
  else
    Option.bind (mX8_in j.toInt64 (0 : Int64) (9 : Int64)) fun v3 =>
    if v3 = 0 then
      some ((-1 : Int32), g)
    else
      Option.bind (ald 240 (g.1 0) (12 : Int32)) fun v5 =>
      if v5 = (6 : Int32) then
        some ((-3 : Int32), g)
      else
        Option.bind (ast 240 (g.1 0) v5 i) fun f7 =>
        Option.bind (ast 240 ((sA g 0 f7).1 0) ((6 : Int32) + v5) j) fun f8 =>
        Option.bind (ald 240 ((sA (sA g 0 f7) 0 f8).1 0) (12 : Int32)) fun v9 =>
        Option.bind (ast 240 ((sA (sA g 0 f7) 0 f8).1 0) (12 : Int32) (v9 + (1 : Int32))) fun f10 =>
        Option.bind (ald 240 ((sA (sA (sA g 0 f7) 0 f8) 0 f10).1 0) (12 : Int32)) fun v11 =>
        some (v11, (sA (sA (sA g 0 f7) 0 f8) 0 f10))
abbrev rmX8_prints : Room := { frames := 1, cells := 0, slots := 0, locals := 25 }
set_option maxHeartbeats 4000000 in
set_option maxRecDepth 100000 in
theorem k_X8_prints (l : Launch) (D : va_G) (ca : Nat → ClassId) (ga : Nat → Nat) (g : GS) (i : Int32) (j : Int32) (o : Int32 × GS) (hm : mX8_prints g i j = some o) : KI l yX8_prints wsX8_prints rmX8_prints D ca [.ref (ga 0), .int i, .int j] (cO ca ga g) (cO ca ga o.2) o.1 := by
  refine KI.of (cc := cX8_prints) (n := 4) (plainFor_of_name (by decide)) rfl (Nat.le_of_ble_eq_true rfl) ?_
  intro p e s m below meth c A Z hx hb hml hts hown hA hK hP hD hS hret ls hl
  have hown : s.vm.findClass RX8 = some m.cls := hown
  have hl : lv_has ls 4 [(0, .ref (ga 0)), (1, .int i), (2, .int j)] := hl
  have inX8 : ∀ w ∈ wsX80, w ∈ wsX8_prints := by decide +kernel
  have k1 := hts (.constantLong RX8 138 (3 : Int64)) (by decide +kernel)
  have k2 := hts (.constantLong RX8 148 (9 : Int64)) (by decide +kernel)
  have k3 := hts (.fieldLink RX8 7 "FriezeFolkModel" "state" "[I") (by decide +kernel)
  unfold mX8_prints at hm
  refine lv_iload_n hx hb dX8_prints_0 rfl (lv_at hl 1 rfl) ?_
  refine lv_i2l (v := i.toInt64) hx hb dX8_prints_1 rfl ?_
  refine lv_lconst (v := (0 : Int64)) hx hb dX8_prints_2 (by decide) ?_
  refine lv_ldc2 hx hb hown k1 dX8_prints_3 ?_
  obtain ⟨v1, q1, h12⟩ := obn hm
  clear hm
  refine xSi (As := [.long i.toInt64, .long (0 : Int64), .long (3 : Int64)]) ⟨hx, hb, hml, hown, hts⟩ (k_X8_in l D ca  i.toInt64 (0 : Int64) (3 : Int64) _ q1) (va_cwS 3 hts gX8_prints_X8_in rfl rfl rfl (by decide +kernel) ⟨Nat.le_of_ble_eq_true rfl, Nat.le_of_ble_eq_true rfl⟩) hK hA hP hD hS dX8_prints_6 rfl hl.1 [] [0, 1, 2, 3, 4, 5, 6, 7, 8, 9, 10, 11, 12, 13] [0, 1, 2, 3, 4, 5, 6, 7, 8, 9, 10, 11, 12, 13] rfl rfl (wr := ((cO ca ga g))) rfl rfl (by decide) (wn := (cO ca ga g)) rfl rfl rfl (Nat.le_of_ble_eq_true rfl) (fun H locs hP hD hS => ?_)
  refine lv_if_eq (tgt := 24) hx hb dX8_prints_9 (by decide) (fun c2 => ?_) (fun c2 => ?_)
  · skip
    replace h12 := (if_pos c2).symm.trans h12
    refine lv_iconst (v := (-1 : Int32)) hx hb dX8_prints_24 (by decide) ?_
    obtain rfl := Option.some.inj h12
    exact hret _ _ _ _ (vp_nar_int _) hP hD hS dX8_prints_25
  · skip
    replace h12 := (if_neg c2).symm.trans h12
    refine lv_iload_n hx hb dX8_prints_12 rfl (lv_at hl 2 rfl) ?_
    refine lv_i2l (v := j.toInt64) hx hb dX8_prints_13 rfl ?_
    refine lv_lconst (v := (0 : Int64)) hx hb dX8_prints_14 (by decide) ?_
    refine lv_ldc2 hx hb hown k2 dX8_prints_15 ?_
    obtain ⟨v3, q3, h13⟩ := obn h12
    clear h12
    refine xSi (As := [.long j.toInt64, .long (0 : Int64), .long (9 : Int64)]) ⟨hx, hb, hml, hown, hts⟩ (k_X8_in l D ca  j.toInt64 (0 : Int64) (9 : Int64) _ q3) (va_cwS 3 hts gX8_prints_X8_in rfl rfl rfl (by decide +kernel) ⟨Nat.le_of_ble_eq_true rfl, Nat.le_of_ble_eq_true rfl⟩) hK hA hP hD hS dX8_prints_18 rfl hl.1 [] [0, 1, 2, 3, 4, 5, 6, 7, 8, 9, 10, 11, 12, 13] [0, 1, 2, 3, 4, 5, 6, 7, 8, 9, 10, 11, 12, 13] rfl rfl (wr := ((cO ca ga g))) rfl rfl (by decide) (wn := (cO ca ga g)) rfl rfl rfl (Nat.le_of_ble_eq_true rfl) (fun H locs hP hD hS => ?_)
    refine lv_if_ne (tgt := 26) hx hb dX8_prints_21 (by decide) (fun c4 => ?_) (fun c4 => ?_)
    · skip
      replace h13 := (if_neg c4).symm.trans h13
      refine lv_aload_n hx hb dX8_prints_26 rfl (lv_at hl 0 rfl) ?_
      refine xget (ref := "FriezeFolkModel") (C := RX8) (T := TX8) (N := 24) (ci := 8) (v := .ref (ga 1)) hx hb hts inX8 hown hK hP 0 rfl rfl 0 (by decide) k3 rfl rfl dX8_prints_27 ?_
      refine lv_bipush (v := (12 : Int32)) hx hb dX8_prints_30 (by decide) ?_
      obtain ⟨v5, q5, h14⟩ := obn h13
      clear h13
      refine xald hx hb hK hP 1 rfl q5 dX8_prints_32 ?_
      refine lv_istore_n (lv' := [(3, .int v5), (0, .ref (ga 0)), (1, .int i), (2, .int j)]) hx hb dX8_prints_33 rfl hl (by decide) rfl (fun ls hl => ?_)
      refine lv_iload_n hx hb dX8_prints_34 rfl (lv_at hl 0 rfl) ?_
      refine lv_bipush (v := (6 : Int32)) hx hb dX8_prints_35 (by decide) ?_
      refine lv_icmp_ne (tgt := 43) hx hb dX8_prints_37 (by decide) (fun c6 => ?_) (fun c6 => ?_)
      · skip
        replace h14 := (if_neg c6).symm.trans h14
        refine lv_aload_n hx hb dX8_prints_43 rfl (lv_at hl 1 rfl) ?_
        refine xget (ref := "FriezeFolkModel") (C := RX8) (T := TX8) (N := 24) (ci := 8) (v := .ref (ga 1)) hx hb hts inX8 hown hK hP 0 rfl rfl 0 (by decide) k3 rfl rfl dX8_prints_44 ?_
        refine lv_iload_n hx hb dX8_prints_47 rfl (lv_at hl 0 rfl) ?_
        refine lv_iload_n hx hb dX8_prints_48 rfl (lv_at hl 2 rfl) ?_
        obtain ⟨f7, q7, h15⟩ := obn h14
        clear h14
        refine xast hx hb hK hP hD hS 1 rfl q7 dX8_prints_49 (wn := (cO ca ga (sA g 0 f7))) rfl (fun H locs hP hD hS => ?_)
        refine lv_aload_n hx hb dX8_prints_50 rfl (lv_at hl 1 rfl) ?_
        refine xget (ref := "FriezeFolkModel") (C := RX8) (T := TX8) (N := 24) (ci := 8) (v := .ref (ga 1)) hx hb hts inX8 hown hK hP 0 rfl rfl 0 (by decide) k3 rfl rfl dX8_prints_51 ?_
        refine lv_bipush (v := (6 : Int32)) hx hb dX8_prints_54 (by decide) ?_
        refine lv_iload_n hx hb dX8_prints_56 rfl (lv_at hl 0 rfl) ?_
        refine lv_iadd hx hb dX8_prints_57 ?_
        refine lv_iload_n hx hb dX8_prints_58 rfl (lv_at hl 3 rfl) ?_
        obtain ⟨f8, q8, h16⟩ := obn h15
        clear h15
        refine xast hx hb hK hP hD hS 1 rfl q8 dX8_prints_59 (wn := (cO ca ga (sA (sA g 0 f7) 0 f8))) rfl (fun H locs hP hD hS => ?_)
        refine lv_aload_n hx hb dX8_prints_60 rfl (lv_at hl 1 rfl) ?_
        refine xget (ref := "FriezeFolkModel") (C := RX8) (T := TX8) (N := 24) (ci := 8) (v := .ref (ga 1)) hx hb hts inX8 hown hK hP 0 rfl rfl 0 (by decide) k3 rfl rfl dX8_prints_61 ?_
        refine lv_bipush (v := (12 : Int32)) hx hb dX8_prints_64 (by decide) ?_
        refine lv_dup2_11 hx hb dX8_prints_66 rfl rfl ?_
        obtain ⟨v9, q9, h17⟩ := obn h16
        clear h16
        refine xald hx hb hK hP 1 rfl q9 dX8_prints_67 ?_
        refine lv_iconst (v := (1 : Int32)) hx hb dX8_prints_68 (by decide) ?_
        refine lv_iadd hx hb dX8_prints_69 ?_
        obtain ⟨f10, q10, h18⟩ := obn h17
        clear h17
        refine xast hx hb hK hP hD hS 1 rfl q10 dX8_prints_70 (wn := (cO ca ga (sA (sA (sA g 0 f7) 0 f8) 0 f10))) rfl (fun H locs hP hD hS => ?_)
        refine lv_aload_n hx hb dX8_prints_71 rfl (lv_at hl 1 rfl) ?_
        refine xget (ref := "FriezeFolkModel") (C := RX8) (T := TX8) (N := 24) (ci := 8) (v := .ref (ga 1)) hx hb hts inX8 hown hK hP 0 rfl rfl 0 (by decide) k3 rfl rfl dX8_prints_72 ?_
        refine lv_bipush (v := (12 : Int32)) hx hb dX8_prints_75 (by decide) ?_
        obtain ⟨v11, q11, h19⟩ := obn h18
        clear h18
        refine xald hx hb hK hP 1 rfl q11 dX8_prints_77 ?_
        obtain rfl := Option.some.inj h19
        exact hret _ _ _ _ (vp_nar_int _) hP hD hS dX8_prints_78
      · skip
        replace h14 := (if_pos c6).symm.trans h14
        refine lv_bipush (v := (-3 : Int32)) hx hb dX8_prints_40 (by decide) ?_
        obtain rfl := Option.some.inj h14
        exact hret _ _ _ _ (vp_nar_int _) hP hD hS dX8_prints_42
    · skip
      replace h13 := (if_pos c4).symm.trans h13
      refine lv_iconst (v := (-1 : Int32)) hx hb dX8_prints_24 (by decide) ?_
      obtain rfl := Option.some.inj h13
      exact hret _ _ _ _ (vp_nar_int _) hP hD hS dX8_prints_25

def mX8_print (g : GS) (i : Int32) (j : Int32) : Option (Int32 × GS) :=
  Option.bind (mX8_prints g i j) fun v1 =>
  some (v1.1, v1.2)
abbrev rmX8_print : Room := { frames := 2, cells := 0, slots := 0, locals := 48 }
set_option maxHeartbeats 4000000 in
set_option maxRecDepth 100000 in
theorem k_X8_print (l : Launch) (D : va_G) (ca : Nat → ClassId) (ga : Nat → Nat) (g : GS) (i : Int32) (j : Int32) (o : Int32 × GS) (hm : mX8_print g i j = some o) : KI l yX8_print wsX8_print rmX8_print D ca [.ref (ga 0), .int i, .int j] (cO ca ga g) (cO ca ga o.2) o.1 := by
  refine KI.of (cc := cX8_print) (n := 3) (plainFor_of_name (by decide)) rfl (Nat.le_of_ble_eq_true rfl) ?_
  intro p e s m below meth c A Z hx hb hml hts hown hA hK hP hD hS hret ls hl
  have hown : s.vm.findClass RX8 = some m.cls := hown
  have hl : lv_has ls 3 [(0, .ref (ga 0)), (1, .int i), (2, .int j)] := hl
  unfold mX8_print at hm
  refine lv_aload_n hx hb dX8_print_0 rfl (lv_at hl 0 rfl) ?_
  refine lv_iload_n hx hb dX8_print_1 rfl (lv_at hl 1 rfl) ?_
  refine lv_iload_n hx hb dX8_print_2 rfl (lv_at hl 2 rfl) ?_
  obtain ⟨v1, q1, h2⟩ := obn hm
  clear hm
  refine xVi (As := [.int i, .int j]) (ci := 8) ⟨hx, hb, hml, hown, hts⟩ (k_X8_prints l D ca ga g i j _ q1) (cwV 2 hts gX8_print_X8_prints rfl rfl rfl (by decide +kernel) ⟨Nat.le_of_ble_eq_true rfl, Nat.le_of_ble_eq_true rfl⟩) hK hA hP hD hS dX8_print_3 rfl hl.1 [0, 1, 2, 3, 4, 5, 6, 7, 8, 9, 10, 11, 12, 13] [] [0, 1, 2, 3, 4, 5, 6, 7, 8, 9, 10, 11, 12, 13] rfl rfl (wr := []) rfl rfl (by decide) (wn := (cO ca ga v1.2)) rfl rfl rfl rfl rfl rfl (Nat.le_of_ble_eq_true rfl) (fun H locs hP hD hS => ?_)
  obtain rfl := Option.some.inj h2
  exact hret _ _ _ _ (vp_nar_int _) hP hD hS dX8_print_6

def mX8_stock (g : GS) (i : Int32) (j : Int32) : Option (Int32 × GS) :=
  Option.bind (mX8_in i.toInt64 (1 : Int64) (9 : Int64)) fun v1 =>
  if v1 = 0 then
    some ((-1 : Int32), g)
  else
    Option.bind (mX8_in j.toInt64 (1 : Int64) (9 : Int64)) fun v3 =>
    if v3 = 0 then
      some ((-1 : Int32), g)
    else
      Option.bind (ald 240 (g.1 0) (39 : Int32)) fun v5 =>
      if v5 = (4 : Int32) then
        some ((-3 : Int32), g)
      else
        Option.bind (ast 240 (g.1 0) ((31 : Int32) + v5) i) fun f7 =>
        Option.bind (ast 240 ((sA g 0 f7).1 0) ((35 : Int32) + v5) j) fun f8 =>
        Option.bind (ald 240 ((sA (sA g 0 f7) 0 f8).1 0) (39 : Int32)) fun v9 =>
        Option.bind (ast 240 ((sA (sA g 0 f7) 0 f8).1 0) (39 : Int32) (v9 + (1 : Int32))) fun f10 =>
        Option.bind (ald 240 ((sA (sA (sA g 0 f7) 0 f8) 0 f10).1 0) (39 : Int32)) fun v11 =>
        some (v11, (sA (sA (sA g 0 f7) 0 f8) 0 f10))
abbrev rmX8_stock : Room := { frames := 1, cells := 0, slots := 0, locals := 25 }
set_option maxHeartbeats 4000000 in
set_option maxRecDepth 100000 in
theorem k_X8_stock (l : Launch) (D : va_G) (ca : Nat → ClassId) (ga : Nat → Nat) (g : GS) (i : Int32) (j : Int32) (o : Int32 × GS) (hm : mX8_stock g i j = some o) : KI l yX8_stock wsX8_stock rmX8_stock D ca [.ref (ga 0), .int i, .int j] (cO ca ga g) (cO ca ga o.2) o.1 := by
  refine KI.of (cc := cX8_stock) (n := 4) (plainFor_of_name (by decide)) rfl (Nat.le_of_ble_eq_true rfl) ?_
  intro p e s m below meth c A Z hx hb hml hts hown hA hK hP hD hS hret ls hl
  have hown : s.vm.findClass RX8 = some m.cls := hown
  have hl : lv_has ls 4 [(0, .ref (ga 0)), (1, .int i), (2, .int j)] := hl
  have inX8 : ∀ w ∈ wsX80, w ∈ wsX8_stock := by decide +kernel
  have k1 := hts (.constantLong RX8 148 (9 : Int64)) (by decide +kernel)
  have k2 := hts (.fieldLink RX8 7 "FriezeFolkModel" "state" "[I") (by decide +kernel)
  unfold mX8_stock at hm
  refine lv_iload_n hx hb dX8_stock_0 rfl (lv_at hl 1 rfl) ?_
  refine lv_i2l (v := i.toInt64) hx hb dX8_stock_1 rfl ?_
  refine lv_lconst (v := (1 : Int64)) hx hb dX8_stock_2 (by decide) ?_
  refine lv_ldc2 hx hb hown k1 dX8_stock_3 ?_
  obtain ⟨v1, q1, h12⟩ := obn hm
  clear hm
  refine xSi (As := [.long i.toInt64, .long (1 : Int64), .long (9 : Int64)]) ⟨hx, hb, hml, hown, hts⟩ (k_X8_in l D ca  i.toInt64 (1 : Int64) (9 : Int64) _ q1) (va_cwS 3 hts gX8_stock_X8_in rfl rfl rfl (by decide +kernel) ⟨Nat.le_of_ble_eq_true rfl, Nat.le_of_ble_eq_true rfl⟩) hK hA hP hD hS dX8_stock_6 rfl hl.1 [] [0, 1, 2, 3, 4, 5, 6, 7, 8, 9, 10, 11, 12, 13] [0, 1, 2, 3, 4, 5, 6, 7, 8, 9, 10, 11, 12, 13] rfl rfl (wr := ((cO ca ga g))) rfl rfl (by decide) (wn := (cO ca ga g)) rfl rfl rfl (Nat.le_of_ble_eq_true rfl) (fun H locs hP hD hS => ?_)
  refine lv_if_eq (tgt := 24) hx hb dX8_stock_9 (by decide) (fun c2 => ?_) (fun c2 => ?_)
  · skip
    replace h12 := (if_pos c2).symm.trans h12
    refine lv_iconst (v := (-1 : Int32)) hx hb dX8_stock_24 (by decide) ?_
    obtain rfl := Option.some.inj h12
    exact hret _ _ _ _ (vp_nar_int _) hP hD hS dX8_stock_25
  · skip
    replace h12 := (if_neg c2).symm.trans h12
    refine lv_iload_n hx hb dX8_stock_12 rfl (lv_at hl 2 rfl) ?_
    refine lv_i2l (v := j.toInt64) hx hb dX8_stock_13 rfl ?_
    refine lv_lconst (v := (1 : Int64)) hx hb dX8_stock_14 (by decide) ?_
    refine lv_ldc2 hx hb hown k1 dX8_stock_15 ?_
    obtain ⟨v3, q3, h13⟩ := obn h12
    clear h12
    refine xSi (As := [.long j.toInt64, .long (1 : Int64), .long (9 : Int64)]) ⟨hx, hb, hml, hown, hts⟩ (k_X8_in l D ca  j.toInt64 (1 : Int64) (9 : Int64) _ q3) (va_cwS 3 hts gX8_stock_X8_in rfl rfl rfl (by decide +kernel) ⟨Nat.le_of_ble_eq_true rfl, Nat.le_of_ble_eq_true rfl⟩) hK hA hP hD hS dX8_stock_18 rfl hl.1 [] [0, 1, 2, 3, 4, 5, 6, 7, 8, 9, 10, 11, 12, 13] [0, 1, 2, 3, 4, 5, 6, 7, 8, 9, 10, 11, 12, 13] rfl rfl (wr := ((cO ca ga g))) rfl rfl (by decide) (wn := (cO ca ga g)) rfl rfl rfl (Nat.le_of_ble_eq_true rfl) (fun H locs hP hD hS => ?_)
    refine lv_if_ne (tgt := 26) hx hb dX8_stock_21 (by decide) (fun c4 => ?_) (fun c4 => ?_)
    · skip
      replace h13 := (if_neg c4).symm.trans h13
      refine lv_aload_n hx hb dX8_stock_26 rfl (lv_at hl 0 rfl) ?_
      refine xget (ref := "FriezeFolkModel") (C := RX8) (T := TX8) (N := 24) (ci := 8) (v := .ref (ga 1)) hx hb hts inX8 hown hK hP 0 rfl rfl 0 (by decide) k2 rfl rfl dX8_stock_27 ?_
      refine lv_bipush (v := (39 : Int32)) hx hb dX8_stock_30 (by decide) ?_
      obtain ⟨v5, q5, h14⟩ := obn h13
      clear h13
      refine xald hx hb hK hP 1 rfl q5 dX8_stock_32 ?_
      refine lv_istore_n (lv' := [(3, .int v5), (0, .ref (ga 0)), (1, .int i), (2, .int j)]) hx hb dX8_stock_33 rfl hl (by decide) rfl (fun ls hl => ?_)
      refine lv_iload_n hx hb dX8_stock_34 rfl (lv_at hl 0 rfl) ?_
      refine lv_iconst (v := (4 : Int32)) hx hb dX8_stock_35 (by decide) ?_
      refine lv_icmp_ne (tgt := 42) hx hb dX8_stock_36 (by decide) (fun c6 => ?_) (fun c6 => ?_)
      · skip
        replace h14 := (if_neg c6).symm.trans h14
        refine lv_aload_n hx hb dX8_stock_42 rfl (lv_at hl 1 rfl) ?_
        refine xget (ref := "FriezeFolkModel") (C := RX8) (T := TX8) (N := 24) (ci := 8) (v := .ref (ga 1)) hx hb hts inX8 hown hK hP 0 rfl rfl 0 (by decide) k2 rfl rfl dX8_stock_43 ?_
        refine lv_bipush (v := (31 : Int32)) hx hb dX8_stock_46 (by decide) ?_
        refine lv_iload_n hx hb dX8_stock_48 rfl (lv_at hl 0 rfl) ?_
        refine lv_iadd hx hb dX8_stock_49 ?_
        refine lv_iload_n hx hb dX8_stock_50 rfl (lv_at hl 2 rfl) ?_
        obtain ⟨f7, q7, h15⟩ := obn h14
        clear h14
        refine xast hx hb hK hP hD hS 1 rfl q7 dX8_stock_51 (wn := (cO ca ga (sA g 0 f7))) rfl (fun H locs hP hD hS => ?_)
        refine lv_aload_n hx hb dX8_stock_52 rfl (lv_at hl 1 rfl) ?_
        refine xget (ref := "FriezeFolkModel") (C := RX8) (T := TX8) (N := 24) (ci := 8) (v := .ref (ga 1)) hx hb hts inX8 hown hK hP 0 rfl rfl 0 (by decide) k2 rfl rfl dX8_stock_53 ?_
        refine lv_bipush (v := (35 : Int32)) hx hb dX8_stock_56 (by decide) ?_
        refine lv_iload_n hx hb dX8_stock_58 rfl (lv_at hl 0 rfl) ?_
        refine lv_iadd hx hb dX8_stock_59 ?_
        refine lv_iload_n hx hb dX8_stock_60 rfl (lv_at hl 3 rfl) ?_
        obtain ⟨f8, q8, h16⟩ := obn h15
        clear h15
        refine xast hx hb hK hP hD hS 1 rfl q8 dX8_stock_61 (wn := (cO ca ga (sA (sA g 0 f7) 0 f8))) rfl (fun H locs hP hD hS => ?_)
        refine lv_aload_n hx hb dX8_stock_62 rfl (lv_at hl 1 rfl) ?_
        refine xget (ref := "FriezeFolkModel") (C := RX8) (T := TX8) (N := 24) (ci := 8) (v := .ref (ga 1)) hx hb hts inX8 hown hK hP 0 rfl rfl 0 (by decide) k2 rfl rfl dX8_stock_63 ?_
        refine lv_bipush (v := (39 : Int32)) hx hb dX8_stock_66 (by decide) ?_
        refine lv_dup2_11 hx hb dX8_stock_68 rfl rfl ?_
        obtain ⟨v9, q9, h17⟩ := obn h16
        clear h16
        refine xald hx hb hK hP 1 rfl q9 dX8_stock_69 ?_
        refine lv_iconst (v := (1 : Int32)) hx hb dX8_stock_70 (by decide) ?_
        refine lv_iadd hx hb dX8_stock_71 ?_
        obtain ⟨f10, q10, h18⟩ := obn h17
        clear h17
        refine xast hx hb hK hP hD hS 1 rfl q10 dX8_stock_72 (wn := (cO ca ga (sA (sA (sA g 0 f7) 0 f8) 0 f10))) rfl (fun H locs hP hD hS => ?_)
        refine lv_aload_n hx hb dX8_stock_73 rfl (lv_at hl 1 rfl) ?_
        refine xget (ref := "FriezeFolkModel") (C := RX8) (T := TX8) (N := 24) (ci := 8) (v := .ref (ga 1)) hx hb hts inX8 hown hK hP 0 rfl rfl 0 (by decide) k2 rfl rfl dX8_stock_74 ?_
        refine lv_bipush (v := (39 : Int32)) hx hb dX8_stock_77 (by decide) ?_
        obtain ⟨v11, q11, h19⟩ := obn h18
        clear h18
        refine xald hx hb hK hP 1 rfl q11 dX8_stock_79 ?_
        obtain rfl := Option.some.inj h19
        exact hret _ _ _ _ (vp_nar_int _) hP hD hS dX8_stock_80
      · skip
        replace h14 := (if_pos c6).symm.trans h14
        refine lv_bipush (v := (-3 : Int32)) hx hb dX8_stock_39 (by decide) ?_
        obtain rfl := Option.some.inj h14
        exact hret _ _ _ _ (vp_nar_int _) hP hD hS dX8_stock_41
    · skip
      replace h13 := (if_pos c4).symm.trans h13
      refine lv_iconst (v := (-1 : Int32)) hx hb dX8_stock_24 (by decide) ?_
      obtain rfl := Option.some.inj h13
      exact hret _ _ _ _ (vp_nar_int _) hP hD hS dX8_stock_25

def mX8_drop (g : GS) (n : Int32) : Option (Int32 × GS) :=
  Option.bind (ald 240 (g.1 0) (39 : Int32)) fun v1 =>
  Option.bind (mX8_in n.toInt64 (0 : Int64) v1.toInt64) fun v2 =>
  Option.bind (mX8_puts g v2 (39 : Int32) n (0 : Int32)) fun v3 =>
  some (v3.1, v3.2)
abbrev rmX8_drop : Room := { frames := 1, cells := 0, slots := 0, locals := 25 }
set_option maxHeartbeats 4000000 in
set_option maxRecDepth 100000 in
theorem k_X8_drop (l : Launch) (D : va_G) (ca : Nat → ClassId) (ga : Nat → Nat) (g : GS) (n : Int32) (o : Int32 × GS) (hm : mX8_drop g n = some o) : KI l yX8_drop wsX8_drop rmX8_drop D ca [.ref (ga 0), .int n] (cO ca ga g) (cO ca ga o.2) o.1 := by
  refine KI.of (cc := cX8_drop) (n := 2) (plainFor_of_name (by decide)) rfl (Nat.le_of_ble_eq_true rfl) ?_
  intro p e s m below meth c A Z hx hb hml hts hown hA hK hP hD hS hret ls hl
  have hown : s.vm.findClass RX8 = some m.cls := hown
  have hl : lv_has ls 2 [(0, .ref (ga 0)), (1, .int n)] := hl
  have inX8 : ∀ w ∈ wsX80, w ∈ wsX8_drop := by decide +kernel
  have k1 := hts (.fieldLink RX8 7 "FriezeFolkModel" "state" "[I") (by decide +kernel)
  unfold mX8_drop at hm
  refine lv_aload_n hx hb dX8_drop_0 rfl (lv_at hl 0 rfl) ?_
  refine lv_iload_n hx hb dX8_drop_1 rfl (lv_at hl 1 rfl) ?_
  refine lv_i2l (v := n.toInt64) hx hb dX8_drop_2 rfl ?_
  refine lv_lconst (v := (0 : Int64)) hx hb dX8_drop_3 (by decide) ?_
  refine lv_aload_n hx hb dX8_drop_4 rfl (lv_at hl 0 rfl) ?_
  refine xget (ref := "FriezeFolkModel") (C := RX8) (T := TX8) (N := 24) (ci := 8) (v := .ref (ga 1)) hx hb hts inX8 hown hK hP 0 rfl rfl 0 (by decide) k1 rfl rfl dX8_drop_5 ?_
  refine lv_bipush (v := (39 : Int32)) hx hb dX8_drop_8 (by decide) ?_
  obtain ⟨v1, q1, h4⟩ := obn hm
  clear hm
  refine xald hx hb hK hP 1 rfl q1 dX8_drop_10 ?_
  refine lv_i2l (v := v1.toInt64) hx hb dX8_drop_11 rfl ?_
  obtain ⟨v2, q2, h5⟩ := obn h4
  clear h4
  refine xSi (As := [.long n.toInt64, .long (0 : Int64), .long v1.toInt64]) ⟨hx, hb, hml, hown, hts⟩ (k_X8_in l D ca  n.toInt64 (0 : Int64) v1.toInt64 _ q2) (va_cwS 3 hts gX8_drop_X8_in rfl rfl rfl (by decide +kernel) ⟨Nat.le_of_ble_eq_true rfl, Nat.le_of_ble_eq_true rfl⟩) hK hA hP hD hS dX8_drop_12 rfl hl.1 [] [0, 1, 2, 3, 4, 5, 6, 7, 8, 9, 10, 11, 12, 13] [0, 1, 2, 3, 4, 5, 6, 7, 8, 9, 10, 11, 12, 13] rfl rfl (wr := ((cO ca ga g))) rfl rfl (by decide) (wn := (cO ca ga g)) rfl rfl rfl (Nat.le_of_ble_eq_true rfl) (fun H locs hP hD hS => ?_)
  refine lv_bipush (v := (39 : Int32)) hx hb dX8_drop_15 (by decide) ?_
  refine lv_iload_n hx hb dX8_drop_17 rfl (lv_at hl 1 rfl) ?_
  refine lv_iconst (v := (0 : Int32)) hx hb dX8_drop_18 (by decide) ?_
  obtain ⟨v3, q3, h6⟩ := obn h5
  clear h5
  refine xVi (As := [.int v2, .int (39 : Int32), .int n, .int (0 : Int32)]) (ci := 8) ⟨hx, hb, hml, hown, hts⟩ (k_X8_puts l D ca ga g v2 (39 : Int32) n (0 : Int32) _ q3) (cwV 4 hts gX8_drop_X8_puts rfl rfl rfl (by decide +kernel) ⟨Nat.le_of_ble_eq_true rfl, Nat.le_of_ble_eq_true rfl⟩) hK hA hP hD hS dX8_drop_19 rfl hl.1 [0, 1, 2, 3, 4, 5, 6, 7, 8, 9, 10, 11, 12, 13] [] [0, 1, 2, 3, 4, 5, 6, 7, 8, 9, 10, 11, 12, 13] rfl rfl (wr := []) rfl rfl (by decide) (wn := (cO ca ga v3.2)) rfl rfl rfl rfl rfl rfl (Nat.le_of_ble_eq_true rfl) (fun H locs hP hD hS => ?_)
  obtain rfl := Option.some.inj h6
  exact hret _ _ _ _ (vp_nar_int _) hP hD hS dX8_drop_22
def mX8_years_l34 (n : Int32) (s8 : Int32 × GS) : Option ((Int32 × GS) ⊕ (Int32 × GS)) :=
  if n ≤ s8.1 then
    some (.inr (s8.1, s8.2))
  else
    Option.bind (mX8_yearOn s8.2 (0 : Int32)) fun v10 =>
    some (.inl ((s8.1 + (1 : Int32)), v10))

def mX8_years (g : GS) (n : Int32) : Option (Int32 × GS) :=
  Option.bind (mX8_in n.toInt64 (0 : Int64) (30 : Int64)) fun v1 =>
  if v1 = 0 then
    some ((-1 : Int32), g)
  else
    Option.bind (ald 240 (g.1 0) (18 : Int32)) fun v3 =>
    if (v3 + n) ≤ (999 : Int32) then
      Option.bind (whO (mX8_years_l34 n) FU ((0 : Int32), g)) fun e11 =>
      Option.bind (mX8_frankOfAll e11.2 (0 : Int32)) fun v12 =>
      some (v12, e11.2)
    else
      some ((-3 : Int32), g)
abbrev rmX8_years : Room := { frames := 3, cells := 0, slots := 0, locals := 73 }
set_option maxHeartbeats 4000000 in
set_option maxRecDepth 100000 in
theorem k_X8_years (l : Launch) (D : va_G) (ca : Nat → ClassId) (ga : Nat → Nat) (g : GS) (n : Int32) (o : Int32 × GS) (hm : mX8_years g n = some o) : KI l yX8_years wsX8_years rmX8_years D ca [.ref (ga 0), .int n] (cO ca ga g) (cO ca ga o.2) o.1 := by
  refine KI.of (cc := cX8_years) (n := 3) (plainFor_of_name (by decide)) rfl (Nat.le_of_ble_eq_true rfl) ?_
  intro p e s m below meth c A Z hx hb hml hts hown hA hK hP hD hS hret ls hl
  have hown : s.vm.findClass RX8 = some m.cls := hown
  have hl : lv_has ls 3 [(0, .ref (ga 0)), (1, .int n)] := hl
  have inX8 : ∀ w ∈ wsX80, w ∈ wsX8_years := by decide +kernel
  have k1 := hts (.constantLong RX8 165 (30 : Int64)) (by decide +kernel)
  have k2 := hts (.fieldLink RX8 7 "FriezeFolkModel" "state" "[I") (by decide +kernel)
  unfold mX8_years at hm
  refine lv_iload_n hx hb dX8_years_0 rfl (lv_at hl 1 rfl) ?_
  refine lv_i2l (v := n.toInt64) hx hb dX8_years_1 rfl ?_
  refine lv_lconst (v := (0 : Int64)) hx hb dX8_years_2 (by decide) ?_
  refine lv_ldc2 hx hb hown k1 dX8_years_3 ?_
  obtain ⟨v1, q1, h13⟩ := obn hm
  clear hm
  refine xSi (As := [.long n.toInt64, .long (0 : Int64), .long (30 : Int64)]) ⟨hx, hb, hml, hown, hts⟩ (k_X8_in l D ca  n.toInt64 (0 : Int64) (30 : Int64) _ q1) (va_cwS 3 hts gX8_years_X8_in rfl rfl rfl (by decide +kernel) ⟨Nat.le_of_ble_eq_true rfl, Nat.le_of_ble_eq_true rfl⟩) hK hA hP hD hS dX8_years_6 rfl hl.1 [] [0, 1, 2, 3, 4, 5, 6, 7, 8, 9, 10, 11, 12, 13] [0, 1, 2, 3, 4, 5, 6, 7, 8, 9, 10, 11, 12, 13] rfl rfl (wr := ((cO ca ga g))) rfl rfl (by decide) (wn := (cO ca ga g)) rfl rfl rfl (Nat.le_of_ble_eq_true rfl) (fun H locs hP hD hS => ?_)
  refine lv_if_ne (tgt := 14) hx hb dX8_years_9 (by decide) (fun c2 => ?_) (fun c2 => ?_)
  · skip
    replace h13 := (if_neg c2).symm.trans h13
    refine lv_aload_n hx hb dX8_years_14 rfl (lv_at hl 0 rfl) ?_
    refine xget (ref := "FriezeFolkModel") (C := RX8) (T := TX8) (N := 24) (ci := 8) (v := .ref (ga 1)) hx hb hts inX8 hown hK hP 0 rfl rfl 0 (by decide) k2 rfl rfl dX8_years_15 ?_
    refine lv_bipush (v := (18 : Int32)) hx hb dX8_years_18 (by decide) ?_
    obtain ⟨v3, q3, h14⟩ := obn h13
    clear h13
    refine xald hx hb hK hP 1 rfl q3 dX8_years_20 ?_
    refine lv_iload_n hx hb dX8_years_21 rfl (lv_at hl 1 rfl) ?_
    refine lv_iadd hx hb dX8_years_22 ?_
    refine lv_sipush (v := (999 : Int32)) hx hb dX8_years_23 (by decide) ?_
    refine lv_icmp_le (tgt := 32) hx hb dX8_years_26 (by decide) (fun c4 => ?_) (fun c4 => ?_)
    · skip
      replace h14 := (if_pos c4).symm.trans h14
      refine lv_iconst (v := (0 : Int32)) hx hb dX8_years_32 (by decide) ?_
      refine lv_istore_n (lv' := [(2, .int (0 : Int32)), (0, .ref (ga 0)), (1, .int n)]) hx hb dX8_years_33 rfl hl (by decide) rfl (fun ls hl => ?_)
      obtain ⟨e11, w15, h16⟩ := obn h14
      clear h14
      have AF11 : ∀ (ls : Array Slot) (H : Heap) (locs : List Loc), lv_has ls 3 [(0, .ref (ga 0))] → va_P D vwCl (cO ca ga e11.2) H → va_D A (cO ca ga e11.2) → va_S A s.heap H locs → W p l e rmX8_years s m ([.ref (ga 0), .int n] : List Value).toArray below meth c H locs 0 0 Z (F0 m 50 ls []) := by
        intro ls H locs hl hP hD hS
        refine lv_aload_n hx hb dX8_years_50 rfl (lv_at hl 0 rfl) ?_
        refine lv_iconst (v := (0 : Int32)) hx hb dX8_years_51 (by decide) ?_
        obtain ⟨v12, q12, h17⟩ := obn h16
        clear h16
        refine xVi (As := [.int (0 : Int32)]) (ci := 8) ⟨hx, hb, hml, hown, hts⟩ (k_X8_frankOfAll l D ca ga e11.2 (0 : Int32) _ q12) (cwV 1 hts gX8_years_X8_frankOfAll rfl rfl rfl (by decide +kernel) ⟨Nat.le_of_ble_eq_true rfl, Nat.le_of_ble_eq_true rfl⟩) hK hA hP hD hS dX8_years_52 rfl hl.1 [0, 1, 2, 3, 4, 5, 6, 7, 8, 9, 10, 11, 12, 13] [] [0, 1, 2, 3, 4, 5, 6, 7, 8, 9, 10, 11, 12, 13] rfl rfl (wr := []) rfl rfl (by decide) (wn := (cO ca ga e11.2)) rfl rfl rfl rfl rfl rfl (Nat.le_of_ble_eq_true rfl) (fun H locs hP hD hS => ?_)
        obtain rfl := Option.some.inj h17
        exact hret _ _ _ _ (vp_nar_int _) hP hD hS dX8_years_55
      refine whO_walk (I := fun s8 => ∀ (ls : Array Slot) (H : Heap) (locs : List Loc), lv_has ls 3 [(0, .ref (ga 0)), (1, .int n), (2, .int s8.1)] → va_P D vwCl (cO ca ga s8.2) H → va_D A (cO ca ga s8.2) → va_S A s.heap H locs → W p l e rmX8_years s m ([.ref (ga 0), .int n] : List Value).toArray below meth c H locs 0 0 Z (F0 m 34 ls [])) ?_ _ _ w15 _ _ _ (lv_sub hl [1, 2, 0] rfl) hP hD hS
      clear w15
      intro s8 o11 h18 hi11 ho11 ls H locs hl hP hD hS
      unfold mX8_years_l34 at h18
      refine lv_iload_n hx hb dX8_years_34 rfl (lv_at hl 2 rfl) ?_
      refine lv_iload_n hx hb dX8_years_35 rfl (lv_at hl 1 rfl) ?_
      refine lv_icmp_ge (tgt := 50) hx hb dX8_years_36 (by decide) (fun c9 => ?_) (fun c9 => ?_)
      · skip
        replace h18 := (if_pos c9).symm.trans h18
        have h19 := ho11 _ (Option.some.inj h18).symm
        subst h19
        exact AF11 _ _ _ (lv_sub hl [0] rfl) hP hD hS
      · skip
        replace h18 := (if_neg c9).symm.trans h18
        refine lv_aload_n hx hb dX8_years_39 rfl (lv_at hl 0 rfl) ?_
        refine lv_iconst (v := (0 : Int32)) hx hb dX8_years_40 (by decide) ?_
        obtain ⟨v10, q10, h20⟩ := obn h18
        clear h18
        refine xVv (As := [.int (0 : Int32)]) (ci := 8) ⟨hx, hb, hml, hown, hts⟩ (k_X8_yearOn l D ca ga s8.2 (0 : Int32) _ q10) (cwV 1 hts gX8_years_X8_yearOn rfl rfl rfl (by decide +kernel) ⟨Nat.le_of_ble_eq_true rfl, Nat.le_of_ble_eq_true rfl⟩) hK hA hP hD hS dX8_years_41 rfl hl.1 [0, 1, 2, 3, 4, 5, 6, 7, 8, 9, 10, 11, 12, 13] [] [0, 1, 2, 3, 4, 5, 6, 7, 8, 9, 10, 11, 12, 13] rfl rfl (wr := []) rfl rfl (by decide) (wn := (cO ca ga v10)) rfl rfl rfl rfl rfl rfl (Nat.le_of_ble_eq_true rfl) (fun H locs hP hD hS => ?_)
        refine lv_iinc (v := (s8.1 + (1 : Int32))) (lv' := [(2, .int (s8.1 + (1 : Int32))), (0, .ref (ga 0)), (1, .int n)]) hx hb dX8_years_44 hl (k := 2) rfl rfl (by decide) rfl (fun ls hl => ?_)
        refine lv_goto (tgt := 34) hx hb dX8_years_47 (by decide) ?_
        exact hi11 _ (Option.some.inj h20).symm _ _ _ (lv_sub hl [1, 2, 0] rfl) hP hD hS
    · skip
      replace h14 := (if_neg c4).symm.trans h14
      refine lv_bipush (v := (-3 : Int32)) hx hb dX8_years_29 (by decide) ?_
      obtain rfl := Option.some.inj h14
      exact hret _ _ _ _ (vp_nar_int _) hP hD hS dX8_years_31
  · skip
    replace h13 := (if_pos c2).symm.trans h13
    refine lv_iconst (v := (-1 : Int32)) hx hb dX8_years_12 (by decide) ?_
    obtain rfl := Option.some.inj h13
    exact hret _ _ _ _ (vp_nar_int _) hP hD hS dX8_years_13
def mX8_copies_l2 (i : Int32) (j : Int32) (s5 : Int32 × GS) : Option ((Int32 × GS) ⊕ (Int32 × GS)) :=
  if (40 : Int32) ≤ s5.1 then
    some (.inr (s5.1, s5.2))
  else
    Option.bind (ald 240 (s5.2.1 0) (i + s5.1)) fun v7 =>
    Option.bind (ast 240 (s5.2.1 0) (j + s5.1) v7) fun f8 =>
    some (.inl ((s5.1 + (1 : Int32)), (sA s5.2 0 f8)))

def mX8_copies (g : GS) (i : Int32) (j : Int32) : Option (GS) :=
  Option.bind (whO (mX8_copies_l2 i j) FU ((0 : Int32), g)) fun e9 =>
  some e9.2
abbrev rmX8_copies : Room := { frames := 0, cells := 0, slots := 0, locals := 0 }
set_option maxHeartbeats 4000000 in
set_option maxRecDepth 100000 in
theorem k_X8_copies (l : Launch) (D : va_G) (ca : Nat → ClassId) (ga : Nat → Nat) (g : GS) (i : Int32) (j : Int32) (o : GS) (hm : mX8_copies g i j = some o) : KV l yX8_copies wsX8_copies rmX8_copies D ca [.ref (ga 0), .int i, .int j] (cO ca ga g) (cO ca ga o) := by
  refine KV.of (cc := cX8_copies) (n := 4) (plainFor_of_name (by decide)) rfl (Nat.le_of_ble_eq_true rfl) ?_
  intro p e s m below meth c A Z hx hb hml hts hown hA hK hP hD hS hret ls hl
  have hown : s.vm.findClass RX8 = some m.cls := hown
  have hl : lv_has ls 4 [(0, .ref (ga 0)), (1, .int i), (2, .int j)] := hl
  have inX8 : ∀ w ∈ wsX80, w ∈ wsX8_copies := by decide +kernel
  have k1 := hts (.fieldLink RX8 7 "FriezeFolkModel" "state" "[I") (by decide +kernel)
  unfold mX8_copies at hm
  refine lv_iconst (v := (0 : Int32)) hx hb dX8_copies_0 (by decide) ?_
  refine lv_istore_n (lv' := [(3, .int (0 : Int32)), (0, .ref (ga 0)), (1, .int i), (2, .int j)]) hx hb dX8_copies_1 rfl hl (by decide) rfl (fun ls hl => ?_)
  obtain ⟨e9, w10, h11⟩ := obn hm
  clear hm
  have AF9 : ∀ (ls : Array Slot) (H : Heap) (locs : List Loc), lv_has ls 4 [] → va_P D vwCl (cO ca ga e9.2) H → va_D A (cO ca ga e9.2) → va_S A s.heap H locs → W p l e rmX8_copies s m ([.ref (ga 0), .int i, .int j] : List Value).toArray below meth c H locs 0 0 Z (F0 m 30 ls []) := by
    intro ls H locs hl hP hD hS
    obtain rfl := Option.some.inj h11
    exact hret _ _ _ _ hP hD hS dX8_copies_30
  refine whO_walk (I := fun s5 => ∀ (ls : Array Slot) (H : Heap) (locs : List Loc), lv_has ls 4 [(0, .ref (ga 0)), (1, .int i), (2, .int j), (3, .int s5.1)] → va_P D vwCl (cO ca ga s5.2) H → va_D A (cO ca ga s5.2) → va_S A s.heap H locs → W p l e rmX8_copies s m ([.ref (ga 0), .int i, .int j] : List Value).toArray below meth c H locs 0 0 Z (F0 m 2 ls [])) ?_ _ _ w10 _ _ _ (lv_sub hl [1, 2, 3, 0] rfl) hP hD hS
  clear w10
  intro s5 o9 h12 hi9 ho9 ls H locs hl hP hD hS
  unfold mX8_copies_l2 at h12
  refine lv_iload_n hx hb dX8_copies_2 rfl (lv_at hl 3 rfl) ?_
  refine lv_bipush (v := (40 : Int32)) hx hb dX8_copies_3 (by decide) ?_
  refine lv_icmp_ge (tgt := 30) hx hb dX8_copies_5 (by decide) (fun c6 => ?_) (fun c6 => ?_)
  · skip
    replace h12 := (if_pos c6).symm.trans h12
    have h13 := ho9 _ (Option.some.inj h12).symm
    subst h13
    exact AF9 _ _ _ (lv_sub hl [] rfl) hP hD hS
  · skip
    replace h12 := (if_neg c6).symm.trans h12
    refine lv_aload_n hx hb dX8_copies_8 rfl (lv_at hl 0 rfl) ?_
    refine xget (ref := "FriezeFolkModel") (C := RX8) (T := TX8) (N := 24) (ci := 8) (v := .ref (ga 1)) hx hb hts inX8 hown hK hP 0 rfl rfl 0 (by decide) k1 rfl rfl dX8_copies_9 ?_
    refine lv_iload_n hx hb dX8_copies_12 rfl (lv_at hl 2 rfl) ?_
    refine lv_iload_n hx hb dX8_copies_13 rfl (lv_at hl 3 rfl) ?_
    refine lv_iadd hx hb dX8_copies_14 ?_
    refine lv_aload_n hx hb dX8_copies_15 rfl (lv_at hl 0 rfl) ?_
    refine xget (ref := "FriezeFolkModel") (C := RX8) (T := TX8) (N := 24) (ci := 8) (v := .ref (ga 1)) hx hb hts inX8 hown hK hP 0 rfl rfl 0 (by decide) k1 rfl rfl dX8_copies_16 ?_
    refine lv_iload_n hx hb dX8_copies_19 rfl (lv_at hl 1 rfl) ?_
    refine lv_iload_n hx hb dX8_copies_20 rfl (lv_at hl 3 rfl) ?_
    refine lv_iadd hx hb dX8_copies_21 ?_
    obtain ⟨v7, q7, h14⟩ := obn h12
    clear h12
    refine xald hx hb hK hP 1 rfl q7 dX8_copies_22 ?_
    obtain ⟨f8, q8, h15⟩ := obn h14
    clear h14
    refine xast hx hb hK hP hD hS 1 rfl q8 dX8_copies_23 (wn := (cO ca ga (sA s5.2 0 f8))) rfl (fun H locs hP hD hS => ?_)
    refine lv_iinc (v := (s5.1 + (1 : Int32))) (lv' := [(3, .int (s5.1 + (1 : Int32))), (0, .ref (ga 0)), (1, .int i), (2, .int j)]) hx hb dX8_copies_24 hl (k := 3) rfl rfl (by decide) rfl (fun ls hl => ?_)
    refine lv_goto (tgt := 2) hx hb dX8_copies_27 (by decide) ?_
    exact hi9 _ (Option.some.inj h15).symm _ _ _ (lv_sub hl [1, 2, 3, 0] rfl) hP hD hS
