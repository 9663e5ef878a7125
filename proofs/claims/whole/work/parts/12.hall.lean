
def mX0_hasBlock (g : GS) (j : Int32) : Option (Int32) :=
  if j < 0 then
    some (0 : Int32)
  else
    if (g.2 5) ≤ j then
      some (0 : Int32)
    else
      if (6 : Int32) ≤ j then
        some (0 : Int32)
      else
        some (1 : Int32)
abbrev rmX0_hasBlock : Room := { frames := 0, cells := 0, slots := 0, locals := 0 }
set_option maxHeartbeats 4000000 in
set_option maxRecDepth 100000 in
theorem k_X0_hasBlock (l : Launch) (D : va_G) (ca : Nat → ClassId) (ga : Nat → Nat) (g : GS) (j : Int32) (o : Int32) (hm : mX0_hasBlock g j = some o) : KI l yX0_hasBlock wsX0_hasBlock rmX0_hasBlock D ca [.ref (ga 0), .int j] (cH ca ga g) (cH ca ga g) o := by
  refine KI.of (cc := cX0_hasBlock) (n := 2) (plainFor_of_name (by decide)) rfl (Nat.le_of_ble_eq_true rfl) ?_
  intro p e s m below meth c A Z hx hb hml hts hown hA hK hP hD hS hret ls hl
  have hown : s.vm.findClass RX0 = some m.cls := hown
  have hl : lv_has ls 2 [(0, .ref (ga 0)), (1, .int j)] := hl
  have inX0 : ∀ w ∈ wsX00, w ∈ wsX0_hasBlock := by decide +kernel
  have k1 := hts (.fieldLink RX0 30 "FriezeFolk$Hall" "blocks" "I") (by decide +kernel)
  unfold mX0_hasBlock at hm
  refine lv_iload_n hx hb dX0_hasBlock_0 rfl (lv_at hl 1 rfl) ?_
  refine lv_if_lt (tgt := 22) hx hb dX0_hasBlock_1 (by decide) (fun c1 => ?_) (fun c1 => ?_)
  · skip
    replace hm := (if_pos c1).symm.trans hm
    refine lv_iconst (v := (0 : Int32)) hx hb dX0_hasBlock_22 (by decide) ?_
    obtain rfl := Option.some.inj hm
    exact hret _ _ _ _ nar0 hP hD hS dX0_hasBlock_23
  · skip
    replace hm := (if_neg c1).symm.trans hm
    refine lv_iload_n hx hb dX0_hasBlock_4 rfl (lv_at hl 1 rfl) ?_
    refine lv_aload_n hx hb dX0_hasBlock_5 rfl (lv_at hl 0 rfl) ?_
    refine xget (ref := "FriezeFolk$Hall") (C := RX0) (T := TX0) (N := 13) (ci := 0) (v := .int (g.2 5)) hx hb hts inX0 hown hK hP 0 rfl rfl 5 (by decide) k1 rfl rfl dX0_hasBlock_6 ?_
    refine lv_icmp_ge (tgt := 22) hx hb dX0_hasBlock_9 (by decide) (fun c2 => ?_) (fun c2 => ?_)
    · skip
      replace hm := (if_pos c2).symm.trans hm
      refine lv_iconst (v := (0 : Int32)) hx hb dX0_hasBlock_22 (by decide) ?_
      obtain rfl := Option.some.inj hm
      exact hret _ _ _ _ nar0 hP hD hS dX0_hasBlock_23
    · skip
      replace hm := (if_neg c2).symm.trans hm
      refine lv_iload_n hx hb dX0_hasBlock_12 rfl (lv_at hl 1 rfl) ?_
      refine lv_bipush (v := (6 : Int32)) hx hb dX0_hasBlock_13 (by decide) ?_
      refine lv_icmp_ge (tgt := 22) hx hb dX0_hasBlock_15 (by decide) (fun c3 => ?_) (fun c3 => ?_)
      · skip
        replace hm := (if_pos c3).symm.trans hm
        refine lv_iconst (v := (0 : Int32)) hx hb dX0_hasBlock_22 (by decide) ?_
        obtain rfl := Option.some.inj hm
        exact hret _ _ _ _ nar0 hP hD hS dX0_hasBlock_23
      · skip
        replace hm := (if_neg c3).symm.trans hm
        refine lv_iconst (v := (1 : Int32)) hx hb dX0_hasBlock_18 (by decide) ?_
        refine lv_goto (tgt := 23) hx hb dX0_hasBlock_19 (by decide) ?_
        obtain rfl := Option.some.inj hm
        exact hret _ _ _ _ nar1 hP hD hS dX0_hasBlock_23

def mX0_hasPlace (g : GS) (i : Int32) : Option (Int32) :=
  if i < 0 then
    some (0 : Int32)
  else
    if (g.2 6) ≤ i then
      some (0 : Int32)
    else
      if (12 : Int32) ≤ i then
        some (0 : Int32)
      else
        some (1 : Int32)
abbrev rmX0_hasPlace : Room := { frames := 0, cells := 0, slots := 0, locals := 0 }
set_option maxHeartbeats 4000000 in
set_option maxRecDepth 100000 in
theorem k_X0_hasPlace (l : Launch) (D : va_G) (ca : Nat → ClassId) (ga : Nat → Nat) (g : GS) (i : Int32) (o : Int32) (hm : mX0_hasPlace g i = some o) : KI l yX0_hasPlace wsX0_hasPlace rmX0_hasPlace D ca [.ref (ga 0), .int i] (cH ca ga g) (cH ca ga g) o := by
  refine KI.of (cc := cX0_hasPlace) (n := 2) (plainFor_of_name (by decide)) rfl (Nat.le_of_ble_eq_true rfl) ?_
  intro p e s m below meth c A Z hx hb hml hts hown hA hK hP hD hS hret ls hl
  have hown : s.vm.findClass RX0 = some m.cls := hown
  have hl : lv_has ls 2 [(0, .ref (ga 0)), (1, .int i)] := hl
  have inX0 : ∀ w ∈ wsX00, w ∈ wsX0_hasPlace := by decide +kernel
  have k1 := hts (.fieldLink RX0 34 "FriezeFolk$Hall" "wide" "I") (by decide +kernel)
  unfold mX0_hasPlace at hm
  refine lv_iload_n hx hb dX0_hasPlace_0 rfl (lv_at hl 1 rfl) ?_
  refine lv_if_lt (tgt := 22) hx hb dX0_hasPlace_1 (by decide) (fun c1 => ?_) (fun c1 => ?_)
  · skip
    replace hm := (if_pos c1).symm.trans hm
    refine lv_iconst (v := (0 : Int32)) hx hb dX0_hasPlace_22 (by decide) ?_
    obtain rfl := Option.some.inj hm
    exact hret _ _ _ _ nar0 hP hD hS dX0_hasPlace_23
  · skip
    replace hm := (if_neg c1).symm.trans hm
    refine lv_iload_n hx hb dX0_hasPlace_4 rfl (lv_at hl 1 rfl) ?_
    refine lv_aload_n hx hb dX0_hasPlace_5 rfl (lv_at hl 0 rfl) ?_
    refine xget (ref := "FriezeFolk$Hall") (C := RX0) (T := TX0) (N := 13) (ci := 0) (v := .int (g.2 6)) hx hb hts inX0 hown hK hP 0 rfl rfl 6 (by decide) k1 rfl rfl dX0_hasPlace_6 ?_
    refine lv_icmp_ge (tgt := 22) hx hb dX0_hasPlace_9 (by decide) (fun c2 => ?_) (fun c2 => ?_)
    · skip
      replace hm := (if_pos c2).symm.trans hm
      refine lv_iconst (v := (0 : Int32)) hx hb dX0_hasPlace_22 (by decide) ?_
      obtain rfl := Option.some.inj hm
      exact hret _ _ _ _ nar0 hP hD hS dX0_hasPlace_23
    · skip
      replace hm := (if_neg c2).symm.trans hm
      refine lv_iload_n hx hb dX0_hasPlace_12 rfl (lv_at hl 1 rfl) ?_
      refine lv_bipush (v := (12 : Int32)) hx hb dX0_hasPlace_13 (by decide) ?_
      refine lv_icmp_ge (tgt := 22) hx hb dX0_hasPlace_15 (by decide) (fun c3 => ?_) (fun c3 => ?_)
      · skip
        replace hm := (if_pos c3).symm.trans hm
        refine lv_iconst (v := (0 : Int32)) hx hb dX0_hasPlace_22 (by decide) ?_
        obtain rfl := Option.some.inj hm
        exact hret _ _ _ _ nar0 hP hD hS dX0_hasPlace_23
      · skip
        replace hm := (if_neg c3).symm.trans hm
        refine lv_iconst (v := (1 : Int32)) hx hb dX0_hasPlace_18 (by decide) ?_
        refine lv_goto (tgt := 23) hx hb dX0_hasPlace_19 (by decide) ?_
        obtain rfl := Option.some.inj hm
        exact hret _ _ _ _ nar1 hP hD hS dX0_hasPlace_23

def mX0_hasRoll (g : GS) (r : Int32) : Option (Int32) :=
  if r < 0 then
    some (0 : Int32)
  else
    if (g.2 12) ≤ r then
      some (0 : Int32)
    else
      if (4 : Int32) ≤ r then
        some (0 : Int32)
      else
        some (1 : Int32)
abbrev rmX0_hasRoll : Room := { frames := 0, cells := 0, slots := 0, locals := 0 }
set_option maxHeartbeats 4000000 in
set_option maxRecDepth 100000 in
theorem k_X0_hasRoll (l : Launch) (D : va_G) (ca : Nat → ClassId) (ga : Nat → Nat) (g : GS) (r : Int32) (o : Int32) (hm : mX0_hasRoll g r = some o) : KI l yX0_hasRoll wsX0_hasRoll rmX0_hasRoll D ca [.ref (ga 0), .int r] (cH ca ga g) (cH ca ga g) o := by
  refine KI.of (cc := cX0_hasRoll) (n := 2) (plainFor_of_name (by decide)) rfl (Nat.le_of_ble_eq_true rfl) ?_
  intro p e s m below meth c A Z hx hb hml hts hown hA hK hP hD hS hret ls hl
  have hown : s.vm.findClass RX0 = some m.cls := hown
  have hl : lv_has ls 2 [(0, .ref (ga 0)), (1, .int r)] := hl
  have inX0 : ∀ w ∈ wsX00, w ∈ wsX0_hasRoll := by decide +kernel
  have k1 := hts (.fieldLink RX0 52 "FriezeFolk$Hall" "rolls" "I") (by decide +kernel)
  unfold mX0_hasRoll at hm
  refine lv_iload_n hx hb dX0_hasRoll_0 rfl (lv_at hl 1 rfl) ?_
  refine lv_if_lt (tgt := 21) hx hb dX0_hasRoll_1 (by decide) (fun c1 => ?_) (fun c1 => ?_)
  · skip
    replace hm := (if_pos c1).symm.trans hm
    refine lv_iconst (v := (0 : Int32)) hx hb dX0_hasRoll_21 (by decide) ?_
    obtain rfl := Option.some.inj hm
    exact hret _ _ _ _ nar0 hP hD hS dX0_hasRoll_22
  · skip
    replace hm := (if_neg c1).symm.trans hm
    refine lv_iload_n hx hb dX0_hasRoll_4 rfl (lv_at hl 1 rfl) ?_
    refine lv_aload_n hx hb dX0_hasRoll_5 rfl (lv_at hl 0 rfl) ?_
    refine xget (ref := "FriezeFolk$Hall") (C := RX0) (T := TX0) (N := 13) (ci := 0) (v := .int (g.2 12)) hx hb hts inX0 hown hK hP 0 rfl rfl 12 (by decide) k1 rfl rfl dX0_hasRoll_6 ?_
    refine lv_icmp_ge (tgt := 21) hx hb dX0_hasRoll_9 (by decide) (fun c2 => ?_) (fun c2 => ?_)
    · skip
      replace hm := (if_pos c2).symm.trans hm
      refine lv_iconst (v := (0 : Int32)) hx hb dX0_hasRoll_21 (by decide) ?_
      obtain rfl := Option.some.inj hm
      exact hret _ _ _ _ nar0 hP hD hS dX0_hasRoll_22
    · skip
      replace hm := (if_neg c2).symm.trans hm
      refine lv_iload_n hx hb dX0_hasRoll_12 rfl (lv_at hl 1 rfl) ?_
      refine lv_iconst (v := (4 : Int32)) hx hb dX0_hasRoll_13 (by decide) ?_
      refine lv_icmp_ge (tgt := 21) hx hb dX0_hasRoll_14 (by decide) (fun c3 => ?_) (fun c3 => ?_)
      · skip
        replace hm := (if_pos c3).symm.trans hm
        refine lv_iconst (v := (0 : Int32)) hx hb dX0_hasRoll_21 (by decide) ?_
        obtain rfl := Option.some.inj hm
        exact hret _ _ _ _ nar0 hP hD hS dX0_hasRoll_22
      · skip
        replace hm := (if_neg c3).symm.trans hm
        refine lv_iconst (v := (1 : Int32)) hx hb dX0_hasRoll_17 (by decide) ?_
        refine lv_goto (tgt := 22) hx hb dX0_hasRoll_18 (by decide) ?_
        obtain rfl := Option.some.inj hm
        exact hret _ _ _ _ nar1 hP hD hS dX0_hasRoll_22

def mX0_addBlock (g : GS) (i : Int32) (j : Int32) : Option (Int32 × GS) :=
  if i < 0 then
    some ((-1 : Int32), g)
  else
    if (4 : Int32) ≤ i then
      some ((-1 : Int32), g)
    else
      if j < 0 then
        some ((-1 : Int32), g)
      else
        if j < (10 : Int32) then
          if (g.2 5) < 0 then
            some ((-3 : Int32), g)
          else
            if (g.2 5) < (6 : Int32) then
              Option.bind (ast 6 (g.1 0) (g.2 5) i) fun f7 =>
              Option.bind (ast 6 ((sA g 0 f7).1 1) ((sA g 0 f7).2 5) j) fun f8 =>
              some (((sI (sA (sA g 0 f7) 1 f8) 5 (((sA (sA g 0 f7) 1 f8).2 5) + (1 : Int32))).2 5), (sI (sA (sA g 0 f7) 1 f8) 5 (((sA (sA g 0 f7) 1 f8).2 5) + (1 : Int32))))
            else
              some ((-3 : Int32), g)
        else
          some ((-1 : Int32), g)
abbrev rmX0_addBlock : Room := { frames := 0, cells := 0, slots := 0, locals := 0 }
set_option maxHeartbeats 4000000 in
set_option maxRecDepth 100000 in
theorem k_X0_addBlock (l : Launch) (D : va_G) (ca : Nat → ClassId) (ga : Nat → Nat) (g : GS) (i : Int32) (j : Int32) (o : Int32 × GS) (hm : mX0_addBlock g i j = some o) : KI l yX0_addBlock wsX0_addBlock rmX0_addBlock D ca [.ref (ga 0), .int i, .int j] (cH ca ga g) (cH ca ga o.2) o.1 := by
  refine KI.of (cc := cX0_addBlock) (n := 3) (plainFor_of_name (by decide)) rfl (Nat.le_of_ble_eq_true rfl) ?_
  intro p e s m below meth c A Z hx hb hml hts hown hA hK hP hD hS hret ls hl
  have hown : s.vm.findClass RX0 = some m.cls := hown
  have hl : lv_has ls 3 [(0, .ref (ga 0)), (1, .int i), (2, .int j)] := hl
  have inX0 : ∀ w ∈ wsX00, w ∈ wsX0_addBlock := by decide +kernel
  have k1 := hts (.fieldLink RX0 30 "FriezeFolk$Hall" "blocks" "I") (by decide +kernel)
  have k2 := hts (.fieldLink RX0 9 "FriezeFolk$Hall" "kind" "[I") (by decide +kernel)
  have k3 := hts (.fieldLink RX0 15 "FriezeFolk$Hall" "warmth" "[I") (by decide +kernel)
  unfold mX0_addBlock at hm
  refine lv_iload_n hx hb dX0_addBlock_0 rfl (lv_at hl 1 rfl) ?_
  refine lv_if_lt (tgt := 19) hx hb dX0_addBlock_1 (by decide) (fun c1 => ?_) (fun c1 => ?_)
  · skip
    replace hm := (if_pos c1).symm.trans hm
    refine lv_iconst (v := (-1 : Int32)) hx hb dX0_addBlock_19 (by decide) ?_
    obtain rfl := Option.some.inj hm
    exact hret _ _ _ _ (vp_nar_int _) hP hD hS dX0_addBlock_20
  · skip
    replace hm := (if_neg c1).symm.trans hm
    refine lv_iload_n hx hb dX0_addBlock_4 rfl (lv_at hl 1 rfl) ?_
    refine lv_iconst (v := (4 : Int32)) hx hb dX0_addBlock_5 (by decide) ?_
    refine lv_icmp_ge (tgt := 19) hx hb dX0_addBlock_6 (by decide) (fun c2 => ?_) (fun c2 => ?_)
    · skip
      replace hm := (if_pos c2).symm.trans hm
      refine lv_iconst (v := (-1 : Int32)) hx hb dX0_addBlock_19 (by decide) ?_
      obtain rfl := Option.some.inj hm
      exact hret _ _ _ _ (vp_nar_int _) hP hD hS dX0_addBlock_20
    · skip
      replace hm := (if_neg c2).symm.trans hm
      refine lv_iload_n hx hb dX0_addBlock_9 rfl (lv_at hl 2 rfl) ?_
      refine lv_if_lt (tgt := 19) hx hb dX0_addBlock_10 (by decide) (fun c3 => ?_) (fun c3 => ?_)
      · skip
        replace hm := (if_pos c3).symm.trans hm
        refine lv_iconst (v := (-1 : Int32)) hx hb dX0_addBlock_19 (by decide) ?_
        obtain rfl := Option.some.inj hm
        exact hret _ _ _ _ (vp_nar_int _) hP hD hS dX0_addBlock_20
      · skip
        replace hm := (if_neg c3).symm.trans hm
        refine lv_iload_n hx hb dX0_addBlock_13 rfl (lv_at hl 2 rfl) ?_
        refine lv_bipush (v := (10 : Int32)) hx hb dX0_addBlock_14 (by decide) ?_
        refine lv_icmp_lt (tgt := 21) hx hb dX0_addBlock_16 (by decide) (fun c4 => ?_) (fun c4 => ?_)
        · skip
          replace hm := (if_pos c4).symm.trans hm
          refine lv_aload_n hx hb dX0_addBlock_21 rfl (lv_at hl 0 rfl) ?_
          refine xget (ref := "FriezeFolk$Hall") (C := RX0) (T := TX0) (N := 13) (ci := 0) (v := .int (g.2 5)) hx hb hts inX0 hown hK hP 0 rfl rfl 5 (by decide) k1 rfl rfl dX0_addBlock_22 ?_
          refine lv_if_lt (tgt := 37) hx hb dX0_addBlock_25 (by decide) (fun c5 => ?_) (fun c5 => ?_)
          · skip
            replace hm := (if_pos c5).symm.trans hm
            refine lv_bipush (v := (-3 : Int32)) hx hb dX0_addBlock_37 (by decide) ?_
            obtain rfl := Option.some.inj hm
            exact hret _ _ _ _ (vp_nar_int _) hP hD hS dX0_addBlock_39
          · skip
            replace hm := (if_neg c5).symm.trans hm
            refine lv_aload_n hx hb dX0_addBlock_28 rfl (lv_at hl 0 rfl) ?_
            refine xget (ref := "FriezeFolk$Hall") (C := RX0) (T := TX0) (N := 13) (ci := 0) (v := .int (g.2 5)) hx hb hts inX0 hown hK hP 0 rfl rfl 5 (by decide) k1 rfl rfl dX0_addBlock_29 ?_
            refine lv_bipush (v := (6 : Int32)) hx hb dX0_addBlock_32 (by decide) ?_
            refine lv_icmp_lt (tgt := 40) hx hb dX0_addBlock_34 (by decide) (fun c6 => ?_) (fun c6 => ?_)
            · skip
              replace hm := (if_pos c6).symm.trans hm
              refine lv_aload_n hx hb dX0_addBlock_40 rfl (lv_at hl 0 rfl) ?_
              refine xget (ref := "FriezeFolk$Hall") (C := RX0) (T := TX0) (N := 13) (ci := 0) (v := .ref (ga 1)) hx hb hts inX0 hown hK hP 0 rfl rfl 0 (by decide) k2 rfl rfl dX0_addBlock_41 ?_
              refine lv_aload_n hx hb dX0_addBlock_44 rfl (lv_at hl 0 rfl) ?_
              refine xget (ref := "FriezeFolk$Hall") (C := RX0) (T := TX0) (N := 13) (ci := 0) (v := .int (g.2 5)) hx hb hts inX0 hown hK hP 0 rfl rfl 5 (by decide) k1 rfl rfl dX0_addBlock_45 ?_
              refine lv_iload_n hx hb dX0_addBlock_48 rfl (lv_at hl 1 rfl) ?_
              obtain ⟨f7, q7, h9⟩ := obn hm
              clear hm
              refine xast hx hb hK hP hD hS 1 rfl q7 dX0_addBlock_49 (wn := (cH ca ga (sA g 0 f7))) rfl (fun H locs hP hD hS => ?_)
              refine lv_aload_n hx hb dX0_addBlock_50 rfl (lv_at hl 0 rfl) ?_
              refine xget (ref := "FriezeFolk$Hall") (C := RX0) (T := TX0) (N := 13) (ci := 0) (v := .ref (ga 2)) hx hb hts inX0 hown hK hP 0 rfl rfl 1 (by decide) k3 rfl rfl dX0_addBlock_51 ?_
              refine lv_aload_n hx hb dX0_addBlock_54 rfl (lv_at hl 0 rfl) ?_
              refine xget (ref := "FriezeFolk$Hall") (C := RX0) (T := TX0) (N := 13) (ci := 0) (v := .int ((sA g 0 f7).2 5)) hx hb hts inX0 hown hK hP 0 rfl rfl 5 (by decide) k1 rfl rfl dX0_addBlock_55 ?_
              refine lv_iload_n hx hb dX0_addBlock_58 rfl (lv_at hl 2 rfl) ?_
              obtain ⟨f8, q8, h10⟩ := obn h9
              clear h9
              refine xast hx hb hK hP hD hS 2 rfl q8 dX0_addBlock_59 (wn := (cH ca ga (sA (sA g 0 f7) 1 f8))) rfl (fun H locs hP hD hS => ?_)
              refine lv_aload_n hx hb dX0_addBlock_60 rfl (lv_at hl 0 rfl) ?_
              refine lv_dup hx hb dX0_addBlock_61 rfl ?_
              refine xget (ref := "FriezeFolk$Hall") (C := RX0) (T := TX0) (N := 13) (ci := 0) (v := .int ((sA (sA g 0 f7) 1 f8).2 5)) hx hb hts inX0 hown hK hP 0 rfl rfl 5 (by decide) k1 rfl rfl dX0_addBlock_62 ?_
              refine lv_iconst (v := (1 : Int32)) hx hb dX0_addBlock_65 (by decide) ?_
              refine lv_iadd hx hb dX0_addBlock_66 ?_
              refine xput (ref := "FriezeFolk$Hall") (C := RX0) (T := TX0) (N := 13) (ci := 0) (v := .int (((sA (sA g 0 f7) 1 f8).2 5) + (1 : Int32))) (ty := .int) hx hb hts inX0 tyX0 tyX0_ok nmX0 hown hK hP hD hS 0 rfl rfl 5 (by decide) k1 rfl rfl (by decide +kernel) rfl rfl (Nat.le_of_ble_eq_true rfl) dX0_addBlock_67 (wn := (cH ca ga (sI (sA (sA g 0 f7) 1 f8) 5 (((sA (sA g 0 f7) 1 f8).2 5) + (1 : Int32))))) rfl (fun H locs hP hD hS => ?_)
              refine lv_aload_n hx hb dX0_addBlock_70 rfl (lv_at hl 0 rfl) ?_
              refine xget (ref := "FriezeFolk$Hall") (C := RX0) (T := TX0) (N := 13) (ci := 0) (v := .int ((sI (sA (sA g 0 f7) 1 f8) 5 (((sA (sA g 0 f7) 1 f8).2 5) + (1 : Int32))).2 5)) hx hb hts inX0 hown hK hP 0 rfl rfl 5 (by decide) k1 rfl rfl dX0_addBlock_71 ?_
              obtain rfl := Option.some.inj h10
              exact hret _ _ _ _ (vp_nar_int _) hP hD hS dX0_addBlock_74
            · skip
              replace hm := (if_neg c6).symm.trans hm
              refine lv_bipush (v := (-3 : Int32)) hx hb dX0_addBlock_37 (by decide) ?_
              obtain rfl := Option.some.inj hm
              exact hret _ _ _ _ (vp_nar_int _) hP hD hS dX0_addBlock_39
        · skip
          replace hm := (if_neg c4).symm.trans hm
          refine lv_iconst (v := (-1 : Int32)) hx hb dX0_addBlock_19 (by decide) ?_
          obtain rfl := Option.some.inj hm
          exact hret _ _ _ _ (vp_nar_int _) hP hD hS dX0_addBlock_20

def mX0_addRoll (g : GS) (i : Int32) (j : Int32) : Option (Int32 × GS) :=
  if i < (1 : Int32) then
    some ((-1 : Int32), g)
  else
    if (9 : Int32) < i then
      some ((-1 : Int32), g)
    else
      if j < (1 : Int32) then
        some ((-1 : Int32), g)
      else
        if j ≤ (9 : Int32) then
          if (g.2 12) < 0 then
            some ((-3 : Int32), g)
          else
            if (g.2 12) < (4 : Int32) then
              Option.bind (ast 4 (g.1 3) (g.2 12) i) fun f7 =>
              Option.bind (ast 4 ((sA g 3 f7).1 4) ((sA g 3 f7).2 12) j) fun f8 =>
              some (((sI (sA (sA g 3 f7) 4 f8) 12 (((sA (sA g 3 f7) 4 f8).2 12) + (1 : Int32))).2 12), (sI (sA (sA g 3 f7) 4 f8) 12 (((sA (sA g 3 f7) 4 f8).2 12) + (1 : Int32))))
            else
              some ((-3 : Int32), g)
        else
          some ((-1 : Int32), g)
abbrev rmX0_addRoll : Room := { frames := 0, cells := 0, slots := 0, locals := 0 }
set_option maxHeartbeats 4000000 in
set_option maxRecDepth 100000 in
theorem k_X0_addRoll (l : Launch) (D : va_G) (ca : Nat → ClassId) (ga : Nat → Nat) (g : GS) (i : Int32) (j : Int32) (o : Int32 × GS) (hm : mX0_addRoll g i j = some o) : KI l yX0_addRoll wsX0_addRoll rmX0_addRoll D ca [.ref (ga 0), .int i, .int j] (cH ca ga g) (cH ca ga o.2) o.1 := by
  refine KI.of (cc := cX0_addRoll) (n := 3) (plainFor_of_name (by decide)) rfl (Nat.le_of_ble_eq_true rfl) ?_
  intro p e s m below meth c A Z hx hb hml hts hown hA hK hP hD hS hret ls hl
  have hown : s.vm.findClass RX0 = some m.cls := hown
  have hl : lv_has ls 3 [(0, .ref (ga 0)), (1, .int i), (2, .int j)] := hl
  have inX0 : ∀ w ∈ wsX00, w ∈ wsX0_addRoll := by decide +kernel
  have k1 := hts (.fieldLink RX0 52 "FriezeFolk$Hall" "rolls" "I") (by decide +kernel)
  have k2 := hts (.fieldLink RX0 21 "FriezeFolk$Hall" "length" "[I") (by decide +kernel)
  have k3 := hts (.fieldLink RX0 24 "FriezeFolk$Hall" "price" "[I") (by decide +kernel)
  unfold mX0_addRoll at hm
  refine lv_iload_n hx hb dX0_addRoll_0 rfl (lv_at hl 1 rfl) ?_
  refine lv_iconst (v := (1 : Int32)) hx hb dX0_addRoll_1 (by decide) ?_
  refine lv_icmp_lt (tgt := 22) hx hb dX0_addRoll_2 (by decide) (fun c1 => ?_) (fun c1 => ?_)
  · skip
    replace hm := (if_pos c1).symm.trans hm
    refine lv_iconst (v := (-1 : Int32)) hx hb dX0_addRoll_22 (by decide) ?_
    obtain rfl := Option.some.inj hm
    exact hret _ _ _ _ (vp_nar_int _) hP hD hS dX0_addRoll_23
  · skip
    replace hm := (if_neg c1).symm.trans hm
    refine lv_iload_n hx hb dX0_addRoll_5 rfl (lv_at hl 1 rfl) ?_
    refine lv_bipush (v := (9 : Int32)) hx hb dX0_addRoll_6 (by decide) ?_
    refine lv_icmp_gt (tgt := 22) hx hb dX0_addRoll_8 (by decide) (fun c2 => ?_) (fun c2 => ?_)
    · skip
      replace hm := (if_pos c2).symm.trans hm
      refine lv_iconst (v := (-1 : Int32)) hx hb dX0_addRoll_22 (by decide) ?_
      obtain rfl := Option.some.inj hm
      exact hret _ _ _ _ (vp_nar_int _) hP hD hS dX0_addRoll_23
    · skip
      replace hm := (if_neg c2).symm.trans hm
      refine lv_iload_n hx hb dX0_addRoll_11 rfl (lv_at hl 2 rfl) ?_
      refine lv_iconst (v := (1 : Int32)) hx hb dX0_addRoll_12 (by decide) ?_
      refine lv_icmp_lt (tgt := 22) hx hb dX0_addRoll_13 (by decide) (fun c3 => ?_) (fun c3 => ?_)
      · skip
        replace hm := (if_pos c3).symm.trans hm
        refine lv_iconst (v := (-1 : Int32)) hx hb dX0_addRoll_22 (by decide) ?_
        obtain rfl := Option.some.inj hm
        exact hret _ _ _ _ (vp_nar_int _) hP hD hS dX0_addRoll_23
      · skip
        replace hm := (if_neg c3).symm.trans hm
        refine lv_iload_n hx hb dX0_addRoll_16 rfl (lv_at hl 2 rfl) ?_
        refine lv_bipush (v := (9 : Int32)) hx hb dX0_addRoll_17 (by decide) ?_
        refine lv_icmp_le (tgt := 24) hx hb dX0_addRoll_19 (by decide) (fun c4 => ?_) (fun c4 => ?_)
        · skip
          replace hm := (if_pos c4).symm.trans hm
          refine lv_aload_n hx hb dX0_addRoll_24 rfl (lv_at hl 0 rfl) ?_
          refine xget (ref := "FriezeFolk$Hall") (C := RX0) (T := TX0) (N := 13) (ci := 0) (v := .int (g.2 12)) hx hb hts inX0 hown hK hP 0 rfl rfl 12 (by decide) k1 rfl rfl dX0_addRoll_25 ?_
          refine lv_if_lt (tgt := 39) hx hb dX0_addRoll_28 (by decide) (fun c5 => ?_) (fun c5 => ?_)
          · skip
            replace hm := (if_pos c5).symm.trans hm
            refine lv_bipush (v := (-3 : Int32)) hx hb dX0_addRoll_39 (by decide) ?_
            obtain rfl := Option.some.inj hm
            exact hret _ _ _ _ (vp_nar_int _) hP hD hS dX0_addRoll_41
          · skip
            replace hm := (if_neg c5).symm.trans hm
            refine lv_aload_n hx hb dX0_addRoll_31 rfl (lv_at hl 0 rfl) ?_
            refine xget (ref := "FriezeFolk$Hall") (C := RX0) (T := TX0) (N := 13) (ci := 0) (v := .int (g.2 12)) hx hb hts inX0 hown hK hP 0 rfl rfl 12 (by decide) k1 rfl rfl dX0_addRoll_32 ?_
            refine lv_iconst (v := (4 : Int32)) hx hb dX0_addRoll_35 (by decide) ?_
            refine lv_icmp_lt (tgt := 42) hx hb dX0_addRoll_36 (by decide) (fun c6 => ?_) (fun c6 => ?_)
            · skip
              replace hm := (if_pos c6).symm.trans hm
              refine lv_aload_n hx hb dX0_addRoll_42 rfl (lv_at hl 0 rfl) ?_
              refine xget (ref := "FriezeFolk$Hall") (C := RX0) (T := TX0) (N := 13) (ci := 0) (v := .ref (ga 4)) hx hb hts inX0 hown hK hP 0 rfl rfl 3 (by decide) k2 rfl rfl dX0_addRoll_43 ?_
              refine lv_aload_n hx hb dX0_addRoll_46 rfl (lv_at hl 0 rfl) ?_
              refine xget (ref := "FriezeFolk$Hall") (C := RX0) (T := TX0) (N := 13) (ci := 0) (v := .int (g.2 12)) hx hb hts inX0 hown hK hP 0 rfl rfl 12 (by decide) k1 rfl rfl dX0_addRoll_47 ?_
              refine lv_iload_n hx hb dX0_addRoll_50 rfl (lv_at hl 1 rfl) ?_
              obtain ⟨f7, q7, h9⟩ := obn hm
              clear hm
              refine xast hx hb hK hP hD hS 4 rfl q7 dX0_addRoll_51 (wn := (cH ca ga (sA g 3 f7))) rfl (fun H locs hP hD hS => ?_)
              refine lv_aload_n hx hb dX0_addRoll_52 rfl (lv_at hl 0 rfl) ?_
              refine xget (ref := "FriezeFolk$Hall") (C := RX0) (T := TX0) (N := 13) (ci := 0) (v := .ref (ga 5)) hx hb hts inX0 hown hK hP 0 rfl rfl 4 (by decide) k3 rfl rfl dX0_addRoll_53 ?_
              refine lv_aload_n hx hb dX0_addRoll_56 rfl (lv_at hl 0 rfl) ?_
              refine xget (ref := "FriezeFolk$Hall") (C := RX0) (T := TX0) (N := 13) (ci := 0) (v := .int ((sA g 3 f7).2 12)) hx hb hts inX0 hown hK hP 0 rfl rfl 12 (by decide) k1 rfl rfl dX0_addRoll_57 ?_
              refine lv_iload_n hx hb dX0_addRoll_60 rfl (lv_at hl 2 rfl) ?_
              obtain ⟨f8, q8, h10⟩ := obn h9
              clear h9
              refine xast hx hb hK hP hD hS 5 rfl q8 dX0_addRoll_61 (wn := (cH ca ga (sA (sA g 3 f7) 4 f8))) rfl (fun H locs hP hD hS => ?_)
              refine lv_aload_n hx hb dX0_addRoll_62 rfl (lv_at hl 0 rfl) ?_
              refine lv_dup hx hb dX0_addRoll_63 rfl ?_
              refine xget (ref := "FriezeFolk$Hall") (C := RX0) (T := TX0) (N := 13) (ci := 0) (v := .int ((sA (sA g 3 f7) 4 f8).2 12)) hx hb hts inX0 hown hK hP 0 rfl rfl 12 (by decide) k1 rfl rfl dX0_addRoll_64 ?_
              refine lv_iconst (v := (1 : Int32)) hx hb dX0_addRoll_67 (by decide) ?_
              refine lv_iadd hx hb dX0_addRoll_68 ?_
              refine xput (ref := "FriezeFolk$Hall") (C := RX0) (T := TX0) (N := 13) (ci := 0) (v := .int (((sA (sA g 3 f7) 4 f8).2 12) + (1 : Int32))) (ty := .int) hx hb hts inX0 tyX0 tyX0_ok nmX0 hown hK hP hD hS 0 rfl rfl 12 (by decide) k1 rfl rfl (by decide +kernel) rfl rfl (Nat.le_of_ble_eq_true rfl) dX0_addRoll_69 (wn := (cH ca ga (sI (sA (sA g 3 f7) 4 f8) 12 (((sA (sA g 3 f7) 4 f8).2 12) + (1 : Int32))))) rfl (fun H locs hP hD hS => ?_)
              refine lv_aload_n hx hb dX0_addRoll_72 rfl (lv_at hl 0 rfl) ?_
              refine xget (ref := "FriezeFolk$Hall") (C := RX0) (T := TX0) (N := 13) (ci := 0) (v := .int ((sI (sA (sA g 3 f7) 4 f8) 12 (((sA (sA g 3 f7) 4 f8).2 12) + (1 : Int32))).2 12)) hx hb hts inX0 hown hK hP 0 rfl rfl 12 (by decide) k1 rfl rfl dX0_addRoll_73 ?_
              obtain rfl := Option.some.inj h10
              exact hret _ _ _ _ (vp_nar_int _) hP hD hS dX0_addRoll_76
            · skip
              replace hm := (if_neg c6).symm.trans hm
              refine lv_bipush (v := (-3 : Int32)) hx hb dX0_addRoll_39 (by decide) ?_
              obtain rfl := Option.some.inj hm
              exact hret _ _ _ _ (vp_nar_int _) hP hD hS dX0_addRoll_41
        · skip
          replace hm := (if_neg c4).symm.trans hm
          refine lv_iconst (v := (-1 : Int32)) hx hb dX0_addRoll_22 (by decide) ?_
          obtain rfl := Option.some.inj hm
          exact hret _ _ _ _ (vp_nar_int _) hP hD hS dX0_addRoll_23

def mX0_exchange (g : GS) (i : Int32) (j : Int32) : Option (GS) :=
  Option.bind (mX0_hasBlock g i) fun v1 =>
  if v1 = 0 then
    some g
  else
    Option.bind (mX0_hasBlock g j) fun v3 =>
    if v3 = 0 then
      some g
    else
      Option.bind (ald 6 (g.1 0) i) fun v5 =>
      Option.bind (ald 6 (g.1 1) i) fun v6 =>
      Option.bind (ald 6 (g.1 0) j) fun v7 =>
      Option.bind (ast 6 (g.1 0) i v7) fun f8 =>
      Option.bind (ald 6 ((sA g 0 f8).1 1) j) fun v9 =>
      Option.bind (ast 6 ((sA g 0 f8).1 1) i v9) fun f10 =>
      Option.bind (ast 6 ((sA (sA g 0 f8) 1 f10).1 0) j v5) fun f11 =>
      Option.bind (ast 6 ((sA (sA (sA g 0 f8) 1 f10) 0 f11).1 1) j v6) fun f12 =>
      some (sA (sA (sA (sA g 0 f8) 1 f10) 0 f11) 1 f12)
abbrev rmX0_exchange : Room := { frames := 1, cells := 0, slots := 0, locals := 21 }
set_option maxHeartbeats 4000000 in
set_option maxRecDepth 100000 in
theorem k_X0_exchange (l : Launch) (D : va_G) (ca : Nat → ClassId) (ga : Nat → Nat) (g : GS) (i : Int32) (j : Int32) (o : GS) (hm : mX0_exchange g i j = some o) : KV l yX0_exchange wsX0_exchange rmX0_exchange D ca [.ref (ga 0), .int i, .int j] (cH ca ga g) (cH ca ga o) := by
  refine KV.of (cc := cX0_exchange) (n := 5) (plainFor_of_name (by decide)) rfl (Nat.le_of_ble_eq_true rfl) ?_
  intro p e s m below meth c A Z hx hb hml hts hown hA hK hP hD hS hret ls hl
  have hown : s.vm.findClass RX0 = some m.cls := hown
  have hl : lv_has ls 5 [(0, .ref (ga 0)), (1, .int i), (2, .int j)] := hl
  have inX0 : ∀ w ∈ wsX00, w ∈ wsX0_exchange := by decide +kernel
  have k1 := hts (.fieldLink RX0 9 "FriezeFolk$Hall" "kind" "[I") (by decide +kernel)
  have k2 := hts (.fieldLink RX0 15 "FriezeFolk$Hall" "warmth" "[I") (by decide +kernel)
  unfold mX0_exchange at hm
  refine lv_aload_n hx hb dX0_exchange_0 rfl (lv_at hl 0 rfl) ?_
  refine lv_iload_n hx hb dX0_exchange_1 rfl (lv_at hl 1 rfl) ?_
  obtain ⟨v1, q1, h13⟩ := obn hm
  clear hm
  refine xVi (As := [.int i]) (ci := 0) ⟨hx, hb, hml, hown, hts⟩ (k_X0_hasBlock l D ca ga g i _ q1) (cwV 1 hts gX0_exchange_X0_hasBlock rfl rfl rfl (by decide +kernel) ⟨Nat.le_of_ble_eq_true rfl, Nat.le_of_ble_eq_true rfl⟩) hK hA hP hD hS dX0_exchange_2 rfl hl.1 [0, 1, 2, 3, 4, 5] [] [0, 1, 2, 3, 4, 5] rfl rfl (wr := []) rfl rfl (by decide) (wn := (cH ca ga g)) rfl rfl rfl rfl rfl rfl (Nat.le_of_ble_eq_true rfl) (fun H locs hP hD hS => ?_)
  refine lv_if_eq (tgt := 16) hx hb dX0_exchange_5 (by decide) (fun c2 => ?_) (fun c2 => ?_)
  · skip
    replace h13 := (if_pos c2).symm.trans h13
    obtain rfl := Option.some.inj h13
    exact hret _ _ _ _ hP hD hS dX0_exchange_16
  · skip
    replace h13 := (if_neg c2).symm.trans h13
    refine lv_aload_n hx hb dX0_exchange_8 rfl (lv_at hl 0 rfl) ?_
    refine lv_iload_n hx hb dX0_exchange_9 rfl (lv_at hl 2 rfl) ?_
    obtain ⟨v3, q3, h14⟩ := obn h13
    clear h13
    refine xVi (As := [.int j]) (ci := 0) ⟨hx, hb, hml, hown, hts⟩ (k_X0_hasBlock l D ca ga g j _ q3) (cwV 1 hts gX0_exchange_X0_hasBlock rfl rfl rfl (by decide +kernel) ⟨Nat.le_of_ble_eq_true rfl, Nat.le_of_ble_eq_true rfl⟩) hK hA hP hD hS dX0_exchange_10 rfl hl.1 [0, 1, 2, 3, 4, 5] [] [0, 1, 2, 3, 4, 5] rfl rfl (wr := []) rfl rfl (by decide) (wn := (cH ca ga g)) rfl rfl rfl rfl rfl rfl (Nat.le_of_ble_eq_true rfl) (fun H locs hP hD hS => ?_)
    refine lv_if_ne (tgt := 17) hx hb dX0_exchange_13 (by decide) (fun c4 => ?_) (fun c4 => ?_)
    · skip
      replace h14 := (if_neg c4).symm.trans h14
      refine lv_aload_n hx hb dX0_exchange_17 rfl (lv_at hl 0 rfl) ?_
      refine xget (ref := "FriezeFolk$Hall") (C := RX0) (T := TX0) (N := 13) (ci := 0) (v := .ref (ga 1)) hx hb hts inX0 hown hK hP 0 rfl rfl 0 (by decide) k1 rfl rfl dX0_exchange_18 ?_
      refine lv_iload_n hx hb dX0_exchange_21 rfl (lv_at hl 1 rfl) ?_
      obtain ⟨v5, q5, h15⟩ := obn h14
      clear h14
      refine xald hx hb hK hP 1 rfl q5 dX0_exchange_22 ?_
      refine lv_istore_n (lv' := [(3, .int v5), (0, .ref (ga 0)), (1, .int i), (2, .int j)]) hx hb dX0_exchange_23 rfl hl (by decide) rfl (fun ls hl => ?_)
      refine lv_aload_n hx hb dX0_exchange_24 rfl (lv_at hl 1 rfl) ?_
      refine xget (ref := "FriezeFolk$Hall") (C := RX0) (T := TX0) (N := 13) (ci := 0) (v := .ref (ga 2)) hx hb hts inX0 hown hK hP 0 rfl rfl 1 (by decide) k2 rfl rfl dX0_exchange_25 ?_
      refine lv_iload_n hx hb dX0_exchange_28 rfl (lv_at hl 2 rfl) ?_
      obtain ⟨v6, q6, h16⟩ := obn h15
      clear h15
      refine xald hx hb hK hP 2 rfl q6 dX0_exchange_29 ?_
      refine lv_istore (lv' := [(4, .int v6), (3, .int v5), (0, .ref (ga 0)), (1, .int i), (2, .int j)]) hx hb dX0_exchange_30 hl (by decide) rfl (fun ls hl => ?_)
      refine lv_aload_n hx hb dX0_exchange_32 rfl (lv_at hl 2 rfl) ?_
      refine xget (ref := "FriezeFolk$Hall") (C := RX0) (T := TX0) (N := 13) (ci := 0) (v := .ref (ga 1)) hx hb hts inX0 hown hK hP 0 rfl rfl 0 (by decide) k1 rfl rfl dX0_exchange_33 ?_
      refine lv_iload_n hx hb dX0_exchange_36 rfl (lv_at hl 3 rfl) ?_
      refine lv_aload_n hx hb dX0_exchange_37 rfl (lv_at hl 2 rfl) ?_
      refine xget (ref := "FriezeFolk$Hall") (C := RX0) (T := TX0) (N := 13) (ci := 0) (v := .ref (ga 1)) hx hb hts inX0 hown hK hP 0 rfl rfl 0 (by decide) k1 rfl rfl dX0_exchange_38 ?_
      refine lv_iload_n hx hb dX0_exchange_41 rfl (lv_at hl 4 rfl) ?_
      obtain ⟨v7, q7, h17⟩ := obn h16
      clear h16
      refine xald hx hb hK hP 1 rfl q7 dX0_exchange_42 ?_
      obtain ⟨f8, q8, h18⟩ := obn h17
      clear h17
      refine xast hx hb hK hP hD hS 1 rfl q8 dX0_exchange_43 (wn := (cH ca ga (sA g 0 f8))) rfl (fun H locs hP hD hS => ?_)
      refine lv_aload_n hx hb dX0_exchange_44 rfl (lv_at hl 2 rfl) ?_
      refine xget (ref := "FriezeFolk$Hall") (C := RX0) (T := TX0) (N := 13) (ci := 0) (v := .ref (ga 2)) hx hb hts inX0 hown hK hP 0 rfl rfl 1 (by decide) k2 rfl rfl dX0_exchange_45 ?_
      refine lv_iload_n hx hb dX0_exchange_48 rfl (lv_at hl 3 rfl) ?_
      refine lv_aload_n hx hb dX0_exchange_49 rfl (lv_at hl 2 rfl) ?_
      refine xget (ref := "FriezeFolk$Hall") (C := RX0) (T := TX0) (N := 13) (ci := 0) (v := .ref (ga 2)) hx hb hts inX0 hown hK hP 0 rfl rfl 1 (by decide) k2 rfl rfl dX0_exchange_50 ?_
      refine lv_iload_n hx hb dX0_exchange_53 rfl (lv_at hl 4 rfl) ?_
      obtain ⟨v9, q9, h19⟩ := obn h18
      clear h18
      refine xald hx hb hK hP 2 rfl q9 dX0_exchange_54 ?_
      obtain ⟨f10, q10, h20⟩ := obn h19
      clear h19
      refine xast hx hb hK hP hD hS 2 rfl q10 dX0_exchange_55 (wn := (cH ca ga (sA (sA g 0 f8) 1 f10))) rfl (fun H locs hP hD hS => ?_)
      refine lv_aload_n hx hb dX0_exchange_56 rfl (lv_at hl 2 rfl) ?_
      refine xget (ref := "FriezeFolk$Hall") (C := RX0) (T := TX0) (N := 13) (ci := 0) (v := .ref (ga 1)) hx hb hts inX0 hown hK hP 0 rfl rfl 0 (by decide) k1 rfl rfl dX0_exchange_57 ?_
      refine lv_iload_n hx hb dX0_exchange_60 rfl (lv_at hl 4 rfl) ?_
      refine lv_iload_n hx hb dX0_exchange_61 rfl (lv_at hl 1 rfl) ?_
      obtain ⟨f11, q11, h21⟩ := obn h20
      clear h20
      refine xast hx hb hK hP hD hS 1 rfl q11 dX0_exchange_62 (wn := (cH ca ga (sA (sA (sA g 0 f8) 1 f10) 0 f11))) rfl (fun H locs hP hD hS => ?_)
      refine lv_aload_n hx hb dX0_exchange_63 rfl (lv_at hl 2 rfl) ?_
      refine xget (ref := "FriezeFolk$Hall") (C := RX0) (T := TX0) (N := 13) (ci := 0) (v := .ref (ga 2)) hx hb hts inX0 hown hK hP 0 rfl rfl 1 (by decide) k2 rfl rfl dX0_exchange_64 ?_
      refine lv_iload_n hx hb dX0_exchange_67 rfl (lv_at hl 4 rfl) ?_
      refine lv_iload hx hb dX0_exchange_68 (lv_at hl 0 rfl) ?_
      obtain ⟨f12, q12, h22⟩ := obn h21
      clear h21
      refine xast hx hb hK hP hD hS 2 rfl q12 dX0_exchange_70 (wn := (cH ca ga (sA (sA (sA (sA g 0 f8) 1 f10) 0 f11) 1 f12))) rfl (fun H locs hP hD hS => ?_)
      obtain rfl := Option.some.inj h22
      exact hret _ _ _ _ hP hD hS dX0_exchange_71
    · skip
      replace h14 := (if_pos c4).symm.trans h14
      obtain rfl := Option.some.inj h14
      exact hret _ _ _ _ hP hD hS dX0_exchange_16
def mX0_pass_l2 (n : Int32) (s8 : Int32 × GS) : Option ((Int32 × GS) ⊕ (Int32 × GS)) :=
  if (s8.2.2 6) ≤ s8.1 then
    some (.inr (s8.1, s8.2))
  else
    if (12 : Int32) ≤ s8.1 then
      some (.inr (s8.1, s8.2))
    else
      Option.bind (
        if (s8.2.2 9) < (if 0 ≤ (s8.1 - (s8.2.2 8)) then (s8.1 - (s8.2.2 8)) else 0 - (s8.1 - (s8.2.2 8))) then
          some s8.2
        else
          Option.bind (ald 12 (s8.2.1 2) s8.1) fun v12 =>
          Option.bind (ast 12 (s8.2.1 2) s8.1 (if (v12 + n) < (99 : Int32) then (v12 + n) else (99 : Int32))) fun f13 =>
          some (sA s8.2 2 f13)) fun (v14 : GS) =>
      some (.inl ((s8.1 + (1 : Int32)), v14))

def mX0_pass (g : GS) (n : Int32) : Option (GS) :=
  Option.bind (whO (mX0_pass_l2 n) FU ((0 : Int32), g)) fun e15 =>
  some (sI e15.2 11 ((e15.2.2 11) + n))
abbrev rmX0_pass : Room := { frames := 1, cells := 0, slots := 0, locals := 21 }
set_option maxHeartbeats 4000000 in
set_option maxRecDepth 100000 in
theorem k_X0_pass (l : Launch) (D : va_G) (ca : Nat → ClassId) (ga : Nat → Nat) (g : GS) (n : Int32) (o : GS) (hm : mX0_pass g n = some o) : KV l yX0_pass wsX0_pass rmX0_pass D ca [.ref (ga 0), .int n] (cH ca ga g) (cH ca ga o) := by
  refine KV.of (cc := cX0_pass) (n := 3) (plainFor_of_name (by decide)) rfl (Nat.le_of_ble_eq_true rfl) ?_
  intro p e s m below meth c A Z hx hb hml hts hown hA hK hP hD hS hret ls hl
  have hown : s.vm.findClass RX0 = some m.cls := hown
  have hl : lv_has ls 3 [(0, .ref (ga 0)), (1, .int n)] := hl
  have inX0 : ∀ w ∈ wsX00, w ∈ wsX0_pass := by decide +kernel
  have k1 := hts (.fieldLink RX0 34 "FriezeFolk$Hall" "wide" "I") (by decide +kernel)
  have k2 := hts (.fieldLink RX0 40 "FriezeFolk$Hall" "window" "I") (by decide +kernel)
  have k3 := hts (.methodLink RX0 71 Lib.Math.abs.name) (by decide +kernel)
  have k4 := hts (.static Lib.Math.abs.name) (by decide +kernel)
  have k5 := hts (.initialized "java/lang/Math") (by decide +kernel)
  have k6 := hts (.code Lib.Math.abs.name Lib.Math.abs.code 1 (some .int)) (by decide +kernel)
  have k7 := hts (.fieldLink RX0 43 "FriezeFolk$Hall" "reach" "I") (by decide +kernel)
  have k8 := hts (.fieldLink RX0 18 "FriezeFolk$Hall" "fade" "[I") (by decide +kernel)
  have k9 := hts (.methodLink RX0 77 Lib.Math.min.name) (by decide +kernel)
  have k10 := hts (.static Lib.Math.min.name) (by decide +kernel)
  have k11 := hts (.code Lib.Math.min.name Lib.Math.min.code 2 (some .int)) (by decide +kernel)
  have k12 := hts (.fieldLink RX0 49 "FriezeFolk$Hall" "year" "I") (by decide +kernel)
  unfold mX0_pass at hm
  refine lv_iconst (v := (0 : Int32)) hx hb dX0_pass_0 (by decide) ?_
  refine lv_istore_n (lv' := [(2, .int (0 : Int32)), (0, .ref (ga 0)), (1, .int n)]) hx hb dX0_pass_1 rfl hl (by decide) rfl (fun ls hl => ?_)
  obtain ⟨e15, w16, h17⟩ := obn hm
  clear hm
  have AF15 : ∀ (ls : Array Slot) (H : Heap) (locs : List Loc), lv_has ls 3 [(0, .ref (ga 0)), (1, .int n)] → va_P D vwCl (cH ca ga e15.2) H → va_D A (cH ca ga e15.2) → va_S A s.heap H locs → W p l e rmX0_pass s m ([.ref (ga 0), .int n] : List Value).toArray below meth c H locs 0 0 Z (F0 m 57 ls []) := by
    intro ls H locs hl hP hD hS
    refine lv_aload_n hx hb dX0_pass_57 rfl (lv_at hl 0 rfl) ?_
    refine lv_dup hx hb dX0_pass_58 rfl ?_
    refine xget (ref := "FriezeFolk$Hall") (C := RX0) (T := TX0) (N := 13) (ci := 0) (v := .int (e15.2.2 11)) hx hb hts inX0 hown hK hP 0 rfl rfl 11 (by decide) k12 rfl rfl dX0_pass_59 ?_
    refine lv_iload_n hx hb dX0_pass_62 rfl (lv_at hl 1 rfl) ?_
    refine lv_iadd hx hb dX0_pass_63 ?_
    refine xput (ref := "FriezeFolk$Hall") (C := RX0) (T := TX0) (N := 13) (ci := 0) (v := .int ((e15.2.2 11) + n)) (ty := .int) hx hb hts inX0 tyX0 tyX0_ok nmX0 hown hK hP hD hS 0 rfl rfl 11 (by decide) k12 rfl rfl (by decide +kernel) rfl rfl (Nat.le_of_ble_eq_true rfl) dX0_pass_64 (wn := (cH ca ga (sI e15.2 11 ((e15.2.2 11) + n)))) rfl (fun H locs hP hD hS => ?_)
    obtain rfl := Option.some.inj h17
    exact hret _ _ _ _ hP hD hS dX0_pass_67
  refine whO_walk (I := fun s8 => ∀ (ls : Array Slot) (H : Heap) (locs : List Loc), lv_has ls 3 [(0, .ref (ga 0)), (1, .int n), (2, .int s8.1)] → va_P D vwCl (cH ca ga s8.2) H → va_D A (cH ca ga s8.2) → va_S A s.heap H locs → W p l e rmX0_pass s m ([.ref (ga 0), .int n] : List Value).toArray below meth c H locs 0 0 Z (F0 m 2 ls [])) ?_ _ _ w16 _ _ _ (lv_sub hl [1, 2, 0] rfl) hP hD hS
  clear w16
  intro s8 o15 h18 hi15 ho15 ls H locs hl hP hD hS
  unfold mX0_pass_l2 at h18
  refine lv_iload_n hx hb dX0_pass_2 rfl (lv_at hl 2 rfl) ?_
  refine lv_aload_n hx hb dX0_pass_3 rfl (lv_at hl 0 rfl) ?_
  refine xget (ref := "FriezeFolk$Hall") (C := RX0) (T := TX0) (N := 13) (ci := 0) (v := .int (s8.2.2 6)) hx hb hts inX0 hown hK hP 0 rfl rfl 6 (by decide) k1 rfl rfl dX0_pass_4 ?_
  refine lv_icmp_ge (tgt := 57) hx hb dX0_pass_7 (by decide) (fun c9 => ?_) (fun c9 => ?_)
  · skip
    replace h18 := (if_pos c9).symm.trans h18
    have h19 := ho15 _ (Option.some.inj h18).symm
    subst h19
    exact AF15 _ _ _ (lv_sub hl [0, 1] rfl) hP hD hS
  · skip
    replace h18 := (if_neg c9).symm.trans h18
    refine lv_iload_n hx hb dX0_pass_10 rfl (lv_at hl 2 rfl) ?_
    refine lv_bipush (v := (12 : Int32)) hx hb dX0_pass_11 (by decide) ?_
    refine lv_icmp_ge (tgt := 57) hx hb dX0_pass_13 (by decide) (fun c10 => ?_) (fun c10 => ?_)
    · skip
      replace h18 := (if_pos c10).symm.trans h18
      have h20 := ho15 _ (Option.some.inj h18).symm
      subst h20
      exact AF15 _ _ _ (lv_sub hl [0, 1] rfl) hP hD hS
    · skip
      replace h18 := (if_neg c10).symm.trans h18
      refine lv_iload_n hx hb dX0_pass_16 rfl (lv_at hl 2 rfl) ?_
      refine lv_aload_n hx hb dX0_pass_17 rfl (lv_at hl 0 rfl) ?_
      refine xget (ref := "FriezeFolk$Hall") (C := RX0) (T := TX0) (N := 13) (ci := 0) (v := .int (s8.2.2 8)) hx hb hts inX0 hown hK hP 0 rfl rfl 8 (by decide) k2 rfl rfl dX0_pass_18 ?_
      refine lv_isub hx hb dX0_pass_21 ?_
      refine va_mabs hx hb (hml.trans hl.1.symm) hown k3 k4 k5 k6 (Nat.le_of_ble_eq_true rfl) (Nat.le_of_ble_eq_true rfl) (Nat.zero_le _) (Nat.zero_le _) dX0_pass_22 ?_
      refine lv_aload_n hx hb dX0_pass_25 rfl (lv_at hl 0 rfl) ?_
      refine xget (ref := "FriezeFolk$Hall") (C := RX0) (T := TX0) (N := 13) (ci := 0) (v := .int (s8.2.2 9)) hx hb hts inX0 hown hK hP 0 rfl rfl 9 (by decide) k7 rfl rfl dX0_pass_26 ?_
      obtain ⟨v14, q21, h22⟩ := obn h18
      clear h18
      have J14 : ∀ (ls : Array Slot) (H : Heap) (locs : List Loc), lv_has ls 3 [(0, .ref (ga 0)), (1, .int n), (2, .int s8.1)] → va_P D vwCl (cH ca ga v14) H → va_D A (cH ca ga v14) → va_S A s.heap H locs → W p l e rmX0_pass s m ([.ref (ga 0), .int n] : List Value).toArray below meth c H locs 0 0 Z (F0 m 51 ls []) := by
        intro ls H locs hl hP hD hS
        refine lv_iinc (v := (s8.1 + (1 : Int32))) (lv' := [(2, .int (s8.1 + (1 : Int32))), (0, .ref (ga 0)), (1, .int n)]) hx hb dX0_pass_51 hl (k := 2) rfl rfl (by decide) rfl (fun ls hl => ?_)
        refine lv_goto (tgt := 2) hx hb dX0_pass_54 (by decide) ?_
        exact hi15 _ (Option.some.inj h22).symm _ _ _ (lv_sub hl [1, 2, 0] rfl) hP hD hS
      refine lv_icmp_gt (tgt := 51) hx hb dX0_pass_29 (by decide) (fun c11 => ?_) (fun c11 => ?_)
      · skip
        replace q21 := (if_pos c11).symm.trans q21
        obtain rfl := Option.some.inj q21
        exact J14 _ _ _ (lv_sub hl [0, 1, 2] rfl) hP hD hS
      · skip
        replace q21 := (if_neg c11).symm.trans q21
        refine lv_aload_n hx hb dX0_pass_32 rfl (lv_at hl 0 rfl) ?_
        refine xget (ref := "FriezeFolk$Hall") (C := RX0) (T := TX0) (N := 13) (ci := 0) (v := .ref (ga 3)) hx hb hts inX0 hown hK hP 0 rfl rfl 2 (by decide) k8 rfl rfl dX0_pass_33 ?_
        refine lv_iload_n hx hb dX0_pass_36 rfl (lv_at hl 2 rfl) ?_
        refine lv_bipush (v := (99 : Int32)) hx hb dX0_pass_37 (by decide) ?_
        refine lv_aload_n hx hb dX0_pass_39 rfl (lv_at hl 0 rfl) ?_
        refine xget (ref := "FriezeFolk$Hall") (C := RX0) (T := TX0) (N := 13) (ci := 0) (v := .ref (ga 3)) hx hb hts inX0 hown hK hP 0 rfl rfl 2 (by decide) k8 rfl rfl dX0_pass_40 ?_
        refine lv_iload_n hx hb dX0_pass_43 rfl (lv_at hl 2 rfl) ?_
        obtain ⟨v12, q12, h23⟩ := obn q21
        clear q21
        refine xald hx hb hK hP 3 rfl q12 dX0_pass_44 ?_
        refine lv_iload_n hx hb dX0_pass_45 rfl (lv_at hl 1 rfl) ?_
        refine lv_iadd hx hb dX0_pass_46 ?_
        refine va_mmin hx hb (hml.trans hl.1.symm) hown k9 k10 k5 k11 (Nat.le_of_ble_eq_true rfl) (Nat.le_of_ble_eq_true rfl) (Nat.zero_le _) (Nat.zero_le _) dX0_pass_47 ?_
        obtain ⟨f13, q13, h24⟩ := obn h23
        clear h23
        refine xast hx hb hK hP hD hS 3 rfl q13 dX0_pass_50 (wn := (cH ca ga (sA s8.2 2 f13))) rfl (fun H locs hP hD hS => ?_)
        obtain rfl := Option.some.inj h24
        exact J14 _ _ _ (lv_sub hl [0, 1, 2] rfl) hP hD hS

def mX0_whoAt (g : GS) (i : Int32) : Option (Int32) :=
  if (1 : Int32) ≤ (g.2 5) then
    Option.bind (mJ9_floorMod_7cf53 (i + (g.2 7)) (g.2 5)) fun v2 =>
    some v2
  else
    some (-4 : Int32)
abbrev rmX0_whoAt : Room := { frames := 1, cells := 0, slots := 0, locals := 22 }
set_option maxHeartbeats 4000000 in
set_option maxRecDepth 100000 in
theorem k_X0_whoAt (l : Launch) (D : va_G) (ca : Nat → ClassId) (ga : Nat → Nat) (g : GS) (i : Int32) (o : Int32) (hm : mX0_whoAt g i = some o) : KI l yX0_whoAt wsX0_whoAt rmX0_whoAt D ca [.ref (ga 0), .int i] (cH ca ga g) (cH ca ga g) o := by
  refine KI.of (cc := cX0_whoAt) (n := 2) (plainFor_of_name (by decide)) rfl (Nat.le_of_ble_eq_true rfl) ?_
  intro p e s m below meth c A Z hx hb hml hts hown hA hK hP hD hS hret ls hl
  have hown : s.vm.findClass RX0 = some m.cls := hown
  have hl : lv_has ls 2 [(0, .ref (ga 0)), (1, .int i)] := hl
  have inX0 : ∀ w ∈ wsX00, w ∈ wsX0_whoAt := by decide +kernel
  have k1 := hts (.fieldLink RX0 30 "FriezeFolk$Hall" "blocks" "I") (by decide +kernel)
  have k2 := hts (.fieldLink RX0 37 "FriezeFolk$Hall" "shift" "I") (by decide +kernel)
  unfold mX0_whoAt at hm
  refine lv_aload_n hx hb dX0_whoAt_0 rfl (lv_at hl 0 rfl) ?_
  refine xget (ref := "FriezeFolk$Hall") (C := RX0) (T := TX0) (N := 13) (ci := 0) (v := .int (g.2 5)) hx hb hts inX0 hown hK hP 0 rfl rfl 5 (by decide) k1 rfl rfl dX0_whoAt_1 ?_
  refine lv_iconst (v := (1 : Int32)) hx hb dX0_whoAt_4 (by decide) ?_
  refine lv_icmp_ge (tgt := 13) hx hb dX0_whoAt_5 (by decide) (fun c1 => ?_) (fun c1 => ?_)
  · skip
    replace hm := (if_pos c1).symm.trans hm
    refine lv_iload_n hx hb dX0_whoAt_13 rfl (lv_at hl 1 rfl) ?_
    refine lv_aload_n hx hb dX0_whoAt_14 rfl (lv_at hl 0 rfl) ?_
    refine xget (ref := "FriezeFolk$Hall") (C := RX0) (T := TX0) (N := 13) (ci := 0) (v := .int (g.2 7)) hx hb hts inX0 hown hK hP 0 rfl rfl 7 (by decide) k2 rfl rfl dX0_whoAt_15 ?_
    refine lv_iadd hx hb dX0_whoAt_18 ?_
    refine lv_aload_n hx hb dX0_whoAt_19 rfl (lv_at hl 0 rfl) ?_
    refine xget (ref := "FriezeFolk$Hall") (C := RX0) (T := TX0) (N := 13) (ci := 0) (v := .int (g.2 5)) hx hb hts inX0 hown hK hP 0 rfl rfl 5 (by decide) k1 rfl rfl dX0_whoAt_20 ?_
    obtain ⟨v2, q2, h3⟩ := obn hm
    clear hm
    refine xSi (As := [.int (i + (g.2 7)), .int (g.2 5)]) ⟨hx, hb, hml, hown, hts⟩ (k_J9_floorMod_7cf53 l D ca  (i + (g.2 7)) (g.2 5) _ q2) (va_cwS 2 hts gX0_whoAt_J9_floorMod_7cf53 rfl rfl rfl (by decide +kernel) ⟨Nat.le_of_ble_eq_true rfl, Nat.le_of_ble_eq_true rfl⟩) hK hA hP hD hS dX0_whoAt_23 rfl hl.1 [] [0, 1, 2, 3, 4, 5] [0, 1, 2, 3, 4, 5] rfl rfl (wr := ((cH ca ga g))) rfl rfl (by decide) (wn := (cH ca ga g)) rfl rfl rfl (Nat.le_of_ble_eq_true rfl) (fun H locs hP hD hS => ?_)
    obtain rfl := Option.some.inj h3
    exact hret _ _ _ _ (vp_nar_int _) hP hD hS dX0_whoAt_26
  · skip
    replace hm := (if_neg c1).symm.trans hm
    refine lv_bipush (v := (-4 : Int32)) hx hb dX0_whoAt_8 (by decide) ?_
    refine lv_goto (tgt := 26) hx hb dX0_whoAt_10 (by decide) ?_
    obtain rfl := Option.some.inj hm
    exact hret _ _ _ _ (vp_nar_int _) hP hD hS dX0_whoAt_26

def mX0_frankWhenNew (g : GS) (j : Int32) (i : Int32) : Option (Int32) :=
  Option.bind (mX0_hasBlock g j) fun v1 =>
  if v1 = 0 then
    some (0 : Int32)
  else
    Option.bind (ald 6 (g.1 1) j) fun v3 =>
    Option.bind (irm i (3 : Int32)) fun v4 =>
    Option.bind (
      if v4 = (2 : Int32) then
        some (v3 + (3 : Int32))
      else
        some v3) fun (v6 : Int32) =>
    Option.bind (ald 6 (g.1 0) j) fun v7 =>
    if v7 = (0 : Int32) then
      some v3
    else
    if v7 = (1 : Int32) then
      some v6
    else
    if v7 = (2 : Int32) then
      some ((2 : Int32) * v6)
    else
    if v7 = (3 : Int32) then
      Option.bind (idv v3 (2 : Int32)) fun v12 =>
      some v12
    else
      some (0 : Int32)
abbrev rmX0_frankWhenNew : Room := { frames := 1, cells := 0, slots := 0, locals := 21 }
set_option maxHeartbeats 4000000 in
set_option maxRecDepth 100000 in
theorem k_X0_frankWhenNew (l : Launch) (D : va_G) (ca : Nat → ClassId) (ga : Nat → Nat) (g : GS) (j : Int32) (i : Int32) (o : Int32) (hm : mX0_frankWhenNew g j i = some o) : KI l yX0_frankWhenNew wsX0_frankWhenNew rmX0_frankWhenNew D ca [.ref (ga 0), .int j, .int i] (cH ca ga g) (cH ca ga g) o := by
  refine KI.of (cc := cX0_frankWhenNew) (n := 5) (plainFor_of_name (by decide)) rfl (Nat.le_of_ble_eq_true rfl) ?_
  intro p e s m below meth c A Z hx hb hml hts hown hA hK hP hD hS hret ls hl
  have hown : s.vm.findClass RX0 = some m.cls := hown
  have hl : lv_has ls 5 [(0, .ref (ga 0)), (1, .int j), (2, .int i)] := hl
  have inX0 : ∀ w ∈ wsX00, w ∈ wsX0_frankWhenNew := by decide +kernel
  have k1 := hts (.fieldLink RX0 15 "FriezeFolk$Hall" "warmth" "[I") (by decide +kernel)
  have k2 := hts (.fieldLink RX0 9 "FriezeFolk$Hall" "kind" "[I") (by decide +kernel)
  unfold mX0_frankWhenNew at hm
  refine lv_aload_n hx hb dX0_frankWhenNew_0 rfl (lv_at hl 0 rfl) ?_
  refine lv_iload_n hx hb dX0_frankWhenNew_1 rfl (lv_at hl 1 rfl) ?_
  obtain ⟨v1, q1, h13⟩ := obn hm
  clear hm
  refine xVi (As := [.int j]) (ci := 0) ⟨hx, hb, hml, hown, hts⟩ (k_X0_hasBlock l D ca ga g j _ q1) (cwV 1 hts gX0_frankWhenNew_X0_hasBlock rfl rfl rfl (by decide +kernel) ⟨Nat.le_of_ble_eq_true rfl, Nat.le_of_ble_eq_true rfl⟩) hK hA hP hD hS dX0_frankWhenNew_2 rfl hl.1 [0, 1, 2, 3, 4, 5] [] [0, 1, 2, 3, 4, 5] rfl rfl (wr := []) rfl rfl (by decide) (wn := (cH ca ga g)) rfl rfl rfl rfl rfl rfl (Nat.le_of_ble_eq_true rfl) (fun H locs hP hD hS => ?_)
  refine lv_if_ne (tgt := 10) hx hb dX0_frankWhenNew_5 (by decide) (fun c2 => ?_) (fun c2 => ?_)
  · skip
    replace h13 := (if_neg c2).symm.trans h13
    refine lv_aload_n hx hb dX0_frankWhenNew_10 rfl (lv_at hl 0 rfl) ?_
    refine xget (ref := "FriezeFolk$Hall") (C := RX0) (T := TX0) (N := 13) (ci := 0) (v := .ref (ga 2)) hx hb hts inX0 hown hK hP 0 rfl rfl 1 (by decide) k1 rfl rfl dX0_frankWhenNew_11 ?_
    refine lv_iload_n hx hb dX0_frankWhenNew_14 rfl (lv_at hl 1 rfl) ?_
    obtain ⟨v3, q3, h14⟩ := obn h13
    clear h13
    refine xald hx hb hK hP 2 rfl q3 dX0_frankWhenNew_15 ?_
    refine lv_istore_n (lv' := [(3, .int v3), (0, .ref (ga 0)), (1, .int j), (2, .int i)]) hx hb dX0_frankWhenNew_16 rfl hl (by decide) rfl (fun ls hl => ?_)
    refine lv_iload_n hx hb dX0_frankWhenNew_17 rfl (lv_at hl 3 rfl) ?_
    refine lv_iconst (v := (3 : Int32)) hx hb dX0_frankWhenNew_18 (by decide) ?_
    obtain ⟨v4, q4, h15⟩ := obn h14
    clear h14
    refine xirm hx hb q4 dX0_frankWhenNew_19 ?_
    refine lv_iconst (v := (2 : Int32)) hx hb dX0_frankWhenNew_20 (by decide) ?_
    obtain ⟨v6, q16, h17⟩ := obn h15
    clear h15
    have J6 : ∀ (ls : Array Slot) (H : Heap) (locs : List Loc), lv_has ls 5 [(0, .ref (ga 0)), (1, .int j), (3, .int v3)] → va_P D vwCl (cH ca ga g) H → va_D A (cH ca ga g) → va_S A s.heap H locs → W p l e rmX0_frankWhenNew s m ([.ref (ga 0), .int j, .int i] : List Value).toArray below meth c H locs 0 0 Z (F0 m 31 ls [.int v6]) := by
      intro ls H locs hl hP hD hS
      refine lv_istore (lv' := [(4, .int v6), (0, .ref (ga 0)), (1, .int j), (3, .int v3)]) hx hb dX0_frankWhenNew_31 hl (by decide) rfl (fun ls hl => ?_)
      refine lv_aload_n hx hb dX0_frankWhenNew_33 rfl (lv_at hl 1 rfl) ?_
      refine xget (ref := "FriezeFolk$Hall") (C := RX0) (T := TX0) (N := 13) (ci := 0) (v := .ref (ga 1)) hx hb hts inX0 hown hK hP 0 rfl rfl 0 (by decide) k2 rfl rfl dX0_frankWhenNew_34 ?_
      refine lv_iload_n hx hb dX0_frankWhenNew_37 rfl (lv_at hl 2 rfl) ?_
      obtain ⟨v7, q7, h18⟩ := obn h17
      clear h17
      refine xald hx hb hK hP 1 rfl q7 dX0_frankWhenNew_38 ?_
      by_cases c8 : v7 = (0 : Int32)
      · replace h18 := (if_pos c8).symm.trans h18
        refine lv_tableIn (tgt := 68) hx hb dX0_frankWhenNew_39 (by rw [c8]; decide) (by rw [c8]; decide) (by rw [c8] <;> rfl) (by decide) ?_
        refine lv_iload_n hx hb dX0_frankWhenNew_68 rfl (lv_at hl 3 rfl) ?_
        obtain rfl := Option.some.inj h18
        exact hret _ _ _ _ (vp_nar_int _) hP hD hS dX0_frankWhenNew_69
      replace h18 := (if_neg c8).symm.trans h18
      have ec8 : ¬ (v7).toInt = 0 := fun z => c8 (Int32.toInt_inj.mp (z.trans (by decide)))
      by_cases c9 : v7 = (1 : Int32)
      · replace h18 := (if_pos c9).symm.trans h18
        refine lv_tableIn (tgt := 70) hx hb dX0_frankWhenNew_39 (by rw [c9]; decide) (by rw [c9]; decide) (by rw [c9] <;> rfl) (by decide) ?_
        refine lv_iload hx hb dX0_frankWhenNew_70 (lv_at hl 0 rfl) ?_
        obtain rfl := Option.some.inj h18
        exact hret _ _ _ _ (vp_nar_int _) hP hD hS dX0_frankWhenNew_72
      replace h18 := (if_neg c9).symm.trans h18
      have ec9 : ¬ (v7).toInt = 1 := fun z => c9 (Int32.toInt_inj.mp (z.trans (by decide)))
      by_cases c10 : v7 = (2 : Int32)
      · replace h18 := (if_pos c10).symm.trans h18
        refine lv_tableIn (tgt := 73) hx hb dX0_frankWhenNew_39 (by rw [c10]; decide) (by rw [c10]; decide) (by rw [c10] <;> rfl) (by decide) ?_
        refine lv_iconst (v := (2 : Int32)) hx hb dX0_frankWhenNew_73 (by decide) ?_
        refine lv_iload hx hb dX0_frankWhenNew_74 (lv_at hl 0 rfl) ?_
        refine lv_imul hx hb dX0_frankWhenNew_76 ?_
        obtain rfl := Option.some.inj h18
        exact hret _ _ _ _ (vp_nar_int _) hP hD hS dX0_frankWhenNew_77
      replace h18 := (if_neg c10).symm.trans h18
      have ec10 : ¬ (v7).toInt = 2 := fun z => c10 (Int32.toInt_inj.mp (z.trans (by decide)))
      by_cases c11 : v7 = (3 : Int32)
      · replace h18 := (if_pos c11).symm.trans h18
        refine lv_tableIn (tgt := 78) hx hb dX0_frankWhenNew_39 (by rw [c11]; decide) (by rw [c11]; decide) (by rw [c11] <;> rfl) (by decide) ?_
        refine lv_iload_n hx hb dX0_frankWhenNew_78 rfl (lv_at hl 3 rfl) ?_
        refine lv_iconst (v := (2 : Int32)) hx hb dX0_frankWhenNew_79 (by decide) ?_
        obtain ⟨v12, q12, h19⟩ := obn h18
        clear h18
        refine xidv hx hb q12 dX0_frankWhenNew_80 ?_
        obtain rfl := Option.some.inj h19
        exact hret _ _ _ _ (vp_nar_int _) hP hD hS dX0_frankWhenNew_81
      replace h18 := (if_neg c11).symm.trans h18
      have ec11 : ¬ (v7).toInt = 3 := fun z => c11 (Int32.toInt_inj.mp (z.trans (by decide)))
      refine lv_tableOut (tgt := 82) hx hb dX0_frankWhenNew_39 (by omega) (by decide) ?_
      refine lv_iconst (v := (0 : Int32)) hx hb dX0_frankWhenNew_82 (by decide) ?_
      obtain rfl := Option.some.inj h18
      exact hret _ _ _ _ (vp_nar_int _) hP hD hS dX0_frankWhenNew_83
    refine lv_icmp_ne (tgt := 30) hx hb dX0_frankWhenNew_21 (by decide) (fun c5 => ?_) (fun c5 => ?_)
    · skip
      replace q16 := (if_neg c5).symm.trans q16
      refine lv_iload_n hx hb dX0_frankWhenNew_30 rfl (lv_at hl 0 rfl) ?_
      obtain rfl := Option.some.inj q16
      exact J6 _ _ _ (lv_sub hl [1, 2, 0] rfl) hP hD hS
    · skip
      replace q16 := (if_pos c5).symm.trans q16
      refine lv_iload_n hx hb dX0_frankWhenNew_24 rfl (lv_at hl 0 rfl) ?_
      refine lv_iconst (v := (3 : Int32)) hx hb dX0_frankWhenNew_25 (by decide) ?_
      refine lv_iadd hx hb dX0_frankWhenNew_26 ?_
      refine lv_goto (tgt := 31) hx hb dX0_frankWhenNew_27 (by decide) ?_
      obtain rfl := Option.some.inj q16
      exact J6 _ _ _ (lv_sub hl [1, 2, 0] rfl) hP hD hS
  · skip
    replace h13 := (if_pos c2).symm.trans h13
    refine lv_iconst (v := (0 : Int32)) hx hb dX0_frankWhenNew_8 (by decide) ?_
    obtain rfl := Option.some.inj h13
    exact hret _ _ _ _ (vp_nar_int _) hP hD hS dX0_frankWhenNew_9

def mX0_frankAt (g : GS) (i : Int32) : Option (Int32) :=
  Option.bind (mX0_hasPlace g i) fun v1 =>
  if v1 = 0 then
    some (0 : Int32)
  else
    if i = (g.2 10) then
      some (0 : Int32)
    else
      Option.bind (mX0_whoAt g i) fun v4 =>
      Option.bind (mX0_hasBlock g v4) fun v5 =>
      if v5 = 0 then
        some (0 : Int32)
      else
        Option.bind (mX0_frankWhenNew g v4 i) fun v7 =>
        Option.bind (ald 12 (g.1 2) i) fun v8 =>
        some (if (0 : Int32) < (v7 - v8) then (v7 - v8) else (0 : Int32))
abbrev rmX0_frankAt : Room := { frames := 2, cells := 0, slots := 0, locals := 45 }
set_option maxHeartbeats 4000000 in
set_option maxRecDepth 100000 in
theorem k_X0_frankAt (l : Launch) (D : va_G) (ca : Nat → ClassId) (ga : Nat → Nat) (g : GS) (i : Int32) (o : Int32) (hm : mX0_frankAt g i = some o) : KI l yX0_frankAt wsX0_frankAt rmX0_frankAt D ca [.ref (ga 0), .int i] (cH ca ga g) (cH ca ga g) o := by
  refine KI.of (cc := cX0_frankAt) (n := 3) (plainFor_of_name (by decide)) rfl (Nat.le_of_ble_eq_true rfl) ?_
  intro p e s m below meth c A Z hx hb hml hts hown hA hK hP hD hS hret ls hl
  have hown : s.vm.findClass RX0 = some m.cls := hown
  have hl : lv_has ls 3 [(0, .ref (ga 0)), (1, .int i)] := hl
  have inX0 : ∀ w ∈ wsX00, w ∈ wsX0_frankAt := by decide +kernel
  have k1 := hts (.fieldLink RX0 46 "FriezeFolk$Hall" "upside" "I") (by decide +kernel)
  have k2 := hts (.fieldLink RX0 18 "FriezeFolk$Hall" "fade" "[I") (by decide +kernel)
  have k3 := hts (.methodLink RX0 93 Lib.Math.max.name) (by decide +kernel)
  have k4 := hts (.static Lib.Math.max.name) (by decide +kernel)
  have k5 := hts (.initialized "java/lang/Math") (by decide +kernel)
  have k6 := hts (.code Lib.Math.max.name Lib.Math.max.code 2 (some .int)) (by decide +kernel)
  unfold mX0_frankAt at hm
  refine lv_aload_n hx hb dX0_frankAt_0 rfl (lv_at hl 0 rfl) ?_
  refine lv_iload_n hx hb dX0_frankAt_1 rfl (lv_at hl 1 rfl) ?_
  obtain ⟨v1, q1, h9⟩ := obn hm
  clear hm
  refine xVi (As := [.int i]) (ci := 0) ⟨hx, hb, hml, hown, hts⟩ (k_X0_hasPlace l D ca ga g i _ q1) (cwV 1 hts gX0_frankAt_X0_hasPlace rfl rfl rfl (by decide +kernel) ⟨Nat.le_of_ble_eq_true rfl, Nat.le_of_ble_eq_true rfl⟩) hK hA hP hD hS dX0_frankAt_2 rfl hl.1 [0, 1, 2, 3, 4, 5] [] [0, 1, 2, 3, 4, 5] rfl rfl (wr := []) rfl rfl (by decide) (wn := (cH ca ga g)) rfl rfl rfl rfl rfl rfl (Nat.le_of_ble_eq_true rfl) (fun H locs hP hD hS => ?_)
  refine lv_if_eq (tgt := 16) hx hb dX0_frankAt_5 (by decide) (fun c2 => ?_) (fun c2 => ?_)
  · skip
    replace h9 := (if_pos c2).symm.trans h9
    refine lv_iconst (v := (0 : Int32)) hx hb dX0_frankAt_16 (by decide) ?_
    obtain rfl := Option.some.inj h9
    exact hret _ _ _ _ (vp_nar_int _) hP hD hS dX0_frankAt_17
  · skip
    replace h9 := (if_neg c2).symm.trans h9
    refine lv_iload_n hx hb dX0_frankAt_8 rfl (lv_at hl 1 rfl) ?_
    refine lv_aload_n hx hb dX0_frankAt_9 rfl (lv_at hl 0 rfl) ?_
    refine xget (ref := "FriezeFolk$Hall") (C := RX0) (T := TX0) (N := 13) (ci := 0) (v := .int (g.2 10)) hx hb hts inX0 hown hK hP 0 rfl rfl 10 (by decide) k1 rfl rfl dX0_frankAt_10 ?_
    refine lv_icmp_ne (tgt := 18) hx hb dX0_frankAt_13 (by decide) (fun c3 => ?_) (fun c3 => ?_)
    · skip
      replace h9 := (if_neg c3).symm.trans h9
      refine lv_aload_n hx hb dX0_frankAt_18 rfl (lv_at hl 0 rfl) ?_
      refine lv_iload_n hx hb dX0_frankAt_19 rfl (lv_at hl 1 rfl) ?_
      obtain ⟨v4, q4, h10⟩ := obn h9
      clear h9
      refine xVi (As := [.int i]) (ci := 0) ⟨hx, hb, hml, hown, hts⟩ (k_X0_whoAt l D ca ga g i _ q4) (cwV 1 hts gX0_frankAt_X0_whoAt rfl rfl rfl (by decide +kernel) ⟨Nat.le_of_ble_eq_true rfl, Nat.le_of_ble_eq_true rfl⟩) hK hA hP hD hS dX0_frankAt_20 rfl hl.1 [0, 1, 2, 3, 4, 5] [] [0, 1, 2, 3, 4, 5] rfl rfl (wr := []) rfl rfl (by decide) (wn := (cH ca ga g)) rfl rfl rfl rfl rfl rfl (Nat.le_of_ble_eq_true rfl) (fun H locs hP hD hS => ?_)
      refine lv_istore_n (lv' := [(2, .int v4), (0, .ref (ga 0)), (1, .int i)]) hx hb dX0_frankAt_23 rfl hl (by decide) rfl (fun ls hl => ?_)
      refine lv_aload_n hx hb dX0_frankAt_24 rfl (lv_at hl 1 rfl) ?_
      refine lv_iload_n hx hb dX0_frankAt_25 rfl (lv_at hl 0 rfl) ?_
      obtain ⟨v5, q5, h11⟩ := obn h10
      clear h10
      refine xVi (As := [.int v4]) (ci := 0) ⟨hx, hb, hml, hown, hts⟩ (k_X0_hasBlock l D ca ga g v4 _ q5) (cwV 1 hts gX0_frankAt_X0_hasBlock rfl rfl rfl (by decide +kernel) ⟨Nat.le_of_ble_eq_true rfl, Nat.le_of_ble_eq_true rfl⟩) hK hA hP hD hS dX0_frankAt_26 rfl hl.1 [0, 1, 2, 3, 4, 5] [] [0, 1, 2, 3, 4, 5] rfl rfl (wr := []) rfl rfl (by decide) (wn := (cH ca ga g)) rfl rfl rfl rfl rfl rfl (Nat.le_of_ble_eq_true rfl) (fun H locs hP hD hS => ?_)
      refine lv_if_eq (tgt := 52) hx hb dX0_frankAt_29 (by decide) (fun c6 => ?_) (fun c6 => ?_)
      · skip
        replace h11 := (if_pos c6).symm.trans h11
        refine lv_iconst (v := (0 : Int32)) hx hb dX0_frankAt_52 (by decide) ?_
        obtain rfl := Option.some.inj h11
        exact hret _ _ _ _ (vp_nar_int _) hP hD hS dX0_frankAt_53
      · skip
        replace h11 := (if_neg c6).symm.trans h11
        refine lv_iconst (v := (0 : Int32)) hx hb dX0_frankAt_32 (by decide) ?_
        refine lv_aload_n hx hb dX0_frankAt_33 rfl (lv_at hl 1 rfl) ?_
        refine lv_iload_n hx hb dX0_frankAt_34 rfl (lv_at hl 0 rfl) ?_
        refine lv_iload_n hx hb dX0_frankAt_35 rfl (lv_at hl 2 rfl) ?_
        obtain ⟨v7, q7, h12⟩ := obn h11
        clear h11
        refine xVi (As := [.int v4, .int i]) (ci := 0) ⟨hx, hb, hml, hown, hts⟩ (k_X0_frankWhenNew l D ca ga g v4 i _ q7) (cwV 2 hts gX0_frankAt_X0_frankWhenNew rfl rfl rfl (by decide +kernel) ⟨Nat.le_of_ble_eq_true rfl, Nat.le_of_ble_eq_true rfl⟩) hK hA hP hD hS dX0_frankAt_36 rfl hl.1 [0, 1, 2, 3, 4, 5] [] [0, 1, 2, 3, 4, 5] rfl rfl (wr := []) rfl rfl (by decide) (wn := (cH ca ga g)) rfl rfl rfl rfl rfl rfl (Nat.le_of_ble_eq_true rfl) (fun H locs hP hD hS => ?_)
        refine lv_aload_n hx hb dX0_frankAt_39 rfl (lv_at hl 1 rfl) ?_
        refine xget (ref := "FriezeFolk$Hall") (C := RX0) (T := TX0) (N := 13) (ci := 0) (v := .ref (ga 3)) hx hb hts inX0 hown hK hP 0 rfl rfl 2 (by decide) k2 rfl rfl dX0_frankAt_40 ?_
        refine lv_iload_n hx hb dX0_frankAt_43 rfl (lv_at hl 2 rfl) ?_
        obtain ⟨v8, q8, h13⟩ := obn h12
        clear h12
        refine xald hx hb hK hP 3 rfl q8 dX0_frankAt_44 ?_
        refine lv_isub hx hb dX0_frankAt_45 ?_
        refine va_mmax hx hb (hml.trans hl.1.symm) hown k3 k4 k5 k6 (Nat.le_of_ble_eq_true rfl) (Nat.le_of_ble_eq_true rfl) (Nat.zero_le _) (Nat.zero_le _) dX0_frankAt_46 ?_
        refine lv_goto (tgt := 53) hx hb dX0_frankAt_49 (by decide) ?_
        obtain rfl := Option.some.inj h13
        exact hret _ _ _ _ (vp_nar_int _) hP hD hS dX0_frankAt_53
    · skip
      replace h9 := (if_pos c3).symm.trans h9
      refine lv_iconst (v := (0 : Int32)) hx hb dX0_frankAt_16 (by decide) ?_
      obtain rfl := Option.some.inj h9
      exact hret _ _ _ _ (vp_nar_int _) hP hD hS dX0_frankAt_17
def mX0_frankFrom_l5 (g : GS) (i : Int32) (n : Int32) (s1 : Int32 × Int32) : Option ((Int32 × Int32) ⊕ (Int32 × Int32)) :=
  if (12 : Int32) ≤ s1.2 then
    some (.inr (s1.1, s1.2))
  else
    Option.bind (
      if s1.2 < i then
        some s1.1
      else
        if (i + n) ≤ s1.2 then
          some s1.1
        else
          Option.bind (mX0_frankAt g s1.2) fun v5 =>
          some (s1.1 + v5)) fun (v6 : Int32) =>
    some (.inl (v6, (s1.2 + (1 : Int32))))

def mX0_frankFrom (g : GS) (i : Int32) (n : Int32) : Option (Int32) :=
  Option.bind (whO (mX0_frankFrom_l5 g i n) FU ((0 : Int32), (0 : Int32))) fun e7 =>
  some e7.1
abbrev rmX0_frankFrom : Room := { frames := 3, cells := 0, slots := 0, locals := 67 }
set_option maxHeartbeats 4000000 in
set_option maxRecDepth 100000 in
theorem k_X0_frankFrom (l : Launch) (D : va_G) (ca : Nat → ClassId) (ga : Nat → Nat) (g : GS) (i : Int32) (n : Int32) (o : Int32) (hm : mX0_frankFrom g i n = some o) : KI l yX0_frankFrom wsX0_frankFrom rmX0_frankFrom D ca [.ref (ga 0), .int i, .int n] (cH ca ga g) (cH ca ga g) o := by
  refine KI.of (cc := cX0_frankFrom) (n := 5) (plainFor_of_name (by decide)) rfl (Nat.le_of_ble_eq_true rfl) ?_
  intro p e s m below meth c A Z hx hb hml hts hown hA hK hP hD hS hret ls hl
  have hown : s.vm.findClass RX0 = some m.cls := hown
  have hl : lv_has ls 5 [(0, .ref (ga 0)), (1, .int i), (2, .int n)] := hl
  unfold mX0_frankFrom at hm
  refine lv_iconst (v := (0 : Int32)) hx hb dX0_frankFrom_0 (by decide) ?_
  refine lv_istore_n (lv' := [(3, .int (0 : Int32)), (0, .ref (ga 0)), (1, .int i), (2, .int n)]) hx hb dX0_frankFrom_1 rfl hl (by decide) rfl (fun ls hl => ?_)
  refine lv_iconst (v := (0 : Int32)) hx hb dX0_frankFrom_2 (by decide) ?_
  refine lv_istore (lv' := [(4, .int (0 : Int32)), (3, .int (0 : Int32)), (0, .ref (ga 0)), (1, .int i), (2, .int n)]) hx hb dX0_frankFrom_3 hl (by decide) rfl (fun ls hl => ?_)
  obtain ⟨e7, w8, h9⟩ := obn hm
  clear hm
  have AF7 : ∀ (ls : Array Slot) (H : Heap) (locs : List Loc), lv_has ls 5 [(3, .int e7.1)] → va_P D vwCl (cH ca ga g) H → va_D A (cH ca ga g) → va_S A s.heap H locs → W p l e rmX0_frankFrom s m ([.ref (ga 0), .int i, .int n] : List Value).toArray below meth c H locs 0 0 Z (F0 m 41 ls []) := by
    intro ls H locs hl hP hD hS
    refine lv_iload_n hx hb dX0_frankFrom_41 rfl (lv_at hl 0 rfl) ?_
    obtain rfl := Option.some.inj h9
    exact hret _ _ _ _ (vp_nar_int _) hP hD hS dX0_frankFrom_42
  refine whO_walk (I := fun s1 => ∀ (ls : Array Slot) (H : Heap) (locs : List Loc), lv_has ls 5 [(0, .ref (ga 0)), (1, .int i), (2, .int n), (3, .int s1.1), (4, .int s1.2)] → va_P D vwCl (cH ca ga g) H → va_D A (cH ca ga g) → va_S A s.heap H locs → W p l e rmX0_frankFrom s m ([.ref (ga 0), .int i, .int n] : List Value).toArray below meth c H locs 0 0 Z (F0 m 5 ls [])) ?_ _ _ w8 _ _ _ (lv_sub hl [2, 3, 4, 1, 0] rfl) hP hD hS
  clear w8
  intro s1 o7 h10 hi7 ho7 ls H locs hl hP hD hS
  unfold mX0_frankFrom_l5 at h10
  refine lv_iload hx hb dX0_frankFrom_5 (lv_at hl 4 rfl) ?_
  refine lv_bipush (v := (12 : Int32)) hx hb dX0_frankFrom_7 (by decide) ?_
  refine lv_icmp_ge (tgt := 41) hx hb dX0_frankFrom_9 (by decide) (fun c2 => ?_) (fun c2 => ?_)
  · skip
    replace h10 := (if_pos c2).symm.trans h10
    have h11 := ho7 _ (Option.some.inj h10).symm
    subst h11
    exact AF7 _ _ _ (lv_sub hl [3] rfl) hP hD hS
  · skip
    replace h10 := (if_neg c2).symm.trans h10
    refine lv_iload hx hb dX0_frankFrom_12 (lv_at hl 4 rfl) ?_
    refine lv_iload_n hx hb dX0_frankFrom_14 rfl (lv_at hl 1 rfl) ?_
    obtain ⟨v6, q12, h13⟩ := obn h10
    clear h10
    have J6 : ∀ (ls : Array Slot) (H : Heap) (locs : List Loc), lv_has ls 5 [(0, .ref (ga 0)), (1, .int i), (2, .int n), (3, .int v6), (4, .int s1.2)] → va_P D vwCl (cH ca ga g) H → va_D A (cH ca ga g) → va_S A s.heap H locs → W p l e rmX0_frankFrom s m ([.ref (ga 0), .int i, .int n] : List Value).toArray below meth c H locs 0 0 Z (F0 m 35 ls []) := by
      intro ls H locs hl hP hD hS
      refine lv_iinc (v := (s1.2 + (1 : Int32))) (lv' := [(4, .int (s1.2 + (1 : Int32))), (0, .ref (ga 0)), (1, .int i), (2, .int n), (3, .int v6)]) hx hb dX0_frankFrom_35 hl (k := 4) rfl rfl (by decide) rfl (fun ls hl => ?_)
      refine lv_goto (tgt := 5) hx hb dX0_frankFrom_38 (by decide) ?_
      exact hi7 _ (Option.some.inj h13).symm _ _ _ (lv_sub hl [1, 2, 3, 4, 0] rfl) hP hD hS
    refine lv_icmp_lt (tgt := 35) hx hb dX0_frankFrom_15 (by decide) (fun c3 => ?_) (fun c3 => ?_)
    · skip
      replace q12 := (if_pos c3).symm.trans q12
      obtain rfl := Option.some.inj q12
      exact J6 _ _ _ (lv_sub hl [0, 1, 2, 3, 4] rfl) hP hD hS
    · skip
      replace q12 := (if_neg c3).symm.trans q12
      refine lv_iload hx hb dX0_frankFrom_18 (lv_at hl 4 rfl) ?_
      refine lv_iload_n hx hb dX0_frankFrom_20 rfl (lv_at hl 1 rfl) ?_
      refine lv_iload_n hx hb dX0_frankFrom_21 rfl (lv_at hl 2 rfl) ?_
      refine lv_iadd hx hb dX0_frankFrom_22 ?_
      refine lv_icmp_ge (tgt := 35) hx hb dX0_frankFrom_23 (by decide) (fun c4 => ?_) (fun c4 => ?_)
      · skip
        replace q12 := (if_pos c4).symm.trans q12
        obtain rfl := Option.some.inj q12
        exact J6 _ _ _ (lv_sub hl [0, 1, 2, 3, 4] rfl) hP hD hS
      · skip
        replace q12 := (if_neg c4).symm.trans q12
        refine lv_iload_n hx hb dX0_frankFrom_26 rfl (lv_at hl 3 rfl) ?_
        refine lv_aload_n hx hb dX0_frankFrom_27 rfl (lv_at hl 0 rfl) ?_
        refine lv_iload hx hb dX0_frankFrom_28 (lv_at hl 4 rfl) ?_
        obtain ⟨v5, q5, h14⟩ := obn q12
        clear q12
        refine xVi (As := [.int s1.2]) (ci := 0) ⟨hx, hb, hml, hown, hts⟩ (k_X0_frankAt l D ca ga g s1.2 _ q5) (cwV 1 hts gX0_frankFrom_X0_frankAt rfl rfl rfl (by decide +kernel) ⟨Nat.le_of_ble_eq_true rfl, Nat.le_of_ble_eq_true rfl⟩) hK hA hP hD hS dX0_frankFrom_30 rfl hl.1 [0, 1, 2, 3, 4, 5] [] [0, 1, 2, 3, 4, 5] rfl rfl (wr := []) rfl rfl (by decide) (wn := (cH ca ga g)) rfl rfl rfl rfl rfl rfl (Nat.le_of_ble_eq_true rfl) (fun H locs hP hD hS => ?_)
        refine lv_iadd hx hb dX0_frankFrom_33 ?_
        refine lv_istore_n (lv' := [(3, .int (s1.1 + v5)), (0, .ref (ga 0)), (1, .int i), (2, .int n), (4, .int s1.2)]) hx hb dX0_frankFrom_34 rfl hl (by decide) rfl (fun ls hl => ?_)
        obtain rfl := Option.some.inj h14
        exact J6 _ _ _ (lv_sub hl [1, 2, 3, 0, 4] rfl) hP hD hS

def mX0_frankOfAll (g : GS) : Option (Int32) :=
  Option.bind (mX0_frankFrom g (0 : Int32) (g.2 6)) fun v1 =>
  some v1
abbrev rmX0_frankOfAll : Room := { frames := 4, cells := 0, slots := 0, locals := 91 }
set_option maxHeartbeats 4000000 in
set_option maxRecDepth 100000 in
theorem k_X0_frankOfAll (l : Launch) (D : va_G) (ca : Nat → ClassId) (ga : Nat → Nat) (g : GS) (o : Int32) (hm : mX0_frankOfAll g = some o) : KI l yX0_frankOfAll wsX0_frankOfAll rmX0_frankOfAll D ca [.ref (ga 0)] (cH ca ga g) (cH ca ga g) o := by
  refine KI.of (cc := cX0_frankOfAll) (n := 1) (plainFor_of_name (by decide)) rfl (Nat.le_of_ble_eq_true rfl) ?_
  intro p e s m below meth c A Z hx hb hml hts hown hA hK hP hD hS hret ls hl
  have hown : s.vm.findClass RX0 = some m.cls := hown
  have hl : lv_has ls 1 [(0, .ref (ga 0))] := hl
  have inX0 : ∀ w ∈ wsX00, w ∈ wsX0_frankOfAll := by decide +kernel
  have k1 := hts (.fieldLink RX0 34 "FriezeFolk$Hall" "wide" "I") (by decide +kernel)
  unfold mX0_frankOfAll at hm
  refine lv_aload_n hx hb dX0_frankOfAll_0 rfl (lv_at hl 0 rfl) ?_
  refine lv_iconst (v := (0 : Int32)) hx hb dX0_frankOfAll_1 (by decide) ?_
  refine lv_aload_n hx hb dX0_frankOfAll_2 rfl (lv_at hl 0 rfl) ?_
  refine xget (ref := "FriezeFolk$Hall") (C := RX0) (T := TX0) (N := 13) (ci := 0) (v := .int (g.2 6)) hx hb hts inX0 hown hK hP 0 rfl rfl 6 (by decide) k1 rfl rfl dX0_frankOfAll_3 ?_
  obtain ⟨v1, q1, h2⟩ := obn hm
  clear hm
  refine xVi (As := [.int (0 : Int32), .int (g.2 6)]) (ci := 0) ⟨hx, hb, hml, hown, hts⟩ (k_X0_frankFrom l D ca ga g (0 : Int32) (g.2 6) _ q1) (cwV 2 hts gX0_frankOfAll_X0_frankFrom rfl rfl rfl (by decide +kernel) ⟨Nat.le_of_ble_eq_true rfl, Nat.le_of_ble_eq_true rfl⟩) hK hA hP hD hS dX0_frankOfAll_6 rfl hl.1 [0, 1, 2, 3, 4, 5] [] [0, 1, 2, 3, 4, 5] rfl rfl (wr := []) rfl rfl (by decide) (wn := (cH ca ga g)) rfl rfl rfl rfl rfl rfl (Nat.le_of_ble_eq_true rfl) (fun H locs hP hD hS => ?_)
  obtain rfl := Option.some.inj h2
  exact hret _ _ _ _ (vp_nar_int _) hP hD hS dX0_frankOfAll_9
def mX0_frankOf_l4 (g : GS) (n : Int32) (s1 : Int32 × Int32) : Option ((Int32 × Int32) ⊕ (Int32 × Int32)) :=
  if (12 : Int32) ≤ s1.2 then
    some (.inr (s1.1, s1.2))
  else
    Option.bind (
      if ((n >>> (s1.2 &&& 31)) &&& (1 : Int32)) = 0 then
        some s1.1
      else
        Option.bind (mX0_frankAt g s1.2) fun v4 =>
        some (s1.1 + v4)) fun (v5 : Int32) =>
    some (.inl (v5, (s1.2 + (1 : Int32))))

def mX0_frankOf (g : GS) (n : Int32) : Option (Int32) :=
  Option.bind (whO (mX0_frankOf_l4 g n) FU ((0 : Int32), (0 : Int32))) fun e6 =>
  some e6.1
abbrev rmX0_frankOf : Room := { frames := 3, cells := 0, slots := 0, locals := 67 }
set_option maxHeartbeats 4000000 in
set_option maxRecDepth 100000 in
theorem k_X0_frankOf (l : Launch) (D : va_G) (ca : Nat → ClassId) (ga : Nat → Nat) (g : GS) (n : Int32) (o : Int32) (hm : mX0_frankOf g n = some o) : KI l yX0_frankOf wsX0_frankOf rmX0_frankOf D ca [.ref (ga 0), .int n] (cH ca ga g) (cH ca ga g) o := by
  refine KI.of (cc := cX0_frankOf) (n := 4) (plainFor_of_name (by decide)) rfl (Nat.le_of_ble_eq_true rfl) ?_
  intro p e s m below meth c A Z hx hb hml hts hown hA hK hP hD hS hret ls hl
  have hown : s.vm.findClass RX0 = some m.cls := hown
  have hl : lv_has ls 4 [(0, .ref (ga 0)), (1, .int n)] := hl
  unfold mX0_frankOf at hm
  refine lv_iconst (v := (0 : Int32)) hx hb dX0_frankOf_0 (by decide) ?_
  refine lv_istore_n (lv' := [(2, .int (0 : Int32)), (0, .ref (ga 0)), (1, .int n)]) hx hb dX0_frankOf_1 rfl hl (by decide) rfl (fun ls hl => ?_)
  refine lv_iconst (v := (0 : Int32)) hx hb dX0_frankOf_2 (by decide) ?_
  refine lv_istore_n (lv' := [(3, .int (0 : Int32)), (2, .int (0 : Int32)), (0, .ref (ga 0)), (1, .int n)]) hx hb dX0_frankOf_3 rfl hl (by decide) rfl (fun ls hl => ?_)
  obtain ⟨e6, w7, h8⟩ := obn hm
  clear hm
  have AF6 : ∀ (ls : Array Slot) (H : Heap) (locs : List Loc), lv_has ls 4 [(2, .int e6.1)] → va_P D vwCl (cH ca ga g) H → va_D A (cH ca ga g) → va_S A s.heap H locs → W p l e rmX0_frankOf s m ([.ref (ga 0), .int n] : List Value).toArray below meth c H locs 0 0 Z (F0 m 32 ls []) := by
    intro ls H locs hl hP hD hS
    refine lv_iload_n hx hb dX0_frankOf_32 rfl (lv_at hl 0 rfl) ?_
    obtain rfl := Option.some.inj h8
    exact hret _ _ _ _ (vp_nar_int _) hP hD hS dX0_frankOf_33
  refine whO_walk (I := fun s1 => ∀ (ls : Array Slot) (H : Heap) (locs : List Loc), lv_has ls 4 [(0, .ref (ga 0)), (1, .int n), (2, .int s1.1), (3, .int s1.2)] → va_P D vwCl (cH ca ga g) H → va_D A (cH ca ga g) → va_S A s.heap H locs → W p l e rmX0_frankOf s m ([.ref (ga 0), .int n] : List Value).toArray below meth c H locs 0 0 Z (F0 m 4 ls [])) ?_ _ _ w7 _ _ _ (lv_sub hl [2, 3, 1, 0] rfl) hP hD hS
  clear w7
  intro s1 o6 h9 hi6 ho6 ls H locs hl hP hD hS
  unfold mX0_frankOf_l4 at h9
  refine lv_iload_n hx hb dX0_frankOf_4 rfl (lv_at hl 3 rfl) ?_
  refine lv_bipush (v := (12 : Int32)) hx hb dX0_frankOf_5 (by decide) ?_
  refine lv_icmp_ge (tgt := 32) hx hb dX0_frankOf_7 (by decide) (fun c2 => ?_) (fun c2 => ?_)
  · skip
    replace h9 := (if_pos c2).symm.trans h9
    have h10 := ho6 _ (Option.some.inj h9).symm
    subst h10
    exact AF6 _ _ _ (lv_sub hl [2] rfl) hP hD hS
  · skip
    replace h9 := (if_neg c2).symm.trans h9
    refine lv_iload_n hx hb dX0_frankOf_10 rfl (lv_at hl 1 rfl) ?_
    refine lv_iload_n hx hb dX0_frankOf_11 rfl (lv_at hl 3 rfl) ?_
    refine lv_ishr hx hb dX0_frankOf_12 ?_
    refine lv_iconst (v := (1 : Int32)) hx hb dX0_frankOf_13 (by decide) ?_
    refine lv_iand hx hb dX0_frankOf_14 ?_
    obtain ⟨v5, q11, h12⟩ := obn h9
    clear h9
    have J5 : ∀ (ls : Array Slot) (H : Heap) (locs : List Loc), lv_has ls 4 [(0, .ref (ga 0)), (1, .int n), (2, .int v5), (3, .int s1.2)] → va_P D vwCl (cH ca ga g) H → va_D A (cH ca ga g) → va_S A s.heap H locs → W p l e rmX0_frankOf s m ([.ref (ga 0), .int n] : List Value).toArray below meth c H locs 0 0 Z (F0 m 26 ls []) := by
      intro ls H locs hl hP hD hS
      refine lv_iinc (v := (s1.2 + (1 : Int32))) (lv' := [(3, .int (s1.2 + (1 : Int32))), (0, .ref (ga 0)), (1, .int n), (2, .int v5)]) hx hb dX0_frankOf_26 hl (k := 3) rfl rfl (by decide) rfl (fun ls hl => ?_)
      refine lv_goto (tgt := 4) hx hb dX0_frankOf_29 (by decide) ?_
      exact hi6 _ (Option.some.inj h12).symm _ _ _ (lv_sub hl [1, 2, 3, 0] rfl) hP hD hS
    refine lv_if_eq (tgt := 26) hx hb dX0_frankOf_15 (by decide) (fun c3 => ?_) (fun c3 => ?_)
    · skip
      replace q11 := (if_pos c3).symm.trans q11
      obtain rfl := Option.some.inj q11
      exact J5 _ _ _ (lv_sub hl [0, 1, 2, 3] rfl) hP hD hS
    · skip
      replace q11 := (if_neg c3).symm.trans q11
      refine lv_iload_n hx hb dX0_frankOf_18 rfl (lv_at hl 2 rfl) ?_
      refine lv_aload_n hx hb dX0_frankOf_19 rfl (lv_at hl 0 rfl) ?_
      refine lv_iload_n hx hb dX0_frankOf_20 rfl (lv_at hl 3 rfl) ?_
      obtain ⟨v4, q4, h13⟩ := obn q11
      clear q11
      refine xVi (As := [.int s1.2]) (ci := 0) ⟨hx, hb, hml, hown, hts⟩ (k_X0_frankAt l D ca ga g s1.2 _ q4) (cwV 1 hts gX0_frankOf_X0_frankAt rfl rfl rfl (by decide +kernel) ⟨Nat.le_of_ble_eq_true rfl, Nat.le_of_ble_eq_true rfl⟩) hK hA hP hD hS dX0_frankOf_21 rfl hl.1 [0, 1, 2, 3, 4, 5] [] [0, 1, 2, 3, 4, 5] rfl rfl (wr := []) rfl rfl (by decide) (wn := (cH ca ga g)) rfl rfl rfl rfl rfl rfl (Nat.le_of_ble_eq_true rfl) (fun H locs hP hD hS => ?_)
      refine lv_iadd hx hb dX0_frankOf_24 ?_
      refine lv_istore_n (lv' := [(2, .int (s1.1 + v4)), (0, .ref (ga 0)), (1, .int n), (3, .int s1.2)]) hx hb dX0_frankOf_25 rfl hl (by decide) rfl (fun ls hl => ?_)
      obtain rfl := Option.some.inj h13
      exact J5 _ _ _ (lv_sub hl [1, 2, 0, 3] rfl) hP hD hS
def mX0_placesOf_l4 (g : GS) (j : Int32) (s1 : Int32 × Int32) : Option ((Int32 × Int32) ⊕ (Int32 × Int32)) :=
  if (g.2 6) ≤ s1.2 then
    some (.inr (s1.1, s1.2))
  else
    if (12 : Int32) ≤ s1.2 then
      some (.inr (s1.1, s1.2))
    else
      Option.bind (mX0_whoAt g s1.2) fun v4 =>
      Option.bind (
        if v4 = j then
          some (s1.1 ||| ((1 : Int32) <<< (s1.2 &&& 31)))
        else
          some s1.1) fun (v6 : Int32) =>
      some (.inl (v6, (s1.2 + (1 : Int32))))

def mX0_placesOf (g : GS) (j : Int32) : Option (Int32) :=
  Option.bind (whO (mX0_placesOf_l4 g j) FU ((0 : Int32), (0 : Int32))) fun e7 =>
  some e7.1
abbrev rmX0_placesOf : Room := { frames := 2, cells := 0, slots := 0, locals := 43 }
set_option maxHeartbeats 4000000 in
set_option maxRecDepth 100000 in
theorem k_X0_placesOf (l : Launch) (D : va_G) (ca : Nat → ClassId) (ga : Nat → Nat) (g : GS) (j : Int32) (o : Int32) (hm : mX0_placesOf g j = some o) : KI l yX0_placesOf wsX0_placesOf rmX0_placesOf D ca [.ref (ga 0), .int j] (cH ca ga g) (cH ca ga g) o := by
  refine KI.of (cc := cX0_placesOf) (n := 4) (plainFor_of_name (by decide)) rfl (Nat.le_of_ble_eq_true rfl) ?_
  intro p e s m below meth c A Z hx hb hml hts hown hA hK hP hD hS hret ls hl
  have hown : s.vm.findClass RX0 = some m.cls := hown
  have hl : lv_has ls 4 [(0, .ref (ga 0)), (1, .int j)] := hl
  have inX0 : ∀ w ∈ wsX00, w ∈ wsX0_placesOf := by decide +kernel
  have k1 := hts (.fieldLink RX0 34 "FriezeFolk$Hall" "wide" "I") (by decide +kernel)
  unfold mX0_placesOf at hm
  refine lv_iconst (v := (0 : Int32)) hx hb dX0_placesOf_0 (by decide) ?_
  refine lv_istore_n (lv' := [(2, .int (0 : Int32)), (0, .ref (ga 0)), (1, .int j)]) hx hb dX0_placesOf_1 rfl hl (by decide) rfl (fun ls hl => ?_)
  refine lv_iconst (v := (0 : Int32)) hx hb dX0_placesOf_2 (by decide) ?_
  refine lv_istore_n (lv' := [(3, .int (0 : Int32)), (2, .int (0 : Int32)), (0, .ref (ga 0)), (1, .int j)]) hx hb dX0_placesOf_3 rfl hl (by decide) rfl (fun ls hl => ?_)
  obtain ⟨e7, w8, h9⟩ := obn hm
  clear hm
  have AF7 : ∀ (ls : Array Slot) (H : Heap) (locs : List Loc), lv_has ls 4 [(2, .int e7.1)] → va_P D vwCl (cH ca ga g) H → va_D A (cH ca ga g) → va_S A s.heap H locs → W p l e rmX0_placesOf s m ([.ref (ga 0), .int j] : List Value).toArray below meth c H locs 0 0 Z (F0 m 39 ls []) := by
    intro ls H locs hl hP hD hS
    refine lv_iload_n hx hb dX0_placesOf_39 rfl (lv_at hl 0 rfl) ?_
    obtain rfl := Option.some.inj h9
    exact hret _ _ _ _ (vp_nar_int _) hP hD hS dX0_placesOf_40
  refine whO_walk (I := fun s1 => ∀ (ls : Array Slot) (H : Heap) (locs : List Loc), lv_has ls 4 [(0, .ref (ga 0)), (1, .int j), (2, .int s1.1), (3, .int s1.2)] → va_P D vwCl (cH ca ga g) H → va_D A (cH ca ga g) → va_S A s.heap H locs → W p l e rmX0_placesOf s m ([.ref (ga 0), .int j] : List Value).toArray below meth c H locs 0 0 Z (F0 m 4 ls [])) ?_ _ _ w8 _ _ _ (lv_sub hl [2, 3, 1, 0] rfl) hP hD hS
  clear w8
  intro s1 o7 h10 hi7 ho7 ls H locs hl hP hD hS
  unfold mX0_placesOf_l4 at h10
  refine lv_iload_n hx hb dX0_placesOf_4 rfl (lv_at hl 3 rfl) ?_
  refine lv_aload_n hx hb dX0_placesOf_5 rfl (lv_at hl 0 rfl) ?_
  refine xget (ref := "FriezeFolk$Hall") (C := RX0) (T := TX0) (N := 13) (ci := 0) (v := .int (g.2 6)) hx hb hts inX0 hown hK hP 0 rfl rfl 6 (by decide) k1 rfl rfl dX0_placesOf_6 ?_
  refine lv_icmp_ge (tgt := 39) hx hb dX0_placesOf_9 (by decide) (fun c2 => ?_) (fun c2 => ?_)
  · skip
    replace h10 := (if_pos c2).symm.trans h10
    have h11 := ho7 _ (Option.some.inj h10).symm
    subst h11
    exact AF7 _ _ _ (lv_sub hl [2] rfl) hP hD hS
  · skip
    replace h10 := (if_neg c2).symm.trans h10
    refine lv_iload_n hx hb dX0_placesOf_12 rfl (lv_at hl 3 rfl) ?_
    refine lv_bipush (v := (12 : Int32)) hx hb dX0_placesOf_13 (by decide) ?_
    refine lv_icmp_ge (tgt := 39) hx hb dX0_placesOf_15 (by decide) (fun c3 => ?_) (fun c3 => ?_)
    · skip
      replace h10 := (if_pos c3).symm.trans h10
      have h12 := ho7 _ (Option.some.inj h10).symm
      subst h12
      exact AF7 _ _ _ (lv_sub hl [2] rfl) hP hD hS
    · skip
      replace h10 := (if_neg c3).symm.trans h10
      refine lv_aload_n hx hb dX0_placesOf_18 rfl (lv_at hl 0 rfl) ?_
      refine lv_iload_n hx hb dX0_placesOf_19 rfl (lv_at hl 3 rfl) ?_
      obtain ⟨v4, q4, h13⟩ := obn h10
      clear h10
      refine xVi (As := [.int s1.2]) (ci := 0) ⟨hx, hb, hml, hown, hts⟩ (k_X0_whoAt l D ca ga g s1.2 _ q4) (cwV 1 hts gX0_placesOf_X0_whoAt rfl rfl rfl (by decide +kernel) ⟨Nat.le_of_ble_eq_true rfl, Nat.le_of_ble_eq_true rfl⟩) hK hA hP hD hS dX0_placesOf_20 rfl hl.1 [0, 1, 2, 3, 4, 5] [] [0, 1, 2, 3, 4, 5] rfl rfl (wr := []) rfl rfl (by decide) (wn := (cH ca ga g)) rfl rfl rfl rfl rfl rfl (Nat.le_of_ble_eq_true rfl) (fun H locs hP hD hS => ?_)
      refine lv_iload_n hx hb dX0_placesOf_23 rfl (lv_at hl 1 rfl) ?_
      obtain ⟨v6, q14, h15⟩ := obn h13
      clear h13
      have J6 : ∀ (ls : Array Slot) (H : Heap) (locs : List Loc), lv_has ls 4 [(0, .ref (ga 0)), (1, .int j), (2, .int v6), (3, .int s1.2)] → va_P D vwCl (cH ca ga g) H → va_D A (cH ca ga g) → va_S A s.heap H locs → W p l e rmX0_placesOf s m ([.ref (ga 0), .int j] : List Value).toArray below meth c H locs 0 0 Z (F0 m 33 ls []) := by
        intro ls H locs hl hP hD hS
        refine lv_iinc (v := (s1.2 + (1 : Int32))) (lv' := [(3, .int (s1.2 + (1 : Int32))), (0, .ref (ga 0)), (1, .int j), (2, .int v6)]) hx hb dX0_placesOf_33 hl (k := 3) rfl rfl (by decide) rfl (fun ls hl => ?_)
        refine lv_goto (tgt := 4) hx hb dX0_placesOf_36 (by decide) ?_
        exact hi7 _ (Option.some.inj h15).symm _ _ _ (lv_sub hl [1, 2, 3, 0] rfl) hP hD hS
      refine lv_icmp_ne (tgt := 33) hx hb dX0_placesOf_24 (by decide) (fun c5 => ?_) (fun c5 => ?_)
      · skip
        replace q14 := (if_neg c5).symm.trans q14
        obtain rfl := Option.some.inj q14
        exact J6 _ _ _ (lv_sub hl [0, 1, 2, 3] rfl) hP hD hS
      · skip
        replace q14 := (if_pos c5).symm.trans q14
        refine lv_iload_n hx hb dX0_placesOf_27 rfl (lv_at hl 2 rfl) ?_
        refine lv_iconst (v := (1 : Int32)) hx hb dX0_placesOf_28 (by decide) ?_
        refine lv_iload_n hx hb dX0_placesOf_29 rfl (lv_at hl 3 rfl) ?_
        refine lv_ishl hx hb dX0_placesOf_30 ?_
        refine lv_ior hx hb dX0_placesOf_31 ?_
        refine lv_istore_n (lv' := [(2, .int (s1.1 ||| ((1 : Int32) <<< (s1.2 &&& 31)))), (0, .ref (ga 0)), (1, .int j), (3, .int s1.2)]) hx hb dX0_placesOf_32 rfl hl (by decide) rfl (fun ls hl => ?_)
        obtain rfl := Option.some.inj q14
        exact J6 _ _ _ (lv_sub hl [1, 2, 0, 3] rfl) hP hD hS
def mX0_placesWithout_l4 (g : GS) (s1 : Int32 × Int32) : Option ((Int32 × Int32) ⊕ (Int32 × Int32)) :=
  if (g.2 6) ≤ s1.2 then
    some (.inr (s1.1, s1.2))
  else
    if (12 : Int32) ≤ s1.2 then
      some (.inr (s1.1, s1.2))
    else
      Option.bind (mX0_frankAt g s1.2) fun v4 =>
      Option.bind (
        if v4 = 0 then
          some (s1.1 ||| ((1 : Int32) <<< (s1.2 &&& 31)))
        else
          some s1.1) fun (v6 : Int32) =>
      some (.inl (v6, (s1.2 + (1 : Int32))))

def mX0_placesWithout (g : GS) : Option (Int32) :=
  Option.bind (whO (mX0_placesWithout_l4 g) FU ((0 : Int32), (0 : Int32))) fun e7 =>
  some e7.1
abbrev rmX0_placesWithout : Room := { frames := 3, cells := 0, slots := 0, locals := 67 }
set_option maxHeartbeats 4000000 in
set_option maxRecDepth 100000 in
theorem k_X0_placesWithout (l : Launch) (D : va_G) (ca : Nat → ClassId) (ga : Nat → Nat) (g : GS) (o : Int32) (hm : mX0_placesWithout g = some o) : KI l yX0_placesWithout wsX0_placesWithout rmX0_placesWithout D ca [.ref (ga 0)] (cH ca ga g) (cH ca ga g) o := by
  refine KI.of (cc := cX0_placesWithout) (n := 3) (plainFor_of_name (by decide)) rfl (Nat.le_of_ble_eq_true rfl) ?_
  intro p e s m below meth c A Z hx hb hml hts hown hA hK hP hD hS hret ls hl
  have hown : s.vm.findClass RX0 = some m.cls := hown
  have hl : lv_has ls 3 [(0, .ref (ga 0))] := hl
  have inX0 : ∀ w ∈ wsX00, w ∈ wsX0_placesWithout := by decide +kernel
  have k1 := hts (.fieldLink RX0 34 "FriezeFolk$Hall" "wide" "I") (by decide +kernel)
  unfold mX0_placesWithout at hm
  refine lv_iconst (v := (0 : Int32)) hx hb dX0_placesWithout_0 (by decide) ?_
  refine lv_istore_n (lv' := [(1, .int (0 : Int32)), (0, .ref (ga 0))]) hx hb dX0_placesWithout_1 rfl hl (by decide) rfl (fun ls hl => ?_)
  refine lv_iconst (v := (0 : Int32)) hx hb dX0_placesWithout_2 (by decide) ?_
  refine lv_istore_n (lv' := [(2, .int (0 : Int32)), (1, .int (0 : Int32)), (0, .ref (ga 0))]) hx hb dX0_placesWithout_3 rfl hl (by decide) rfl (fun ls hl => ?_)
  obtain ⟨e7, w8, h9⟩ := obn hm
  clear hm
  have AF7 : ∀ (ls : Array Slot) (H : Heap) (locs : List Loc), lv_has ls 3 [(1, .int e7.1)] → va_P D vwCl (cH ca ga g) H → va_D A (cH ca ga g) → va_S A s.heap H locs → W p l e rmX0_placesWithout s m ([.ref (ga 0)] : List Value).toArray below meth c H locs 0 0 Z (F0 m 38 ls []) := by
    intro ls H locs hl hP hD hS
    refine lv_iload_n hx hb dX0_placesWithout_38 rfl (lv_at hl 0 rfl) ?_
    obtain rfl := Option.some.inj h9
    exact hret _ _ _ _ (vp_nar_int _) hP hD hS dX0_placesWithout_39
  refine whO_walk (I := fun s1 => ∀ (ls : Array Slot) (H : Heap) (locs : List Loc), lv_has ls 3 [(0, .ref (ga 0)), (1, .int s1.1), (2, .int s1.2)] → va_P D vwCl (cH ca ga g) H → va_D A (cH ca ga g) → va_S A s.heap H locs → W p l e rmX0_placesWithout s m ([.ref (ga 0)] : List Value).toArray below meth c H locs 0 0 Z (F0 m 4 ls [])) ?_ _ _ w8 _ _ _ (lv_sub hl [2, 1, 0] rfl) hP hD hS
  clear w8
  intro s1 o7 h10 hi7 ho7 ls H locs hl hP hD hS
  unfold mX0_placesWithout_l4 at h10
  refine lv_iload_n hx hb dX0_placesWithout_4 rfl (lv_at hl 2 rfl) ?_
  refine lv_aload_n hx hb dX0_placesWithout_5 rfl (lv_at hl 0 rfl) ?_
  refine xget (ref := "FriezeFolk$Hall") (C := RX0) (T := TX0) (N := 13) (ci := 0) (v := .int (g.2 6)) hx hb hts inX0 hown hK hP 0 rfl rfl 6 (by decide) k1 rfl rfl dX0_placesWithout_6 ?_
  refine lv_icmp_ge (tgt := 38) hx hb dX0_placesWithout_9 (by decide) (fun c2 => ?_) (fun c2 => ?_)
  · skip
    replace h10 := (if_pos c2).symm.trans h10
    have h11 := ho7 _ (Option.some.inj h10).symm
    subst h11
    exact AF7 _ _ _ (lv_sub hl [1] rfl) hP hD hS
  · skip
    replace h10 := (if_neg c2).symm.trans h10
    refine lv_iload_n hx hb dX0_placesWithout_12 rfl (lv_at hl 2 rfl) ?_
    refine lv_bipush (v := (12 : Int32)) hx hb dX0_placesWithout_13 (by decide) ?_
    refine lv_icmp_ge (tgt := 38) hx hb dX0_placesWithout_15 (by decide) (fun c3 => ?_) (fun c3 => ?_)
    · skip
      replace h10 := (if_pos c3).symm.trans h10
      have h12 := ho7 _ (Option.some.inj h10).symm
      subst h12
      exact AF7 _ _ _ (lv_sub hl [1] rfl) hP hD hS
    · skip
      replace h10 := (if_neg c3).symm.trans h10
      refine lv_aload_n hx hb dX0_placesWithout_18 rfl (lv_at hl 0 rfl) ?_
      refine lv_iload_n hx hb dX0_placesWithout_19 rfl (lv_at hl 2 rfl) ?_
      obtain ⟨v4, q4, h13⟩ := obn h10
      clear h10
      refine xVi (As := [.int s1.2]) (ci := 0) ⟨hx, hb, hml, hown, hts⟩ (k_X0_frankAt l D ca ga g s1.2 _ q4) (cwV 1 hts gX0_placesWithout_X0_frankAt rfl rfl rfl (by decide +kernel) ⟨Nat.le_of_ble_eq_true rfl, Nat.le_of_ble_eq_true rfl⟩) hK hA hP hD hS dX0_placesWithout_20 rfl hl.1 [0, 1, 2, 3, 4, 5] [] [0, 1, 2, 3, 4, 5] rfl rfl (wr := []) rfl rfl (by decide) (wn := (cH ca ga g)) rfl rfl rfl rfl rfl rfl (Nat.le_of_ble_eq_true rfl) (fun H locs hP hD hS => ?_)
      obtain ⟨v6, q14, h15⟩ := obn h13
      clear h13
      have J6 : ∀ (ls : Array Slot) (H : Heap) (locs : List Loc), lv_has ls 3 [(0, .ref (ga 0)), (1, .int v6), (2, .int s1.2)] → va_P D vwCl (cH ca ga g) H → va_D A (cH ca ga g) → va_S A s.heap H locs → W p l e rmX0_placesWithout s m ([.ref (ga 0)] : List Value).toArray below meth c H locs 0 0 Z (F0 m 32 ls []) := by
        intro ls H locs hl hP hD hS
        refine lv_iinc (v := (s1.2 + (1 : Int32))) (lv' := [(2, .int (s1.2 + (1 : Int32))), (0, .ref (ga 0)), (1, .int v6)]) hx hb dX0_placesWithout_32 hl (k := 2) rfl rfl (by decide) rfl (fun ls hl => ?_)
        refine lv_goto (tgt := 4) hx hb dX0_placesWithout_35 (by decide) ?_
        exact hi7 _ (Option.some.inj h15).symm _ _ _ (lv_sub hl [1, 2, 0] rfl) hP hD hS
      refine lv_if_ne (tgt := 32) hx hb dX0_placesWithout_23 (by decide) (fun c5 => ?_) (fun c5 => ?_)
      · skip
        replace q14 := (if_neg c5).symm.trans q14
        obtain rfl := Option.some.inj q14
        exact J6 _ _ _ (lv_sub hl [0, 1, 2] rfl) hP hD hS
      · skip
        replace q14 := (if_pos c5).symm.trans q14
        refine lv_iload_n hx hb dX0_placesWithout_26 rfl (lv_at hl 1 rfl) ?_
        refine lv_iconst (v := (1 : Int32)) hx hb dX0_placesWithout_27 (by decide) ?_
        refine lv_iload_n hx hb dX0_placesWithout_28 rfl (lv_at hl 2 rfl) ?_
        refine lv_ishl hx hb dX0_placesWithout_29 ?_
        refine lv_ior hx hb dX0_placesWithout_30 ?_
        refine lv_istore_n (lv' := [(1, .int (s1.1 ||| ((1 : Int32) <<< (s1.2 &&& 31)))), (0, .ref (ga 0)), (2, .int s1.2)]) hx hb dX0_placesWithout_31 rfl hl (by decide) rfl (fun ls hl => ?_)
        obtain rfl := Option.some.inj q14
        exact J6 _ _ _ (lv_sub hl [1, 0, 2] rfl) hP hD hS
def mX0_frankestFrom_l7 (g : GS) (n : Int32) (s1 : Int32 × Int32 × Int32) : Option ((Int32 × Int32 × Int32) ⊕ (Int32 × Int32 × Int32)) :=
  if (g.2 6) < (s1.2.2 + n) then
    some (.inr (s1.1, s1.2.1, s1.2.2))
  else
    if (12 : Int32) ≤ s1.2.2 then
      some (.inr (s1.1, s1.2.1, s1.2.2))
    else
      Option.bind (mX0_frankFrom g s1.2.2 n) fun v4 =>
      Option.bind (
        if v4 ≤ s1.2.1 then
          some (s1.1, s1.2.1)
        else
          some (s1.2.2, v4)) fun (v6 : Int32 × Int32) =>
      some (.inl (v6.1, v6.2, (s1.2.2 + (1 : Int32))))

def mX0_frankestFrom (g : GS) (n : Int32) : Option (Int32) :=
  Option.bind (whO (mX0_frankestFrom_l7 g n) FU ((0 : Int32), (-1 : Int32), (0 : Int32))) fun e7 =>
  some e7.1
abbrev rmX0_frankestFrom : Room := { frames := 4, cells := 0, slots := 0, locals := 91 }
set_option maxHeartbeats 4000000 in
set_option maxRecDepth 100000 in
theorem k_X0_frankestFrom (l : Launch) (D : va_G) (ca : Nat → ClassId) (ga : Nat → Nat) (g : GS) (n : Int32) (o : Int32) (hm : mX0_frankestFrom g n = some o) : KI l yX0_frankestFrom wsX0_frankestFrom rmX0_frankestFrom D ca [.ref (ga 0), .int n] (cH ca ga g) (cH ca ga g) o := by
  refine KI.of (cc := cX0_frankestFrom) (n := 6) (plainFor_of_name (by decide)) rfl (Nat.le_of_ble_eq_true rfl) ?_
  intro p e s m below meth c A Z hx hb hml hts hown hA hK hP hD hS hret ls hl
  have hown : s.vm.findClass RX0 = some m.cls := hown
  have hl : lv_has ls 6 [(0, .ref (ga 0)), (1, .int n)] := hl
  have inX0 : ∀ w ∈ wsX00, w ∈ wsX0_frankestFrom := by decide +kernel
  have k1 := hts (.fieldLink RX0 34 "FriezeFolk$Hall" "wide" "I") (by decide +kernel)
  unfold mX0_frankestFrom at hm
  refine lv_iconst (v := (0 : Int32)) hx hb dX0_frankestFrom_0 (by decide) ?_
  refine lv_istore_n (lv' := [(2, .int (0 : Int32)), (0, .ref (ga 0)), (1, .int n)]) hx hb dX0_frankestFrom_1 rfl hl (by decide) rfl (fun ls hl => ?_)
  refine lv_iconst (v := (-1 : Int32)) hx hb dX0_frankestFrom_2 (by decide) ?_
  refine lv_istore_n (lv' := [(3, .int (-1 : Int32)), (2, .int (0 : Int32)), (0, .ref (ga 0)), (1, .int n)]) hx hb dX0_frankestFrom_3 rfl hl (by decide) rfl (fun ls hl => ?_)
  refine lv_iconst (v := (0 : Int32)) hx hb dX0_frankestFrom_4 (by decide) ?_
  refine lv_istore (lv' := [(4, .int (0 : Int32)), (3, .int (-1 : Int32)), (2, .int (0 : Int32)), (0, .ref (ga 0)), (1, .int n)]) hx hb dX0_frankestFrom_5 hl (by decide) rfl (fun ls hl => ?_)
  obtain ⟨e7, w8, h9⟩ := obn hm
  clear hm
  have AF7 : ∀ (ls : Array Slot) (H : Heap) (locs : List Loc), lv_has ls 6 [(2, .int e7.1)] → va_P D vwCl (cH ca ga g) H → va_D A (cH ca ga g) → va_S A s.heap H locs → W p l e rmX0_frankestFrom s m ([.ref (ga 0), .int n] : List Value).toArray below meth c H locs 0 0 Z (F0 m 52 ls []) := by
    intro ls H locs hl hP hD hS
    refine lv_iload_n hx hb dX0_frankestFrom_52 rfl (lv_at hl 0 rfl) ?_
    obtain rfl := Option.some.inj h9
    exact hret _ _ _ _ (vp_nar_int _) hP hD hS dX0_frankestFrom_53
  refine whO_walk (I := fun s1 => ∀ (ls : Array Slot) (H : Heap) (locs : List Loc), lv_has ls 6 [(0, .ref (ga 0)), (1, .int n), (2, .int s1.1), (3, .int s1.2.1), (4, .int s1.2.2)] → va_P D vwCl (cH ca ga g) H → va_D A (cH ca ga g) → va_S A s.heap H locs → W p l e rmX0_frankestFrom s m ([.ref (ga 0), .int n] : List Value).toArray below meth c H locs 0 0 Z (F0 m 7 ls [])) ?_ _ _ w8 _ _ _ (lv_sub hl [3, 4, 2, 1, 0] rfl) hP hD hS
  clear w8
  intro s1 o7 h10 hi7 ho7 ls H locs hl hP hD hS
  unfold mX0_frankestFrom_l7 at h10
  refine lv_iload hx hb dX0_frankestFrom_7 (lv_at hl 4 rfl) ?_
  refine lv_iload_n hx hb dX0_frankestFrom_9 rfl (lv_at hl 1 rfl) ?_
  refine lv_iadd hx hb dX0_frankestFrom_10 ?_
  refine lv_aload_n hx hb dX0_frankestFrom_11 rfl (lv_at hl 0 rfl) ?_
  refine xget (ref := "FriezeFolk$Hall") (C := RX0) (T := TX0) (N := 13) (ci := 0) (v := .int (g.2 6)) hx hb hts inX0 hown hK hP 0 rfl rfl 6 (by decide) k1 rfl rfl dX0_frankestFrom_12 ?_
  refine lv_icmp_gt (tgt := 52) hx hb dX0_frankestFrom_15 (by decide) (fun c2 => ?_) (fun c2 => ?_)
  · skip
    replace h10 := (if_pos c2).symm.trans h10
    have h11 := ho7 _ (Option.some.inj h10).symm
    subst h11
    exact AF7 _ _ _ (lv_sub hl [2] rfl) hP hD hS
  · skip
    replace h10 := (if_neg c2).symm.trans h10
    refine lv_iload hx hb dX0_frankestFrom_18 (lv_at hl 4 rfl) ?_
    refine lv_bipush (v := (12 : Int32)) hx hb dX0_frankestFrom_20 (by decide) ?_
    refine lv_icmp_ge (tgt := 52) hx hb dX0_frankestFrom_22 (by decide) (fun c3 => ?_) (fun c3 => ?_)
    · skip
      replace h10 := (if_pos c3).symm.trans h10
      have h12 := ho7 _ (Option.some.inj h10).symm
      subst h12
      exact AF7 _ _ _ (lv_sub hl [2] rfl) hP hD hS
    · skip
      replace h10 := (if_neg c3).symm.trans h10
      refine lv_aload_n hx hb dX0_frankestFrom_25 rfl (lv_at hl 0 rfl) ?_
      refine lv_iload hx hb dX0_frankestFrom_26 (lv_at hl 4 rfl) ?_
      refine lv_iload_n hx hb dX0_frankestFrom_28 rfl (lv_at hl 1 rfl) ?_
      obtain ⟨v4, q4, h13⟩ := obn h10
      clear h10
      refine xVi (As := [.int s1.2.2, .int n]) (ci := 0) ⟨hx, hb, hml, hown, hts⟩ (k_X0_frankFrom l D ca ga g s1.2.2 n _ q4) (cwV 2 hts gX0_frankestFrom_X0_frankFrom rfl rfl rfl (by decide +kernel) ⟨Nat.le_of_ble_eq_true rfl, Nat.le_of_ble_eq_true rfl⟩) hK hA hP hD hS dX0_frankestFrom_29 rfl hl.1 [0, 1, 2, 3, 4, 5] [] [0, 1, 2, 3, 4, 5] rfl rfl (wr := []) rfl rfl (by decide) (wn := (cH ca ga g)) rfl rfl rfl rfl rfl rfl (Nat.le_of_ble_eq_true rfl) (fun H locs hP hD hS => ?_)
      refine lv_istore (lv' := [(5, .int v4), (0, .ref (ga 0)), (1, .int n), (2, .int s1.1), (3, .int s1.2.1), (4, .int s1.2.2)]) hx hb dX0_frankestFrom_32 hl (by decide) rfl (fun ls hl => ?_)
      refine lv_iload hx hb dX0_frankestFrom_34 (lv_at hl 0 rfl) ?_
      refine lv_iload_n hx hb dX0_frankestFrom_36 rfl (lv_at hl 4 rfl) ?_
      obtain ⟨v6, q14, h15⟩ := obn h13
      clear h13
      have J6 : ∀ (ls : Array Slot) (H : Heap) (locs : List Loc), lv_has ls 6 [(0, .ref (ga 0)), (1, .int n), (2, .int v6.1), (3, .int v6.2), (4, .int s1.2.2)] → va_P D vwCl (cH ca ga g) H → va_D A (cH ca ga g) → va_S A s.heap H locs → W p l e rmX0_frankestFrom s m ([.ref (ga 0), .int n] : List Value).toArray below meth c H locs 0 0 Z (F0 m 46 ls []) := by
        intro ls H locs hl hP hD hS
        refine lv_iinc (v := (s1.2.2 + (1 : Int32))) (lv' := [(4, .int (s1.2.2 + (1 : Int32))), (0, .ref (ga 0)), (1, .int n), (2, .int v6.1), (3, .int v6.2)]) hx hb dX0_frankestFrom_46 hl (k := 4) rfl rfl (by decide) rfl (fun ls hl => ?_)
        refine lv_goto (tgt := 7) hx hb dX0_frankestFrom_49 (by decide) ?_
        exact hi7 _ (Option.some.inj h15).symm _ _ _ (lv_sub hl [1, 2, 3, 4, 0] rfl) hP hD hS
      refine lv_icmp_le (tgt := 46) hx hb dX0_frankestFrom_37 (by decide) (fun c5 => ?_) (fun c5 => ?_)
      · skip
        replace q14 := (if_pos c5).symm.trans q14
        obtain rfl := Option.some.inj q14
        exact J6 _ _ _ (lv_sub hl [1, 2, 3, 4, 5] rfl) hP hD hS
      · skip
        replace q14 := (if_neg c5).symm.trans q14
        refine lv_iload hx hb dX0_frankestFrom_40 (lv_at hl 5 rfl) ?_
        refine lv_istore_n (lv' := [(2, .int s1.2.2), (5, .int v4), (0, .ref (ga 0)), (1, .int n), (3, .int s1.2.1), (4, .int s1.2.2)]) hx hb dX0_frankestFrom_42 rfl hl (by decide) rfl (fun ls hl => ?_)
        refine lv_iload hx hb dX0_frankestFrom_43 (lv_at hl 1 rfl) ?_
        refine lv_istore_n (lv' := [(3, .int v4), (2, .int s1.2.2), (5, .int v4), (0, .ref (ga 0)), (1, .int n), (4, .int s1.2.2)]) hx hb dX0_frankestFrom_45 rfl hl (by decide) rfl (fun ls hl => ?_)
        obtain rfl := Option.some.inj q14
        exact J6 _ _ _ (lv_sub hl [3, 4, 1, 0, 5] rfl) hP hD hS

def mX0_looksAt (g : GS) (i : Int32) : Option (Int32) :=
  Option.bind (mX0_whoAt g i) fun v1 =>
  Option.bind (mX0_hasBlock g v1) fun v2 =>
  if v2 = 0 then
    some (-4 : Int32)
  else
    Option.bind (ald 6 (g.1 0) v1) fun v4 =>
    Option.bind (ald 6 (g.1 1) v1) fun v5 =>
    some ((v4 * (10 : Int32)) + v5)
abbrev rmX0_looksAt : Room := { frames := 2, cells := 0, slots := 0, locals := 43 }
set_option maxHeartbeats 4000000 in
set_option maxRecDepth 100000 in
theorem k_X0_looksAt (l : Launch) (D : va_G) (ca : Nat → ClassId) (ga : Nat → Nat) (g : GS) (i : Int32) (o : Int32) (hm : mX0_looksAt g i = some o) : KI l yX0_looksAt wsX0_looksAt rmX0_looksAt D ca [.ref (ga 0), .int i] (cH ca ga g) (cH ca ga g) o := by
  refine KI.of (cc := cX0_looksAt) (n := 3) (plainFor_of_name (by decide)) rfl (Nat.le_of_ble_eq_true rfl) ?_
  intro p e s m below meth c A Z hx hb hml hts hown hA hK hP hD hS hret ls hl
  have hown : s.vm.findClass RX0 = some m.cls := hown
  have hl : lv_has ls 3 [(0, .ref (ga 0)), (1, .int i)] := hl
  have inX0 : ∀ w ∈ wsX00, w ∈ wsX0_looksAt := by decide +kernel
  have k1 := hts (.fieldLink RX0 9 "FriezeFolk$Hall" "kind" "[I") (by decide +kernel)
  have k2 := hts (.fieldLink RX0 15 "FriezeFolk$Hall" "warmth" "[I") (by decide +kernel)
  unfold mX0_looksAt at hm
  refine lv_aload_n hx hb dX0_looksAt_0 rfl (lv_at hl 0 rfl) ?_
  refine lv_iload_n hx hb dX0_looksAt_1 rfl (lv_at hl 1 rfl) ?_
  obtain ⟨v1, q1, h6⟩ := obn hm
  clear hm
  refine xVi (As := [.int i]) (ci := 0) ⟨hx, hb, hml, hown, hts⟩ (k_X0_whoAt l D ca ga g i _ q1) (cwV 1 hts gX0_looksAt_X0_whoAt rfl rfl rfl (by decide +kernel) ⟨Nat.le_of_ble_eq_true rfl, Nat.le_of_ble_eq_true rfl⟩) hK hA hP hD hS dX0_looksAt_2 rfl hl.1 [0, 1, 2, 3, 4, 5] [] [0, 1, 2, 3, 4, 5] rfl rfl (wr := []) rfl rfl (by decide) (wn := (cH ca ga g)) rfl rfl rfl rfl rfl rfl (Nat.le_of_ble_eq_true rfl) (fun H locs hP hD hS => ?_)
  refine lv_istore_n (lv' := [(2, .int v1), (0, .ref (ga 0)), (1, .int i)]) hx hb dX0_looksAt_5 rfl hl (by decide) rfl (fun ls hl => ?_)
  refine lv_aload_n hx hb dX0_looksAt_6 rfl (lv_at hl 1 rfl) ?_
  refine lv_iload_n hx hb dX0_looksAt_7 rfl (lv_at hl 0 rfl) ?_
  obtain ⟨v2, q2, h7⟩ := obn h6
  clear h6
  refine xVi (As := [.int v1]) (ci := 0) ⟨hx, hb, hml, hown, hts⟩ (k_X0_hasBlock l D ca ga g v1 _ q2) (cwV 1 hts gX0_looksAt_X0_hasBlock rfl rfl rfl (by decide +kernel) ⟨Nat.le_of_ble_eq_true rfl, Nat.le_of_ble_eq_true rfl⟩) hK hA hP hD hS dX0_looksAt_8 rfl hl.1 [0, 1, 2, 3, 4, 5] [] [0, 1, 2, 3, 4, 5] rfl rfl (wr := []) rfl rfl (by decide) (wn := (cH ca ga g)) rfl rfl rfl rfl rfl rfl (Nat.le_of_ble_eq_true rfl) (fun H locs hP hD hS => ?_)
  refine lv_if_eq (tgt := 33) hx hb dX0_looksAt_11 (by decide) (fun c3 => ?_) (fun c3 => ?_)
  · skip
    replace h7 := (if_pos c3).symm.trans h7
    refine lv_bipush (v := (-4 : Int32)) hx hb dX0_looksAt_33 (by decide) ?_
    obtain rfl := Option.some.inj h7
    exact hret _ _ _ _ (vp_nar_int _) hP hD hS dX0_looksAt_35
  · skip
    replace h7 := (if_neg c3).symm.trans h7
    refine lv_aload_n hx hb dX0_looksAt_14 rfl (lv_at hl 1 rfl) ?_
    refine xget (ref := "FriezeFolk$Hall") (C := RX0) (T := TX0) (N := 13) (ci := 0) (v := .ref (ga 1)) hx hb hts inX0 hown hK hP 0 rfl rfl 0 (by decide) k1 rfl rfl dX0_looksAt_15 ?_
    refine lv_iload_n hx hb dX0_looksAt_18 rfl (lv_at hl 0 rfl) ?_
    obtain ⟨v4, q4, h8⟩ := obn h7
    clear h7
    refine xald hx hb hK hP 1 rfl q4 dX0_looksAt_19 ?_
    refine lv_bipush (v := (10 : Int32)) hx hb dX0_looksAt_20 (by decide) ?_
    refine lv_imul hx hb dX0_looksAt_22 ?_
    refine lv_aload_n hx hb dX0_looksAt_23 rfl (lv_at hl 1 rfl) ?_
    refine xget (ref := "FriezeFolk$Hall") (C := RX0) (T := TX0) (N := 13) (ci := 0) (v := .ref (ga 2)) hx hb hts inX0 hown hK hP 0 rfl rfl 1 (by decide) k2 rfl rfl dX0_looksAt_24 ?_
    refine lv_iload_n hx hb dX0_looksAt_27 rfl (lv_at hl 0 rfl) ?_
    obtain ⟨v5, q5, h9⟩ := obn h8
    clear h8
    refine xald hx hb hK hP 2 rfl q5 dX0_looksAt_28 ?_
    refine lv_iadd hx hb dX0_looksAt_29 ?_
    refine lv_goto (tgt := 35) hx hb dX0_looksAt_30 (by decide) ?_
    obtain rfl := Option.some.inj h9
    exact hret _ _ _ _ (vp_nar_int _) hP hD hS dX0_looksAt_35
def mX0_repeatsBy_l2 (g : GS) (n : Int32) (s1 : Int32) : Option ((Int32) ⊕ ((Int32) ⊕ (Int32))) :=
  if (g.2 6) ≤ (s1 + n) then
    some (.inr (.inl s1))
  else
    if (12 : Int32) ≤ s1 then
      some (.inr (.inl s1))
    else
      Option.bind (mX0_looksAt g s1) fun v4 =>
      Option.bind (mX0_looksAt g (s1 + n)) fun v5 =>
      if v4 = v5 then
        some (.inl (s1 + (1 : Int32)))
      else
        some (.inr (.inr (0 : Int32)))

def mX0_repeatsBy (g : GS) (n : Int32) : Option (Int32) :=
  Option.bind (whO (mX0_repeatsBy_l2 g n) FU (0 : Int32)) fun e7 => esc e7 fun t8 =>
  some (1 : Int32)
abbrev rmX0_repeatsBy : Room := { frames := 3, cells := 0, slots := 0, locals := 65 }
set_option maxHeartbeats 4000000 in
set_option maxRecDepth 100000 in
theorem k_X0_repeatsBy (l : Launch) (D : va_G) (ca : Nat → ClassId) (ga : Nat → Nat) (g : GS) (n : Int32) (o : Int32) (hm : mX0_repeatsBy g n = some o) : KI l yX0_repeatsBy wsX0_repeatsBy rmX0_repeatsBy D ca [.ref (ga 0), .int n] (cH ca ga g) (cH ca ga g) o := by
  refine KI.of (cc := cX0_repeatsBy) (n := 3) (plainFor_of_name (by decide)) rfl (Nat.le_of_ble_eq_true rfl) ?_
  intro p e s m below meth c A Z hx hb hml hts hown hA hK hP hD hS hret ls hl
  have hown : s.vm.findClass RX0 = some m.cls := hown
  have hl : lv_has ls 3 [(0, .ref (ga 0)), (1, .int n)] := hl
  have inX0 : ∀ w ∈ wsX00, w ∈ wsX0_repeatsBy := by decide +kernel
  have k1 := hts (.fieldLink RX0 34 "FriezeFolk$Hall" "wide" "I") (by decide +kernel)
  unfold mX0_repeatsBy at hm
  refine lv_iconst (v := (0 : Int32)) hx hb dX0_repeatsBy_0 (by decide) ?_
  refine lv_istore_n (lv' := [(2, .int (0 : Int32)), (0, .ref (ga 0)), (1, .int n)]) hx hb dX0_repeatsBy_1 rfl hl (by decide) rfl (fun ls hl => ?_)
  obtain ⟨e7, w9, h10⟩ := obn hm
  clear hm
  have AF7 : ∀ t8, e7 = .inl t8 → ∀ (ls : Array Slot) (H : Heap) (locs : List Loc), lv_has ls 3 [] → va_P D vwCl (cH ca ga g) H → va_D A (cH ca ga g) → va_S A s.heap H locs → W p l e rmX0_repeatsBy s m ([.ref (ga 0), .int n] : List Value).toArray below meth c H locs 0 0 Z (F0 m 41 ls []) := by
    intro t8 ht ls H locs hl hP hD hS
    subst ht
    replace h10 := (esc_l _ _).symm.trans h10
    refine lv_iconst (v := (1 : Int32)) hx hb dX0_repeatsBy_41 (by decide) ?_
    obtain rfl := Option.some.inj h10
    exact hret _ _ _ _ nar1 hP hD hS dX0_repeatsBy_42
  refine whO_walk (I := fun s1 => ∀ (ls : Array Slot) (H : Heap) (locs : List Loc), lv_has ls 3 [(0, .ref (ga 0)), (1, .int n), (2, .int s1)] → va_P D vwCl (cH ca ga g) H → va_D A (cH ca ga g) → va_S A s.heap H locs → W p l e rmX0_repeatsBy s m ([.ref (ga 0), .int n] : List Value).toArray below meth c H locs 0 0 Z (F0 m 2 ls [])) ?_ _ _ w9 _ _ _ (lv_sub hl [1, 2, 0] rfl) hP hD hS
  clear w9
  intro s1 o7 h11 hi7 ho7 ls H locs hl hP hD hS
  unfold mX0_repeatsBy_l2 at h11
  refine lv_iload_n hx hb dX0_repeatsBy_2 rfl (lv_at hl 2 rfl) ?_
  refine lv_iload_n hx hb dX0_repeatsBy_3 rfl (lv_at hl 1 rfl) ?_
  refine lv_iadd hx hb dX0_repeatsBy_4 ?_
  refine lv_aload_n hx hb dX0_repeatsBy_5 rfl (lv_at hl 0 rfl) ?_
  refine xget (ref := "FriezeFolk$Hall") (C := RX0) (T := TX0) (N := 13) (ci := 0) (v := .int (g.2 6)) hx hb hts inX0 hown hK hP 0 rfl rfl 6 (by decide) k1 rfl rfl dX0_repeatsBy_6 ?_
  refine lv_icmp_ge (tgt := 41) hx hb dX0_repeatsBy_9 (by decide) (fun c2 => ?_) (fun c2 => ?_)
  · skip
    replace h11 := (if_pos c2).symm.trans h11
    have h12 := ho7 _ (Option.some.inj h11).symm
    subst h12
    exact AF7 _ rfl _ _ _ (lv_sub hl [] rfl) hP hD hS
  · skip
    replace h11 := (if_neg c2).symm.trans h11
    refine lv_iload_n hx hb dX0_repeatsBy_12 rfl (lv_at hl 2 rfl) ?_
    refine lv_bipush (v := (12 : Int32)) hx hb dX0_repeatsBy_13 (by decide) ?_
    refine lv_icmp_ge (tgt := 41) hx hb dX0_repeatsBy_15 (by decide) (fun c3 => ?_) (fun c3 => ?_)
    · skip
      replace h11 := (if_pos c3).symm.trans h11
      have h13 := ho7 _ (Option.some.inj h11).symm
      subst h13
      exact AF7 _ rfl _ _ _ (lv_sub hl [] rfl) hP hD hS
    · skip
      replace h11 := (if_neg c3).symm.trans h11
      refine lv_aload_n hx hb dX0_repeatsBy_18 rfl (lv_at hl 0 rfl) ?_
      refine lv_iload_n hx hb dX0_repeatsBy_19 rfl (lv_at hl 2 rfl) ?_
      obtain ⟨v4, q4, h14⟩ := obn h11
      clear h11
      refine xVi (As := [.int s1]) (ci := 0) ⟨hx, hb, hml, hown, hts⟩ (k_X0_looksAt l D ca ga g s1 _ q4) (cwV 1 hts gX0_repeatsBy_X0_looksAt rfl rfl rfl (by decide +kernel) ⟨Nat.le_of_ble_eq_true rfl, Nat.le_of_ble_eq_true rfl⟩) hK hA hP hD hS dX0_repeatsBy_20 rfl hl.1 [0, 1, 2, 3, 4, 5] [] [0, 1, 2, 3, 4, 5] rfl rfl (wr := []) rfl rfl (by decide) (wn := (cH ca ga g)) rfl rfl rfl rfl rfl rfl (Nat.le_of_ble_eq_true rfl) (fun H locs hP hD hS => ?_)
      refine lv_aload_n hx hb dX0_repeatsBy_23 rfl (lv_at hl 0 rfl) ?_
      refine lv_iload_n hx hb dX0_repeatsBy_24 rfl (lv_at hl 2 rfl) ?_
      refine lv_iload_n hx hb dX0_repeatsBy_25 rfl (lv_at hl 1 rfl) ?_
      refine lv_iadd hx hb dX0_repeatsBy_26 ?_
      obtain ⟨v5, q5, h15⟩ := obn h14
      clear h14
      refine xVi (As := [.int (s1 + n)]) (ci := 0) ⟨hx, hb, hml, hown, hts⟩ (k_X0_looksAt l D ca ga g (s1 + n) _ q5) (cwV 1 hts gX0_repeatsBy_X0_looksAt rfl rfl rfl (by decide +kernel) ⟨Nat.le_of_ble_eq_true rfl, Nat.le_of_ble_eq_true rfl⟩) hK hA hP hD hS dX0_repeatsBy_27 rfl hl.1 [0, 1, 2, 3, 4, 5] [] [0, 1, 2, 3, 4, 5] rfl rfl (wr := []) rfl rfl (by decide) (wn := (cH ca ga g)) rfl rfl rfl rfl rfl rfl (Nat.le_of_ble_eq_true rfl) (fun H locs hP hD hS => ?_)
      refine lv_icmp_eq (tgt := 35) hx hb dX0_repeatsBy_30 (by decide) (fun c6 => ?_) (fun c6 => ?_)
      · skip
        replace h15 := (if_pos c6).symm.trans h15
        refine lv_iinc (v := (s1 + (1 : Int32))) (lv' := [(2, .int (s1 + (1 : Int32))), (0, .ref (ga 0)), (1, .int n)]) hx hb dX0_repeatsBy_35 hl (k := 2) rfl rfl (by decide) rfl (fun ls hl => ?_)
        refine lv_goto (tgt := 2) hx hb dX0_repeatsBy_38 (by decide) ?_
        exact hi7 _ (Option.some.inj h15).symm _ _ _ (lv_sub hl [1, 2, 0] rfl) hP hD hS
      · skip
        replace h15 := (if_neg c6).symm.trans h15
        refine lv_iconst (v := (0 : Int32)) hx hb dX0_repeatsBy_33 (by decide) ?_
        have h16 := ho7 _ (Option.some.inj h15).symm
        subst h16
        replace h10 := (esc_r _ _).symm.trans h10
        obtain rfl := Option.some.inj h10
        exact hret _ _ _ _ nar0 hP hD hS dX0_repeatsBy_34
def mX0_warmthOfAll_l4 (g : GS) (s1 : Int32 × Int32) : Option ((Int32 × Int32) ⊕ (Int32 × Int32)) :=
  if (g.2 5) ≤ s1.2 then
    some (.inr (s1.1, s1.2))
  else
    if (6 : Int32) ≤ s1.2 then
      some (.inr (s1.1, s1.2))
    else
      Option.bind (ald 6 (g.1 1) s1.2) fun v4 =>
      some (.inl ((s1.1 + v4), (s1.2 + (1 : Int32))))

def mX0_warmthOfAll (g : GS) : Option (Int32) :=
  Option.bind (whO (mX0_warmthOfAll_l4 g) FU ((0 : Int32), (0 : Int32))) fun e5 =>
  some e5.1
abbrev rmX0_warmthOfAll : Room := { frames := 0, cells := 0, slots := 0, locals := 0 }
set_option maxHeartbeats 4000000 in
set_option maxRecDepth 100000 in
theorem k_X0_warmthOfAll (l : Launch) (D : va_G) (ca : Nat → ClassId) (ga : Nat → Nat) (g : GS) (o : Int32) (hm : mX0_warmthOfAll g = some o) : KI l yX0_warmthOfAll wsX0_warmthOfAll rmX0_warmthOfAll D ca [.ref (ga 0)] (cH ca ga g) (cH ca ga g) o := by
  refine KI.of (cc := cX0_warmthOfAll) (n := 3) (plainFor_of_name (by decide)) rfl (Nat.le_of_ble_eq_true rfl) ?_
  intro p e s m below meth c A Z hx hb hml hts hown hA hK hP hD hS hret ls hl
  have hown : s.vm.findClass RX0 = some m.cls := hown
  have hl : lv_has ls 3 [(0, .ref (ga 0))] := hl
  have inX0 : ∀ w ∈ wsX00, w ∈ wsX0_warmthOfAll := by decide +kernel
  have k1 := hts (.fieldLink RX0 30 "FriezeFolk$Hall" "blocks" "I") (by decide +kernel)
  have k2 := hts (.fieldLink RX0 15 "FriezeFolk$Hall" "warmth" "[I") (by decide +kernel)
  unfold mX0_warmthOfAll at hm
  refine lv_iconst (v := (0 : Int32)) hx hb dX0_warmthOfAll_0 (by decide) ?_
  refine lv_istore_n (lv' := [(1, .int (0 : Int32)), (0, .ref (ga 0))]) hx hb dX0_warmthOfAll_1 rfl hl (by decide) rfl (fun ls hl => ?_)
  refine lv_iconst (v := (0 : Int32)) hx hb dX0_warmthOfAll_2 (by decide) ?_
  refine lv_istore_n (lv' := [(2, .int (0 : Int32)), (1, .int (0 : Int32)), (0, .ref (ga 0))]) hx hb dX0_warmthOfAll_3 rfl hl (by decide) rfl (fun ls hl => ?_)
  obtain ⟨e5, w6, h7⟩ := obn hm
  clear hm
  have AF5 : ∀ (ls : Array Slot) (H : Heap) (locs : List Loc), lv_has ls 3 [(1, .int e5.1)] → va_P D vwCl (cH ca ga g) H → va_D A (cH ca ga g) → va_S A s.heap H locs → W p l e rmX0_warmthOfAll s m ([.ref (ga 0)] : List Value).toArray below meth c H locs 0 0 Z (F0 m 33 ls []) := by
    intro ls H locs hl hP hD hS
    refine lv_iload_n hx hb dX0_warmthOfAll_33 rfl (lv_at hl 0 rfl) ?_
    obtain rfl := Option.some.inj h7
    exact hret _ _ _ _ (vp_nar_int _) hP hD hS dX0_warmthOfAll_34
  refine whO_walk (I := fun s1 => ∀ (ls : Array Slot) (H : Heap) (locs : List Loc), lv_has ls 3 [(0, .ref (ga 0)), (1, .int s1.1), (2, .int s1.2)] → va_P D vwCl (cH ca ga g) H → va_D A (cH ca ga g) → va_S A s.heap H locs → W p l e rmX0_warmthOfAll s m ([.ref (ga 0)] : List Value).toArray below meth c H locs 0 0 Z (F0 m 4 ls [])) ?_ _ _ w6 _ _ _ (lv_sub hl [2, 1, 0] rfl) hP hD hS
  clear w6
  intro s1 o5 h8 hi5 ho5 ls H locs hl hP hD hS
  unfold mX0_warmthOfAll_l4 at h8
  refine lv_iload_n hx hb dX0_warmthOfAll_4 rfl (lv_at hl 2 rfl) ?_
  refine lv_aload_n hx hb dX0_warmthOfAll_5 rfl (lv_at hl 0 rfl) ?_
  refine xget (ref := "FriezeFolk$Hall") (C := RX0) (T := TX0) (N := 13) (ci := 0) (v := .int (g.2 5)) hx hb hts inX0 hown hK hP 0 rfl rfl 5 (by decide) k1 rfl rfl dX0_warmthOfAll_6 ?_
  refine lv_icmp_ge (tgt := 33) hx hb dX0_warmthOfAll_9 (by decide) (fun c2 => ?_) (fun c2 => ?_)
  · skip
    replace h8 := (if_pos c2).symm.trans h8
    have h9 := ho5 _ (Option.some.inj h8).symm
    subst h9
    exact AF5 _ _ _ (lv_sub hl [1] rfl) hP hD hS
  · skip
    replace h8 := (if_neg c2).symm.trans h8
    refine lv_iload_n hx hb dX0_warmthOfAll_12 rfl (lv_at hl 2 rfl) ?_
    refine lv_bipush (v := (6 : Int32)) hx hb dX0_warmthOfAll_13 (by decide) ?_
    refine lv_icmp_ge (tgt := 33) hx hb dX0_warmthOfAll_15 (by decide) (fun c3 => ?_) (fun c3 => ?_)
    · skip
      replace h8 := (if_pos c3).symm.trans h8
      have h10 := ho5 _ (Option.some.inj h8).symm
      subst h10
      exact AF5 _ _ _ (lv_sub hl [1] rfl) hP hD hS
    · skip
      replace h8 := (if_neg c3).symm.trans h8
      refine lv_iload_n hx hb dX0_warmthOfAll_18 rfl (lv_at hl 1 rfl) ?_
      refine lv_aload_n hx hb dX0_warmthOfAll_19 rfl (lv_at hl 0 rfl) ?_
      refine xget (ref := "FriezeFolk$Hall") (C := RX0) (T := TX0) (N := 13) (ci := 0) (v := .ref (ga 2)) hx hb hts inX0 hown hK hP 0 rfl rfl 1 (by decide) k2 rfl rfl dX0_warmthOfAll_20 ?_
      refine lv_iload_n hx hb dX0_warmthOfAll_23 rfl (lv_at hl 2 rfl) ?_
      obtain ⟨v4, q4, h11⟩ := obn h8
      clear h8
      refine xald hx hb hK hP 2 rfl q4 dX0_warmthOfAll_24 ?_
      refine lv_iadd hx hb dX0_warmthOfAll_25 ?_
      refine lv_istore_n (lv' := [(1, .int (s1.1 + v4)), (0, .ref (ga 0)), (2, .int s1.2)]) hx hb dX0_warmthOfAll_26 rfl hl (by decide) rfl (fun ls hl => ?_)
      refine lv_iinc (v := (s1.2 + (1 : Int32))) (lv' := [(2, .int (s1.2 + (1 : Int32))), (1, .int (s1.1 + v4)), (0, .ref (ga 0))]) hx hb dX0_warmthOfAll_27 hl (k := 2) rfl rfl (by decide) rfl (fun ls hl => ?_)
      refine lv_goto (tgt := 4) hx hb dX0_warmthOfAll_30 (by decide) ?_
      exact hi5 _ (Option.some.inj h11).symm _ _ _ (lv_sub hl [2, 1, 0] rfl) hP hD hS
def mX0_fadeOfAll_l4 (g : GS) (s1 : Int32 × Int32) : Option ((Int32 × Int32) ⊕ (Int32 × Int32)) :=
  if (g.2 6) ≤ s1.2 then
    some (.inr (s1.1, s1.2))
  else
    if (12 : Int32) ≤ s1.2 then
      some (.inr (s1.1, s1.2))
    else
      Option.bind (ald 12 (g.1 2) s1.2) fun v4 =>
      some (.inl ((s1.1 + v4), (s1.2 + (1 : Int32))))

def mX0_fadeOfAll (g : GS) : Option (Int32) :=
  Option.bind (whO (mX0_fadeOfAll_l4 g) FU ((0 : Int32), (0 : Int32))) fun e5 =>
  some e5.1
abbrev rmX0_fadeOfAll : Room := { frames := 0, cells := 0, slots := 0, locals := 0 }
set_option maxHeartbeats 4000000 in
set_option maxRecDepth 100000 in
theorem k_X0_fadeOfAll (l : Launch) (D : va_G) (ca : Nat → ClassId) (ga : Nat → Nat) (g : GS) (o : Int32) (hm : mX0_fadeOfAll g = some o) : KI l yX0_fadeOfAll wsX0_fadeOfAll rmX0_fadeOfAll D ca [.ref (ga 0)] (cH ca ga g) (cH ca ga g) o := by
  refine KI.of (cc := cX0_fadeOfAll) (n := 3) (plainFor_of_name (by decide)) rfl (Nat.le_of_ble_eq_true rfl) ?_
  intro p e s m below meth c A Z hx hb hml hts hown hA hK hP hD hS hret ls hl
  have hown : s.vm.findClass RX0 = some m.cls := hown
  have hl : lv_has ls 3 [(0, .ref (ga 0))] := hl
  have inX0 : ∀ w ∈ wsX00, w ∈ wsX0_fadeOfAll := by decide +kernel
  have k1 := hts (.fieldLink RX0 34 "FriezeFolk$Hall" "wide" "I") (by decide +kernel)
  have k2 := hts (.fieldLink RX0 18 "FriezeFolk$Hall" "fade" "[I") (by decide +kernel)
  unfold mX0_fadeOfAll at hm
  refine lv_iconst (v := (0 : Int32)) hx hb dX0_fadeOfAll_0 (by decide) ?_
  refine lv_istore_n (lv' := [(1, .int (0 : Int32)), (0, .ref (ga 0))]) hx hb dX0_fadeOfAll_1 rfl hl (by decide) rfl (fun ls hl => ?_)
  refine lv_iconst (v := (0 : Int32)) hx hb dX0_fadeOfAll_2 (by decide) ?_
  refine lv_istore_n (lv' := [(2, .int (0 : Int32)), (1, .int (0 : Int32)), (0, .ref (ga 0))]) hx hb dX0_fadeOfAll_3 rfl hl (by decide) rfl (fun ls hl => ?_)
  obtain ⟨e5, w6, h7⟩ := obn hm
  clear hm
  have AF5 : ∀ (ls : Array Slot) (H : Heap) (locs : List Loc), lv_has ls 3 [(1, .int e5.1)] → va_P D vwCl (cH ca ga g) H → va_D A (cH ca ga g) → va_S A s.heap H locs → W p l e rmX0_fadeOfAll s m ([.ref (ga 0)] : List Value).toArray below meth c H locs 0 0 Z (F0 m 33 ls []) := by
    intro ls H locs hl hP hD hS
    refine lv_iload_n hx hb dX0_fadeOfAll_33 rfl (lv_at hl 0 rfl) ?_
    obtain rfl := Option.some.inj h7
    exact hret _ _ _ _ (vp_nar_int _) hP hD hS dX0_fadeOfAll_34
  refine whO_walk (I := fun s1 => ∀ (ls : Array Slot) (H : Heap) (locs : List Loc), lv_has ls 3 [(0, .ref (ga 0)), (1, .int s1.1), (2, .int s1.2)] → va_P D vwCl (cH ca ga g) H → va_D A (cH ca ga g) → va_S A s.heap H locs → W p l e rmX0_fadeOfAll s m ([.ref (ga 0)] : List Value).toArray below meth c H locs 0 0 Z (F0 m 4 ls [])) ?_ _ _ w6 _ _ _ (lv_sub hl [2, 1, 0] rfl) hP hD hS
  clear w6
  intro s1 o5 h8 hi5 ho5 ls H locs hl hP hD hS
  unfold mX0_fadeOfAll_l4 at h8
  refine lv_iload_n hx hb dX0_fadeOfAll_4 rfl (lv_at hl 2 rfl) ?_
  refine lv_aload_n hx hb dX0_fadeOfAll_5 rfl (lv_at hl 0 rfl) ?_
  refine xget (ref := "FriezeFolk$Hall") (C := RX0) (T := TX0) (N := 13) (ci := 0) (v := .int (g.2 6)) hx hb hts inX0 hown hK hP 0 rfl rfl 6 (by decide) k1 rfl rfl dX0_fadeOfAll_6 ?_
  refine lv_icmp_ge (tgt := 33) hx hb dX0_fadeOfAll_9 (by decide) (fun c2 => ?_) (fun c2 => ?_)
  · skip
    replace h8 := (if_pos c2).symm.trans h8
    have h9 := ho5 _ (Option.some.inj h8).symm
    subst h9
    exact AF5 _ _ _ (lv_sub hl [1] rfl) hP hD hS
  · skip
    replace h8 := (if_neg c2).symm.trans h8
    refine lv_iload_n hx hb dX0_fadeOfAll_12 rfl (lv_at hl 2 rfl) ?_
    refine lv_bipush (v := (12 : Int32)) hx hb dX0_fadeOfAll_13 (by decide) ?_
    refine lv_icmp_ge (tgt := 33) hx hb dX0_fadeOfAll_15 (by decide) (fun c3 => ?_) (fun c3 => ?_)
    · skip
      replace h8 := (if_pos c3).symm.trans h8
      have h10 := ho5 _ (Option.some.inj h8).symm
      subst h10
      exact AF5 _ _ _ (lv_sub hl [1] rfl) hP hD hS
    · skip
      replace h8 := (if_neg c3).symm.trans h8
      refine lv_iload_n hx hb dX0_fadeOfAll_18 rfl (lv_at hl 1 rfl) ?_
      refine lv_aload_n hx hb dX0_fadeOfAll_19 rfl (lv_at hl 0 rfl) ?_
      refine xget (ref := "FriezeFolk$Hall") (C := RX0) (T := TX0) (N := 13) (ci := 0) (v := .ref (ga 3)) hx hb hts inX0 hown hK hP 0 rfl rfl 2 (by decide) k2 rfl rfl dX0_fadeOfAll_20 ?_
      refine lv_iload_n hx hb dX0_fadeOfAll_23 rfl (lv_at hl 2 rfl) ?_
      obtain ⟨v4, q4, h11⟩ := obn h8
      clear h8
      refine xald hx hb hK hP 3 rfl q4 dX0_fadeOfAll_24 ?_
      refine lv_iadd hx hb dX0_fadeOfAll_25 ?_
      refine lv_istore_n (lv' := [(1, .int (s1.1 + v4)), (0, .ref (ga 0)), (2, .int s1.2)]) hx hb dX0_fadeOfAll_26 rfl hl (by decide) rfl (fun ls hl => ?_)
      refine lv_iinc (v := (s1.2 + (1 : Int32))) (lv' := [(2, .int (s1.2 + (1 : Int32))), (1, .int (s1.1 + v4)), (0, .ref (ga 0))]) hx hb dX0_fadeOfAll_27 hl (k := 2) rfl rfl (by decide) rfl (fun ls hl => ?_)
      refine lv_goto (tgt := 4) hx hb dX0_fadeOfAll_30 (by decide) ?_
      exact hi5 _ (Option.some.inj h11).symm _ _ _ (lv_sub hl [2, 1, 0] rfl) hP hD hS

def mX0_clear (g : GS) : Option (GS) :=
  Option.bind (mJ7_fill_53178 ((sI (sI (sI (sI (sI (sI (sI (sI g 5 (0 : Int32)) 6 (12 : Int32)) 7 (0 : Int32)) 8 (0 : Int32)) 9 (2 : Int32)) 10 (-4 : Int32)) 11 (0 : Int32)) 12 (0 : Int32)).1 2) 12 (0 : Int32)) fun v1 =>
  some (sA (sI (sI (sI (sI (sI (sI (sI (sI g 5 (0 : Int32)) 6 (12 : Int32)) 7 (0 : Int32)) 8 (0 : Int32)) 9 (2 : Int32)) 10 (-4 : Int32)) 11 (0 : Int32)) 12 (0 : Int32)) 2 v1)
abbrev rmX0_clear : Room := { frames := 1, cells := 0, slots := 0, locals := 23 }
set_option maxHeartbeats 4000000 in
set_option maxRecDepth 100000 in
theorem k_X0_clear (l : Launch) (D : va_G) (ca : Nat → ClassId) (ga : Nat → Nat) (g : GS) (o : GS) (hm : mX0_clear g = some o) : KV l yX0_clear wsX0_clear rmX0_clear D ca [.ref (ga 0)] (cH ca ga g) (cH ca ga o) := by
  refine KV.of (cc := cX0_clear) (n := 1) (plainFor_of_name (by decide)) rfl (Nat.le_of_ble_eq_true rfl) ?_
  intro p e s m below meth c A Z hx hb hml hts hown hA hK hP hD hS hret ls hl
  have hown : s.vm.findClass RX0 = some m.cls := hown
  have hl : lv_has ls 1 [(0, .ref (ga 0))] := hl
  have inX0 : ∀ w ∈ wsX00, w ∈ wsX0_clear := by decide +kernel
  have k1 := hts (.fieldLink RX0 30 "FriezeFolk$Hall" "blocks" "I") (by decide +kernel)
  have k2 := hts (.fieldLink RX0 34 "FriezeFolk$Hall" "wide" "I") (by decide +kernel)
  have k3 := hts (.fieldLink RX0 37 "FriezeFolk$Hall" "shift" "I") (by decide +kernel)
  have k4 := hts (.fieldLink RX0 40 "FriezeFolk$Hall" "window" "I") (by decide +kernel)
  have k5 := hts (.fieldLink RX0 43 "FriezeFolk$Hall" "reach" "I") (by decide +kernel)
  have k6 := hts (.fieldLink RX0 46 "FriezeFolk$Hall" "upside" "I") (by decide +kernel)
  have k7 := hts (.fieldLink RX0 49 "FriezeFolk$Hall" "year" "I") (by decide +kernel)
  have k8 := hts (.fieldLink RX0 52 "FriezeFolk$Hall" "rolls" "I") (by decide +kernel)
  have k9 := hts (.fieldLink RX0 18 "FriezeFolk$Hall" "fade" "[I") (by decide +kernel)
  unfold mX0_clear at hm
  refine lv_aload_n hx hb dX0_clear_0 rfl (lv_at hl 0 rfl) ?_
  refine lv_iconst (v := (0 : Int32)) hx hb dX0_clear_1 (by decide) ?_
  refine xput (ref := "FriezeFolk$Hall") (C := RX0) (T := TX0) (N := 13) (ci := 0) (v := .int (0 : Int32)) (ty := .int) hx hb hts inX0 tyX0 tyX0_ok nmX0 hown hK hP hD hS 0 rfl rfl 5 (by decide) k1 rfl rfl (by decide +kernel) rfl rfl (Nat.le_of_ble_eq_true rfl) dX0_clear_2 (wn := (cH ca ga (sI g 5 (0 : Int32)))) rfl (fun H locs hP hD hS => ?_)
  refine lv_aload_n hx hb dX0_clear_5 rfl (lv_at hl 0 rfl) ?_
  refine lv_bipush (v := (12 : Int32)) hx hb dX0_clear_6 (by decide) ?_
  refine xput (ref := "FriezeFolk$Hall") (C := RX0) (T := TX0) (N := 13) (ci := 0) (v := .int (12 : Int32)) (ty := .int) hx hb hts inX0 tyX0 tyX0_ok nmX0 hown hK hP hD hS 0 rfl rfl 6 (by decide) k2 rfl rfl (by decide +kernel) rfl rfl (Nat.le_of_ble_eq_true rfl) dX0_clear_8 (wn := (cH ca ga (sI (sI g 5 (0 : Int32)) 6 (12 : Int32)))) rfl (fun H locs hP hD hS => ?_)
  refine lv_aload_n hx hb dX0_clear_11 rfl (lv_at hl 0 rfl) ?_
  refine lv_iconst (v := (0 : Int32)) hx hb dX0_clear_12 (by decide) ?_
  refine xput (ref := "FriezeFolk$Hall") (C := RX0) (T := TX0) (N := 13) (ci := 0) (v := .int (0 : Int32)) (ty := .int) hx hb hts inX0 tyX0 tyX0_ok nmX0 hown hK hP hD hS 0 rfl rfl 7 (by decide) k3 rfl rfl (by decide +kernel) rfl rfl (Nat.le_of_ble_eq_true rfl) dX0_clear_13 (wn := (cH ca ga (sI (sI (sI g 5 (0 : Int32)) 6 (12 : Int32)) 7 (0 : Int32)))) rfl (fun H locs hP hD hS => ?_)
  refine lv_aload_n hx hb dX0_clear_16 rfl (lv_at hl 0 rfl) ?_
  refine lv_iconst (v := (0 : Int32)) hx hb dX0_clear_17 (by decide) ?_
  refine xput (ref := "FriezeFolk$Hall") (C := RX0) (T := TX0) (N := 13) (ci := 0) (v := .int (0 : Int32)) (ty := .int) hx hb hts inX0 tyX0 tyX0_ok nmX0 hown hK hP hD hS 0 rfl rfl 8 (by decide) k4 rfl rfl (by decide +kernel) rfl rfl (Nat.le_of_ble_eq_true rfl) dX0_clear_18 (wn := (cH ca ga (sI (sI (sI (sI g 5 (0 : Int32)) 6 (12 : Int32)) 7 (0 : Int32)) 8 (0 : Int32)))) rfl (fun H locs hP hD hS => ?_)
  refine lv_aload_n hx hb dX0_clear_21 rfl (lv_at hl 0 rfl) ?_
  refine lv_iconst (v := (2 : Int32)) hx hb dX0_clear_22 (by decide) ?_
  refine xput (ref := "FriezeFolk$Hall") (C := RX0) (T := TX0) (N := 13) (ci := 0) (v := .int (2 : Int32)) (ty := .int) hx hb hts inX0 tyX0 tyX0_ok nmX0 hown hK hP hD hS 0 rfl rfl 9 (by decide) k5 rfl rfl (by decide +kernel) rfl rfl (Nat.le_of_ble_eq_true rfl) dX0_clear_23 (wn := (cH ca ga (sI (sI (sI (sI (sI g 5 (0 : Int32)) 6 (12 : Int32)) 7 (0 : Int32)) 8 (0 : Int32)) 9 (2 : Int32)))) rfl (fun H locs hP hD hS => ?_)
  refine lv_aload_n hx hb dX0_clear_26 rfl (lv_at hl 0 rfl) ?_
  refine lv_bipush (v := (-4 : Int32)) hx hb dX0_clear_27 (by decide) ?_
  refine xput (ref := "FriezeFolk$Hall") (C := RX0) (T := TX0) (N := 13) (ci := 0) (v := .int (-4 : Int32)) (ty := .int) hx hb hts inX0 tyX0 tyX0_ok nmX0 hown hK hP hD hS 0 rfl rfl 10 (by decide) k6 rfl rfl (by decide +kernel) rfl rfl (Nat.le_of_ble_eq_true rfl) dX0_clear_29 (wn := (cH ca ga (sI (sI (sI (sI (sI (sI g 5 (0 : Int32)) 6 (12 : Int32)) 7 (0 : Int32)) 8 (0 : Int32)) 9 (2 : Int32)) 10 (-4 : Int32)))) rfl (fun H locs hP hD hS => ?_)
  refine lv_aload_n hx hb dX0_clear_32 rfl (lv_at hl 0 rfl) ?_
  refine lv_iconst (v := (0 : Int32)) hx hb dX0_clear_33 (by decide) ?_
  refine xput (ref := "FriezeFolk$Hall") (C := RX0) (T := TX0) (N := 13) (ci := 0) (v := .int (0 : Int32)) (ty := .int) hx hb hts inX0 tyX0 tyX0_ok nmX0 hown hK hP hD hS 0 rfl rfl 11 (by decide) k7 rfl rfl (by decide +kernel) rfl rfl (Nat.le_of_ble_eq_true rfl) dX0_clear_34 (wn := (cH ca ga (sI (sI (sI (sI (sI (sI (sI g 5 (0 : Int32)) 6 (12 : Int32)) 7 (0 : Int32)) 8 (0 : Int32)) 9 (2 : Int32)) 10 (-4 : Int32)) 11 (0 : Int32)))) rfl (fun H locs hP hD hS => ?_)
  refine lv_aload_n hx hb dX0_clear_37 rfl (lv_at hl 0 rfl) ?_
  refine lv_iconst (v := (0 : Int32)) hx hb dX0_clear_38 (by decide) ?_
  refine xput (ref := "FriezeFolk$Hall") (C := RX0) (T := TX0) (N := 13) (ci := 0) (v := .int (0 : Int32)) (ty := .int) hx hb hts inX0 tyX0 tyX0_ok nmX0 hown hK hP hD hS 0 rfl rfl 12 (by decide) k8 rfl rfl (by decide +kernel) rfl rfl (Nat.le_of_ble_eq_true rfl) dX0_clear_39 (wn := (cH ca ga (sI (sI (sI (sI (sI (sI (sI (sI g 5 (0 : Int32)) 6 (12 : Int32)) 7 (0 : Int32)) 8 (0 : Int32)) 9 (2 : Int32)) 10 (-4 : Int32)) 11 (0 : Int32)) 12 (0 : Int32)))) rfl (fun H locs hP hD hS => ?_)
  refine lv_aload_n hx hb dX0_clear_42 rfl (lv_at hl 0 rfl) ?_
  refine xget (ref := "FriezeFolk$Hall") (C := RX0) (T := TX0) (N := 13) (ci := 0) (v := .ref (ga 3)) hx hb hts inX0 hown hK hP 0 rfl rfl 2 (by decide) k9 rfl rfl dX0_clear_43 ?_
  refine lv_iconst (v := (0 : Int32)) hx hb dX0_clear_46 (by decide) ?_
  obtain ⟨v1, q1, h2⟩ := obn hm
  clear hm
  refine xSv (As := [.ref (ga 3), .int (0 : Int32)]) ⟨hx, hb, hml, hown, hts⟩ (k_J7_fill_53178 l D ca 12 (ga 3) ((sI (sI (sI (sI (sI (sI (sI (sI g 5 (0 : Int32)) 6 (12 : Int32)) 7 (0 : Int32)) 8 (0 : Int32)) 9 (2 : Int32)) 10 (-4 : Int32)) 11 (0 : Int32)) 12 (0 : Int32)).1 2) (0 : Int32) _ q1) (va_cwS 2 hts gX0_clear_J7_fill_53178 rfl rfl rfl (by decide +kernel) ⟨Nat.le_of_ble_eq_true rfl, Nat.le_of_ble_eq_true rfl⟩) hK hA hP hD hS dX0_clear_47 rfl hl.1 [3] [0, 1, 2, 4, 5] [0, 1, 2, 5, 3, 4] rfl rfl (wr := (((cH ca ga (sA (sI (sI (sI (sI (sI (sI (sI (sI g 5 (0 : Int32)) 6 (12 : Int32)) 7 (0 : Int32)) 8 (0 : Int32)) 9 (2 : Int32)) 10 (-4 : Int32)) 11 (0 : Int32)) 12 (0 : Int32)) 2 v1)).eraseIdx 3))) rfl rfl (by decide) (wn := (cH ca ga (sA (sI (sI (sI (sI (sI (sI (sI (sI g 5 (0 : Int32)) 6 (12 : Int32)) 7 (0 : Int32)) 8 (0 : Int32)) 9 (2 : Int32)) 10 (-4 : Int32)) 11 (0 : Int32)) 12 (0 : Int32)) 2 v1))) rfl rfl rfl (Nat.le_of_ble_eq_true rfl) (fun H locs hP hD hS => ?_)
  obtain rfl := Option.some.inj h2
  exact hret _ _ _ _ hP hD hS dX0_clear_50
def mX0_looksLike_l8 (g : GS) (k : GS) (s1 : Int32) : Option ((Int32) ⊕ ((Int32) ⊕ (Int32))) :=
  if (g.2 6) ≤ s1 then
    some (.inr (.inl s1))
  else
    if (12 : Int32) ≤ s1 then
      some (.inr (.inl s1))
    else
      Option.bind (mX0_looksAt g s1) fun v4 =>
      Option.bind (mX0_looksAt k s1) fun v5 =>
      if v4 = v5 then
        some (.inl (s1 + (1 : Int32)))
      else
        some (.inr (.inr (0 : Int32)))

def mX0_looksLike (g : GS) (k : GS) : Option (Int32) :=
  Option.bind (whO (mX0_looksLike_l8 g k) FU (0 : Int32)) fun e7 => esc e7 fun t8 =>
  some (1 : Int32)
abbrev rmX0_looksLike : Room := { frames := 3, cells := 0, slots := 0, locals := 65 }
set_option maxHeartbeats 4000000 in
set_option maxRecDepth 100000 in
theorem k_X0_looksLike (l : Launch) (D : va_G) (ca : Nat → ClassId) (ga : Nat → Nat) (ka : Nat → Nat) (g : GS) (k : GS) (o : Int32) (hm : mX0_looksLike g k = some o) : KI l yX0_looksLike wsX0_looksLike rmX0_looksLike D ca [.ref (ga 0), .ref (ka 0)] ((cH ca ga g) ++ (cH ca ka k)) ((cH ca ga g) ++ (cH ca ka k)) o := by
  refine KI.of (cc := cX0_looksLike) (n := 3) (plainFor_of_name (by decide)) rfl (Nat.le_of_ble_eq_true rfl) ?_
  intro p e s m below meth c A Z hx hb hml hts hown hA hK hP hD hS hret ls hl
  have hown : s.vm.findClass RX0 = some m.cls := hown
  have hl : lv_has ls 3 [(0, .ref (ga 0)), (1, .ref (ka 0))] := hl
  have inX0 : ∀ w ∈ wsX00, w ∈ wsX0_looksLike := by decide +kernel
  have k1 := hts (.fieldLink RX0 34 "FriezeFolk$Hall" "wide" "I") (by decide +kernel)
  unfold mX0_looksLike at hm
  refine lv_aload_n hx hb dX0_looksLike_0 rfl (lv_at hl 1 rfl) ?_
  refine lv_ifnonnull (tgt := 6) hx hb dX0_looksLike_1 (by decide) ?_
  refine lv_iconst (v := (0 : Int32)) hx hb dX0_looksLike_6 (by decide) ?_
  refine lv_istore_n (lv' := [(2, .int (0 : Int32)), (0, .ref (ga 0)), (1, .ref (ka 0))]) hx hb dX0_looksLike_7 rfl hl (by decide) rfl (fun ls hl => ?_)
  obtain ⟨e7, w9, h10⟩ := obn hm
  clear hm
  have AF7 : ∀ t8, e7 = .inl t8 → ∀ (ls : Array Slot) (H : Heap) (locs : List Loc), lv_has ls 3 [] → va_P D vwCl ((cH ca ga g) ++ (cH ca ka k)) H → va_D A ((cH ca ga g) ++ (cH ca ka k)) → va_S A s.heap H locs → W p l e rmX0_looksLike s m ([.ref (ga 0), .ref (ka 0)] : List Value).toArray below meth c H locs 0 0 Z (F0 m 43 ls []) := by
    intro t8 ht ls H locs hl hP hD hS
    subst ht
    replace h10 := (esc_l _ _).symm.trans h10
    refine lv_iconst (v := (1 : Int32)) hx hb dX0_looksLike_43 (by decide) ?_
    obtain rfl := Option.some.inj h10
    exact hret _ _ _ _ nar1 hP hD hS dX0_looksLike_44
  refine whO_walk (I := fun s1 => ∀ (ls : Array Slot) (H : Heap) (locs : List Loc), lv_has ls 3 [(0, .ref (ga 0)), (1, .ref (ka 0)), (2, .int s1)] → va_P D vwCl ((cH ca ga g) ++ (cH ca ka k)) H → va_D A ((cH ca ga g) ++ (cH ca ka k)) → va_S A s.heap H locs → W p l e rmX0_looksLike s m ([.ref (ga 0), .ref (ka 0)] : List Value).toArray below meth c H locs 0 0 Z (F0 m 8 ls [])) ?_ _ _ w9 _ _ _ (lv_sub hl [1, 2, 0] rfl) hP hD hS
  clear w9
  intro s1 o7 h11 hi7 ho7 ls H locs hl hP hD hS
  unfold mX0_looksLike_l8 at h11
  refine lv_iload_n hx hb dX0_looksLike_8 rfl (lv_at hl 2 rfl) ?_
  refine lv_aload_n hx hb dX0_looksLike_9 rfl (lv_at hl 0 rfl) ?_
  refine xget (ref := "FriezeFolk$Hall") (C := RX0) (T := TX0) (N := 13) (ci := 0) (v := .int (g.2 6)) hx hb hts inX0 hown hK hP 0 rfl rfl 6 (by decide) k1 rfl rfl dX0_looksLike_10 ?_
  refine lv_icmp_ge (tgt := 43) hx hb dX0_looksLike_13 (by decide) (fun c2 => ?_) (fun c2 => ?_)
  · skip
    replace h11 := (if_pos c2).symm.trans h11
    have h12 := ho7 _ (Option.some.inj h11).symm
    subst h12
    exact AF7 _ rfl _ _ _ (lv_sub hl [] rfl) hP hD hS
  · skip
    replace h11 := (if_neg c2).symm.trans h11
    refine lv_iload_n hx hb dX0_looksLike_16 rfl (lv_at hl 2 rfl) ?_
    refine lv_bipush (v := (12 : Int32)) hx hb dX0_looksLike_17 (by decide) ?_
    refine lv_icmp_ge (tgt := 43) hx hb dX0_looksLike_19 (by decide) (fun c3 => ?_) (fun c3 => ?_)
    · skip
      replace h11 := (if_pos c3).symm.trans h11
      have h13 := ho7 _ (Option.some.inj h11).symm
      subst h13
      exact AF7 _ rfl _ _ _ (lv_sub hl [] rfl) hP hD hS
    · skip
      replace h11 := (if_neg c3).symm.trans h11
      refine lv_aload_n hx hb dX0_looksLike_22 rfl (lv_at hl 0 rfl) ?_
      refine lv_iload_n hx hb dX0_looksLike_23 rfl (lv_at hl 2 rfl) ?_
      obtain ⟨v4, q4, h14⟩ := obn h11
      clear h11
      refine xVi (As := [.int s1]) (ci := 0) ⟨hx, hb, hml, hown, hts⟩ (k_X0_looksAt l D ca ga g s1 _ q4) (cwV 1 hts gX0_looksLike_X0_looksAt rfl rfl rfl (by decide +kernel) ⟨Nat.le_of_ble_eq_true rfl, Nat.le_of_ble_eq_true rfl⟩) hK hA hP hD hS dX0_looksLike_24 rfl hl.1 [0, 1, 2, 3, 4, 5] [6, 7, 8, 9, 10, 11] [6, 7, 8, 9, 10, 11, 0, 1, 2, 3, 4, 5] rfl rfl (wr := ((cH ca ka k))) rfl rfl (by decide) (wn := ((cH ca ga g) ++ (cH ca ka k))) rfl rfl rfl rfl rfl rfl (Nat.le_of_ble_eq_true rfl) (fun H locs hP hD hS => ?_)
      refine lv_aload_n hx hb dX0_looksLike_27 rfl (lv_at hl 1 rfl) ?_
      refine lv_iload_n hx hb dX0_looksLike_28 rfl (lv_at hl 2 rfl) ?_
      obtain ⟨v5, q5, h15⟩ := obn h14
      clear h14
      refine xVi (As := [.int s1]) (ci := 0) ⟨hx, hb, hml, hown, hts⟩ (k_X0_looksAt l D ca ka k s1 _ q5) (cwV 1 hts gX0_looksLike_X0_looksAt rfl rfl rfl (by decide +kernel) ⟨Nat.le_of_ble_eq_true rfl, Nat.le_of_ble_eq_true rfl⟩) hK hA hP hD hS dX0_looksLike_29 rfl hl.1 [6, 7, 8, 9, 10, 11] [0, 1, 2, 3, 4, 5] [0, 1, 2, 3, 4, 5, 6, 7, 8, 9, 10, 11] rfl rfl (wr := ((cH ca ga g))) rfl rfl (by decide) (wn := ((cH ca ga g) ++ (cH ca ka k))) rfl rfl rfl rfl rfl rfl (Nat.le_of_ble_eq_true rfl) (fun H locs hP hD hS => ?_)
      refine lv_icmp_eq (tgt := 37) hx hb dX0_looksLike_32 (by decide) (fun c6 => ?_) (fun c6 => ?_)
      · skip
        replace h15 := (if_pos c6).symm.trans h15
        refine lv_iinc (v := (s1 + (1 : Int32))) (lv' := [(2, .int (s1 + (1 : Int32))), (0, .ref (ga 0)), (1, .ref (ka 0))]) hx hb dX0_looksLike_37 hl (k := 2) rfl rfl (by decide) rfl (fun ls hl => ?_)
        refine lv_goto (tgt := 8) hx hb dX0_looksLike_40 (by decide) ?_
        exact hi7 _ (Option.some.inj h15).symm _ _ _ (lv_sub hl [1, 2, 0] rfl) hP hD hS
      · skip
        replace h15 := (if_neg c6).symm.trans h15
        refine lv_iconst (v := (0 : Int32)) hx hb dX0_looksLike_35 (by decide) ?_
        have h16 := ho7 _ (Option.some.inj h15).symm
        subst h16
        replace h10 := (esc_r _ _).symm.trans h10
        obtain rfl := Option.some.inj h10
        exact hret _ _ _ _ nar0 hP hD hS dX0_looksLike_36

def mX0_copy (g : GS) (k : GS) : Option (GS) :=
  some (sI (sI (sI (sI (sI (sI (sI (sI (sA (sA (sA (sA (sA g 0 (va_cpy (k.1 0) (g.1 0) 0 0 6)) 1 (va_cpy (k.1 1) ((sA g 0 (va_cpy (k.1 0) (g.1 0) 0 0 6)).1 1) 0 0 6)) 2 (va_cpy (k.1 2) ((sA (sA g 0 (va_cpy (k.1 0) (g.1 0) 0 0 6)) 1 (va_cpy (k.1 1) ((sA g 0 (va_cpy (k.1 0) (g.1 0) 0 0 6)).1 1) 0 0 6)).1 2) 0 0 12)) 3 (va_cpy (k.1 3) ((sA (sA (sA g 0 (va_cpy (k.1 0) (g.1 0) 0 0 6)) 1 (va_cpy (k.1 1) ((sA g 0 (va_cpy (k.1 0) (g.1 0) 0 0 6)).1 1) 0 0 6)) 2 (va_cpy (k.1 2) ((sA (sA g 0 (va_cpy (k.1 0) (g.1 0) 0 0 6)) 1 (va_cpy (k.1 1) ((sA g 0 (va_cpy (k.1 0) (g.1 0) 0 0 6)).1 1) 0 0 6)).1 2) 0 0 12)).1 3) 0 0 4)) 4 (va_cpy (k.1 4) ((sA (sA (sA (sA g 0 (va_cpy (k.1 0) (g.1 0) 0 0 6)) 1 (va_cpy (k.1 1) ((sA g 0 (va_cpy (k.1 0) (g.1 0) 0 0 6)).1 1) 0 0 6)) 2 (va_cpy (k.1 2) ((sA (sA g 0 (va_cpy (k.1 0) (g.1 0) 0 0 6)) 1 (va_cpy (k.1 1) ((sA g 0 (va_cpy (k.1 0) (g.1 0) 0 0 6)).1 1) 0 0 6)).1 2) 0 0 12)) 3 (va_cpy (k.1 3) ((sA (sA (sA g 0 (va_cpy (k.1 0) (g.1 0) 0 0 6)) 1 (va_cpy (k.1 1) ((sA g 0 (va_cpy (k.1 0) (g.1 0) 0 0 6)).1 1) 0 0 6)) 2 (va_cpy (k.1 2) ((sA (sA g 0 (va_cpy (k.1 0) (g.1 0) 0 0 6)) 1 (va_cpy (k.1 1) ((sA g 0 (va_cpy (k.1 0) (g.1 0) 0 0 6)).1 1) 0 0 6)).1 2) 0 0 12)).1 3) 0 0 4)).1 4) 0 0 4)) 5 (k.2 5)) 6 (k.2 6)) 7 (k.2 7)) 8 (k.2 8)) 9 (k.2 9)) 10 (k.2 10)) 11 (k.2 11)) 12 (k.2 12))
abbrev rmX0_copy : Room := { frames := 1, cells := 0, slots := 0, locals := 60 }
set_option maxHeartbeats 4000000 in
set_option maxRecDepth 100000 in
theorem k_X0_copy (l : Launch) (D : va_G) (ca : Nat → ClassId) (ga : Nat → Nat) (ka : Nat → Nat) (g : GS) (k : GS) (o : GS) (hm : mX0_copy g k = some o) : KV l yX0_copy wsX0_copy rmX0_copy D ca [.ref (ga 0), .ref (ka 0)] ((cH ca ga g) ++ (cH ca ka k)) ((cH ca ga o) ++ (cH ca ka k)) := by
  refine KV.of (cc := cX0_copy) (n := 2) (plainFor_of_name (by decide)) rfl (Nat.le_of_ble_eq_true rfl) ?_
  intro p e s m below meth c A Z hx hb hml hts hown hA hK hP hD hS hret ls hl
  have hown : s.vm.findClass RX0 = some m.cls := hown
  have hl : lv_has ls 2 [(0, .ref (ga 0)), (1, .ref (ka 0))] := hl
  have inX0 : ∀ w ∈ wsX00, w ∈ wsX0_copy := by decide +kernel
  have k1 := hts (.fieldLink RX0 9 "FriezeFolk$Hall" "kind" "[I") (by decide +kernel)
  have k2 := hts (.methodLink RX0 61 arraycopyName) (by decide +kernel)
  have k3 := hts (.native arraycopyName) (by decide +kernel)
  have k4 := hts (.static arraycopyName) (by decide +kernel)
  have k5 := hts (.initialized "java/lang/System") (by decide +kernel)
  have k6 := hts (.fieldLink RX0 15 "FriezeFolk$Hall" "warmth" "[I") (by decide +kernel)
  have k7 := hts (.fieldLink RX0 18 "FriezeFolk$Hall" "fade" "[I") (by decide +kernel)
  have k8 := hts (.fieldLink RX0 21 "FriezeFolk$Hall" "length" "[I") (by decide +kernel)
  have k9 := hts (.fieldLink RX0 24 "FriezeFolk$Hall" "price" "[I") (by decide +kernel)
  have k10 := hts (.fieldLink RX0 30 "FriezeFolk$Hall" "blocks" "I") (by decide +kernel)
  have k11 := hts (.fieldLink RX0 34 "FriezeFolk$Hall" "wide" "I") (by decide +kernel)
  have k12 := hts (.fieldLink RX0 37 "FriezeFolk$Hall" "shift" "I") (by decide +kernel)
  have k13 := hts (.fieldLink RX0 40 "FriezeFolk$Hall" "window" "I") (by decide +kernel)
  have k14 := hts (.fieldLink RX0 43 "FriezeFolk$Hall" "reach" "I") (by decide +kernel)
  have k15 := hts (.fieldLink RX0 46 "FriezeFolk$Hall" "upside" "I") (by decide +kernel)
  have k16 := hts (.fieldLink RX0 49 "FriezeFolk$Hall" "year" "I") (by decide +kernel)
  have k17 := hts (.fieldLink RX0 52 "FriezeFolk$Hall" "rolls" "I") (by decide +kernel)
  unfold mX0_copy at hm
  refine lv_aload_n hx hb dX0_copy_0 rfl (lv_at hl 1 rfl) ?_
  refine lv_ifnonnull (tgt := 5) hx hb dX0_copy_1 (by decide) ?_
  refine lv_aload_n hx hb dX0_copy_5 rfl (lv_at hl 1 rfl) ?_
  refine xget (ref := "FriezeFolk$Hall") (C := RX0) (T := TX0) (N := 13) (ci := 0) (v := .ref (ka 1)) hx hb hts inX0 hown hK hP 6 rfl rfl 0 (by decide) k1 rfl rfl dX0_copy_6 ?_
  refine lv_iconst (v := (0 : Int32)) hx hb dX0_copy_9 (by decide) ?_
  refine lv_aload_n hx hb dX0_copy_10 rfl (lv_at hl 0 rfl) ?_
  refine xget (ref := "FriezeFolk$Hall") (C := RX0) (T := TX0) (N := 13) (ci := 0) (v := .ref (ga 1)) hx hb hts inX0 hown hK hP 0 rfl rfl 0 (by decide) k1 rfl rfl dX0_copy_11 ?_
  refine lv_iconst (v := (0 : Int32)) hx hb dX0_copy_14 (by decide) ?_
  refine lv_bipush (v := (6 : Int32)) hx hb dX0_copy_15 (by decide) ?_
  refine xcpy hx hb (hml.trans hl.1.symm) hown k2 k3 k4 k5 hK hP hD hS 7 1 rfl rfl (n := (6 : Int32)) (k := 6) (by decide) (by decide) (by decide) (Nat.le_of_ble_eq_true rfl) (Nat.le_of_ble_eq_true rfl) dX0_copy_17 (wn := ((cH ca ga (sA g 0 (va_cpy (k.1 0) (g.1 0) 0 0 6))) ++ (cH ca ka k))) rfl (fun H locs hP hD hS => ?_)
  refine lv_aload_n hx hb dX0_copy_20 rfl (lv_at hl 1 rfl) ?_
  refine xget (ref := "FriezeFolk$Hall") (C := RX0) (T := TX0) (N := 13) (ci := 0) (v := .ref (ka 2)) hx hb hts inX0 hown hK hP 6 rfl rfl 1 (by decide) k6 rfl rfl dX0_copy_21 ?_
  refine lv_iconst (v := (0 : Int32)) hx hb dX0_copy_24 (by decide) ?_
  refine lv_aload_n hx hb dX0_copy_25 rfl (lv_at hl 0 rfl) ?_
  refine xget (ref := "FriezeFolk$Hall") (C := RX0) (T := TX0) (N := 13) (ci := 0) (v := .ref (ga 2)) hx hb hts inX0 hown hK hP 0 rfl rfl 1 (by decide) k6 rfl rfl dX0_copy_26 ?_
  refine lv_iconst (v := (0 : Int32)) hx hb dX0_copy_29 (by decide) ?_
  refine lv_bipush (v := (6 : Int32)) hx hb dX0_copy_30 (by decide) ?_
  refine xcpy hx hb (hml.trans hl.1.symm) hown k2 k3 k4 k5 hK hP hD hS 8 2 rfl rfl (n := (6 : Int32)) (k := 6) (by decide) (by decide) (by decide) (Nat.le_of_ble_eq_true rfl) (Nat.le_of_ble_eq_true rfl) dX0_copy_32 (wn := ((cH ca ga (sA (sA g 0 (va_cpy (k.1 0) (g.1 0) 0 0 6)) 1 (va_cpy (k.1 1) ((sA g 0 (va_cpy (k.1 0) (g.1 0) 0 0 6)).1 1) 0 0 6))) ++ (cH ca ka k))) rfl (fun H locs hP hD hS => ?_)
  refine lv_aload_n hx hb dX0_copy_35 rfl (lv_at hl 1 rfl) ?_
  refine xget (ref := "FriezeFolk$Hall") (C := RX0) (T := TX0) (N := 13) (ci := 0) (v := .ref (ka 3)) hx hb hts inX0 hown hK hP 6 rfl rfl 2 (by decide) k7 rfl rfl dX0_copy_36 ?_
  refine lv_iconst (v := (0 : Int32)) hx hb dX0_copy_39 (by decide) ?_
  refine lv_aload_n hx hb dX0_copy_40 rfl (lv_at hl 0 rfl) ?_
  refine xget (ref := "FriezeFolk$Hall") (C := RX0) (T := TX0) (N := 13) (ci := 0) (v := .ref (ga 3)) hx hb hts inX0 hown hK hP 0 rfl rfl 2 (by decide) k7 rfl rfl dX0_copy_41 ?_
  refine lv_iconst (v := (0 : Int32)) hx hb dX0_copy_44 (by decide) ?_
  refine lv_bipush (v := (12 : Int32)) hx hb dX0_copy_45 (by decide) ?_
  refine xcpy hx hb (hml.trans hl.1.symm) hown k2 k3 k4 k5 hK hP hD hS 9 3 rfl rfl (n := (12 : Int32)) (k := 12) (by decide) (by decide) (by decide) (Nat.le_of_ble_eq_true rfl) (Nat.le_of_ble_eq_true rfl) dX0_copy_47 (wn := ((cH ca ga (sA (sA (sA g 0 (va_cpy (k.1 0) (g.1 0) 0 0 6)) 1 (va_cpy (k.1 1) ((sA g 0 (va_cpy (k.1 0) (g.1 0) 0 0 6)).1 1) 0 0 6)) 2 (va_cpy (k.1 2) ((sA (sA g 0 (va_cpy (k.1 0) (g.1 0) 0 0 6)) 1 (va_cpy (k.1 1) ((sA g 0 (va_cpy (k.1 0) (g.1 0) 0 0 6)).1 1) 0 0 6)).1 2) 0 0 12))) ++ (cH ca ka k))) rfl (fun H locs hP hD hS => ?_)
  refine lv_aload_n hx hb dX0_copy_50 rfl (lv_at hl 1 rfl) ?_
  refine xget (ref := "FriezeFolk$Hall") (C := RX0) (T := TX0) (N := 13) (ci := 0) (v := .ref (ka 4)) hx hb hts inX0 hown hK hP 6 rfl rfl 3 (by decide) k8 rfl rfl dX0_copy_51 ?_
  refine lv_iconst (v := (0 : Int32)) hx hb dX0_copy_54 (by decide) ?_
  refine lv_aload_n hx hb dX0_copy_55 rfl (lv_at hl 0 rfl) ?_
  refine xget (ref := "FriezeFolk$Hall") (C := RX0) (T := TX0) (N := 13) (ci := 0) (v := .ref (ga 4)) hx hb hts inX0 hown hK hP 0 rfl rfl 3 (by decide) k8 rfl rfl dX0_copy_56 ?_
  refine lv_iconst (v := (0 : Int32)) hx hb dX0_copy_59 (by decide) ?_
  refine lv_iconst (v := (4 : Int32)) hx hb dX0_copy_60 (by decide) ?_
  refine xcpy hx hb (hml.trans hl.1.symm) hown k2 k3 k4 k5 hK hP hD hS 10 4 rfl rfl (n := (4 : Int32)) (k := 4) (by decide) (by decide) (by decide) (Nat.le_of_ble_eq_true rfl) (Nat.le_of_ble_eq_true rfl) dX0_copy_61 (wn := ((cH ca ga (sA (sA (sA (sA g 0 (va_cpy (k.1 0) (g.1 0) 0 0 6)) 1 (va_cpy (k.1 1) ((sA g 0 (va_cpy (k.1 0) (g.1 0) 0 0 6)).1 1) 0 0 6)) 2 (va_cpy (k.1 2) ((sA (sA g 0 (va_cpy (k.1 0) (g.1 0) 0 0 6)) 1 (va_cpy (k.1 1) ((sA g 0 (va_cpy (k.1 0) (g.1 0) 0 0 6)).1 1) 0 0 6)).1 2) 0 0 12)) 3 (va_cpy (k.1 3) ((sA (sA (sA g 0 (va_cpy (k.1 0) (g.1 0) 0 0 6)) 1 (va_cpy (k.1 1) ((sA g 0 (va_cpy (k.1 0) (g.1 0) 0 0 6)).1 1) 0 0 6)) 2 (va_cpy (k.1 2) ((sA (sA g 0 (va_cpy (k.1 0) (g.1 0) 0 0 6)) 1 (va_cpy (k.1 1) ((sA g 0 (va_cpy (k.1 0) (g.1 0) 0 0 6)).1 1) 0 0 6)).1 2) 0 0 12)).1 3) 0 0 4))) ++ (cH ca ka k))) rfl (fun H locs hP hD hS => ?_)
  refine lv_aload_n hx hb dX0_copy_64 rfl (lv_at hl 1 rfl) ?_
  refine xget (ref := "FriezeFolk$Hall") (C := RX0) (T := TX0) (N := 13) (ci := 0) (v := .ref (ka 5)) hx hb hts inX0 hown hK hP 6 rfl rfl 4 (by decide) k9 rfl rfl dX0_copy_65 ?_
  refine lv_iconst (v := (0 : Int32)) hx hb dX0_copy_68 (by decide) ?_
  refine lv_aload_n hx hb dX0_copy_69 rfl (lv_at hl 0 rfl) ?_
  refine xget (ref := "FriezeFolk$Hall") (C := RX0) (T := TX0) (N := 13) (ci := 0) (v := .ref (ga 5)) hx hb hts inX0 hown hK hP 0 rfl rfl 4 (by decide) k9 rfl rfl dX0_copy_70 ?_
  refine lv_iconst (v := (0 : Int32)) hx hb dX0_copy_73 (by decide) ?_
  refine lv_iconst (v := (4 : Int32)) hx hb dX0_copy_74 (by decide) ?_
  refine xcpy hx hb (hml.trans hl.1.symm) hown k2 k3 k4 k5 hK hP hD hS 11 5 rfl rfl (n := (4 : Int32)) (k := 4) (by decide) (by decide) (by decide) (Nat.le_of_ble_eq_true rfl) (Nat.le_of_ble_eq_true rfl) dX0_copy_75 (wn := ((cH ca ga (sA (sA (sA (sA (sA g 0 (va_cpy (k.1 0) (g.1 0) 0 0 6)) 1 (va_cpy (k.1 1) ((sA g 0 (va_cpy (k.1 0) (g.1 0) 0 0 6)).1 1) 0 0 6)) 2 (va_cpy (k.1 2) ((sA (sA g 0 (va_cpy (k.1 0) (g.1 0) 0 0 6)) 1 (va_cpy (k.1 1) ((sA g 0 (va_cpy (k.1 0) (g.1 0) 0 0 6)).1 1) 0 0 6)).1 2) 0 0 12)) 3 (va_cpy (k.1 3) ((sA (sA (sA g 0 (va_cpy (k.1 0) (g.1 0) 0 0 6)) 1 (va_cpy (k.1 1) ((sA g 0 (va_cpy (k.1 0) (g.1 0) 0 0 6)).1 1) 0 0 6)) 2 (va_cpy (k.1 2) ((sA (sA g 0 (va_cpy (k.1 0) (g.1 0) 0 0 6)) 1 (va_cpy (k.1 1) ((sA g 0 (va_cpy (k.1 0) (g.1 0) 0 0 6)).1 1) 0 0 6)).1 2) 0 0 12)).1 3) 0 0 4)) 4 (va_cpy (k.1 4) ((sA (sA (sA (sA g 0 (va_cpy (k.1 0) (g.1 0) 0 0 6)) 1 (va_cpy (k.1 1) ((sA g 0 (va_cpy (k.1 0) (g.1 0) 0 0 6)).1 1) 0 0 6)) 2 (va_cpy (k.1 2) ((sA (sA g 0 (va_cpy (k.1 0) (g.1 0) 0 0 6)) 1 (va_cpy (k.1 1) ((sA g 0 (va_cpy (k.1 0) (g.1 0) 0 0 6)).1 1) 0 0 6)).1 2) 0 0 12)) 3 (va_cpy (k.1 3) ((sA (sA (sA g 0 (va_cpy (k.1 0) (g.1 0) 0 0 6)) 1 (va_cpy (k.1 1) ((sA g 0 (va_cpy (k.1 0) (g.1 0) 0 0 6)).1 1) 0 0 6)) 2 (va_cpy (k.1 2) ((sA (sA g 0 (va_cpy (k.1 0) (g.1 0) 0 0 6)) 1 (va_cpy (k.1 1) ((sA g 0 (va_cpy (k.1 0) (g.1 0) 0 0 6)).1 1) 0 0 6)).1 2) 0 0 12)).1 3) 0 0 4)).1 4) 0 0 4))) ++ (cH ca ka k))) rfl (fun H locs hP hD hS => ?_)
  refine lv_aload_n hx hb dX0_copy_78 rfl (lv_at hl 0 rfl) ?_
  refine lv_aload_n hx hb dX0_copy_79 rfl (lv_at hl 1 rfl) ?_
  refine xget (ref := "FriezeFolk$Hall") (C := RX0) (T := TX0) (N := 13) (ci := 0) (v := .int (k.2 5)) hx hb hts inX0 hown hK hP 6 rfl rfl 5 (by decide) k10 rfl rfl dX0_copy_80 ?_
  refine xput (ref := "FriezeFolk$Hall") (C := RX0) (T := TX0) (N := 13) (ci := 0) (v := .int (k.2 5)) (ty := .int) hx hb hts inX0 tyX0 tyX0_ok nmX0 hown hK hP hD hS 0 rfl rfl 5 (by decide) k10 rfl rfl (by decide +kernel) rfl rfl (Nat.le_of_ble_eq_true rfl) dX0_copy_83 (wn := ((cH ca ga (sI (sA (sA (sA (sA (sA g 0 (va_cpy (k.1 0) (g.1 0) 0 0 6)) 1 (va_cpy (k.1 1) ((sA g 0 (va_cpy (k.1 0) (g.1 0) 0 0 6)).1 1) 0 0 6)) 2 (va_cpy (k.1 2) ((sA (sA g 0 (va_cpy (k.1 0) (g.1 0) 0 0 6)) 1 (va_cpy (k.1 1) ((sA g 0 (va_cpy (k.1 0) (g.1 0) 0 0 6)).1 1) 0 0 6)).1 2) 0 0 12)) 3 (va_cpy (k.1 3) ((sA (sA (sA g 0 (va_cpy (k.1 0) (g.1 0) 0 0 6)) 1 (va_cpy (k.1 1) ((sA g 0 (va_cpy (k.1 0) (g.1 0) 0 0 6)).1 1) 0 0 6)) 2 (va_cpy (k.1 2) ((sA (sA g 0 (va_cpy (k.1 0) (g.1 0) 0 0 6)) 1 (va_cpy (k.1 1) ((sA g 0 (va_cpy (k.1 0) (g.1 0) 0 0 6)).1 1) 0 0 6)).1 2) 0 0 12)).1 3) 0 0 4)) 4 (va_cpy (k.1 4) ((sA (sA (sA (sA g 0 (va_cpy (k.1 0) (g.1 0) 0 0 6)) 1 (va_cpy (k.1 1) ((sA g 0 (va_cpy (k.1 0) (g.1 0) 0 0 6)).1 1) 0 0 6)) 2 (va_cpy (k.1 2) ((sA (sA g 0 (va_cpy (k.1 0) (g.1 0) 0 0 6)) 1 (va_cpy (k.1 1) ((sA g 0 (va_cpy (k.1 0) (g.1 0) 0 0 6)).1 1) 0 0 6)).1 2) 0 0 12)) 3 (va_cpy (k.1 3) ((sA (sA (sA g 0 (va_cpy (k.1 0) (g.1 0) 0 0 6)) 1 (va_cpy (k.1 1) ((sA g 0 (va_cpy (k.1 0) (g.1 0) 0 0 6)).1 1) 0 0 6)) 2 (va_cpy (k.1 2) ((sA (sA g 0 (va_cpy (k.1 0) (g.1 0) 0 0 6)) 1 (va_cpy (k.1 1) ((sA g 0 (va_cpy (k.1 0) (g.1 0) 0 0 6)).1 1) 0 0 6)).1 2) 0 0 12)).1 3) 0 0 4)).1 4) 0 0 4)) 5 (k.2 5))) ++ (cH ca ka k))) rfl (fun H locs hP hD hS => ?_)
  refine lv_aload_n hx hb dX0_copy_86 rfl (lv_at hl 0 rfl) ?_
  refine lv_aload_n hx hb dX0_copy_87 rfl (lv_at hl 1 rfl) ?_
  refine xget (ref := "FriezeFolk$Hall") (C := RX0) (T := TX0) (N := 13) (ci := 0) (v := .int (k.2 6)) hx hb hts inX0 hown hK hP 6 rfl rfl 6 (by decide) k11 rfl rfl dX0_copy_88 ?_
  refine xput (ref := "FriezeFolk$Hall") (C := RX0) (T := TX0) (N := 13) (ci := 0) (v := .int (k.2 6)) (ty := .int) hx hb hts inX0 tyX0 tyX0_ok nmX0 hown hK hP hD hS 0 rfl rfl 6 (by decide) k11 rfl rfl (by decide +kernel) rfl rfl (Nat.le_of_ble_eq_true rfl) dX0_copy_91 (wn := ((cH ca ga (sI (sI (sA (sA (sA (sA (sA g 0 (va_cpy (k.1 0) (g.1 0) 0 0 6)) 1 (va_cpy (k.1 1) ((sA g 0 (va_cpy (k.1 0) (g.1 0) 0 0 6)).1 1) 0 0 6)) 2 (va_cpy (k.1 2) ((sA (sA g 0 (va_cpy (k.1 0) (g.1 0) 0 0 6)) 1 (va_cpy (k.1 1) ((sA g 0 (va_cpy (k.1 0) (g.1 0) 0 0 6)).1 1) 0 0 6)).1 2) 0 0 12)) 3 (va_cpy (k.1 3) ((sA (sA (sA g 0 (va_cpy (k.1 0) (g.1 0) 0 0 6)) 1 (va_cpy (k.1 1) ((sA g 0 (va_cpy (k.1 0) (g.1 0) 0 0 6)).1 1) 0 0 6)) 2 (va_cpy (k.1 2) ((sA (sA g 0 (va_cpy (k.1 0) (g.1 0) 0 0 6)) 1 (va_cpy (k.1 1) ((sA g 0 (va_cpy (k.1 0) (g.1 0) 0 0 6)).1 1) 0 0 6)).1 2) 0 0 12)).1 3) 0 0 4)) 4 (va_cpy (k.1 4) ((sA (sA (sA (sA g 0 (va_cpy (k.1 0) (g.1 0) 0 0 6)) 1 (va_cpy (k.1 1) ((sA g 0 (va_cpy (k.1 0) (g.1 0) 0 0 6)).1 1) 0 0 6)) 2 (va_cpy (k.1 2) ((sA (sA g 0 (va_cpy (k.1 0) (g.1 0) 0 0 6)) 1 (va_cpy (k.1 1) ((sA g 0 (va_cpy (k.1 0) (g.1 0) 0 0 6)).1 1) 0 0 6)).1 2) 0 0 12)) 3 (va_cpy (k.1 3) ((sA (sA (sA g 0 (va_cpy (k.1 0) (g.1 0) 0 0 6)) 1 (va_cpy (k.1 1) ((sA g 0 (va_cpy (k.1 0) (g.1 0) 0 0 6)).1 1) 0 0 6)) 2 (va_cpy (k.1 2) ((sA (sA g 0 (va_cpy (k.1 0) (g.1 0) 0 0 6)) 1 (va_cpy (k.1 1) ((sA g 0 (va_cpy (k.1 0) (g.1 0) 0 0 6)).1 1) 0 0 6)).1 2) 0 0 12)).1 3) 0 0 4)).1 4) 0 0 4)) 5 (k.2 5)) 6 (k.2 6))) ++ (cH ca ka k))) rfl (fun H locs hP hD hS => ?_)
  refine lv_aload_n hx hb dX0_copy_94 rfl (lv_at hl 0 rfl) ?_
  refine lv_aload_n hx hb dX0_copy_95 rfl (lv_at hl 1 rfl) ?_
  refine xget (ref := "FriezeFolk$Hall") (C := RX0) (T := TX0) (N := 13) (ci := 0) (v := .int (k.2 7)) hx hb hts inX0 hown hK hP 6 rfl rfl 7 (by decide) k12 rfl rfl dX0_copy_96 ?_
  refine xput (ref := "FriezeFolk$Hall") (C := RX0) (T := TX0) (N := 13) (ci := 0) (v := .int (k.2 7)) (ty := .int) hx hb hts inX0 tyX0 tyX0_ok nmX0 hown hK hP hD hS 0 rfl rfl 7 (by decide) k12 rfl rfl (by decide +kernel) rfl rfl (Nat.le_of_ble_eq_true rfl) dX0_copy_99 (wn := ((cH ca ga (sI (sI (sI (sA (sA (sA (sA (sA g 0 (va_cpy (k.1 0) (g.1 0) 0 0 6)) 1 (va_cpy (k.1 1) ((sA g 0 (va_cpy (k.1 0) (g.1 0) 0 0 6)).1 1) 0 0 6)) 2 (va_cpy (k.1 2) ((sA (sA g 0 (va_cpy (k.1 0) (g.1 0) 0 0 6)) 1 (va_cpy (k.1 1) ((sA g 0 (va_cpy (k.1 0) (g.1 0) 0 0 6)).1 1) 0 0 6)).1 2) 0 0 12)) 3 (va_cpy (k.1 3) ((sA (sA (sA g 0 (va_cpy (k.1 0) (g.1 0) 0 0 6)) 1 (va_cpy (k.1 1) ((sA g 0 (va_cpy (k.1 0) (g.1 0) 0 0 6)).1 1) 0 0 6)) 2 (va_cpy (k.1 2) ((sA (sA g 0 (va_cpy (k.1 0) (g.1 0) 0 0 6)) 1 (va_cpy (k.1 1) ((sA g 0 (va_cpy (k.1 0) (g.1 0) 0 0 6)).1 1) 0 0 6)).1 2) 0 0 12)).1 3) 0 0 4)) 4 (va_cpy (k.1 4) ((sA (sA (sA (sA g 0 (va_cpy (k.1 0) (g.1 0) 0 0 6)) 1 (va_cpy (k.1 1) ((sA g 0 (va_cpy (k.1 0) (g.1 0) 0 0 6)).1 1) 0 0 6)) 2 (va_cpy (k.1 2) ((sA (sA g 0 (va_cpy (k.1 0) (g.1 0) 0 0 6)) 1 (va_cpy (k.1 1) ((sA g 0 (va_cpy (k.1 0) (g.1 0) 0 0 6)).1 1) 0 0 6)).1 2) 0 0 12)) 3 (va_cpy (k.1 3) ((sA (sA (sA g 0 (va_cpy (k.1 0) (g.1 0) 0 0 6)) 1 (va_cpy (k.1 1) ((sA g 0 (va_cpy (k.1 0) (g.1 0) 0 0 6)).1 1) 0 0 6)) 2 (va_cpy (k.1 2) ((sA (sA g 0 (va_cpy (k.1 0) (g.1 0) 0 0 6)) 1 (va_cpy (k.1 1) ((sA g 0 (va_cpy (k.1 0) (g.1 0) 0 0 6)).1 1) 0 0 6)).1 2) 0 0 12)).1 3) 0 0 4)).1 4) 0 0 4)) 5 (k.2 5)) 6 (k.2 6)) 7 (k.2 7))) ++ (cH ca ka k))) rfl (fun H locs hP hD hS => ?_)
  refine lv_aload_n hx hb dX0_copy_102 rfl (lv_at hl 0 rfl) ?_
  refine lv_aload_n hx hb dX0_copy_103 rfl (lv_at hl 1 rfl) ?_
  refine xget (ref := "FriezeFolk$Hall") (C := RX0) (T := TX0) (N := 13) (ci := 0) (v := .int (k.2 8)) hx hb hts inX0 hown hK hP 6 rfl rfl 8 (by decide) k13 rfl rfl dX0_copy_104 ?_
  refine xput (ref := "FriezeFolk$Hall") (C := RX0) (T := TX0) (N := 13) (ci := 0) (v := .int (k.2 8)) (ty := .int) hx hb hts inX0 tyX0 tyX0_ok nmX0 hown hK hP hD hS 0 rfl rfl 8 (by decide) k13 rfl rfl (by decide +kernel) rfl rfl (Nat.le_of_ble_eq_true rfl) dX0_copy_107 (wn := ((cH ca ga (sI (sI (sI (sI (sA (sA (sA (sA (sA g 0 (va_cpy (k.1 0) (g.1 0) 0 0 6)) 1 (va_cpy (k.1 1) ((sA g 0 (va_cpy (k.1 0) (g.1 0) 0 0 6)).1 1) 0 0 6)) 2 (va_cpy (k.1 2) ((sA (sA g 0 (va_cpy (k.1 0) (g.1 0) 0 0 6)) 1 (va_cpy (k.1 1) ((sA g 0 (va_cpy (k.1 0) (g.1 0) 0 0 6)).1 1) 0 0 6)).1 2) 0 0 12)) 3 (va_cpy (k.1 3) ((sA (sA (sA g 0 (va_cpy (k.1 0) (g.1 0) 0 0 6)) 1 (va_cpy (k.1 1) ((sA g 0 (va_cpy (k.1 0) (g.1 0) 0 0 6)).1 1) 0 0 6)) 2 (va_cpy (k.1 2) ((sA (sA g 0 (va_cpy (k.1 0) (g.1 0) 0 0 6)) 1 (va_cpy (k.1 1) ((sA g 0 (va_cpy (k.1 0) (g.1 0) 0 0 6)).1 1) 0 0 6)).1 2) 0 0 12)).1 3) 0 0 4)) 4 (va_cpy (k.1 4) ((sA (sA (sA (sA g 0 (va_cpy (k.1 0) (g.1 0) 0 0 6)) 1 (va_cpy (k.1 1) ((sA g 0 (va_cpy (k.1 0) (g.1 0) 0 0 6)).1 1) 0 0 6)) 2 (va_cpy (k.1 2) ((sA (sA g 0 (va_cpy (k.1 0) (g.1 0) 0 0 6)) 1 (va_cpy (k.1 1) ((sA g 0 (va_cpy (k.1 0) (g.1 0) 0 0 6)).1 1) 0 0 6)).1 2) 0 0 12)) 3 (va_cpy (k.1 3) ((sA (sA (sA g 0 (va_cpy (k.1 0) (g.1 0) 0 0 6)) 1 (va_cpy (k.1 1) ((sA g 0 (va_cpy (k.1 0) (g.1 0) 0 0 6)).1 1) 0 0 6)) 2 (va_cpy (k.1 2) ((sA (sA g 0 (va_cpy (k.1 0) (g.1 0) 0 0 6)) 1 (va_cpy (k.1 1) ((sA g 0 (va_cpy (k.1 0) (g.1 0) 0 0 6)).1 1) 0 0 6)).1 2) 0 0 12)).1 3) 0 0 4)).1 4) 0 0 4)) 5 (k.2 5)) 6 (k.2 6)) 7 (k.2 7)) 8 (k.2 8))) ++ (cH ca ka k))) rfl (fun H locs hP hD hS => ?_)
  refine lv_aload_n hx hb dX0_copy_110 rfl (lv_at hl 0 rfl) ?_
  refine lv_aload_n hx hb dX0_copy_111 rfl (lv_at hl 1 rfl) ?_
  refine xget (ref := "FriezeFolk$Hall") (C := RX0) (T := TX0) (N := 13) (ci := 0) (v := .int (k.2 9)) hx hb hts inX0 hown hK hP 6 rfl rfl 9 (by decide) k14 rfl rfl dX0_copy_112 ?_
  refine xput (ref := "FriezeFolk$Hall") (C := RX0) (T := TX0) (N := 13) (ci := 0) (v := .int (k.2 9)) (ty := .int) hx hb hts inX0 tyX0 tyX0_ok nmX0 hown hK hP hD hS 0 rfl rfl 9 (by decide) k14 rfl rfl (by decide +kernel) rfl rfl (Nat.le_of_ble_eq_true rfl) dX0_copy_115 (wn := ((cH ca ga (sI (sI (sI (sI (sI (sA (sA (sA (sA (sA g 0 (va_cpy (k.1 0) (g.1 0) 0 0 6)) 1 (va_cpy (k.1 1) ((sA g 0 (va_cpy (k.1 0) (g.1 0) 0 0 6)).1 1) 0 0 6)) 2 (va_cpy (k.1 2) ((sA (sA g 0 (va_cpy (k.1 0) (g.1 0) 0 0 6)) 1 (va_cpy (k.1 1) ((sA g 0 (va_cpy (k.1 0) (g.1 0) 0 0 6)).1 1) 0 0 6)).1 2) 0 0 12)) 3 (va_cpy (k.1 3) ((sA (sA (sA g 0 (va_cpy (k.1 0) (g.1 0) 0 0 6)) 1 (va_cpy (k.1 1) ((sA g 0 (va_cpy (k.1 0) (g.1 0) 0 0 6)).1 1) 0 0 6)) 2 (va_cpy (k.1 2) ((sA (sA g 0 (va_cpy (k.1 0) (g.1 0) 0 0 6)) 1 (va_cpy (k.1 1) ((sA g 0 (va_cpy (k.1 0) (g.1 0) 0 0 6)).1 1) 0 0 6)).1 2) 0 0 12)).1 3) 0 0 4)) 4 (va_cpy (k.1 4) ((sA (sA (sA (sA g 0 (va_cpy (k.1 0) (g.1 0) 0 0 6)) 1 (va_cpy (k.1 1) ((sA g 0 (va_cpy (k.1 0) (g.1 0) 0 0 6)).1 1) 0 0 6)) 2 (va_cpy (k.1 2) ((sA (sA g 0 (va_cpy (k.1 0) (g.1 0) 0 0 6)) 1 (va_cpy (k.1 1) ((sA g 0 (va_cpy (k.1 0) (g.1 0) 0 0 6)).1 1) 0 0 6)).1 2) 0 0 12)) 3 (va_cpy (k.1 3) ((sA (sA (sA g 0 (va_cpy (k.1 0) (g.1 0) 0 0 6)) 1 (va_cpy (k.1 1) ((sA g 0 (va_cpy (k.1 0) (g.1 0) 0 0 6)).1 1) 0 0 6)) 2 (va_cpy (k.1 2) ((sA (sA g 0 (va_cpy (k.1 0) (g.1 0) 0 0 6)) 1 (va_cpy (k.1 1) ((sA g 0 (va_cpy (k.1 0) (g.1 0) 0 0 6)).1 1) 0 0 6)).1 2) 0 0 12)).1 3) 0 0 4)).1 4) 0 0 4)) 5 (k.2 5)) 6 (k.2 6)) 7 (k.2 7)) 8 (k.2 8)) 9 (k.2 9))) ++ (cH ca ka k))) rfl (fun H locs hP hD hS => ?_)
  refine lv_aload_n hx hb dX0_copy_118 rfl (lv_at hl 0 rfl) ?_
  refine lv_aload_n hx hb dX0_copy_119 rfl (lv_at hl 1 rfl) ?_
  refine xget (ref := "FriezeFolk$Hall") (C := RX0) (T := TX0) (N := 13) (ci := 0) (v := .int (k.2 10)) hx hb hts inX0 hown hK hP 6 rfl rfl 10 (by decide) k15 rfl rfl dX0_copy_120 ?_
  refine xput (ref := "FriezeFolk$Hall") (C := RX0) (T := TX0) (N := 13) (ci := 0) (v := .int (k.2 10)) (ty := .int) hx hb hts inX0 tyX0 tyX0_ok nmX0 hown hK hP hD hS 0 rfl rfl 10 (by decide) k15 rfl rfl (by decide +kernel) rfl rfl (Nat.le_of_ble_eq_true rfl) dX0_copy_123 (wn := ((cH ca ga (sI (sI (sI (sI (sI (sI (sA (sA (sA (sA (sA g 0 (va_cpy (k.1 0) (g.1 0) 0 0 6)) 1 (va_cpy (k.1 1) ((sA g 0 (va_cpy (k.1 0) (g.1 0) 0 0 6)).1 1) 0 0 6)) 2 (va_cpy (k.1 2) ((sA (sA g 0 (va_cpy (k.1 0) (g.1 0) 0 0 6)) 1 (va_cpy (k.1 1) ((sA g 0 (va_cpy (k.1 0) (g.1 0) 0 0 6)).1 1) 0 0 6)).1 2) 0 0 12)) 3 (va_cpy (k.1 3) ((sA (sA (sA g 0 (va_cpy (k.1 0) (g.1 0) 0 0 6)) 1 (va_cpy (k.1 1) ((sA g 0 (va_cpy (k.1 0) (g.1 0) 0 0 6)).1 1) 0 0 6)) 2 (va_cpy (k.1 2) ((sA (sA g 0 (va_cpy (k.1 0) (g.1 0) 0 0 6)) 1 (va_cpy (k.1 1) ((sA g 0 (va_cpy (k.1 0) (g.1 0) 0 0 6)).1 1) 0 0 6)).1 2) 0 0 12)).1 3) 0 0 4)) 4 (va_cpy (k.1 4) ((sA (sA (sA (sA g 0 (va_cpy (k.1 0) (g.1 0) 0 0 6)) 1 (va_cpy (k.1 1) ((sA g 0 (va_cpy (k.1 0) (g.1 0) 0 0 6)).1 1) 0 0 6)) 2 (va_cpy (k.1 2) ((sA (sA g 0 (va_cpy (k.1 0) (g.1 0) 0 0 6)) 1 (va_cpy (k.1 1) ((sA g 0 (va_cpy (k.1 0) (g.1 0) 0 0 6)).1 1) 0 0 6)).1 2) 0 0 12)) 3 (va_cpy (k.1 3) ((sA (sA (sA g 0 (va_cpy (k.1 0) (g.1 0) 0 0 6)) 1 (va_cpy (k.1 1) ((sA g 0 (va_cpy (k.1 0) (g.1 0) 0 0 6)).1 1) 0 0 6)) 2 (va_cpy (k.1 2) ((sA (sA g 0 (va_cpy (k.1 0) (g.1 0) 0 0 6)) 1 (va_cpy (k.1 1) ((sA g 0 (va_cpy (k.1 0) (g.1 0) 0 0 6)).1 1) 0 0 6)).1 2) 0 0 12)).1 3) 0 0 4)).1 4) 0 0 4)) 5 (k.2 5)) 6 (k.2 6)) 7 (k.2 7)) 8 (k.2 8)) 9 (k.2 9)) 10 (k.2 10))) ++ (cH ca ka k))) rfl (fun H locs hP hD hS => ?_)
  refine lv_aload_n hx hb dX0_copy_126 rfl (lv_at hl 0 rfl) ?_
  refine lv_aload_n hx hb dX0_copy_127 rfl (lv_at hl 1 rfl) ?_
  refine xget (ref := "FriezeFolk$Hall") (C := RX0) (T := TX0) (N := 13) (ci := 0) (v := .int (k.2 11)) hx hb hts inX0 hown hK hP 6 rfl rfl 11 (by decide) k16 rfl rfl dX0_copy_128 ?_
  refine xput (ref := "FriezeFolk$Hall") (C := RX0) (T := TX0) (N := 13) (ci := 0) (v := .int (k.2 11)) (ty := .int) hx hb hts inX0 tyX0 tyX0_ok nmX0 hown hK hP hD hS 0 rfl rfl 11 (by decide) k16 rfl rfl (by decide +kernel) rfl rfl (Nat.le_of_ble_eq_true rfl) dX0_copy_131 (wn := ((cH ca ga (sI (sI (sI (sI (sI (sI (sI (sA (sA (sA (sA (sA g 0 (va_cpy (k.1 0) (g.1 0) 0 0 6)) 1 (va_cpy (k.1 1) ((sA g 0 (va_cpy (k.1 0) (g.1 0) 0 0 6)).1 1) 0 0 6)) 2 (va_cpy (k.1 2) ((sA (sA g 0 (va_cpy (k.1 0) (g.1 0) 0 0 6)) 1 (va_cpy (k.1 1) ((sA g 0 (va_cpy (k.1 0) (g.1 0) 0 0 6)).1 1) 0 0 6)).1 2) 0 0 12)) 3 (va_cpy (k.1 3) ((sA (sA (sA g 0 (va_cpy (k.1 0) (g.1 0) 0 0 6)) 1 (va_cpy (k.1 1) ((sA g 0 (va_cpy (k.1 0) (g.1 0) 0 0 6)).1 1) 0 0 6)) 2 (va_cpy (k.1 2) ((sA (sA g 0 (va_cpy (k.1 0) (g.1 0) 0 0 6)) 1 (va_cpy (k.1 1) ((sA g 0 (va_cpy (k.1 0) (g.1 0) 0 0 6)).1 1) 0 0 6)).1 2) 0 0 12)).1 3) 0 0 4)) 4 (va_cpy (k.1 4) ((sA (sA (sA (sA g 0 (va_cpy (k.1 0) (g.1 0) 0 0 6)) 1 (va_cpy (k.1 1) ((sA g 0 (va_cpy (k.1 0) (g.1 0) 0 0 6)).1 1) 0 0 6)) 2 (va_cpy (k.1 2) ((sA (sA g 0 (va_cpy (k.1 0) (g.1 0) 0 0 6)) 1 (va_cpy (k.1 1) ((sA g 0 (va_cpy (k.1 0) (g.1 0) 0 0 6)).1 1) 0 0 6)).1 2) 0 0 12)) 3 (va_cpy (k.1 3) ((sA (sA (sA g 0 (va_cpy (k.1 0) (g.1 0) 0 0 6)) 1 (va_cpy (k.1 1) ((sA g 0 (va_cpy (k.1 0) (g.1 0) 0 0 6)).1 1) 0 0 6)) 2 (va_cpy (k.1 2) ((sA (sA g 0 (va_cpy (k.1 0) (g.1 0) 0 0 6)) 1 (va_cpy (k.1 1) ((sA g 0 (va_cpy (k.1 0) (g.1 0) 0 0 6)).1 1) 0 0 6)).1 2) 0 0 12)).1 3) 0 0 4)).1 4) 0 0 4)) 5 (k.2 5)) 6 (k.2 6)) 7 (k.2 7)) 8 (k.2 8)) 9 (k.2 9)) 10 (k.2 10)) 11 (k.2 11))) ++ (cH ca ka k))) rfl (fun H locs hP hD hS => ?_)
  refine lv_aload_n hx hb dX0_copy_134 rfl (lv_at hl 0 rfl) ?_
  refine lv_aload_n hx hb dX0_copy_135 rfl (lv_at hl 1 rfl) ?_
  refine xget (ref := "FriezeFolk$Hall") (C := RX0) (T := TX0) (N := 13) (ci := 0) (v := .int (k.2 12)) hx hb hts inX0 hown hK hP 6 rfl rfl 12 (by decide) k17 rfl rfl dX0_copy_136 ?_
  refine xput (ref := "FriezeFolk$Hall") (C := RX0) (T := TX0) (N := 13) (ci := 0) (v := .int (k.2 12)) (ty := .int) hx hb hts inX0 tyX0 tyX0_ok nmX0 hown hK hP hD hS 0 rfl rfl 12 (by decide) k17 rfl rfl (by decide +kernel) rfl rfl (Nat.le_of_ble_eq_true rfl) dX0_copy_139 (wn := ((cH ca ga (sI (sI (sI (sI (sI (sI (sI (sI (sA (sA (sA (sA (sA g 0 (va_cpy (k.1 0) (g.1 0) 0 0 6)) 1 (va_cpy (k.1 1) ((sA g 0 (va_cpy (k.1 0) (g.1 0) 0 0 6)).1 1) 0 0 6)) 2 (va_cpy (k.1 2) ((sA (sA g 0 (va_cpy (k.1 0) (g.1 0) 0 0 6)) 1 (va_cpy (k.1 1) ((sA g 0 (va_cpy (k.1 0) (g.1 0) 0 0 6)).1 1) 0 0 6)).1 2) 0 0 12)) 3 (va_cpy (k.1 3) ((sA (sA (sA g 0 (va_cpy (k.1 0) (g.1 0) 0 0 6)) 1 (va_cpy (k.1 1) ((sA g 0 (va_cpy (k.1 0) (g.1 0) 0 0 6)).1 1) 0 0 6)) 2 (va_cpy (k.1 2) ((sA (sA g 0 (va_cpy (k.1 0) (g.1 0) 0 0 6)) 1 (va_cpy (k.1 1) ((sA g 0 (va_cpy (k.1 0) (g.1 0) 0 0 6)).1 1) 0 0 6)).1 2) 0 0 12)).1 3) 0 0 4)) 4 (va_cpy (k.1 4) ((sA (sA (sA (sA g 0 (va_cpy (k.1 0) (g.1 0) 0 0 6)) 1 (va_cpy (k.1 1) ((sA g 0 (va_cpy (k.1 0) (g.1 0) 0 0 6)).1 1) 0 0 6)) 2 (va_cpy (k.1 2) ((sA (sA g 0 (va_cpy (k.1 0) (g.1 0) 0 0 6)) 1 (va_cpy (k.1 1) ((sA g 0 (va_cpy (k.1 0) (g.1 0) 0 0 6)).1 1) 0 0 6)).1 2) 0 0 12)) 3 (va_cpy (k.1 3) ((sA (sA (sA g 0 (va_cpy (k.1 0) (g.1 0) 0 0 6)) 1 (va_cpy (k.1 1) ((sA g 0 (va_cpy (k.1 0) (g.1 0) 0 0 6)).1 1) 0 0 6)) 2 (va_cpy (k.1 2) ((sA (sA g 0 (va_cpy (k.1 0) (g.1 0) 0 0 6)) 1 (va_cpy (k.1 1) ((sA g 0 (va_cpy (k.1 0) (g.1 0) 0 0 6)).1 1) 0 0 6)).1 2) 0 0 12)).1 3) 0 0 4)).1 4) 0 0 4)) 5 (k.2 5)) 6 (k.2 6)) 7 (k.2 7)) 8 (k.2 8)) 9 (k.2 9)) 10 (k.2 10)) 11 (k.2 11)) 12 (k.2 12))) ++ (cH ca ka k))) rfl (fun H locs hP hD hS => ?_)
  obtain rfl := Option.some.inj hm
  exact hret _ _ _ _ hP hD hS dX0_copy_142
