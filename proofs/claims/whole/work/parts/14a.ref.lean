
def mX8_in (x : Int64) (y : Int64) (z : Int64) : Option (Int32) :=
  if x < y then
    some (0 : Int32)
  else
    if z < x then
      some (0 : Int32)
    else
      some (1 : Int32)
abbrev rmX8_in : Room := { frames := 0, cells := 0, slots := 0, locals := 0 }
set_option maxHeartbeats 4000000 in
set_option maxRecDepth 100000 in
theorem k_X8_in (l : Launch) (D : va_G) (ca : Nat → ClassId)   (x : Int64) (y : Int64) (z : Int64) (o : Int32) (hm : mX8_in x y z = some o) : KI l yX8_in wsX8_in rmX8_in D ca [.long x, .long y, .long z] ([] : va_W) ([] : va_W) o := by
  refine KI.of (cc := cX8_in) (n := 6) (plainFor_of_name (by decide)) rfl (Nat.le_of_ble_eq_true rfl) ?_
  intro p e s m below meth c A Z hx hb hml hts hown hA hK hP hD hS hret ls hl
  have hown : s.vm.findClass RX8 = some m.cls := hown
  have hl : lv_has ls 6 [(0, .long x), (2, .long y), (4, .long z)] := hl
  unfold mX8_in at hm
  refine lv_lload_n hx hb dX8_in_0 rfl (lv_at hl 0 rfl) ?_
  refine lv_lload_n hx hb dX8_in_1 rfl (lv_at hl 1 rfl) ?_
  refine W.lcmp hx hb dX8_in_2 ?_
  refine lv_if_lt (tgt := 17) hx hb dX8_in_3 (by decide) (fun c1 => ?_) (fun c1 => ?_)
  · have c1 : x < y := (lg_cmp_lt _ _).mp c1
    replace hm := (if_pos c1).symm.trans hm
    refine lv_iconst (v := (0 : Int32)) hx hb dX8_in_17 (by decide) ?_
    obtain rfl := Option.some.inj hm
    exact hret _ _ _ _ nar0 hP hD hS dX8_in_18
  · have c1 : ¬ (x < y) := fun z => c1 ((lg_cmp_lt _ _).mpr z)
    replace hm := (if_neg c1).symm.trans hm
    refine lv_lload_n hx hb dX8_in_6 rfl (lv_at hl 0 rfl) ?_
    refine lv_lload hx hb dX8_in_7 (lv_at hl 2 rfl) ?_
    refine W.lcmp hx hb dX8_in_9 ?_
    refine lv_if_gt (tgt := 17) hx hb dX8_in_10 (by decide) (fun c2 => ?_) (fun c2 => ?_)
    · have c2 : z < x := (lg_cmp_gt _ _).mp c2
      replace hm := (if_pos c2).symm.trans hm
      refine lv_iconst (v := (0 : Int32)) hx hb dX8_in_17 (by decide) ?_
      obtain rfl := Option.some.inj hm
      exact hret _ _ _ _ nar0 hP hD hS dX8_in_18
    · have c2 : ¬ (z < x) := fun z => c2 ((lg_cmp_gt _ _).mpr z)
      replace hm := (if_neg c2).symm.trans hm
      refine lv_iconst (v := (1 : Int32)) hx hb dX8_in_13 (by decide) ?_
      refine lv_goto (tgt := 18) hx hb dX8_in_14 (by decide) ?_
      obtain rfl := Option.some.inj hm
      exact hret _ _ _ _ nar1 hP hD hS dX8_in_18
def mX8_lowest_l6 (s1 : Int64 × Int64) : Option ((Int64 × Int64) ⊕ (Int64 × Int64)) :=
  if s1.2 = (0 : Int64) then
    some (.inr (s1.1, s1.2))
  else
    Option.bind (lrm s1.1 s1.2) fun v3 =>
    some (.inl (s1.2, v3))

def mX8_lowest (x : Int64) (y : Int64) (w : Int32) : Option (Int64) :=
  Option.bind (whO (mX8_lowest_l6) FU (x, y)) fun e4 =>
  if w = 0 then
    Option.bind (ldv x e4.1) fun v8 =>
    some v8
  else
    Option.bind (ldv y e4.1) fun v7 =>
    some v7
abbrev rmX8_lowest : Room := { frames := 0, cells := 0, slots := 0, locals := 0 }
set_option maxHeartbeats 4000000 in
set_option maxRecDepth 100000 in
theorem k_X8_lowest (l : Launch) (D : va_G) (ca : Nat → ClassId)   (x : Int64) (y : Int64) (w : Int32) (o : Int64) (hm : mX8_lowest x y w = some o) : KL l yX8_lowest wsX8_lowest rmX8_lowest D ca [.long x, .long y, .int w] ([] : va_W) ([] : va_W) o := by
  refine KL.of (cc := cX8_lowest) (n := 11) (plainFor_of_name (by decide)) rfl (Nat.le_of_ble_eq_true rfl) ?_
  intro p e s m below meth c A Z hx hb hml hts hown hA hK hP hD hS hret ls hl
  have hown : s.vm.findClass RX8 = some m.cls := hown
  have hl : lv_has ls 11 [(0, .long x), (2, .long y), (4, .int w)] := hl
  unfold mX8_lowest at hm
  refine lv_lload_n hx hb dX8_lowest_0 rfl (lv_at hl 0 rfl) ?_
  refine lv_lstore (lv' := [(5, .long x), (0, .long x), (2, .long y), (4, .int w)]) hx hb dX8_lowest_1 hl (by decide) rfl (fun ls hl => ?_)
  refine lv_lload_n hx hb dX8_lowest_3 rfl (lv_at hl 2 rfl) ?_
  refine lv_lstore (lv' := [(7, .long y), (5, .long x), (0, .long x), (2, .long y), (4, .int w)]) hx hb dX8_lowest_4 hl (by decide) rfl (fun ls hl => ?_)
  obtain ⟨e4, w9, h10⟩ := obn hm
  clear hm
  have AF4 : ∀ (ls : Array Slot) (H : Heap) (locs : List Loc), lv_has ls 11 [(0, .long x), (2, .long y), (4, .int w), (5, .long e4.1)] → va_P D vwCl ([] : va_W) H → va_D A ([] : va_W) → va_S A s.heap H locs → W p l e rmX8_lowest s m ([.long x, .long y, .int w] : List Value).toArray below meth c H locs 0 0 Z (F0 m 31 ls []) := by
    intro ls H locs hl hP hD hS
    refine lv_iload hx hb dX8_lowest_31 (lv_at hl 2 rfl) ?_
    refine lv_if_ne (tgt := 40) hx hb dX8_lowest_33 (by decide) (fun c5 => ?_) (fun c5 => ?_)
    · skip
      replace h10 := (if_neg c5).symm.trans h10
      refine lv_lload_n hx hb dX8_lowest_40 rfl (lv_at hl 1 rfl) ?_
      refine lv_lload hx hb dX8_lowest_41 (lv_at hl 3 rfl) ?_
      obtain ⟨v7, q7, h11⟩ := obn h10
      clear h10
      refine xldv hx hb q7 dX8_lowest_43 ?_
      obtain rfl := Option.some.inj h11
      exact hret _ _ _ _ hP hD hS dX8_lowest_44
    · skip
      replace h10 := (if_pos c5).symm.trans h10
      refine lv_lload_n hx hb dX8_lowest_36 rfl (lv_at hl 0 rfl) ?_
      refine lv_goto (tgt := 41) hx hb dX8_lowest_37 (by decide) ?_
      refine lv_lload hx hb dX8_lowest_41 (lv_at hl 3 rfl) ?_
      obtain ⟨v8, q8, h12⟩ := obn h10
      clear h10
      refine xldv hx hb q8 dX8_lowest_43 ?_
      obtain rfl := Option.some.inj h12
      exact hret _ _ _ _ hP hD hS dX8_lowest_44
  refine whO_walk (I := fun s1 => ∀ (ls : Array Slot) (H : Heap) (locs : List Loc), lv_has ls 11 [(0, .long x), (2, .long y), (4, .int w), (5, .long s1.1), (7, .long s1.2)] → va_P D vwCl ([] : va_W) H → va_D A ([] : va_W) → va_S A s.heap H locs → W p l e rmX8_lowest s m ([.long x, .long y, .int w] : List Value).toArray below meth c H locs 0 0 Z (F0 m 6 ls [])) ?_ _ _ w9 _ _ _ (lv_sub hl [2, 3, 4, 1, 0] rfl) hP hD hS
  clear w9
  intro s1 o4 h13 hi4 ho4 ls H locs hl hP hD hS
  unfold mX8_lowest_l6 at h13
  refine lv_lload hx hb dX8_lowest_6 (lv_at hl 4 rfl) ?_
  refine lv_lconst (v := (0 : Int64)) hx hb dX8_lowest_8 (by decide) ?_
  refine W.lcmp hx hb dX8_lowest_9 ?_
  refine lv_if_eq (tgt := 31) hx hb dX8_lowest_10 (by decide) (fun c2 => ?_) (fun c2 => ?_)
  · have c2 : s1.2 = (0 : Int64) := (lg_cmp_eq _ _).mp c2
    replace h13 := (if_pos c2).symm.trans h13
    have h14 := ho4 _ (Option.some.inj h13).symm
    subst h14
    exact AF4 _ _ _ (lv_sub hl [0, 1, 2, 3] rfl) hP hD hS
  · have c2 : ¬ (s1.2 = (0 : Int64)) := fun z => c2 ((lg_cmp_eq _ _).mpr z)
    replace h13 := (if_neg c2).symm.trans h13
    refine lv_lload hx hb dX8_lowest_13 (lv_at hl 3 rfl) ?_
    refine lv_lload hx hb dX8_lowest_15 (lv_at hl 4 rfl) ?_
    obtain ⟨v3, q3, h15⟩ := obn h13
    clear h13
    refine xlrm hx hb q3 dX8_lowest_17 ?_
    refine lv_lstore (lv' := [(9, .long v3), (0, .long x), (2, .long y), (4, .int w), (5, .long s1.1), (7, .long s1.2)]) hx hb dX8_lowest_18 hl (by decide) rfl (fun ls hl => ?_)
    refine lv_lload hx hb dX8_lowest_20 (lv_at hl 5 rfl) ?_
    refine lv_lstore (lv' := [(5, .long s1.2), (9, .long v3), (0, .long x), (2, .long y), (4, .int w), (7, .long s1.2)]) hx hb dX8_lowest_22 hl (by decide) rfl (fun ls hl => ?_)
    refine lv_lload hx hb dX8_lowest_24 (lv_at hl 1 rfl) ?_
    refine lv_lstore (lv' := [(7, .long v3), (5, .long s1.2), (9, .long v3), (0, .long x), (2, .long y), (4, .int w)]) hx hb dX8_lowest_26 hl (by decide) rfl (fun ls hl => ?_)
    refine lv_goto (tgt := 6) hx hb dX8_lowest_28 (by decide) ?_
    exact hi4 _ (Option.some.inj h15).symm _ _ _ (lv_sub hl [3, 4, 5, 1, 0] rfl) hP hD hS

def mX8_feed (g : GS) (n : Int32) : Option (Int32 × GS) :=
  Option.bind (mX8_in n.toInt64 (0 : Int64) (127 : Int64)) fun v1 =>
  if v1 = 0 then
    some ((-1 : Int32), g)
  else
    if (g.2 4) = (160 : Int32) then
      some ((-3 : Int32), g)
    else
      Option.bind (ast 160 (g.1 3) (g.2 4) n) fun f4 =>
      some (((sI (sA g 3 f4) 4 (((sA g 3 f4).2 4) + (1 : Int32))).2 4), (sI (sA g 3 f4) 4 (((sA g 3 f4).2 4) + (1 : Int32))))
abbrev rmX8_feed : Room := { frames := 1, cells := 0, slots := 0, locals := 25 }
set_option maxHeartbeats 4000000 in
set_option maxRecDepth 100000 in
theorem k_X8_feed (l : Launch) (D : va_G) (ca : Nat → ClassId) (ga : Nat → Nat) (g : GS) (n : Int32) (o : Int32 × GS) (hm : mX8_feed g n = some o) : KI l yX8_feed wsX8_feed rmX8_feed D ca [.ref (ga 0), .int n] (cO ca ga g) (cO ca ga o.2) o.1 := by
  refine KI.of (cc := cX8_feed) (n := 2) (plainFor_of_name (by decide)) rfl (Nat.le_of_ble_eq_true rfl) ?_
  intro p e s m below meth c A Z hx hb hml hts hown hA hK hP hD hS hret ls hl
  have hown : s.vm.findClass RX8 = some m.cls := hown
  have hl : lv_has ls 2 [(0, .ref (ga 0)), (1, .int n)] := hl
  have inX8 : ∀ w ∈ wsX80, w ∈ wsX8_feed := by decide +kernel
  have k1 := hts (.constantLong RX8 50 (127 : Int64)) (by decide +kernel)
  have k2 := hts (.fieldLink RX8 56 "FriezeFolkModel" "taped" "I") (by decide +kernel)
  have k3 := hts (.fieldLink RX8 16 "FriezeFolkModel" "tape" "[I") (by decide +kernel)
  unfold mX8_feed at hm
  refine lv_iload_n hx hb dX8_feed_0 rfl (lv_at hl 1 rfl) ?_
  refine lv_i2l (v := n.toInt64) hx hb dX8_feed_1 rfl ?_
  refine lv_lconst (v := (0 : Int64)) hx hb dX8_feed_2 (by decide) ?_
  refine lv_ldc2 hx hb hown k1 dX8_feed_3 ?_
  obtain ⟨v1, q1, h5⟩ := obn hm
  clear hm
  refine xSi (As := [.long n.toInt64, .long (0 : Int64), .long (127 : Int64)]) ⟨hx, hb, hml, hown, hts⟩ (k_X8_in l D ca  n.toInt64 (0 : Int64) (127 : Int64) _ q1) (va_cwS 3 hts gX8_feed_X8_in rfl rfl rfl (by decide +kernel) ⟨Nat.le_of_ble_eq_true rfl, Nat.le_of_ble_eq_true rfl⟩) hK hA hP hD hS dX8_feed_6 rfl hl.1 [] [0, 1, 2, 3, 4, 5, 6, 7, 8, 9, 10, 11, 12, 13] [0, 1, 2, 3, 4, 5, 6, 7, 8, 9, 10, 11, 12, 13] rfl rfl (wr := ((cO ca ga g))) rfl rfl (by decide) (wn := (cO ca ga g)) rfl rfl rfl (Nat.le_of_ble_eq_true rfl) (fun H locs hP hD hS => ?_)
  refine lv_if_ne (tgt := 14) hx hb dX8_feed_9 (by decide) (fun c2 => ?_) (fun c2 => ?_)
  · skip
    replace h5 := (if_neg c2).symm.trans h5
    refine lv_aload_n hx hb dX8_feed_14 rfl (lv_at hl 0 rfl) ?_
    refine xget (ref := "FriezeFolkModel") (C := RX8) (T := TX8) (N := 24) (ci := 8) (v := .int (g.2 4)) hx hb hts inX8 hown hK hP 0 rfl rfl 4 (by decide) k2 rfl rfl dX8_feed_15 ?_
    refine lv_sipush (v := (160 : Int32)) hx hb dX8_feed_18 (by decide) ?_
    refine lv_icmp_ne (tgt := 27) hx hb dX8_feed_21 (by decide) (fun c3 => ?_) (fun c3 => ?_)
    · skip
      replace h5 := (if_neg c3).symm.trans h5
      refine lv_aload_n hx hb dX8_feed_27 rfl (lv_at hl 0 rfl) ?_
      refine xget (ref := "FriezeFolkModel") (C := RX8) (T := TX8) (N := 24) (ci := 8) (v := .ref (ga 4)) hx hb hts inX8 hown hK hP 0 rfl rfl 3 (by decide) k3 rfl rfl dX8_feed_28 ?_
      refine lv_aload_n hx hb dX8_feed_31 rfl (lv_at hl 0 rfl) ?_
      refine xget (ref := "FriezeFolkModel") (C := RX8) (T := TX8) (N := 24) (ci := 8) (v := .int (g.2 4)) hx hb hts inX8 hown hK hP 0 rfl rfl 4 (by decide) k2 rfl rfl dX8_feed_32 ?_
      refine lv_iload_n hx hb dX8_feed_35 rfl (lv_at hl 1 rfl) ?_
      obtain ⟨f4, q4, h6⟩ := obn h5
      clear h5
      refine xast hx hb hK hP hD hS 3 rfl q4 dX8_feed_36 (wn := (cO ca ga (sA g 3 f4))) rfl (fun H locs hP hD hS => ?_)
      refine lv_aload_n hx hb dX8_feed_37 rfl (lv_at hl 0 rfl) ?_
      refine lv_dup hx hb dX8_feed_38 rfl ?_
      refine xget (ref := "FriezeFolkModel") (C := RX8) (T := TX8) (N := 24) (ci := 8) (v := .int ((sA g 3 f4).2 4)) hx hb hts inX8 hown hK hP 0 rfl rfl 4 (by decide) k2 rfl rfl dX8_feed_39 ?_
      refine lv_iconst (v := (1 : Int32)) hx hb dX8_feed_42 (by decide) ?_
      refine lv_iadd hx hb dX8_feed_43 ?_
      refine xput (ref := "FriezeFolkModel") (C := RX8) (T := TX8) (N := 24) (ci := 8) (v := .int (((sA g 3 f4).2 4) + (1 : Int32))) (ty := .int) hx hb hts inX8 tyX8 tyX8_ok nmX8 hown hK hP hD hS 0 rfl rfl 4 (by decide) k2 rfl rfl (by decide +kernel) rfl rfl (Nat.le_of_ble_eq_true rfl) dX8_feed_44 (wn := (cO ca ga (sI (sA g 3 f4) 4 (((sA g 3 f4).2 4) + (1 : Int32))))) rfl (fun H locs hP hD hS => ?_)
      refine lv_aload_n hx hb dX8_feed_47 rfl (lv_at hl 0 rfl) ?_
      refine xget (ref := "FriezeFolkModel") (C := RX8) (T := TX8) (N := 24) (ci := 8) (v := .int ((sI (sA g 3 f4) 4 (((sA g 3 f4).2 4) + (1 : Int32))).2 4)) hx hb hts inX8 hown hK hP 0 rfl rfl 4 (by decide) k2 rfl rfl dX8_feed_48 ?_
      obtain rfl := Option.some.inj h6
      exact hret _ _ _ _ (vp_nar_int _) hP hD hS dX8_feed_51
    · skip
      replace h5 := (if_pos c3).symm.trans h5
      refine lv_bipush (v := (-3 : Int32)) hx hb dX8_feed_24 (by decide) ?_
      obtain rfl := Option.some.inj h5
      exact hret _ _ _ _ (vp_nar_int _) hP hD hS dX8_feed_26
  · skip
    replace h5 := (if_pos c2).symm.trans h5
    refine lv_iconst (v := (-1 : Int32)) hx hb dX8_feed_12 (by decide) ?_
    obtain rfl := Option.some.inj h5
    exact hret _ _ _ _ (vp_nar_int _) hP hD hS dX8_feed_13

def mX8_end (g : GS) (n : Int32) : Option (Int32 × GS) :=
  Option.bind (mX8_in n.toInt64 (0 : Int64) (g.2 4).toInt64) fun v1 =>
  if v1 = 0 then
    some ((-1 : Int32), g)
  else
    some ((g.2 4), (sI g 4 n))
abbrev rmX8_end : Room := { frames := 1, cells := 0, slots := 0, locals := 25 }
set_option maxHeartbeats 4000000 in
set_option maxRecDepth 100000 in
theorem k_X8_end (l : Launch) (D : va_G) (ca : Nat → ClassId) (ga : Nat → Nat) (g : GS) (n : Int32) (o : Int32 × GS) (hm : mX8_end g n = some o) : KI l yX8_end wsX8_end rmX8_end D ca [.ref (ga 0), .int n] (cO ca ga g) (cO ca ga o.2) o.1 := by
  refine KI.of (cc := cX8_end) (n := 3) (plainFor_of_name (by decide)) rfl (Nat.le_of_ble_eq_true rfl) ?_
  intro p e s m below meth c A Z hx hb hml hts hown hA hK hP hD hS hret ls hl
  have hown : s.vm.findClass RX8 = some m.cls := hown
  have hl : lv_has ls 3 [(0, .ref (ga 0)), (1, .int n)] := hl
  have inX8 : ∀ w ∈ wsX80, w ∈ wsX8_end := by decide +kernel
  have k1 := hts (.fieldLink RX8 56 "FriezeFolkModel" "taped" "I") (by decide +kernel)
  unfold mX8_end at hm
  refine lv_iload_n hx hb dX8_end_0 rfl (lv_at hl 1 rfl) ?_
  refine lv_i2l (v := n.toInt64) hx hb dX8_end_1 rfl ?_
  refine lv_lconst (v := (0 : Int64)) hx hb dX8_end_2 (by decide) ?_
  refine lv_aload_n hx hb dX8_end_3 rfl (lv_at hl 0 rfl) ?_
  refine xget (ref := "FriezeFolkModel") (C := RX8) (T := TX8) (N := 24) (ci := 8) (v := .int (g.2 4)) hx hb hts inX8 hown hK hP 0 rfl rfl 4 (by decide) k1 rfl rfl dX8_end_4 ?_
  refine lv_i2l (v := (g.2 4).toInt64) hx hb dX8_end_7 rfl ?_
  obtain ⟨v1, q1, h3⟩ := obn hm
  clear hm
  refine xSi (As := [.long n.toInt64, .long (0 : Int64), .long (g.2 4).toInt64]) ⟨hx, hb, hml, hown, hts⟩ (k_X8_in l D ca  n.toInt64 (0 : Int64) (g.2 4).toInt64 _ q1) (va_cwS 3 hts gX8_end_X8_in rfl rfl rfl (by decide +kernel) ⟨Nat.le_of_ble_eq_true rfl, Nat.le_of_ble_eq_true rfl⟩) hK hA hP hD hS dX8_end_8 rfl hl.1 [] [0, 1, 2, 3, 4, 5, 6, 7, 8, 9, 10, 11, 12, 13] [0, 1, 2, 3, 4, 5, 6, 7, 8, 9, 10, 11, 12, 13] rfl rfl (wr := ((cO ca ga g))) rfl rfl (by decide) (wn := (cO ca ga g)) rfl rfl rfl (Nat.le_of_ble_eq_true rfl) (fun H locs hP hD hS => ?_)
  refine lv_if_ne (tgt := 16) hx hb dX8_end_11 (by decide) (fun c2 => ?_) (fun c2 => ?_)
  · skip
    replace h3 := (if_neg c2).symm.trans h3
    refine lv_aload_n hx hb dX8_end_16 rfl (lv_at hl 0 rfl) ?_
    refine xget (ref := "FriezeFolkModel") (C := RX8) (T := TX8) (N := 24) (ci := 8) (v := .int (g.2 4)) hx hb hts inX8 hown hK hP 0 rfl rfl 4 (by decide) k1 rfl rfl dX8_end_17 ?_
    refine lv_istore_n (lv' := [(2, .int (g.2 4)), (0, .ref (ga 0)), (1, .int n)]) hx hb dX8_end_20 rfl hl (by decide) rfl (fun ls hl => ?_)
    refine lv_aload_n hx hb dX8_end_21 rfl (lv_at hl 1 rfl) ?_
    refine lv_iload_n hx hb dX8_end_22 rfl (lv_at hl 2 rfl) ?_
    refine xput (ref := "FriezeFolkModel") (C := RX8) (T := TX8) (N := 24) (ci := 8) (v := .int n) (ty := .int) hx hb hts inX8 tyX8 tyX8_ok nmX8 hown hK hP hD hS 0 rfl rfl 4 (by decide) k1 rfl rfl (by decide +kernel) rfl rfl (Nat.le_of_ble_eq_true rfl) dX8_end_23 (wn := (cO ca ga (sI g 4 n))) rfl (fun H locs hP hD hS => ?_)
    refine lv_iload_n hx hb dX8_end_26 rfl (lv_at hl 0 rfl) ?_
    obtain rfl := Option.some.inj h3
    exact hret _ _ _ _ (vp_nar_int _) hP hD hS dX8_end_27
  · skip
    replace h3 := (if_pos c2).symm.trans h3
    refine lv_iconst (v := (-1 : Int32)) hx hb dX8_end_14 (by decide) ?_
    obtain rfl := Option.some.inj h3
    exact hret _ _ _ _ (vp_nar_int _) hP hD hS dX8_end_15

def mX8_byteAt (g : GS) (i : Int32) : Option (Int32) :=
  if (g.2 4) ≤ i then
    some (-4 : Int32)
  else
    Option.bind (ald 160 (g.1 3) i) fun v2 =>
    some v2
abbrev rmX8_byteAt : Room := { frames := 0, cells := 0, slots := 0, locals := 0 }
set_option maxHeartbeats 4000000 in
set_option maxRecDepth 100000 in
theorem k_X8_byteAt (l : Launch) (D : va_G) (ca : Nat → ClassId) (ga : Nat → Nat) (g : GS) (i : Int32) (o : Int32) (hm : mX8_byteAt g i = some o) : KI l yX8_byteAt wsX8_byteAt rmX8_byteAt D ca [.ref (ga 0), .int i] (cO ca ga g) (cO ca ga g) o := by
  refine KI.of (cc := cX8_byteAt) (n := 2) (plainFor_of_name (by decide)) rfl (Nat.le_of_ble_eq_true rfl) ?_
  intro p e s m below meth c A Z hx hb hml hts hown hA hK hP hD hS hret ls hl
  have hown : s.vm.findClass RX8 = some m.cls := hown
  have hl : lv_has ls 2 [(0, .ref (ga 0)), (1, .int i)] := hl
  have inX8 : ∀ w ∈ wsX80, w ∈ wsX8_byteAt := by decide +kernel
  have k1 := hts (.fieldLink RX8 56 "FriezeFolkModel" "taped" "I") (by decide +kernel)
  have k2 := hts (.fieldLink RX8 16 "FriezeFolkModel" "tape" "[I") (by decide +kernel)
  unfold mX8_byteAt at hm
  refine lv_iload_n hx hb dX8_byteAt_0 rfl (lv_at hl 1 rfl) ?_
  refine lv_aload_n hx hb dX8_byteAt_1 rfl (lv_at hl 0 rfl) ?_
  refine xget (ref := "FriezeFolkModel") (C := RX8) (T := TX8) (N := 24) (ci := 8) (v := .int (g.2 4)) hx hb hts inX8 hown hK hP 0 rfl rfl 4 (by decide) k1 rfl rfl dX8_byteAt_2 ?_
  refine lv_icmp_ge (tgt := 17) hx hb dX8_byteAt_5 (by decide) (fun c1 => ?_) (fun c1 => ?_)
  · skip
    replace hm := (if_pos c1).symm.trans hm
    refine lv_bipush (v := (-4 : Int32)) hx hb dX8_byteAt_17 (by decide) ?_
    obtain rfl := Option.some.inj hm
    exact hret _ _ _ _ (vp_nar_int _) hP hD hS dX8_byteAt_19
  · skip
    replace hm := (if_neg c1).symm.trans hm
    refine lv_aload_n hx hb dX8_byteAt_8 rfl (lv_at hl 0 rfl) ?_
    refine xget (ref := "FriezeFolkModel") (C := RX8) (T := TX8) (N := 24) (ci := 8) (v := .ref (ga 4)) hx hb hts inX8 hown hK hP 0 rfl rfl 3 (by decide) k2 rfl rfl dX8_byteAt_9 ?_
    refine lv_iload_n hx hb dX8_byteAt_12 rfl (lv_at hl 1 rfl) ?_
    obtain ⟨v2, q2, h3⟩ := obn hm
    clear hm
    refine xald hx hb hK hP 3 rfl q2 dX8_byteAt_13 ?_
    refine lv_goto (tgt := 19) hx hb dX8_byteAt_14 (by decide) ?_
    obtain rfl := Option.some.inj h3
    exact hret _ _ _ _ (vp_nar_int _) hP hD hS dX8_byteAt_19

def mX8_fails (g : GS) (n : Int32) : Option (GS) :=
  if (g.2 6) = 0 then
    some (sI (sI g 6 n) 7 ((sI g 6 n).2 9))
  else
    some g
abbrev rmX8_fails : Room := { frames := 0, cells := 0, slots := 0, locals := 0 }
set_option maxHeartbeats 4000000 in
set_option maxRecDepth 100000 in
theorem k_X8_fails (l : Launch) (D : va_G) (ca : Nat → ClassId) (ga : Nat → Nat) (g : GS) (n : Int32) (o : GS) (hm : mX8_fails g n = some o) : KV l yX8_fails wsX8_fails rmX8_fails D ca [.ref (ga 0), .int n] (cO ca ga g) (cO ca ga o) := by
  refine KV.of (cc := cX8_fails) (n := 2) (plainFor_of_name (by decide)) rfl (Nat.le_of_ble_eq_true rfl) ?_
  intro p e s m below meth c A Z hx hb hml hts hown hA hK hP hD hS hret ls hl
  have hown : s.vm.findClass RX8 = some m.cls := hown
  have hl : lv_has ls 2 [(0, .ref (ga 0)), (1, .int n)] := hl
  have inX8 : ∀ w ∈ wsX80, w ∈ wsX8_fails := by decide +kernel
  have k1 := hts (.fieldLink RX8 60 "FriezeFolkModel" "broken" "I") (by decide +kernel)
  have k2 := hts (.fieldLink RX8 63 "FriezeFolkModel" "here" "I") (by decide +kernel)
  have k3 := hts (.fieldLink RX8 66 "FriezeFolkModel" "brokenAt" "I") (by decide +kernel)
  unfold mX8_fails at hm
  refine lv_aload_n hx hb dX8_fails_0 rfl (lv_at hl 0 rfl) ?_
  refine xget (ref := "FriezeFolkModel") (C := RX8) (T := TX8) (N := 24) (ci := 8) (v := .int (g.2 6)) hx hb hts inX8 hown hK hP 0 rfl rfl 6 (by decide) k1 rfl rfl dX8_fails_1 ?_
  refine lv_if_ne (tgt := 20) hx hb dX8_fails_4 (by decide) (fun c1 => ?_) (fun c1 => ?_)
  · skip
    replace hm := (if_neg c1).symm.trans hm
    obtain rfl := Option.some.inj hm
    exact hret _ _ _ _ hP hD hS dX8_fails_20
  · skip
    replace hm := (if_pos c1).symm.trans hm
    refine lv_aload_n hx hb dX8_fails_7 rfl (lv_at hl 0 rfl) ?_
    refine lv_iload_n hx hb dX8_fails_8 rfl (lv_at hl 1 rfl) ?_
    refine xput (ref := "FriezeFolkModel") (C := RX8) (T := TX8) (N := 24) (ci := 8) (v := .int n) (ty := .int) hx hb hts inX8 tyX8 tyX8_ok nmX8 hown hK hP hD hS 0 rfl rfl 6 (by decide) k1 rfl rfl (by decide +kernel) rfl rfl (Nat.le_of_ble_eq_true rfl) dX8_fails_9 (wn := (cO ca ga (sI g 6 n))) rfl (fun H locs hP hD hS => ?_)
    refine lv_aload_n hx hb dX8_fails_12 rfl (lv_at hl 0 rfl) ?_
    refine lv_aload_n hx hb dX8_fails_13 rfl (lv_at hl 0 rfl) ?_
    refine xget (ref := "FriezeFolkModel") (C := RX8) (T := TX8) (N := 24) (ci := 8) (v := .int ((sI g 6 n).2 9)) hx hb hts inX8 hown hK hP 0 rfl rfl 9 (by decide) k2 rfl rfl dX8_fails_14 ?_
    refine xput (ref := "FriezeFolkModel") (C := RX8) (T := TX8) (N := 24) (ci := 8) (v := .int ((sI g 6 n).2 9)) (ty := .int) hx hb hts inX8 tyX8 tyX8_ok nmX8 hown hK hP hD hS 0 rfl rfl 7 (by decide) k3 rfl rfl (by decide +kernel) rfl rfl (Nat.le_of_ble_eq_true rfl) dX8_fails_17 (wn := (cO ca ga (sI (sI g 6 n) 7 ((sI g 6 n).2 9)))) rfl (fun H locs hP hD hS => ?_)
    obtain rfl := Option.some.inj hm
    exact hret _ _ _ _ hP hD hS dX8_fails_20
def mX8_nameHere_l51 (g : GS) (s1 : Int32) (s8 : Int32 × Int32) : Option ((Int32 × Int32) ⊕ (Int32 × Int32)) :=
  if s8.1 = 0 then
    some (.inr (s8.1, s8.2))
  else
    if ((g.2 8) - (g.2 9)) ≤ s8.2 then
      some (.inr (s8.1, s8.2))
    else
      Option.bind (mX8_byteAt g ((g.2 9) + s8.2)) fun v11 =>
      Option.bind (ald 9 (g.1 12) s1) fun v12 =>
      Option.bind (ald 43 (g.1 13) (v12 + s8.2)) fun v13 =>
      Option.bind (
        if v11 = v13 then
          some (1 : Int32)
        else
          some (0 : Int32)) fun (v15 : Int32) =>
      some (.inl (v15, (s8.2 + (1 : Int32))))

def mX8_nameHere_l2 (g : GS) (s1 : Int32) : Option ((Int32) ⊕ ((Int32) ⊕ (Int32))) :=
  if (8 : Int32) ≤ s1 then
    some (.inr (.inl s1))
  else
    if (g.2 10) = (1 : Int32) then
      Option.bind (ald 9 (g.1 12) (s1 + (1 : Int32))) fun v4 =>
      Option.bind (ald 9 (g.1 12) s1) fun v5 =>
      Option.bind (
        if ((g.2 8) - (g.2 9)) = (v4 - v5) then
          some (1 : Int32)
        else
          some (0 : Int32)) fun (v7 : Int32) =>
      Option.bind (whO (mX8_nameHere_l51 g s1) FU (v7, (0 : Int32))) fun e16 =>
      if e16.1 = 0 then
        some (.inl (s1 + (1 : Int32)))
      else
        some (.inr (.inr s1))
    else
      some (.inr (.inl s1))

def mX8_nameHere (g : GS) : Option (Int32) :=
  Option.bind (whO (mX8_nameHere_l2 g) FU (0 : Int32)) fun e18 => esc e18 fun t19 =>
  some (-4 : Int32)
abbrev rmX8_nameHere : Room := { frames := 1, cells := 0, slots := 0, locals := 21 }
set_option maxHeartbeats 4000000 in
set_option maxRecDepth 100000 in
theorem k_X8_nameHere (l : Launch) (D : va_G) (ca : Nat → ClassId) (ga : Nat → Nat) (g : GS) (o : Int32) (hm : mX8_nameHere g = some o) : KI l yX8_nameHere wsX8_nameHere rmX8_nameHere D ca [.ref (ga 0)] (cO ca ga g) (cO ca ga g) o := by
  refine KI.of (cc := cX8_nameHere) (n := 4) (plainFor_of_name (by decide)) rfl (Nat.le_of_ble_eq_true rfl) ?_
  intro p e s m below meth c A Z hx hb hml hts hown hA hK hP hD hS hret ls hl
  have hown : s.vm.findClass RX8 = some m.cls := hown
  have hl : lv_has ls 4 [(0, .ref (ga 0))] := hl
  have inX8 : ∀ w ∈ wsX80, w ∈ wsX8_nameHere := by decide +kernel
  have k1 := hts (.fieldLink RX8 69 "FriezeFolkModel" "token" "I") (by decide +kernel)
  have k2 := hts (.fieldLink RX8 72 "FriezeFolkModel" "spot" "I") (by decide +kernel)
  have k3 := hts (.fieldLink RX8 63 "FriezeFolkModel" "here" "I") (by decide +kernel)
  have k4 := hts (.fieldLink RX8 19 "FriezeFolkModel" "cuts" "[I") (by decide +kernel)
  have k5 := hts (.fieldLink RX8 22 "FriezeFolkModel" "letters" "[I") (by decide +kernel)
  unfold mX8_nameHere at hm
  refine lv_iconst (v := (0 : Int32)) hx hb dX8_nameHere_0 (by decide) ?_
  refine lv_istore_n (lv' := [(1, .int (0 : Int32)), (0, .ref (ga 0))]) hx hb dX8_nameHere_1 rfl hl (by decide) rfl (fun ls hl => ?_)
  obtain ⟨e18, w20, h21⟩ := obn hm
  clear hm
  have AF18 : ∀ t19, e18 = .inl t19 → ∀ (ls : Array Slot) (H : Heap) (locs : List Loc), lv_has ls 4 [] → va_P D vwCl (cO ca ga g) H → va_D A (cO ca ga g) → va_S A s.heap H locs → W p l e rmX8_nameHere s m ([.ref (ga 0)] : List Value).toArray below meth c H locs 0 0 Z (F0 m 118 ls []) := by
    intro t19 ht ls H locs hl hP hD hS
    subst ht
    replace h21 := (esc_l _ _).symm.trans h21
    refine lv_bipush (v := (-4 : Int32)) hx hb dX8_nameHere_118 (by decide) ?_
    obtain rfl := Option.some.inj h21
    exact hret _ _ _ _ (vp_nar_int _) hP hD hS dX8_nameHere_120
  refine whO_walk (I := fun s1 => ∀ (ls : Array Slot) (H : Heap) (locs : List Loc), lv_has ls 4 [(0, .ref (ga 0)), (1, .int s1)] → va_P D vwCl (cO ca ga g) H → va_D A (cO ca ga g) → va_S A s.heap H locs → W p l e rmX8_nameHere s m ([.ref (ga 0)] : List Value).toArray below meth c H locs 0 0 Z (F0 m 2 ls [])) ?_ _ _ w20 _ _ _ (lv_sub hl [1, 0] rfl) hP hD hS
  clear w20
  intro s1 o18 h22 hi18 ho18 ls H locs hl hP hD hS
  unfold mX8_nameHere_l2 at h22
  refine lv_iload_n hx hb dX8_nameHere_2 rfl (lv_at hl 1 rfl) ?_
  refine lv_bipush (v := (8 : Int32)) hx hb dX8_nameHere_3 (by decide) ?_
  refine lv_icmp_ge (tgt := 118) hx hb dX8_nameHere_5 (by decide) (fun c2 => ?_) (fun c2 => ?_)
  · skip
    replace h22 := (if_pos c2).symm.trans h22
    have h23 := ho18 _ (Option.some.inj h22).symm
    subst h23
    exact AF18 _ rfl _ _ _ (lv_sub hl [] rfl) hP hD hS
  · skip
    replace h22 := (if_neg c2).symm.trans h22
    refine lv_aload_n hx hb dX8_nameHere_8 rfl (lv_at hl 0 rfl) ?_
    refine xget (ref := "FriezeFolkModel") (C := RX8) (T := TX8) (N := 24) (ci := 8) (v := .int (g.2 10)) hx hb hts inX8 hown hK hP 0 rfl rfl 10 (by decide) k1 rfl rfl dX8_nameHere_9 ?_
    refine lv_iconst (v := (1 : Int32)) hx hb dX8_nameHere_12 (by decide) ?_
    refine lv_icmp_ne (tgt := 118) hx hb dX8_nameHere_13 (by decide) (fun c3 => ?_) (fun c3 => ?_)
    · skip
      replace h22 := (if_neg c3).symm.trans h22
      have h24 := ho18 _ (Option.some.inj h22).symm
      subst h24
      exact AF18 _ rfl _ _ _ (lv_sub hl [] rfl) hP hD hS
    · skip
      replace h22 := (if_pos c3).symm.trans h22
      refine lv_aload_n hx hb dX8_nameHere_16 rfl (lv_at hl 0 rfl) ?_
      refine xget (ref := "FriezeFolkModel") (C := RX8) (T := TX8) (N := 24) (ci := 8) (v := .int (g.2 8)) hx hb hts inX8 hown hK hP 0 rfl rfl 8 (by decide) k2 rfl rfl dX8_nameHere_17 ?_
      refine lv_aload_n hx hb dX8_nameHere_20 rfl (lv_at hl 0 rfl) ?_
      refine xget (ref := "FriezeFolkModel") (C := RX8) (T := TX8) (N := 24) (ci := 8) (v := .int (g.2 9)) hx hb hts inX8 hown hK hP 0 rfl rfl 9 (by decide) k3 rfl rfl dX8_nameHere_21 ?_
      refine lv_isub hx hb dX8_nameHere_24 ?_
      refine lv_aload_n hx hb dX8_nameHere_25 rfl (lv_at hl 0 rfl) ?_
      refine xget (ref := "FriezeFolkModel") (C := RX8) (T := TX8) (N := 24) (ci := 8) (v := .ref (ga 13)) hx hb hts inX8 hown hK hP 0 rfl rfl 12 (by decide) k4 rfl rfl dX8_nameHere_26 ?_
      refine lv_iload_n hx hb dX8_nameHere_29 rfl (lv_at hl 1 rfl) ?_
      refine lv_iconst (v := (1 : Int32)) hx hb dX8_nameHere_30 (by decide) ?_
      refine lv_iadd hx hb dX8_nameHere_31 ?_
      obtain ⟨v4, q4, h25⟩ := obn h22
      clear h22
      refine xald hx hb hK hP 4 rfl q4 dX8_nameHere_32 ?_
      refine lv_aload_n hx hb dX8_nameHere_33 rfl (lv_at hl 0 rfl) ?_
      refine xget (ref := "FriezeFolkModel") (C := RX8) (T := TX8) (N := 24) (ci := 8) (v := .ref (ga 13)) hx hb hts inX8 hown hK hP 0 rfl rfl 12 (by decide) k4 rfl rfl dX8_nameHere_34 ?_
      refine lv_iload_n hx hb dX8_nameHere_37 rfl (lv_at hl 1 rfl) ?_
      obtain ⟨v5, q5, h26⟩ := obn h25
      clear h25
      refine xald hx hb hK hP 4 rfl q5 dX8_nameHere_38 ?_
      refine lv_isub hx hb dX8_nameHere_39 ?_
      obtain ⟨v7, q27, h28⟩ := obn h26
      clear h26
      have J7 : ∀ (ls : Array Slot) (H : Heap) (locs : List Loc), lv_has ls 4 [(0, .ref (ga 0)), (1, .int s1)] → va_P D vwCl (cO ca ga g) H → va_D A (cO ca ga g) → va_S A s.heap H locs → W p l e rmX8_nameHere s m ([.ref (ga 0)] : List Value).toArray below meth c H locs 0 0 Z (F0 m 48 ls [.int v7]) := by
        intro ls H locs hl hP hD hS
        refine lv_istore_n (lv' := [(2, .int v7), (0, .ref (ga 0)), (1, .int s1)]) hx hb dX8_nameHere_48 rfl hl (by decide) rfl (fun ls hl => ?_)
        refine lv_iconst (v := (0 : Int32)) hx hb dX8_nameHere_49 (by decide) ?_
        refine lv_istore_n (lv' := [(3, .int (0 : Int32)), (2, .int v7), (0, .ref (ga 0)), (1, .int s1)]) hx hb dX8_nameHere_50 rfl hl (by decide) rfl (fun ls hl => ?_)
        obtain ⟨e16, w29, h30⟩ := obn h28
        clear h28
        have AF16 : ∀ (ls : Array Slot) (H : Heap) (locs : List Loc), lv_has ls 4 [(0, .ref (ga 0)), (1, .int s1), (2, .int e16.1)] → va_P D vwCl (cO ca ga g) H → va_D A (cO ca ga g) → va_S A s.heap H locs → W p l e rmX8_nameHere s m ([.ref (ga 0)] : List Value).toArray below meth c H locs 0 0 Z (F0 m 106 ls []) := by
          intro ls H locs hl hP hD hS
          refine lv_iload_n hx hb dX8_nameHere_106 rfl (lv_at hl 2 rfl) ?_
          refine lv_if_eq (tgt := 112) hx hb dX8_nameHere_107 (by decide) (fun c17 => ?_) (fun c17 => ?_)
          · skip
            replace h30 := (if_pos c17).symm.trans h30
            refine lv_iinc (v := (s1 + (1 : Int32))) (lv' := [(1, .int (s1 + (1 : Int32))), (0, .ref (ga 0)), (2, .int e16.1)]) hx hb dX8_nameHere_112 hl (k := 1) rfl rfl (by decide) rfl (fun ls hl => ?_)
            refine lv_goto (tgt := 2) hx hb dX8_nameHere_115 (by decide) ?_
            exact hi18 _ (Option.some.inj h30).symm _ _ _ (lv_sub hl [1, 0] rfl) hP hD hS
          · skip
            replace h30 := (if_neg c17).symm.trans h30
            refine lv_iload_n hx hb dX8_nameHere_110 rfl (lv_at hl 1 rfl) ?_
            have h31 := ho18 _ (Option.some.inj h30).symm
            subst h31
            replace h21 := (esc_r _ _).symm.trans h21
            obtain rfl := Option.some.inj h21
            exact hret _ _ _ _ (vp_nar_int _) hP hD hS dX8_nameHere_111
        refine whO_walk (I := fun s8 => ∀ (ls : Array Slot) (H : Heap) (locs : List Loc), lv_has ls 4 [(0, .ref (ga 0)), (1, .int s1), (2, .int s8.1), (3, .int s8.2)] → va_P D vwCl (cO ca ga g) H → va_D A (cO ca ga g) → va_S A s.heap H locs → W p l e rmX8_nameHere s m ([.ref (ga 0)] : List Value).toArray below meth c H locs 0 0 Z (F0 m 51 ls [])) ?_ _ _ w29 _ _ _ (lv_sub hl [2, 3, 1, 0] rfl) hP hD hS
        clear w29
        intro s8 o16 h32 hi16 ho16 ls H locs hl hP hD hS
        unfold mX8_nameHere_l51 at h32
        refine lv_iload_n hx hb dX8_nameHere_51 rfl (lv_at hl 2 rfl) ?_
        refine lv_if_eq (tgt := 106) hx hb dX8_nameHere_52 (by decide) (fun c9 => ?_) (fun c9 => ?_)
        · skip
          replace h32 := (if_pos c9).symm.trans h32
          have h33 := ho16 _ (Option.some.inj h32).symm
          subst h33
          exact AF16 _ _ _ (lv_sub hl [0, 1, 2] rfl) hP hD hS
        · skip
          replace h32 := (if_neg c9).symm.trans h32
          refine lv_iload_n hx hb dX8_nameHere_55 rfl (lv_at hl 3 rfl) ?_
          refine lv_aload_n hx hb dX8_nameHere_56 rfl (lv_at hl 0 rfl) ?_
          refine xget (ref := "FriezeFolkModel") (C := RX8) (T := TX8) (N := 24) (ci := 8) (v := .int (g.2 8)) hx hb hts inX8 hown hK hP 0 rfl rfl 8 (by decide) k2 rfl rfl dX8_nameHere_57 ?_
          refine lv_aload_n hx hb dX8_nameHere_60 rfl (lv_at hl 0 rfl) ?_
          refine xget (ref := "FriezeFolkModel") (C := RX8) (T := TX8) (N := 24) (ci := 8) (v := .int (g.2 9)) hx hb hts inX8 hown hK hP 0 rfl rfl 9 (by decide) k3 rfl rfl dX8_nameHere_61 ?_
          refine lv_isub hx hb dX8_nameHere_64 ?_
          refine lv_icmp_ge (tgt := 106) hx hb dX8_nameHere_65 (by decide) (fun c10 => ?_) (fun c10 => ?_)
          · skip
            replace h32 := (if_pos c10).symm.trans h32
            have h34 := ho16 _ (Option.some.inj h32).symm
            subst h34
            exact AF16 _ _ _ (lv_sub hl [0, 1, 2] rfl) hP hD hS
          · skip
            replace h32 := (if_neg c10).symm.trans h32
            refine lv_aload_n hx hb dX8_nameHere_68 rfl (lv_at hl 0 rfl) ?_
            refine lv_aload_n hx hb dX8_nameHere_69 rfl (lv_at hl 0 rfl) ?_
            refine xget (ref := "FriezeFolkModel") (C := RX8) (T := TX8) (N := 24) (ci := 8) (v := .int (g.2 9)) hx hb hts inX8 hown hK hP 0 rfl rfl 9 (by decide) k3 rfl rfl dX8_nameHere_70 ?_
            refine lv_iload_n hx hb dX8_nameHere_73 rfl (lv_at hl 3 rfl) ?_
            refine lv_iadd hx hb dX8_nameHere_74 ?_
            obtain ⟨v11, q11, h35⟩ := obn h32
            clear h32
            refine xVi (As := [.int ((g.2 9) + s8.2)]) (ci := 8) ⟨hx, hb, hml, hown, hts⟩ (k_X8_byteAt l D ca ga g ((g.2 9) + s8.2) _ q11) (cwV 1 hts gX8_nameHere_X8_byteAt rfl rfl rfl (by decide +kernel) ⟨Nat.le_of_ble_eq_true rfl, Nat.le_of_ble_eq_true rfl⟩) hK hA hP hD hS dX8_nameHere_75 rfl hl.1 [0, 1, 2, 3, 4, 5, 6, 7, 8, 9, 10, 11, 12, 13] [] [0, 1, 2, 3, 4, 5, 6, 7, 8, 9, 10, 11, 12, 13] rfl rfl (wr := []) rfl rfl (by decide) (wn := (cO ca ga g)) rfl rfl rfl rfl rfl rfl (Nat.le_of_ble_eq_true rfl) (fun H locs hP hD hS => ?_)
            refine lv_aload_n hx hb dX8_nameHere_78 rfl (lv_at hl 0 rfl) ?_
            refine xget (ref := "FriezeFolkModel") (C := RX8) (T := TX8) (N := 24) (ci := 8) (v := .ref (ga 14)) hx hb hts inX8 hown hK hP 0 rfl rfl 13 (by decide) k5 rfl rfl dX8_nameHere_79 ?_
            refine lv_aload_n hx hb dX8_nameHere_82 rfl (lv_at hl 0 rfl) ?_
            refine xget (ref := "FriezeFolkModel") (C := RX8) (T := TX8) (N := 24) (ci := 8) (v := .ref (ga 13)) hx hb hts inX8 hown hK hP 0 rfl rfl 12 (by decide) k4 rfl rfl dX8_nameHere_83 ?_
            refine lv_iload_n hx hb dX8_nameHere_86 rfl (lv_at hl 1 rfl) ?_
            obtain ⟨v12, q12, h36⟩ := obn h35
            clear h35
            refine xald hx hb hK hP 4 rfl q12 dX8_nameHere_87 ?_
            refine lv_iload_n hx hb dX8_nameHere_88 rfl (lv_at hl 3 rfl) ?_
            refine lv_iadd hx hb dX8_nameHere_89 ?_
            obtain ⟨v13, q13, h37⟩ := obn h36
            clear h36
            refine xald hx hb hK hP 5 rfl q13 dX8_nameHere_90 ?_
            obtain ⟨v15, q38, h39⟩ := obn h37
            clear h37
            have J15 : ∀ (ls : Array Slot) (H : Heap) (locs : List Loc), lv_has ls 4 [(0, .ref (ga 0)), (1, .int s1), (3, .int s8.2)] → va_P D vwCl (cO ca ga g) H → va_D A (cO ca ga g) → va_S A s.heap H locs → W p l e rmX8_nameHere s m ([.ref (ga 0)] : List Value).toArray below meth c H locs 0 0 Z (F0 m 99 ls [.int v15]) := by
              intro ls H locs hl hP hD hS
              refine lv_istore_n (lv' := [(2, .int v15), (0, .ref (ga 0)), (1, .int s1), (3, .int s8.2)]) hx hb dX8_nameHere_99 rfl hl (by decide) rfl (fun ls hl => ?_)
              refine lv_iinc (v := (s8.2 + (1 : Int32))) (lv' := [(3, .int (s8.2 + (1 : Int32))), (2, .int v15), (0, .ref (ga 0)), (1, .int s1)]) hx hb dX8_nameHere_100 hl (k := 3) rfl rfl (by decide) rfl (fun ls hl => ?_)
              refine lv_goto (tgt := 51) hx hb dX8_nameHere_103 (by decide) ?_
              exact hi16 _ (Option.some.inj h39).symm _ _ _ (lv_sub hl [2, 3, 1, 0] rfl) hP hD hS
            refine lv_icmp_ne (tgt := 98) hx hb dX8_nameHere_91 (by decide) (fun c14 => ?_) (fun c14 => ?_)
            · skip
              replace q38 := (if_neg c14).symm.trans q38
              refine lv_iconst (v := (0 : Int32)) hx hb dX8_nameHere_98 (by decide) ?_
              obtain rfl := Option.some.inj q38
              exact J15 _ _ _ (lv_sub hl [0, 1, 3] rfl) hP hD hS
            · skip
              replace q38 := (if_pos c14).symm.trans q38
              refine lv_iconst (v := (1 : Int32)) hx hb dX8_nameHere_94 (by decide) ?_
              refine lv_goto (tgt := 99) hx hb dX8_nameHere_95 (by decide) ?_
              obtain rfl := Option.some.inj q38
              exact J15 _ _ _ (lv_sub hl [0, 1, 3] rfl) hP hD hS
      refine lv_icmp_ne (tgt := 47) hx hb dX8_nameHere_40 (by decide) (fun c6 => ?_) (fun c6 => ?_)
      · skip
        replace q27 := (if_neg c6).symm.trans q27
        refine lv_iconst (v := (0 : Int32)) hx hb dX8_nameHere_47 (by decide) ?_
        obtain rfl := Option.some.inj q27
        exact J7 _ _ _ (lv_sub hl [0, 1] rfl) hP hD hS
      · skip
        replace q27 := (if_pos c6).symm.trans q27
        refine lv_iconst (v := (1 : Int32)) hx hb dX8_nameHere_43 (by decide) ?_
        refine lv_goto (tgt := 48) hx hb dX8_nameHere_44 (by decide) ?_
        obtain rfl := Option.some.inj q27
        exact J7 _ _ _ (lv_sub hl [0, 1] rfl) hP hD hS
def mX8_step_l8 (s5 : GS) : Option ((GS) ⊕ (GS)) :=
  Option.bind (mX8_byteAt s5 (s5.2 8)) fun v6 =>
  if v6 = (32 : Int32) then
    some (.inl (sI s5 8 ((s5.2 8) + (1 : Int32))))
  else
    some (.inr s5)

def mX8_step_l140 (s24 : GS) : Option ((GS) ⊕ (GS)) :=
  Option.bind (mX8_byteAt s24 (s24.2 8)) fun v25 =>
  Option.bind (mX8_in v25.toInt64 (48 : Int64) (57 : Int64)) fun v26 =>
  if v26 = 0 then
    some (.inr s24)
  else
    Option.bind (
      if (2 : Int32) ≤ ((s24.2 8) - (s24.2 9)) then
        some (s24.2 11)
      else
        Option.bind (mX8_byteAt s24 (s24.2 8)) fun v29 =>
        some ((((10 : Int32) * (s24.2 11)) + v29) - (48 : Int32))) fun (v30 : Int32) =>
    some (.inl (sI (sI s24 11 v30) 8 (((sI s24 11 v30).2 8) + (1 : Int32))))

def mX8_step_l84 (s38 : GS) : Option ((GS) ⊕ (GS)) :=
  Option.bind (mX8_byteAt s38 (s38.2 8)) fun v39 =>
  Option.bind (mX8_in v39.toInt64 (97 : Int64) (122 : Int64)) fun v40 =>
  if v40 = 0 then
    some (.inr s38)
  else
    some (.inl (sI s38 8 ((s38.2 8) + (1 : Int32))))

def mX8_step (g : GS) : Option (GS) :=
  if (g.2 6) ≤ 0 then
    Option.bind (whO (mX8_step_l8) FU g) fun e8 =>
    Option.bind (mX8_byteAt (sI e8 9 (e8.2 8)) ((sI e8 9 (e8.2 8)).2 8)) fun v9 =>
    if v9 = (-4 : Int32) then
      some (sI (sI (sI e8 9 (e8.2 8)) 11 (0 : Int32)) 10 (0 : Int32))
    else
      Option.bind (mX8_in v9.toInt64 (97 : Int64) (122 : Int64)) fun v11 =>
      if v11 = 0 then
        Option.bind (mX8_in v9.toInt64 (48 : Int64) (57 : Int64)) fun v13 =>
        if v13 = 0 then
          if v9 = (59 : Int32) then
            some (sI (sI (sI (sI e8 9 (e8.2 8)) 11 (0 : Int32)) 10 (3 : Int32)) 8 (((sI (sI (sI e8 9 (e8.2 8)) 11 (0 : Int32)) 10 (3 : Int32)).2 8) + (1 : Int32)))
          else
            Option.bind (mX8_fails (sI (sI (sI (sI e8 9 (e8.2 8)) 11 (0 : Int32)) 10 (3 : Int32)) 8 (((sI (sI (sI e8 9 (e8.2 8)) 11 (0 : Int32)) 10 (3 : Int32)).2 8) + (1 : Int32))) (1 : Int32)) fun v16 =>
            some v16
        else
          Option.bind (whO (mX8_step_l140) FU (sI (sI e8 9 (e8.2 8)) 11 (0 : Int32))) fun e31 =>
          if (((sI e31 10 (2 : Int32)).2 8) - ((sI e31 10 (2 : Int32)).2 9)) ≤ (2 : Int32) then
            some (sI e31 10 (2 : Int32))
          else
            Option.bind (mX8_fails (sI e31 10 (2 : Int32)) (1 : Int32)) fun v33 =>
            some v33
      else
        Option.bind (whO (mX8_step_l84) FU (sI (sI e8 9 (e8.2 8)) 11 (0 : Int32))) fun e42 =>
        some (sI e42 10 (1 : Int32))
  else
    some g
abbrev rmX8_step : Room := { frames := 1, cells := 0, slots := 0, locals := 25 }
set_option maxHeartbeats 4000000 in
set_option maxRecDepth 100000 in
theorem k_X8_step (l : Launch) (D : va_G) (ca : Nat → ClassId) (ga : Nat → Nat) (g : GS) (o : GS) (hm : mX8_step g = some o) : KV l yX8_step wsX8_step rmX8_step D ca [.ref (ga 0)] (cO ca ga g) (cO ca ga o) := by
  refine KV.of (cc := cX8_step) (n := 2) (plainFor_of_name (by decide)) rfl (Nat.le_of_ble_eq_true rfl) ?_
  intro p e s m below meth c A Z hx hb hml hts hown hA hK hP hD hS hret ls hl
  have hown : s.vm.findClass RX8 = some m.cls := hown
  have hl : lv_has ls 2 [(0, .ref (ga 0))] := hl
  have inX8 : ∀ w ∈ wsX80, w ∈ wsX8_step := by decide +kernel
  have k1 := hts (.fieldLink RX8 60 "FriezeFolkModel" "broken" "I") (by decide +kernel)
  have k2 := hts (.fieldLink RX8 72 "FriezeFolkModel" "spot" "I") (by decide +kernel)
  have k3 := hts (.fieldLink RX8 63 "FriezeFolkModel" "here" "I") (by decide +kernel)
  have k4 := hts (.fieldLink RX8 79 "FriezeFolkModel" "value" "I") (by decide +kernel)
  have k5 := hts (.constantLong RX8 82 (97 : Int64)) (by decide +kernel)
  have k6 := hts (.constantLong RX8 84 (122 : Int64)) (by decide +kernel)
  have k7 := hts (.constantLong RX8 86 (48 : Int64)) (by decide +kernel)
  have k8 := hts (.constantLong RX8 88 (57 : Int64)) (by decide +kernel)
  have k9 := hts (.fieldLink RX8 69 "FriezeFolkModel" "token" "I") (by decide +kernel)
  unfold mX8_step at hm
  refine lv_aload_n hx hb dX8_step_0 rfl (lv_at hl 0 rfl) ?_
  refine xget (ref := "FriezeFolkModel") (C := RX8) (T := TX8) (N := 24) (ci := 8) (v := .int (g.2 6)) hx hb hts inX8 hown hK hP 0 rfl rfl 6 (by decide) k1 rfl rfl dX8_step_1 ?_
  refine lv_if_le (tgt := 8) hx hb dX8_step_4 (by decide) (fun c1 => ?_) (fun c1 => ?_)
  · skip
    replace hm := (if_pos c1).symm.trans hm
    obtain ⟨e8, w43, h44⟩ := obn hm
    clear hm
    have AF8 : ∀ (ls : Array Slot) (H : Heap) (locs : List Loc), lv_has ls 2 [(0, .ref (ga 0))] → va_P D vwCl (cO ca ga e8) H → va_D A (cO ca ga e8) → va_S A s.heap H locs → W p l e rmX8_step s m ([.ref (ga 0)] : List Value).toArray below meth c H locs 0 0 Z (F0 m 34 ls []) := by
      intro ls H locs hl hP hD hS
      refine lv_aload_n hx hb dX8_step_34 rfl (lv_at hl 0 rfl) ?_
      refine lv_aload_n hx hb dX8_step_35 rfl (lv_at hl 0 rfl) ?_
      refine xget (ref := "FriezeFolkModel") (C := RX8) (T := TX8) (N := 24) (ci := 8) (v := .int (e8.2 8)) hx hb hts inX8 hown hK hP 0 rfl rfl 8 (by decide) k2 rfl rfl dX8_step_36 ?_
      refine xput (ref := "FriezeFolkModel") (C := RX8) (T := TX8) (N := 24) (ci := 8) (v := .int (e8.2 8)) (ty := .int) hx hb hts inX8 tyX8 tyX8_ok nmX8 hown hK hP hD hS 0 rfl rfl 9 (by decide) k3 rfl rfl (by decide +kernel) rfl rfl (Nat.le_of_ble_eq_true rfl) dX8_step_39 (wn := (cO ca ga (sI e8 9 (e8.2 8)))) rfl (fun H locs hP hD hS => ?_)
      refine lv_aload_n hx hb dX8_step_42 rfl (lv_at hl 0 rfl) ?_
      refine lv_aload_n hx hb dX8_step_43 rfl (lv_at hl 0 rfl) ?_
      refine xget (ref := "FriezeFolkModel") (C := RX8) (T := TX8) (N := 24) (ci := 8) (v := .int ((sI e8 9 (e8.2 8)).2 8)) hx hb hts inX8 hown hK hP 0 rfl rfl 8 (by decide) k2 rfl rfl dX8_step_44 ?_
      obtain ⟨v9, q9, h45⟩ := obn h44
      clear h44
      refine xVi (As := [.int ((sI e8 9 (e8.2 8)).2 8)]) (ci := 8) ⟨hx, hb, hml, hown, hts⟩ (k_X8_byteAt l D ca ga (sI e8 9 (e8.2 8)) ((sI e8 9 (e8.2 8)).2 8) _ q9) (cwV 1 hts gX8_step_X8_byteAt rfl rfl rfl (by decide +kernel) ⟨Nat.le_of_ble_eq_true rfl, Nat.le_of_ble_eq_true rfl⟩) hK hA hP hD hS dX8_step_47 rfl hl.1 [0, 1, 2, 3, 4, 5, 6, 7, 8, 9, 10, 11, 12, 13] [] [0, 1, 2, 3, 4, 5, 6, 7, 8, 9, 10, 11, 12, 13] rfl rfl (wr := []) rfl rfl (by decide) (wn := (cO ca ga (sI e8 9 (e8.2 8)))) rfl rfl rfl rfl rfl rfl (Nat.le_of_ble_eq_true rfl) (fun H locs hP hD hS => ?_)
      refine lv_istore_n (lv' := [(1, .int v9), (0, .ref (ga 0))]) hx hb dX8_step_50 rfl hl (by decide) rfl (fun ls hl => ?_)
      refine lv_aload_n hx hb dX8_step_51 rfl (lv_at hl 1 rfl) ?_
      refine lv_iconst (v := (0 : Int32)) hx hb dX8_step_52 (by decide) ?_
      refine xput (ref := "FriezeFolkModel") (C := RX8) (T := TX8) (N := 24) (ci := 8) (v := .int (0 : Int32)) (ty := .int) hx hb hts inX8 tyX8 tyX8_ok nmX8 hown hK hP hD hS 0 rfl rfl 11 (by decide) k4 rfl rfl (by decide +kernel) rfl rfl (Nat.le_of_ble_eq_true rfl) dX8_step_53 (wn := (cO ca ga (sI (sI e8 9 (e8.2 8)) 11 (0 : Int32)))) rfl (fun H locs hP hD hS => ?_)
      refine lv_iload_n hx hb dX8_step_56 rfl (lv_at hl 0 rfl) ?_
      refine lv_bipush (v := (-4 : Int32)) hx hb dX8_step_57 (by decide) ?_
      refine lv_icmp_ne (tgt := 70) hx hb dX8_step_59 (by decide) (fun c10 => ?_) (fun c10 => ?_)
      · skip
        replace h45 := (if_neg c10).symm.trans h45
        refine lv_iload_n hx hb dX8_step_70 rfl (lv_at hl 0 rfl) ?_
        refine lv_i2l (v := v9.toInt64) hx hb dX8_step_71 rfl ?_
        refine lv_ldc2 hx hb hown k5 dX8_step_72 ?_
        refine lv_ldc2 hx hb hown k6 dX8_step_75 ?_
        obtain ⟨v11, q11, h46⟩ := obn h45
        clear h45
        refine xSi (As := [.long v9.toInt64, .long (97 : Int64), .long (122 : Int64)]) ⟨hx, hb, hml, hown, hts⟩ (k_X8_in l D ca  v9.toInt64 (97 : Int64) (122 : Int64) _ q11) (va_cwS 3 hts gX8_step_X8_in rfl rfl rfl (by decide +kernel) ⟨Nat.le_of_ble_eq_true rfl, Nat.le_of_ble_eq_true rfl⟩) hK hA hP hD hS dX8_step_78 rfl hl.1 [] [0, 1, 2, 3, 4, 5, 6, 7, 8, 9, 10, 11, 12, 13] [0, 1, 2, 3, 4, 5, 6, 7, 8, 9, 10, 11, 12, 13] rfl rfl (wr := ((cO ca ga (sI (sI e8 9 (e8.2 8)) 11 (0 : Int32))))) rfl rfl (by decide) (wn := (cO ca ga (sI (sI e8 9 (e8.2 8)) 11 (0 : Int32)))) rfl rfl rfl (Nat.le_of_ble_eq_true rfl) (fun H locs hP hD hS => ?_)
        refine lv_if_eq (tgt := 126) hx hb dX8_step_81 (by decide) (fun c12 => ?_) (fun c12 => ?_)
        · skip
          replace h46 := (if_pos c12).symm.trans h46
          refine lv_iload_n hx hb dX8_step_126 rfl (lv_at hl 0 rfl) ?_
          refine lv_i2l (v := v9.toInt64) hx hb dX8_step_127 rfl ?_
          refine lv_ldc2 hx hb hown k7 dX8_step_128 ?_
          refine lv_ldc2 hx hb hown k8 dX8_step_131 ?_
          obtain ⟨v13, q13, h47⟩ := obn h46
          clear h46
          refine xSi (As := [.long v9.toInt64, .long (48 : Int64), .long (57 : Int64)]) ⟨hx, hb, hml, hown, hts⟩ (k_X8_in l D ca  v9.toInt64 (48 : Int64) (57 : Int64) _ q13) (va_cwS 3 hts gX8_step_X8_in rfl rfl rfl (by decide +kernel) ⟨Nat.le_of_ble_eq_true rfl, Nat.le_of_ble_eq_true rfl⟩) hK hA hP hD hS dX8_step_134 rfl hl.1 [] [0, 1, 2, 3, 4, 5, 6, 7, 8, 9, 10, 11, 12, 13] [0, 1, 2, 3, 4, 5, 6, 7, 8, 9, 10, 11, 12, 13] rfl rfl (wr := ((cO ca ga (sI (sI e8 9 (e8.2 8)) 11 (0 : Int32))))) rfl rfl (by decide) (wn := (cO ca ga (sI (sI e8 9 (e8.2 8)) 11 (0 : Int32)))) rfl rfl rfl (Nat.le_of_ble_eq_true rfl) (fun H locs hP hD hS => ?_)
          refine lv_if_eq (tgt := 243) hx hb dX8_step_137 (by decide) (fun c14 => ?_) (fun c14 => ?_)
          · skip
            replace h47 := (if_pos c14).symm.trans h47
            refine lv_aload_n hx hb dX8_step_243 rfl (lv_at hl 1 rfl) ?_
            refine lv_iconst (v := (3 : Int32)) hx hb dX8_step_244 (by decide) ?_
            refine xput (ref := "FriezeFolkModel") (C := RX8) (T := TX8) (N := 24) (ci := 8) (v := .int (3 : Int32)) (ty := .int) hx hb hts inX8 tyX8 tyX8_ok nmX8 hown hK hP hD hS 0 rfl rfl 10 (by decide) k9 rfl rfl (by decide +kernel) rfl rfl (Nat.le_of_ble_eq_true rfl) dX8_step_245 (wn := (cO ca ga (sI (sI (sI e8 9 (e8.2 8)) 11 (0 : Int32)) 10 (3 : Int32)))) rfl (fun H locs hP hD hS => ?_)
            refine lv_aload_n hx hb dX8_step_248 rfl (lv_at hl 1 rfl) ?_
            refine lv_dup hx hb dX8_step_249 rfl ?_
            refine xget (ref := "FriezeFolkModel") (C := RX8) (T := TX8) (N := 24) (ci := 8) (v := .int ((sI (sI (sI e8 9 (e8.2 8)) 11 (0 : Int32)) 10 (3 : Int32)).2 8)) hx hb hts inX8 hown hK hP 0 rfl rfl 8 (by decide) k2 rfl rfl dX8_step_250 ?_
            refine lv_iconst (v := (1 : Int32)) hx hb dX8_step_253 (by decide) ?_
            refine lv_iadd hx hb dX8_step_254 ?_
            refine xput (ref := "FriezeFolkModel") (C := RX8) (T := TX8) (N := 24) (ci := 8) (v := .int (((sI (sI (sI e8 9 (e8.2 8)) 11 (0 : Int32)) 10 (3 : Int32)).2 8) + (1 : Int32))) (ty := .int) hx hb hts inX8 tyX8 tyX8_ok nmX8 hown hK hP hD hS 0 rfl rfl 8 (by decide) k2 rfl rfl (by decide +kernel) rfl rfl (Nat.le_of_ble_eq_true rfl) dX8_step_255 (wn := (cO ca ga (sI (sI (sI (sI e8 9 (e8.2 8)) 11 (0 : Int32)) 10 (3 : Int32)) 8 (((sI (sI (sI e8 9 (e8.2 8)) 11 (0 : Int32)) 10 (3 : Int32)).2 8) + (1 : Int32))))) rfl (fun H locs hP hD hS => ?_)
            refine lv_iload_n hx hb dX8_step_258 rfl (lv_at hl 0 rfl) ?_
            refine lv_bipush (v := (59 : Int32)) hx hb dX8_step_259 (by decide) ?_
            refine lv_icmp_eq (tgt := 269) hx hb dX8_step_261 (by decide) (fun c15 => ?_) (fun c15 => ?_)
            · skip
              replace h47 := (if_pos c15).symm.trans h47
              obtain rfl := Option.some.inj h47
              exact hret _ _ _ _ hP hD hS dX8_step_269
            · skip
              replace h47 := (if_neg c15).symm.trans h47
              refine lv_aload_n hx hb dX8_step_264 rfl (lv_at hl 1 rfl) ?_
              refine lv_iconst (v := (1 : Int32)) hx hb dX8_step_265 (by decide) ?_
              obtain ⟨v16, q16, h48⟩ := obn h47
              clear h47
              refine xVv (As := [.int (1 : Int32)]) (ci := 8) ⟨hx, hb, hml, hown, hts⟩ (k_X8_fails l D ca ga (sI (sI (sI (sI e8 9 (e8.2 8)) 11 (0 : Int32)) 10 (3 : Int32)) 8 (((sI (sI (sI e8 9 (e8.2 8)) 11 (0 : Int32)) 10 (3 : Int32)).2 8) + (1 : Int32))) (1 : Int32) _ q16) (cwV 1 hts gX8_step_X8_fails rfl rfl rfl (by decide +kernel) ⟨Nat.le_of_ble_eq_true rfl, Nat.le_of_ble_eq_true rfl⟩) hK hA hP hD hS dX8_step_266 rfl hl.1 [0, 1, 2, 3, 4, 5, 6, 7, 8, 9, 10, 11, 12, 13] [] [0, 1, 2, 3, 4, 5, 6, 7, 8, 9, 10, 11, 12, 13] rfl rfl (wr := []) rfl rfl (by decide) (wn := (cO ca ga v16)) rfl rfl rfl rfl rfl rfl (Nat.le_of_ble_eq_true rfl) (fun H locs hP hD hS => ?_)
              obtain rfl := Option.some.inj h48
              exact hret _ _ _ _ hP hD hS dX8_step_269
          · skip
            replace h47 := (if_neg c14).symm.trans h47
            obtain ⟨e31, w49, h50⟩ := obn h47
            clear h47
            have AF31 : ∀ (ls : Array Slot) (H : Heap) (locs : List Loc), lv_has ls 2 [(0, .ref (ga 0))] → va_P D vwCl (cO ca ga e31) H → va_D A (cO ca ga e31) → va_S A s.heap H locs → W p l e rmX8_step s m ([.ref (ga 0)] : List Value).toArray below meth c H locs 0 0 Z (F0 m 217 ls []) := by
              intro ls H locs hl hP hD hS
              refine lv_aload_n hx hb dX8_step_217 rfl (lv_at hl 0 rfl) ?_
              refine lv_iconst (v := (2 : Int32)) hx hb dX8_step_218 (by decide) ?_
              refine xput (ref := "FriezeFolkModel") (C := RX8) (T := TX8) (N := 24) (ci := 8) (v := .int (2 : Int32)) (ty := .int) hx hb hts inX8 tyX8 tyX8_ok nmX8 hown hK hP hD hS 0 rfl rfl 10 (by decide) k9 rfl rfl (by decide +kernel) rfl rfl (Nat.le_of_ble_eq_true rfl) dX8_step_219 (wn := (cO ca ga (sI e31 10 (2 : Int32)))) rfl (fun H locs hP hD hS => ?_)
              refine lv_aload_n hx hb dX8_step_222 rfl (lv_at hl 0 rfl) ?_
              refine xget (ref := "FriezeFolkModel") (C := RX8) (T := TX8) (N := 24) (ci := 8) (v := .int ((sI e31 10 (2 : Int32)).2 8)) hx hb hts inX8 hown hK hP 0 rfl rfl 8 (by decide) k2 rfl rfl dX8_step_223 ?_
              refine lv_aload_n hx hb dX8_step_226 rfl (lv_at hl 0 rfl) ?_
              refine xget (ref := "FriezeFolkModel") (C := RX8) (T := TX8) (N := 24) (ci := 8) (v := .int ((sI e31 10 (2 : Int32)).2 9)) hx hb hts inX8 hown hK hP 0 rfl rfl 9 (by decide) k3 rfl rfl dX8_step_227 ?_
              refine lv_isub hx hb dX8_step_230 ?_
              refine lv_iconst (v := (2 : Int32)) hx hb dX8_step_231 (by decide) ?_
              refine lv_icmp_le (tgt := 269) hx hb dX8_step_232 (by decide) (fun c32 => ?_) (fun c32 => ?_)
              · skip
                replace h50 := (if_pos c32).symm.trans h50
                obtain rfl := Option.some.inj h50
                exact hret _ _ _ _ hP hD hS dX8_step_269
              · skip
                replace h50 := (if_neg c32).symm.trans h50
                refine lv_aload_n hx hb dX8_step_235 rfl (lv_at hl 0 rfl) ?_
                refine lv_iconst (v := (1 : Int32)) hx hb dX8_step_236 (by decide) ?_
                obtain ⟨v33, q33, h51⟩ := obn h50
                clear h50
                refine xVv (As := [.int (1 : Int32)]) (ci := 8) ⟨hx, hb, hml, hown, hts⟩ (k_X8_fails l D ca ga (sI e31 10 (2 : Int32)) (1 : Int32) _ q33) (cwV 1 hts gX8_step_X8_fails rfl rfl rfl (by decide +kernel) ⟨Nat.le_of_ble_eq_true rfl, Nat.le_of_ble_eq_true rfl⟩) hK hA hP hD hS dX8_step_237 rfl hl.1 [0, 1, 2, 3, 4, 5, 6, 7, 8, 9, 10, 11, 12, 13] [] [0, 1, 2, 3, 4, 5, 6, 7, 8, 9, 10, 11, 12, 13] rfl rfl (wr := []) rfl rfl (by decide) (wn := (cO ca ga v33)) rfl rfl rfl rfl rfl rfl (Nat.le_of_ble_eq_true rfl) (fun H locs hP hD hS => ?_)
                refine lv_goto (tgt := 269) hx hb dX8_step_240 (by decide) ?_
                obtain rfl := Option.some.inj h51
                exact hret _ _ _ _ hP hD hS dX8_step_269
            refine whO_walk (I := fun s24 => ∀ (ls : Array Slot) (H : Heap) (locs : List Loc), lv_has ls 2 [(0, .ref (ga 0))] → va_P D vwCl (cO ca ga s24) H → va_D A (cO ca ga s24) → va_S A s.heap H locs → W p l e rmX8_step s m ([.ref (ga 0)] : List Value).toArray below meth c H locs 0 0 Z (F0 m 140 ls [])) ?_ _ _ w49 _ _ _ (lv_sub hl [1] rfl) hP hD hS
            clear w49
            intro s24 o31 h52 hi31 ho31 ls H locs hl hP hD hS
            unfold mX8_step_l140 at h52
            refine lv_aload_n hx hb dX8_step_140 rfl (lv_at hl 0 rfl) ?_
            refine lv_aload_n hx hb dX8_step_141 rfl (lv_at hl 0 rfl) ?_
            refine xget (ref := "FriezeFolkModel") (C := RX8) (T := TX8) (N := 24) (ci := 8) (v := .int (s24.2 8)) hx hb hts inX8 hown hK hP 0 rfl rfl 8 (by decide) k2 rfl rfl dX8_step_142 ?_
            obtain ⟨v25, q25, h53⟩ := obn h52
            clear h52
            refine xVi (As := [.int (s24.2 8)]) (ci := 8) ⟨hx, hb, hml, hown, hts⟩ (k_X8_byteAt l D ca ga s24 (s24.2 8) _ q25) (cwV 1 hts gX8_step_X8_byteAt rfl rfl rfl (by decide +kernel) ⟨Nat.le_of_ble_eq_true rfl, Nat.le_of_ble_eq_true rfl⟩) hK hA hP hD hS dX8_step_145 rfl hl.1 [0, 1, 2, 3, 4, 5, 6, 7, 8, 9, 10, 11, 12, 13] [] [0, 1, 2, 3, 4, 5, 6, 7, 8, 9, 10, 11, 12, 13] rfl rfl (wr := []) rfl rfl (by decide) (wn := (cO ca ga s24)) rfl rfl rfl rfl rfl rfl (Nat.le_of_ble_eq_true rfl) (fun H locs hP hD hS => ?_)
            refine lv_i2l (v := v25.toInt64) hx hb dX8_step_148 rfl ?_
            refine lv_ldc2 hx hb hown k7 dX8_step_149 ?_
            refine lv_ldc2 hx hb hown k8 dX8_step_152 ?_
            obtain ⟨v26, q26, h54⟩ := obn h53
            clear h53
            refine xSi (As := [.long v25.toInt64, .long (48 : Int64), .long (57 : Int64)]) ⟨hx, hb, hml, hown, hts⟩ (k_X8_in l D ca  v25.toInt64 (48 : Int64) (57 : Int64) _ q26) (va_cwS 3 hts gX8_step_X8_in rfl rfl rfl (by decide +kernel) ⟨Nat.le_of_ble_eq_true rfl, Nat.le_of_ble_eq_true rfl⟩) hK hA hP hD hS dX8_step_155 rfl hl.1 [] [0, 1, 2, 3, 4, 5, 6, 7, 8, 9, 10, 11, 12, 13] [0, 1, 2, 3, 4, 5, 6, 7, 8, 9, 10, 11, 12, 13] rfl rfl (wr := ((cO ca ga s24))) rfl rfl (by decide) (wn := (cO ca ga s24)) rfl rfl rfl (Nat.le_of_ble_eq_true rfl) (fun H locs hP hD hS => ?_)
            refine lv_if_eq (tgt := 217) hx hb dX8_step_158 (by decide) (fun c27 => ?_) (fun c27 => ?_)
            · skip
              replace h54 := (if_pos c27).symm.trans h54
              have h55 := ho31 _ (Option.some.inj h54).symm
              subst h55
              exact AF31 _ _ _ (lv_sub hl [0] rfl) hP hD hS
            · skip
              replace h54 := (if_neg c27).symm.trans h54
              refine lv_aload_n hx hb dX8_step_161 rfl (lv_at hl 0 rfl) ?_
              refine lv_aload_n hx hb dX8_step_162 rfl (lv_at hl 0 rfl) ?_
              refine xget (ref := "FriezeFolkModel") (C := RX8) (T := TX8) (N := 24) (ci := 8) (v := .int (s24.2 8)) hx hb hts inX8 hown hK hP 0 rfl rfl 8 (by decide) k2 rfl rfl dX8_step_163 ?_
              refine lv_aload_n hx hb dX8_step_166 rfl (lv_at hl 0 rfl) ?_
              refine xget (ref := "FriezeFolkModel") (C := RX8) (T := TX8) (N := 24) (ci := 8) (v := .int (s24.2 9)) hx hb hts inX8 hown hK hP 0 rfl rfl 9 (by decide) k3 rfl rfl dX8_step_167 ?_
              refine lv_isub hx hb dX8_step_170 ?_
              refine lv_iconst (v := (2 : Int32)) hx hb dX8_step_171 (by decide) ?_
              obtain ⟨v30, q56, h57⟩ := obn h54
              clear h54
              have J30 : ∀ (ls : Array Slot) (H : Heap) (locs : List Loc), lv_has ls 2 [(0, .ref (ga 0))] → va_P D vwCl (cO ca ga s24) H → va_D A (cO ca ga s24) → va_S A s.heap H locs → W p l e rmX8_step s m ([.ref (ga 0)] : List Value).toArray below meth c H locs 0 0 Z (F0 m 201 ls [.int v30, .ref (ga 0)]) := by
                intro ls H locs hl hP hD hS
                refine xput (ref := "FriezeFolkModel") (C := RX8) (T := TX8) (N := 24) (ci := 8) (v := .int v30) (ty := .int) hx hb hts inX8 tyX8 tyX8_ok nmX8 hown hK hP hD hS 0 rfl rfl 11 (by decide) k4 rfl rfl (by decide +kernel) rfl rfl (Nat.le_of_ble_eq_true rfl) dX8_step_201 (wn := (cO ca ga (sI s24 11 v30))) rfl (fun H locs hP hD hS => ?_)
                refine lv_aload_n hx hb dX8_step_204 rfl (lv_at hl 0 rfl) ?_
                refine lv_dup hx hb dX8_step_205 rfl ?_
                refine xget (ref := "FriezeFolkModel") (C := RX8) (T := TX8) (N := 24) (ci := 8) (v := .int ((sI s24 11 v30).2 8)) hx hb hts inX8 hown hK hP 0 rfl rfl 8 (by decide) k2 rfl rfl dX8_step_206 ?_
                refine lv_iconst (v := (1 : Int32)) hx hb dX8_step_209 (by decide) ?_
                refine lv_iadd hx hb dX8_step_210 ?_
                refine xput (ref := "FriezeFolkModel") (C := RX8) (T := TX8) (N := 24) (ci := 8) (v := .int (((sI s24 11 v30).2 8) + (1 : Int32))) (ty := .int) hx hb hts inX8 tyX8 tyX8_ok nmX8 hown hK hP hD hS 0 rfl rfl 8 (by decide) k2 rfl rfl (by decide +kernel) rfl rfl (Nat.le_of_ble_eq_true rfl) dX8_step_211 (wn := (cO ca ga (sI (sI s24 11 v30) 8 (((sI s24 11 v30).2 8) + (1 : Int32))))) rfl (fun H locs hP hD hS => ?_)
                refine lv_goto (tgt := 140) hx hb dX8_step_214 (by decide) ?_
                exact hi31 _ (Option.some.inj h57).symm _ _ _ (lv_sub hl [0] rfl) hP hD hS
              refine lv_icmp_ge (tgt := 197) hx hb dX8_step_172 (by decide) (fun c28 => ?_) (fun c28 => ?_)
              · skip
                replace q56 := (if_pos c28).symm.trans q56
                refine lv_aload_n hx hb dX8_step_197 rfl (lv_at hl 0 rfl) ?_
                refine xget (ref := "FriezeFolkModel") (C := RX8) (T := TX8) (N := 24) (ci := 8) (v := .int (s24.2 11)) hx hb hts inX8 hown hK hP 0 rfl rfl 11 (by decide) k4 rfl rfl dX8_step_198 ?_
                obtain rfl := Option.some.inj q56
                exact J30 _ _ _ (lv_sub hl [0] rfl) hP hD hS
              · skip
                replace q56 := (if_neg c28).symm.trans q56
                refine lv_bipush (v := (10 : Int32)) hx hb dX8_step_175 (by decide) ?_
                refine lv_aload_n hx hb dX8_step_177 rfl (lv_at hl 0 rfl) ?_
                refine xget (ref := "FriezeFolkModel") (C := RX8) (T := TX8) (N := 24) (ci := 8) (v := .int (s24.2 11)) hx hb hts inX8 hown hK hP 0 rfl rfl 11 (by decide) k4 rfl rfl dX8_step_178 ?_
                refine lv_imul hx hb dX8_step_181 ?_
                refine lv_aload_n hx hb dX8_step_182 rfl (lv_at hl 0 rfl) ?_
                refine lv_aload_n hx hb dX8_step_183 rfl (lv_at hl 0 rfl) ?_
                refine xget (ref := "FriezeFolkModel") (C := RX8) (T := TX8) (N := 24) (ci := 8) (v := .int (s24.2 8)) hx hb hts inX8 hown hK hP 0 rfl rfl 8 (by decide) k2 rfl rfl dX8_step_184 ?_
                obtain ⟨v29, q29, h58⟩ := obn q56
                clear q56
                refine xVi (As := [.int (s24.2 8)]) (ci := 8) ⟨hx, hb, hml, hown, hts⟩ (k_X8_byteAt l D ca ga s24 (s24.2 8) _ q29) (cwV 1 hts gX8_step_X8_byteAt rfl rfl rfl (by decide +kernel) ⟨Nat.le_of_ble_eq_true rfl, Nat.le_of_ble_eq_true rfl⟩) hK hA hP hD hS dX8_step_187 rfl hl.1 [0, 1, 2, 3, 4, 5, 6, 7, 8, 9, 10, 11, 12, 13] [] [0, 1, 2, 3, 4, 5, 6, 7, 8, 9, 10, 11, 12, 13] rfl rfl (wr := []) rfl rfl (by decide) (wn := (cO ca ga s24)) rfl rfl rfl rfl rfl rfl (Nat.le_of_ble_eq_true rfl) (fun H locs hP hD hS => ?_)
                refine lv_iadd hx hb dX8_step_190 ?_
                refine lv_bipush (v := (48 : Int32)) hx hb dX8_step_191 (by decide) ?_
                refine lv_isub hx hb dX8_step_193 ?_
                refine lv_goto (tgt := 201) hx hb dX8_step_194 (by decide) ?_
                obtain rfl := Option.some.inj h58
                exact J30 _ _ _ (lv_sub hl [0] rfl) hP hD hS
        · skip
          replace h46 := (if_neg c12).symm.trans h46
          obtain ⟨e42, w59, h60⟩ := obn h46
          clear h46
          have AF42 : ∀ (ls : Array Slot) (H : Heap) (locs : List Loc), lv_has ls 2 [(0, .ref (ga 0))] → va_P D vwCl (cO ca ga e42) H → va_D A (cO ca ga e42) → va_S A s.heap H locs → W p l e rmX8_step s m ([.ref (ga 0)] : List Value).toArray below meth c H locs 0 0 Z (F0 m 118 ls []) := by
            intro ls H locs hl hP hD hS
            refine lv_aload_n hx hb dX8_step_118 rfl (lv_at hl 0 rfl) ?_
            refine lv_iconst (v := (1 : Int32)) hx hb dX8_step_119 (by decide) ?_
            refine xput (ref := "FriezeFolkModel") (C := RX8) (T := TX8) (N := 24) (ci := 8) (v := .int (1 : Int32)) (ty := .int) hx hb hts inX8 tyX8 tyX8_ok nmX8 hown hK hP hD hS 0 rfl rfl 10 (by decide) k9 rfl rfl (by decide +kernel) rfl rfl (Nat.le_of_ble_eq_true rfl) dX8_step_120 (wn := (cO ca ga (sI e42 10 (1 : Int32)))) rfl (fun H locs hP hD hS => ?_)
            refine lv_goto (tgt := 269) hx hb dX8_step_123 (by decide) ?_
            obtain rfl := Option.some.inj h60
            exact hret _ _ _ _ hP hD hS dX8_step_269
          refine whO_walk (I := fun s38 => ∀ (ls : Array Slot) (H : Heap) (locs : List Loc), lv_has ls 2 [(0, .ref (ga 0))] → va_P D vwCl (cO ca ga s38) H → va_D A (cO ca ga s38) → va_S A s.heap H locs → W p l e rmX8_step s m ([.ref (ga 0)] : List Value).toArray below meth c H locs 0 0 Z (F0 m 84 ls [])) ?_ _ _ w59 _ _ _ (lv_sub hl [1] rfl) hP hD hS
          clear w59
          intro s38 o42 h61 hi42 ho42 ls H locs hl hP hD hS
          unfold mX8_step_l84 at h61
          refine lv_aload_n hx hb dX8_step_84 rfl (lv_at hl 0 rfl) ?_
          refine lv_aload_n hx hb dX8_step_85 rfl (lv_at hl 0 rfl) ?_
          refine xget (ref := "FriezeFolkModel") (C := RX8) (T := TX8) (N := 24) (ci := 8) (v := .int (s38.2 8)) hx hb hts inX8 hown hK hP 0 rfl rfl 8 (by decide) k2 rfl rfl dX8_step_86 ?_
          obtain ⟨v39, q39, h62⟩ := obn h61
          clear h61
          refine xVi (As := [.int (s38.2 8)]) (ci := 8) ⟨hx, hb, hml, hown, hts⟩ (k_X8_byteAt l D ca ga s38 (s38.2 8) _ q39) (cwV 1 hts gX8_step_X8_byteAt rfl rfl rfl (by decide +kernel) ⟨Nat.le_of_ble_eq_true rfl, Nat.le_of_ble_eq_true rfl⟩) hK hA hP hD hS dX8_step_89 rfl hl.1 [0, 1, 2, 3, 4, 5, 6, 7, 8, 9, 10, 11, 12, 13] [] [0, 1, 2, 3, 4, 5, 6, 7, 8, 9, 10, 11, 12, 13] rfl rfl (wr := []) rfl rfl (by decide) (wn := (cO ca ga s38)) rfl rfl rfl rfl rfl rfl (Nat.le_of_ble_eq_true rfl) (fun H locs hP hD hS => ?_)
          refine lv_i2l (v := v39.toInt64) hx hb dX8_step_92 rfl ?_
          refine lv_ldc2 hx hb hown k5 dX8_step_93 ?_
          refine lv_ldc2 hx hb hown k6 dX8_step_96 ?_
          obtain ⟨v40, q40, h63⟩ := obn h62
          clear h62
          refine xSi (As := [.long v39.toInt64, .long (97 : Int64), .long (122 : Int64)]) ⟨hx, hb, hml, hown, hts⟩ (k_X8_in l D ca  v39.toInt64 (97 : Int64) (122 : Int64) _ q40) (va_cwS 3 hts gX8_step_X8_in rfl rfl rfl (by decide +kernel) ⟨Nat.le_of_ble_eq_true rfl, Nat.le_of_ble_eq_true rfl⟩) hK hA hP hD hS dX8_step_99 rfl hl.1 [] [0, 1, 2, 3, 4, 5, 6, 7, 8, 9, 10, 11, 12, 13] [0, 1, 2, 3, 4, 5, 6, 7, 8, 9, 10, 11, 12, 13] rfl rfl (wr := ((cO ca ga s38))) rfl rfl (by decide) (wn := (cO ca ga s38)) rfl rfl rfl (Nat.le_of_ble_eq_true rfl) (fun H locs hP hD hS => ?_)
          refine lv_if_eq (tgt := 118) hx hb dX8_step_102 (by decide) (fun c41 => ?_) (fun c41 => ?_)
          · skip
            replace h63 := (if_pos c41).symm.trans h63
            have h64 := ho42 _ (Option.some.inj h63).symm
            subst h64
            exact AF42 _ _ _ (lv_sub hl [0] rfl) hP hD hS
          · skip
            replace h63 := (if_neg c41).symm.trans h63
            refine lv_aload_n hx hb dX8_step_105 rfl (lv_at hl 0 rfl) ?_
            refine lv_dup hx hb dX8_step_106 rfl ?_
            refine xget (ref := "FriezeFolkModel") (C := RX8) (T := TX8) (N := 24) (ci := 8) (v := .int (s38.2 8)) hx hb hts inX8 hown hK hP 0 rfl rfl 8 (by decide) k2 rfl rfl dX8_step_107 ?_
            refine lv_iconst (v := (1 : Int32)) hx hb dX8_step_110 (by decide) ?_
            refine lv_iadd hx hb dX8_step_111 ?_
            refine xput (ref := "FriezeFolkModel") (C := RX8) (T := TX8) (N := 24) (ci := 8) (v := .int ((s38.2 8) + (1 : Int32))) (ty := .int) hx hb hts inX8 tyX8 tyX8_ok nmX8 hown hK hP hD hS 0 rfl rfl 8 (by decide) k2 rfl rfl (by decide +kernel) rfl rfl (Nat.le_of_ble_eq_true rfl) dX8_step_112 (wn := (cO ca ga (sI s38 8 ((s38.2 8) + (1 : Int32))))) rfl (fun H locs hP hD hS => ?_)
            refine lv_goto (tgt := 84) hx hb dX8_step_115 (by decide) ?_
            exact hi42 _ (Option.some.inj h63).symm _ _ _ (lv_sub hl [0] rfl) hP hD hS
      · skip
        replace h45 := (if_pos c10).symm.trans h45
        refine lv_aload_n hx hb dX8_step_62 rfl (lv_at hl 1 rfl) ?_
        refine lv_iconst (v := (0 : Int32)) hx hb dX8_step_63 (by decide) ?_
        refine xput (ref := "FriezeFolkModel") (C := RX8) (T := TX8) (N := 24) (ci := 8) (v := .int (0 : Int32)) (ty := .int) hx hb hts inX8 tyX8 tyX8_ok nmX8 hown hK hP hD hS 0 rfl rfl 10 (by decide) k9 rfl rfl (by decide +kernel) rfl rfl (Nat.le_of_ble_eq_true rfl) dX8_step_64 (wn := (cO ca ga (sI (sI (sI e8 9 (e8.2 8)) 11 (0 : Int32)) 10 (0 : Int32)))) rfl (fun H locs hP hD hS => ?_)
        refine lv_goto (tgt := 269) hx hb dX8_step_67 (by decide) ?_
        obtain rfl := Option.some.inj h45
        exact hret _ _ _ _ hP hD hS dX8_step_269
    refine whO_walk (I := fun s5 => ∀ (ls : Array Slot) (H : Heap) (locs : List Loc), lv_has ls 2 [(0, .ref (ga 0))] → va_P D vwCl (cO ca ga s5) H → va_D A (cO ca ga s5) → va_S A s.heap H locs → W p l e rmX8_step s m ([.ref (ga 0)] : List Value).toArray below meth c H locs 0 0 Z (F0 m 8 ls [])) ?_ _ _ w43 _ _ _ (lv_sub hl [0] rfl) hP hD hS
    clear w43
    intro s5 o8 h65 hi8 ho8 ls H locs hl hP hD hS
    unfold mX8_step_l8 at h65
    refine lv_aload_n hx hb dX8_step_8 rfl (lv_at hl 0 rfl) ?_
    refine lv_aload_n hx hb dX8_step_9 rfl (lv_at hl 0 rfl) ?_
    refine xget (ref := "FriezeFolkModel") (C := RX8) (T := TX8) (N := 24) (ci := 8) (v := .int (s5.2 8)) hx hb hts inX8 hown hK hP 0 rfl rfl 8 (by decide) k2 rfl rfl dX8_step_10 ?_
    obtain ⟨v6, q6, h66⟩ := obn h65
    clear h65
    refine xVi (As := [.int (s5.2 8)]) (ci := 8) ⟨hx, hb, hml, hown, hts⟩ (k_X8_byteAt l D ca ga s5 (s5.2 8) _ q6) (cwV 1 hts gX8_step_X8_byteAt rfl rfl rfl (by decide +kernel) ⟨Nat.le_of_ble_eq_true rfl, Nat.le_of_ble_eq_true rfl⟩) hK hA hP hD hS dX8_step_13 rfl hl.1 [0, 1, 2, 3, 4, 5, 6, 7, 8, 9, 10, 11, 12, 13] [] [0, 1, 2, 3, 4, 5, 6, 7, 8, 9, 10, 11, 12, 13] rfl rfl (wr := []) rfl rfl (by decide) (wn := (cO ca ga s5)) rfl rfl rfl rfl rfl rfl (Nat.le_of_ble_eq_true rfl) (fun H locs hP hD hS => ?_)
    refine lv_bipush (v := (32 : Int32)) hx hb dX8_step_16 (by decide) ?_
    refine lv_icmp_ne (tgt := 34) hx hb dX8_step_18 (by decide) (fun c7 => ?_) (fun c7 => ?_)
    · skip
      replace h66 := (if_neg c7).symm.trans h66
      have h67 := ho8 _ (Option.some.inj h66).symm
      subst h67
      exact AF8 _ _ _ (lv_sub hl [0] rfl) hP hD hS
    · skip
      replace h66 := (if_pos c7).symm.trans h66
      refine lv_aload_n hx hb dX8_step_21 rfl (lv_at hl 0 rfl) ?_
      refine lv_dup hx hb dX8_step_22 rfl ?_
      refine xget (ref := "FriezeFolkModel") (C := RX8) (T := TX8) (N := 24) (ci := 8) (v := .int (s5.2 8)) hx hb hts inX8 hown hK hP 0 rfl rfl 8 (by decide) k2 rfl rfl dX8_step_23 ?_
      refine lv_iconst (v := (1 : Int32)) hx hb dX8_step_26 (by decide) ?_
      refine lv_iadd hx hb dX8_step_27 ?_
      refine xput (ref := "FriezeFolkModel") (C := RX8) (T := TX8) (N := 24) (ci := 8) (v := .int ((s5.2 8) + (1 : Int32))) (ty := .int) hx hb hts inX8 tyX8 tyX8_ok nmX8 hown hK hP hD hS 0 rfl rfl 8 (by decide) k2 rfl rfl (by decide +kernel) rfl rfl (Nat.le_of_ble_eq_true rfl) dX8_step_28 (wn := (cO ca ga (sI s5 8 ((s5.2 8) + (1 : Int32))))) rfl (fun H locs hP hD hS => ?_)
      refine lv_goto (tgt := 8) hx hb dX8_step_31 (by decide) ?_
      exact hi8 _ (Option.some.inj h66).symm _ _ _ (lv_sub hl [0] rfl) hP hD hS
  · skip
    replace hm := (if_neg c1).symm.trans hm
    obtain rfl := Option.some.inj hm
    exact hret _ _ _ _ hP hD hS dX8_step_7

def mX8_number (g : GS) (i : Int32) (j : Int32) : Option (Int32 × GS) :=
  Option.bind (
    if (g.2 6) = 0 then
      if (g.2 10) = (2 : Int32) then
        some g
      else
        Option.bind (mX8_fails g (2 : Int32)) fun v3 =>
        some v3
    else
      some g) fun (v4 : GS) =>
  Option.bind (
    if (v4.2 6) = 0 then
      Option.bind (mX8_in (v4.2 11).toInt64 i.toInt64 j.toInt64) fun v6 =>
      if v6 = 0 then
        Option.bind (mX8_fails v4 (3 : Int32)) fun v8 =>
        some v8
      else
        some v4
    else
      some v4) fun (v9 : GS) =>
  Option.bind (
    if (v9.2 6) = 0 then
      some (v9.2 11)
    else
      some i) fun (v11 : Int32) =>
  Option.bind (mX8_step v9) fun v12 =>
  some (v11, v12)
abbrev rmX8_number : Room := { frames := 2, cells := 0, slots := 0, locals := 46 }
set_option maxHeartbeats 4000000 in
set_option maxRecDepth 100000 in
theorem k_X8_number (l : Launch) (D : va_G) (ca : Nat → ClassId) (ga : Nat → Nat) (g : GS) (i : Int32) (j : Int32) (o : Int32 × GS) (hm : mX8_number g i j = some o) : KI l yX8_number wsX8_number rmX8_number D ca [.ref (ga 0), .int i, .int j] (cO ca ga g) (cO ca ga o.2) o.1 := by
  refine KI.of (cc := cX8_number) (n := 4) (plainFor_of_name (by decide)) rfl (Nat.le_of_ble_eq_true rfl) ?_
  intro p e s m below meth c A Z hx hb hml hts hown hA hK hP hD hS hret ls hl
  have hown : s.vm.findClass RX8 = some m.cls := hown
  have hl : lv_has ls 4 [(0, .ref (ga 0)), (1, .int i), (2, .int j)] := hl
  have inX8 : ∀ w ∈ wsX80, w ∈ wsX8_number := by decide +kernel
  have k1 := hts (.fieldLink RX8 60 "FriezeFolkModel" "broken" "I") (by decide +kernel)
  have k2 := hts (.fieldLink RX8 69 "FriezeFolkModel" "token" "I") (by decide +kernel)
  have k3 := hts (.fieldLink RX8 79 "FriezeFolkModel" "value" "I") (by decide +kernel)
  unfold mX8_number at hm
  refine lv_aload_n hx hb dX8_number_0 rfl (lv_at hl 0 rfl) ?_
  refine xget (ref := "FriezeFolkModel") (C := RX8) (T := TX8) (N := 24) (ci := 8) (v := .int (g.2 6)) hx hb hts inX8 hown hK hP 0 rfl rfl 6 (by decide) k1 rfl rfl dX8_number_1 ?_
  obtain ⟨v4, q13, h14⟩ := obn hm
  clear hm
  have J4 : ∀ (ls : Array Slot) (H : Heap) (locs : List Loc), lv_has ls 4 [(0, .ref (ga 0)), (1, .int i), (2, .int j)] → va_P D vwCl (cO ca ga v4) H → va_D A (cO ca ga v4) → va_S A s.heap H locs → W p l e rmX8_number s m ([.ref (ga 0), .int i, .int j] : List Value).toArray below meth c H locs 0 0 Z (F0 m 20 ls []) := by
    intro ls H locs hl hP hD hS
    refine lv_aload_n hx hb dX8_number_20 rfl (lv_at hl 0 rfl) ?_
    refine xget (ref := "FriezeFolkModel") (C := RX8) (T := TX8) (N := 24) (ci := 8) (v := .int (v4.2 6)) hx hb hts inX8 hown hK hP 0 rfl rfl 6 (by decide) k1 rfl rfl dX8_number_21 ?_
    obtain ⟨v9, q15, h16⟩ := obn h14
    clear h14
    have J9 : ∀ (ls : Array Slot) (H : Heap) (locs : List Loc), lv_has ls 4 [(0, .ref (ga 0)), (1, .int i)] → va_P D vwCl (cO ca ga v9) H → va_D A (cO ca ga v9) → va_S A s.heap H locs → W p l e rmX8_number s m ([.ref (ga 0), .int i, .int j] : List Value).toArray below meth c H locs 0 0 Z (F0 m 47 ls []) := by
      intro ls H locs hl hP hD hS
      refine lv_aload_n hx hb dX8_number_47 rfl (lv_at hl 0 rfl) ?_
      refine xget (ref := "FriezeFolkModel") (C := RX8) (T := TX8) (N := 24) (ci := 8) (v := .int (v9.2 6)) hx hb hts inX8 hown hK hP 0 rfl rfl 6 (by decide) k1 rfl rfl dX8_number_48 ?_
      obtain ⟨v11, q17, h18⟩ := obn h16
      clear h16
      have J11 : ∀ (ls : Array Slot) (H : Heap) (locs : List Loc), lv_has ls 4 [(0, .ref (ga 0))] → va_P D vwCl (cO ca ga v9) H → va_D A (cO ca ga v9) → va_S A s.heap H locs → W p l e rmX8_number s m ([.ref (ga 0), .int i, .int j] : List Value).toArray below meth c H locs 0 0 Z (F0 m 62 ls [.int v11]) := by
        intro ls H locs hl hP hD hS
        refine lv_istore_n (lv' := [(3, .int v11), (0, .ref (ga 0))]) hx hb dX8_number_62 rfl hl (by decide) rfl (fun ls hl => ?_)
        refine lv_aload_n hx hb dX8_number_63 rfl (lv_at hl 1 rfl) ?_
        obtain ⟨v12, q12, h19⟩ := obn h18
        clear h18
        refine xVv (As := []) (ci := 8) ⟨hx, hb, hml, hown, hts⟩ (k_X8_step l D ca ga v9 _ q12) (cwV 0 hts gX8_number_X8_step rfl rfl rfl (by decide +kernel) ⟨Nat.le_of_ble_eq_true rfl, Nat.le_of_ble_eq_true rfl⟩) hK hA hP hD hS dX8_number_64 rfl hl.1 [0, 1, 2, 3, 4, 5, 6, 7, 8, 9, 10, 11, 12, 13] [] [0, 1, 2, 3, 4, 5, 6, 7, 8, 9, 10, 11, 12, 13] rfl rfl (wr := []) rfl rfl (by decide) (wn := (cO ca ga v12)) rfl rfl rfl rfl rfl rfl (Nat.le_of_ble_eq_true rfl) (fun H locs hP hD hS => ?_)
        refine lv_iload_n hx hb dX8_number_67 rfl (lv_at hl 0 rfl) ?_
        obtain rfl := Option.some.inj h19
        exact hret _ _ _ _ (vp_nar_int _) hP hD hS dX8_number_68
      refine lv_if_ne (tgt := 61) hx hb dX8_number_51 (by decide) (fun c10 => ?_) (fun c10 => ?_)
      · skip
        replace q17 := (if_neg c10).symm.trans q17
        refine lv_iload_n hx hb dX8_number_61 rfl (lv_at hl 1 rfl) ?_
        obtain rfl := Option.some.inj q17
        exact J11 _ _ _ (lv_sub hl [0] rfl) hP hD hS
      · skip
        replace q17 := (if_pos c10).symm.trans q17
        refine lv_aload_n hx hb dX8_number_54 rfl (lv_at hl 0 rfl) ?_
        refine xget (ref := "FriezeFolkModel") (C := RX8) (T := TX8) (N := 24) (ci := 8) (v := .int (v9.2 11)) hx hb hts inX8 hown hK hP 0 rfl rfl 11 (by decide) k3 rfl rfl dX8_number_55 ?_
        refine lv_goto (tgt := 62) hx hb dX8_number_58 (by decide) ?_
        obtain rfl := Option.some.inj q17
        exact J11 _ _ _ (lv_sub hl [0] rfl) hP hD hS
    refine lv_if_ne (tgt := 47) hx hb dX8_number_24 (by decide) (fun c5 => ?_) (fun c5 => ?_)
    · skip
      replace q15 := (if_neg c5).symm.trans q15
      obtain rfl := Option.some.inj q15
      exact J9 _ _ _ (lv_sub hl [0, 1] rfl) hP hD hS
    · skip
      replace q15 := (if_pos c5).symm.trans q15
      refine lv_aload_n hx hb dX8_number_27 rfl (lv_at hl 0 rfl) ?_
      refine xget (ref := "FriezeFolkModel") (C := RX8) (T := TX8) (N := 24) (ci := 8) (v := .int (v4.2 11)) hx hb hts inX8 hown hK hP 0 rfl rfl 11 (by decide) k3 rfl rfl dX8_number_28 ?_
      refine lv_i2l (v := (v4.2 11).toInt64) hx hb dX8_number_31 rfl ?_
      refine lv_iload_n hx hb dX8_number_32 rfl (lv_at hl 1 rfl) ?_
      refine lv_i2l (v := i.toInt64) hx hb dX8_number_33 rfl ?_
      refine lv_iload_n hx hb dX8_number_34 rfl (lv_at hl 2 rfl) ?_
      refine lv_i2l (v := j.toInt64) hx hb dX8_number_35 rfl ?_
      obtain ⟨v6, q6, h20⟩ := obn q15
      clear q15
      refine xSi (As := [.long (v4.2 11).toInt64, .long i.toInt64, .long j.toInt64]) ⟨hx, hb, hml, hown, hts⟩ (k_X8_in l D ca  (v4.2 11).toInt64 i.toInt64 j.toInt64 _ q6) (va_cwS 3 hts gX8_number_X8_in rfl rfl rfl (by decide +kernel) ⟨Nat.le_of_ble_eq_true rfl, Nat.le_of_ble_eq_true rfl⟩) hK hA hP hD hS dX8_number_36 rfl hl.1 [] [0, 1, 2, 3, 4, 5, 6, 7, 8, 9, 10, 11, 12, 13] [0, 1, 2, 3, 4, 5, 6, 7, 8, 9, 10, 11, 12, 13] rfl rfl (wr := ((cO ca ga v4))) rfl rfl (by decide) (wn := (cO ca ga v4)) rfl rfl rfl (Nat.le_of_ble_eq_true rfl) (fun H locs hP hD hS => ?_)
      refine lv_if_ne (tgt := 47) hx hb dX8_number_39 (by decide) (fun c7 => ?_) (fun c7 => ?_)
      · skip
        replace h20 := (if_neg c7).symm.trans h20
        obtain rfl := Option.some.inj h20
        exact J9 _ _ _ (lv_sub hl [0, 1] rfl) hP hD hS
      · skip
        replace h20 := (if_pos c7).symm.trans h20
        refine lv_aload_n hx hb dX8_number_42 rfl (lv_at hl 0 rfl) ?_
        refine lv_iconst (v := (3 : Int32)) hx hb dX8_number_43 (by decide) ?_
        obtain ⟨v8, q8, h21⟩ := obn h20
        clear h20
        refine xVv (As := [.int (3 : Int32)]) (ci := 8) ⟨hx, hb, hml, hown, hts⟩ (k_X8_fails l D ca ga v4 (3 : Int32) _ q8) (cwV 1 hts gX8_number_X8_fails rfl rfl rfl (by decide +kernel) ⟨Nat.le_of_ble_eq_true rfl, Nat.le_of_ble_eq_true rfl⟩) hK hA hP hD hS dX8_number_44 rfl hl.1 [0, 1, 2, 3, 4, 5, 6, 7, 8, 9, 10, 11, 12, 13] [] [0, 1, 2, 3, 4, 5, 6, 7, 8, 9, 10, 11, 12, 13] rfl rfl (wr := []) rfl rfl (by decide) (wn := (cO ca ga v8)) rfl rfl rfl rfl rfl rfl (Nat.le_of_ble_eq_true rfl) (fun H locs hP hD hS => ?_)
        obtain rfl := Option.some.inj h21
        exact J9 _ _ _ (lv_sub hl [0, 1] rfl) hP hD hS
  refine lv_if_ne (tgt := 20) hx hb dX8_number_4 (by decide) (fun c1 => ?_) (fun c1 => ?_)
  · skip
    replace q13 := (if_neg c1).symm.trans q13
    obtain rfl := Option.some.inj q13
    exact J4 _ _ _ (lv_sub hl [0, 1, 2] rfl) hP hD hS
  · skip
    replace q13 := (if_pos c1).symm.trans q13
    refine lv_aload_n hx hb dX8_number_7 rfl (lv_at hl 0 rfl) ?_
    refine xget (ref := "FriezeFolkModel") (C := RX8) (T := TX8) (N := 24) (ci := 8) (v := .int (g.2 10)) hx hb hts inX8 hown hK hP 0 rfl rfl 10 (by decide) k2 rfl rfl dX8_number_8 ?_
    refine lv_iconst (v := (2 : Int32)) hx hb dX8_number_11 (by decide) ?_
    refine lv_icmp_eq (tgt := 20) hx hb dX8_number_12 (by decide) (fun c2 => ?_) (fun c2 => ?_)
    · skip
      replace q13 := (if_pos c2).symm.trans q13
      obtain rfl := Option.some.inj q13
      exact J4 _ _ _ (lv_sub hl [0, 1, 2] rfl) hP hD hS
    · skip
      replace q13 := (if_neg c2).symm.trans q13
      refine lv_aload_n hx hb dX8_number_15 rfl (lv_at hl 0 rfl) ?_
      refine lv_iconst (v := (2 : Int32)) hx hb dX8_number_16 (by decide) ?_
      obtain ⟨v3, q3, h22⟩ := obn q13
      clear q13
      refine xVv (As := [.int (2 : Int32)]) (ci := 8) ⟨hx, hb, hml, hown, hts⟩ (k_X8_fails l D ca ga g (2 : Int32) _ q3) (cwV 1 hts gX8_number_X8_fails rfl rfl rfl (by decide +kernel) ⟨Nat.le_of_ble_eq_true rfl, Nat.le_of_ble_eq_true rfl⟩) hK hA hP hD hS dX8_number_17 rfl hl.1 [0, 1, 2, 3, 4, 5, 6, 7, 8, 9, 10, 11, 12, 13] [] [0, 1, 2, 3, 4, 5, 6, 7, 8, 9, 10, 11, 12, 13] rfl rfl (wr := []) rfl rfl (by decide) (wn := (cO ca ga v3)) rfl rfl rfl rfl rfl rfl (Nat.le_of_ble_eq_true rfl) (fun H locs hP hD hS => ?_)
      obtain rfl := Option.some.inj h22
      exact J4 _ _ _ (lv_sub hl [0, 1, 2] rfl) hP hD hS

def mX8_readMore (g : GS) (n : Int32) : Option (GS) :=
  if (3 : Int32) < n then
    if n = (4 : Int32) then
      Option.bind (ald 40 (g.1 1) (39 : Int32)) fun v15 =>
      Option.bind (mX8_number g (1 : Int32) (9 : Int32)) fun v16 =>
      Option.bind (ast 40 (v16.2.1 1) ((31 : Int32) + v15) v16.1) fun f17 =>
      Option.bind (mX8_number (sA v16.2 1 f17) (1 : Int32) (9 : Int32)) fun v18 =>
      Option.bind (ast 40 (v18.2.1 1) ((35 : Int32) + v15) v18.1) fun f19 =>
      Option.bind (ald 40 ((sA v18.2 1 f19).1 1) (39 : Int32)) fun v20 =>
      Option.bind (ast 40 ((sA v18.2 1 f19).1 1) (39 : Int32) (v20 + (1 : Int32))) fun f21 =>
      some (sA (sA v18.2 1 f19) 1 f21)
    else
      if n = (5 : Int32) then
        Option.bind (mX8_number g (1 : Int32) (12 : Int32)) fun v11 =>
        Option.bind (ast 40 (v11.2.1 1) (13 : Int32) (v11.1 - (12 : Int32))) fun f12 =>
        Option.bind (mX8_number (sA v11.2 1 f12) (0 : Int32) (5 : Int32)) fun v13 =>
        Option.bind (ast 40 (v13.2.1 1) (14 : Int32) v13.1) fun f14 =>
        some (sA v13.2 1 f14)
      else
        if n = (6 : Int32) then
          Option.bind (mX8_number g (0 : Int32) (11 : Int32)) fun v7 =>
          Option.bind (ast 40 (v7.2.1 1) (15 : Int32) v7.1) fun f8 =>
          Option.bind (mX8_number (sA v7.2 1 f8) (0 : Int32) (11 : Int32)) fun v9 =>
          Option.bind (ast 40 (v9.2.1 1) (16 : Int32) (v9.1 - (2 : Int32))) fun f10 =>
          some (sA v9.2 1 f10)
        else
          Option.bind (mX8_number g (0 : Int32) (11 : Int32)) fun v5 =>
          Option.bind (ast 40 (v5.2.1 1) (17 : Int32) (v5.1 + (1 : Int32))) fun f6 =>
          some (sA v5.2 1 f6)
  else
    Option.bind (ald 40 (g.1 1) (12 : Int32)) fun v22 =>
    Option.bind (ast 40 (g.1 1) v22 n) fun f23 =>
    Option.bind (ald 40 ((sA g 1 f23).1 1) (12 : Int32)) fun v24 =>
    Option.bind (mX8_number (sA g 1 f23) (0 : Int32) (9 : Int32)) fun v25 =>
    Option.bind (ast 40 (v25.2.1 1) ((6 : Int32) + v24) v25.1) fun f26 =>
    Option.bind (ald 40 ((sA v25.2 1 f26).1 1) (12 : Int32)) fun v27 =>
    Option.bind (ast 40 ((sA v25.2 1 f26).1 1) (12 : Int32) (v27 + (1 : Int32))) fun f28 =>
    some (sA (sA v25.2 1 f26) 1 f28)
abbrev rmX8_readMore : Room := { frames := 3, cells := 0, slots := 0, locals := 69 }
set_option maxHeartbeats 4000000 in
set_option maxRecDepth 100000 in
theorem k_X8_readMore (l : Launch) (D : va_G) (ca : Nat → ClassId) (ga : Nat → Nat) (g : GS) (n : Int32) (o : GS) (hm : mX8_readMore g n = some o) : KV l yX8_readMore wsX8_readMore rmX8_readMore D ca [.ref (ga 0), .int n] (cO ca ga g) (cO ca ga o) := by
  refine KV.of (cc := cX8_readMore) (n := 3) (plainFor_of_name (by decide)) rfl (Nat.le_of_ble_eq_true rfl) ?_
  intro p e s m below meth c A Z hx hb hml hts hown hA hK hP hD hS hret ls hl
  have hown : s.vm.findClass RX8 = some m.cls := hown
  have hl : lv_has ls 3 [(0, .ref (ga 0)), (1, .int n)] := hl
  have inX8 : ∀ w ∈ wsX80, w ∈ wsX8_readMore := by decide +kernel
  have k1 := hts (.fieldLink RX8 13 "FriezeFolkModel" "readPage" "[I") (by decide +kernel)
  unfold mX8_readMore at hm
  refine lv_iload_n hx hb dX8_readMore_0 rfl (lv_at hl 1 rfl) ?_
  refine lv_iconst (v := (3 : Int32)) hx hb dX8_readMore_1 (by decide) ?_
  refine lv_icmp_gt (tgt := 54) hx hb dX8_readMore_2 (by decide) (fun c1 => ?_) (fun c1 => ?_)
  · skip
    replace hm := (if_pos c1).symm.trans hm
    refine lv_iload_n hx hb dX8_readMore_54 rfl (lv_at hl 1 rfl) ?_
    refine lv_iconst (v := (4 : Int32)) hx hb dX8_readMore_55 (by decide) ?_
    refine lv_icmp_ne (tgt := 113) hx hb dX8_readMore_56 (by decide) (fun c2 => ?_) (fun c2 => ?_)
    · skip
      replace hm := (if_neg c2).symm.trans hm
      refine lv_iload_n hx hb dX8_readMore_113 rfl (lv_at hl 1 rfl) ?_
      refine lv_iconst (v := (5 : Int32)) hx hb dX8_readMore_114 (by decide) ?_
      refine lv_icmp_ne (tgt := 151) hx hb dX8_readMore_115 (by decide) (fun c3 => ?_) (fun c3 => ?_)
      · skip
        replace hm := (if_neg c3).symm.trans hm
        refine lv_iload_n hx hb dX8_readMore_151 rfl (lv_at hl 1 rfl) ?_
        refine lv_bipush (v := (6 : Int32)) hx hb dX8_readMore_152 (by decide) ?_
        refine lv_icmp_ne (tgt := 190) hx hb dX8_readMore_154 (by decide) (fun c4 => ?_) (fun c4 => ?_)
        · skip
          replace hm := (if_neg c4).symm.trans hm
          refine lv_aload_n hx hb dX8_readMore_190 rfl (lv_at hl 0 rfl) ?_
          refine xget (ref := "FriezeFolkModel") (C := RX8) (T := TX8) (N := 24) (ci := 8) (v := .ref (ga 2)) hx hb hts inX8 hown hK hP 0 rfl rfl 1 (by decide) k1 rfl rfl dX8_readMore_191 ?_
          refine lv_bipush (v := (17 : Int32)) hx hb dX8_readMore_194 (by decide) ?_
          refine lv_aload_n hx hb dX8_readMore_196 rfl (lv_at hl 0 rfl) ?_
          refine lv_iconst (v := (0 : Int32)) hx hb dX8_readMore_197 (by decide) ?_
          refine lv_bipush (v := (11 : Int32)) hx hb dX8_readMore_198 (by decide) ?_
          obtain ⟨v5, q5, h29⟩ := obn hm
          clear hm
          refine xVi (As := [.int (0 : Int32), .int (11 : Int32)]) (ci := 8) ⟨hx, hb, hml, hown, hts⟩ (k_X8_number l D ca ga g (0 : Int32) (11 : Int32) _ q5) (cwV 2 hts gX8_readMore_X8_number rfl rfl rfl (by decide +kernel) ⟨Nat.le_of_ble_eq_true rfl, Nat.le_of_ble_eq_true rfl⟩) hK hA hP hD hS dX8_readMore_200 rfl hl.1 [0, 1, 2, 3, 4, 5, 6, 7, 8, 9, 10, 11, 12, 13] [] [0, 1, 2, 3, 4, 5, 6, 7, 8, 9, 10, 11, 12, 13] rfl rfl (wr := []) rfl rfl (by decide) (wn := (cO ca ga v5.2)) rfl rfl rfl rfl rfl rfl (Nat.le_of_ble_eq_true rfl) (fun H locs hP hD hS => ?_)
          refine lv_iconst (v := (1 : Int32)) hx hb dX8_readMore_203 (by decide) ?_
          refine lv_iadd hx hb dX8_readMore_204 ?_
          obtain ⟨f6, q6, h30⟩ := obn h29
          clear h29
          refine xast hx hb hK hP hD hS 2 rfl q6 dX8_readMore_205 (wn := (cO ca ga (sA v5.2 1 f6))) rfl (fun H locs hP hD hS => ?_)
          obtain rfl := Option.some.inj h30
          exact hret _ _ _ _ hP hD hS dX8_readMore_206
        · skip
          replace hm := (if_pos c4).symm.trans hm
          refine lv_aload_n hx hb dX8_readMore_157 rfl (lv_at hl 0 rfl) ?_
          refine xget (ref := "FriezeFolkModel") (C := RX8) (T := TX8) (N := 24) (ci := 8) (v := .ref (ga 2)) hx hb hts inX8 hown hK hP 0 rfl rfl 1 (by decide) k1 rfl rfl dX8_readMore_158 ?_
          refine lv_bipush (v := (15 : Int32)) hx hb dX8_readMore_161 (by decide) ?_
          refine lv_aload_n hx hb dX8_readMore_163 rfl (lv_at hl 0 rfl) ?_
          refine lv_iconst (v := (0 : Int32)) hx hb dX8_readMore_164 (by decide) ?_
          refine lv_bipush (v := (11 : Int32)) hx hb dX8_readMore_165 (by decide) ?_
          obtain ⟨v7, q7, h31⟩ := obn hm
          clear hm
          refine xVi (As := [.int (0 : Int32), .int (11 : Int32)]) (ci := 8) ⟨hx, hb, hml, hown, hts⟩ (k_X8_number l D ca ga g (0 : Int32) (11 : Int32) _ q7) (cwV 2 hts gX8_readMore_X8_number rfl rfl rfl (by decide +kernel) ⟨Nat.le_of_ble_eq_true rfl, Nat.le_of_ble_eq_true rfl⟩) hK hA hP hD hS dX8_readMore_167 rfl hl.1 [0, 1, 2, 3, 4, 5, 6, 7, 8, 9, 10, 11, 12, 13] [] [0, 1, 2, 3, 4, 5, 6, 7, 8, 9, 10, 11, 12, 13] rfl rfl (wr := []) rfl rfl (by decide) (wn := (cO ca ga v7.2)) rfl rfl rfl rfl rfl rfl (Nat.le_of_ble_eq_true rfl) (fun H locs hP hD hS => ?_)
          obtain ⟨f8, q8, h32⟩ := obn h31
          clear h31
          refine xast hx hb hK hP hD hS 2 rfl q8 dX8_readMore_170 (wn := (cO ca ga (sA v7.2 1 f8))) rfl (fun H locs hP hD hS => ?_)
          refine lv_aload_n hx hb dX8_readMore_171 rfl (lv_at hl 0 rfl) ?_
          refine xget (ref := "FriezeFolkModel") (C := RX8) (T := TX8) (N := 24) (ci := 8) (v := .ref (ga 2)) hx hb hts inX8 hown hK hP 0 rfl rfl 1 (by decide) k1 rfl rfl dX8_readMore_172 ?_
          refine lv_bipush (v := (16 : Int32)) hx hb dX8_readMore_175 (by decide) ?_
          refine lv_aload_n hx hb dX8_readMore_177 rfl (lv_at hl 0 rfl) ?_
          refine lv_iconst (v := (0 : Int32)) hx hb dX8_readMore_178 (by decide) ?_
          refine lv_bipush (v := (11 : Int32)) hx hb dX8_readMore_179 (by decide) ?_
          obtain ⟨v9, q9, h33⟩ := obn h32
          clear h32
          refine xVi (As := [.int (0 : Int32), .int (11 : Int32)]) (ci := 8) ⟨hx, hb, hml, hown, hts⟩ (k_X8_number l D ca ga (sA v7.2 1 f8) (0 : Int32) (11 : Int32) _ q9) (cwV 2 hts gX8_readMore_X8_number rfl rfl rfl (by decide +kernel) ⟨Nat.le_of_ble_eq_true rfl, Nat.le_of_ble_eq_true rfl⟩) hK hA hP hD hS dX8_readMore_181 rfl hl.1 [0, 1, 2, 3, 4, 5, 6, 7, 8, 9, 10, 11, 12, 13] [] [0, 1, 2, 3, 4, 5, 6, 7, 8, 9, 10, 11, 12, 13] rfl rfl (wr := []) rfl rfl (by decide) (wn := (cO ca ga v9.2)) rfl rfl rfl rfl rfl rfl (Nat.le_of_ble_eq_true rfl) (fun H locs hP hD hS => ?_)
          refine lv_iconst (v := (2 : Int32)) hx hb dX8_readMore_184 (by decide) ?_
          refine lv_isub hx hb dX8_readMore_185 ?_
          obtain ⟨f10, q10, h34⟩ := obn h33
          clear h33
          refine xast hx hb hK hP hD hS 2 rfl q10 dX8_readMore_186 (wn := (cO ca ga (sA v9.2 1 f10))) rfl (fun H locs hP hD hS => ?_)
          refine lv_goto (tgt := 206) hx hb dX8_readMore_187 (by decide) ?_
          obtain rfl := Option.some.inj h34
          exact hret _ _ _ _ hP hD hS dX8_readMore_206
      · skip
        replace hm := (if_pos c3).symm.trans hm
        refine lv_aload_n hx hb dX8_readMore_118 rfl (lv_at hl 0 rfl) ?_
        refine xget (ref := "FriezeFolkModel") (C := RX8) (T := TX8) (N := 24) (ci := 8) (v := .ref (ga 2)) hx hb hts inX8 hown hK hP 0 rfl rfl 1 (by decide) k1 rfl rfl dX8_readMore_119 ?_
        refine lv_bipush (v := (13 : Int32)) hx hb dX8_readMore_122 (by decide) ?_
        refine lv_aload_n hx hb dX8_readMore_124 rfl (lv_at hl 0 rfl) ?_
        refine lv_iconst (v := (1 : Int32)) hx hb dX8_readMore_125 (by decide) ?_
        refine lv_bipush (v := (12 : Int32)) hx hb dX8_readMore_126 (by decide) ?_
        obtain ⟨v11, q11, h35⟩ := obn hm
        clear hm
        refine xVi (As := [.int (1 : Int32), .int (12 : Int32)]) (ci := 8) ⟨hx, hb, hml, hown, hts⟩ (k_X8_number l D ca ga g (1 : Int32) (12 : Int32) _ q11) (cwV 2 hts gX8_readMore_X8_number rfl rfl rfl (by decide +kernel) ⟨Nat.le_of_ble_eq_true rfl, Nat.le_of_ble_eq_true rfl⟩) hK hA hP hD hS dX8_readMore_128 rfl hl.1 [0, 1, 2, 3, 4, 5, 6, 7, 8, 9, 10, 11, 12, 13] [] [0, 1, 2, 3, 4, 5, 6, 7, 8, 9, 10, 11, 12, 13] rfl rfl (wr := []) rfl rfl (by decide) (wn := (cO ca ga v11.2)) rfl rfl rfl rfl rfl rfl (Nat.le_of_ble_eq_true rfl) (fun H locs hP hD hS => ?_)
        refine lv_bipush (v := (12 : Int32)) hx hb dX8_readMore_131 (by decide) ?_
        refine lv_isub hx hb dX8_readMore_133 ?_
        obtain ⟨f12, q12, h36⟩ := obn h35
        clear h35
        refine xast hx hb hK hP hD hS 2 rfl q12 dX8_readMore_134 (wn := (cO ca ga (sA v11.2 1 f12))) rfl (fun H locs hP hD hS => ?_)
        refine lv_aload_n hx hb dX8_readMore_135 rfl (lv_at hl 0 rfl) ?_
        refine xget (ref := "FriezeFolkModel") (C := RX8) (T := TX8) (N := 24) (ci := 8) (v := .ref (ga 2)) hx hb hts inX8 hown hK hP 0 rfl rfl 1 (by decide) k1 rfl rfl dX8_readMore_136 ?_
        refine lv_bipush (v := (14 : Int32)) hx hb dX8_readMore_139 (by decide) ?_
        refine lv_aload_n hx hb dX8_readMore_141 rfl (lv_at hl 0 rfl) ?_
        refine lv_iconst (v := (0 : Int32)) hx hb dX8_readMore_142 (by decide) ?_
        refine lv_iconst (v := (5 : Int32)) hx hb dX8_readMore_143 (by decide) ?_
        obtain ⟨v13, q13, h37⟩ := obn h36
        clear h36
        refine xVi (As := [.int (0 : Int32), .int (5 : Int32)]) (ci := 8) ⟨hx, hb, hml, hown, hts⟩ (k_X8_number l D ca ga (sA v11.2 1 f12) (0 : Int32) (5 : Int32) _ q13) (cwV 2 hts gX8_readMore_X8_number rfl rfl rfl (by decide +kernel) ⟨Nat.le_of_ble_eq_true rfl, Nat.le_of_ble_eq_true rfl⟩) hK hA hP hD hS dX8_readMore_144 rfl hl.1 [0, 1, 2, 3, 4, 5, 6, 7, 8, 9, 10, 11, 12, 13] [] [0, 1, 2, 3, 4, 5, 6, 7, 8, 9, 10, 11, 12, 13] rfl rfl (wr := []) rfl rfl (by decide) (wn := (cO ca ga v13.2)) rfl rfl rfl rfl rfl rfl (Nat.le_of_ble_eq_true rfl) (fun H locs hP hD hS => ?_)
        obtain ⟨f14, q14, h38⟩ := obn h37
        clear h37
        refine xast hx hb hK hP hD hS 2 rfl q14 dX8_readMore_147 (wn := (cO ca ga (sA v13.2 1 f14))) rfl (fun H locs hP hD hS => ?_)
        refine lv_goto (tgt := 206) hx hb dX8_readMore_148 (by decide) ?_
        obtain rfl := Option.some.inj h38
        exact hret _ _ _ _ hP hD hS dX8_readMore_206
    · skip
      replace hm := (if_pos c2).symm.trans hm
      refine lv_aload_n hx hb dX8_readMore_59 rfl (lv_at hl 0 rfl) ?_
      refine xget (ref := "FriezeFolkModel") (C := RX8) (T := TX8) (N := 24) (ci := 8) (v := .ref (ga 2)) hx hb hts inX8 hown hK hP 0 rfl rfl 1 (by decide) k1 rfl rfl dX8_readMore_60 ?_
      refine lv_bipush (v := (39 : Int32)) hx hb dX8_readMore_63 (by decide) ?_
      obtain ⟨v15, q15, h39⟩ := obn hm
      clear hm
      refine xald hx hb hK hP 2 rfl q15 dX8_readMore_65 ?_
      refine lv_istore_n (lv' := [(2, .int v15), (0, .ref (ga 0)), (1, .int n)]) hx hb dX8_readMore_66 rfl hl (by decide) rfl (fun ls hl => ?_)
      refine lv_aload_n hx hb dX8_readMore_67 rfl (lv_at hl 1 rfl) ?_
      refine xget (ref := "FriezeFolkModel") (C := RX8) (T := TX8) (N := 24) (ci := 8) (v := .ref (ga 2)) hx hb hts inX8 hown hK hP 0 rfl rfl 1 (by decide) k1 rfl rfl dX8_readMore_68 ?_
      refine lv_bipush (v := (31 : Int32)) hx hb dX8_readMore_71 (by decide) ?_
      refine lv_iload_n hx hb dX8_readMore_73 rfl (lv_at hl 0 rfl) ?_
      refine lv_iadd hx hb dX8_readMore_74 ?_
      refine lv_aload_n hx hb dX8_readMore_75 rfl (lv_at hl 1 rfl) ?_
      refine lv_iconst (v := (1 : Int32)) hx hb dX8_readMore_76 (by decide) ?_
      refine lv_bipush (v := (9 : Int32)) hx hb dX8_readMore_77 (by decide) ?_
      obtain ⟨v16, q16, h40⟩ := obn h39
      clear h39
      refine xVi (As := [.int (1 : Int32), .int (9 : Int32)]) (ci := 8) ⟨hx, hb, hml, hown, hts⟩ (k_X8_number l D ca ga g (1 : Int32) (9 : Int32) _ q16) (cwV 2 hts gX8_readMore_X8_number rfl rfl rfl (by decide +kernel) ⟨Nat.le_of_ble_eq_true rfl, Nat.le_of_ble_eq_true rfl⟩) hK hA hP hD hS dX8_readMore_79 rfl hl.1 [0, 1, 2, 3, 4, 5, 6, 7, 8, 9, 10, 11, 12, 13] [] [0, 1, 2, 3, 4, 5, 6, 7, 8, 9, 10, 11, 12, 13] rfl rfl (wr := []) rfl rfl (by decide) (wn := (cO ca ga v16.2)) rfl rfl rfl rfl rfl rfl (Nat.le_of_ble_eq_true rfl) (fun H locs hP hD hS => ?_)
      obtain ⟨f17, q17, h41⟩ := obn h40
      clear h40
      refine xast hx hb hK hP hD hS 2 rfl q17 dX8_readMore_82 (wn := (cO ca ga (sA v16.2 1 f17))) rfl (fun H locs hP hD hS => ?_)
      refine lv_aload_n hx hb dX8_readMore_83 rfl (lv_at hl 1 rfl) ?_
      refine xget (ref := "FriezeFolkModel") (C := RX8) (T := TX8) (N := 24) (ci := 8) (v := .ref (ga 2)) hx hb hts inX8 hown hK hP 0 rfl rfl 1 (by decide) k1 rfl rfl dX8_readMore_84 ?_
      refine lv_bipush (v := (35 : Int32)) hx hb dX8_readMore_87 (by decide) ?_
      refine lv_iload_n hx hb dX8_readMore_89 rfl (lv_at hl 0 rfl) ?_
      refine lv_iadd hx hb dX8_readMore_90 ?_
      refine lv_aload_n hx hb dX8_readMore_91 rfl (lv_at hl 1 rfl) ?_
      refine lv_iconst (v := (1 : Int32)) hx hb dX8_readMore_92 (by decide) ?_
      refine lv_bipush (v := (9 : Int32)) hx hb dX8_readMore_93 (by decide) ?_
      obtain ⟨v18, q18, h42⟩ := obn h41
      clear h41
      refine xVi (As := [.int (1 : Int32), .int (9 : Int32)]) (ci := 8) ⟨hx, hb, hml, hown, hts⟩ (k_X8_number l D ca ga (sA v16.2 1 f17) (1 : Int32) (9 : Int32) _ q18) (cwV 2 hts gX8_readMore_X8_number rfl rfl rfl (by decide +kernel) ⟨Nat.le_of_ble_eq_true rfl, Nat.le_of_ble_eq_true rfl⟩) hK hA hP hD hS dX8_readMore_95 rfl hl.1 [0, 1, 2, 3, 4, 5, 6, 7, 8, 9, 10, 11, 12, 13] [] [0, 1, 2, 3, 4, 5, 6, 7, 8, 9, 10, 11, 12, 13] rfl rfl (wr := []) rfl rfl (by decide) (wn := (cO ca ga v18.2)) rfl rfl rfl rfl rfl rfl (Nat.le_of_ble_eq_true rfl) (fun H locs hP hD hS => ?_)
      obtain ⟨f19, q19, h43⟩ := obn h42
      clear h42
      refine xast hx hb hK hP hD hS 2 rfl q19 dX8_readMore_98 (wn := (cO ca ga (sA v18.2 1 f19))) rfl (fun H locs hP hD hS => ?_)
      refine lv_aload_n hx hb dX8_readMore_99 rfl (lv_at hl 1 rfl) ?_
      refine xget (ref := "FriezeFolkModel") (C := RX8) (T := TX8) (N := 24) (ci := 8) (v := .ref (ga 2)) hx hb hts inX8 hown hK hP 0 rfl rfl 1 (by decide) k1 rfl rfl dX8_readMore_100 ?_
      refine lv_bipush (v := (39 : Int32)) hx hb dX8_readMore_103 (by decide) ?_
      refine lv_dup2_11 hx hb dX8_readMore_105 rfl rfl ?_
      obtain ⟨v20, q20, h44⟩ := obn h43
      clear h43
      refine xald hx hb hK hP 2 rfl q20 dX8_readMore_106 ?_
      refine lv_iconst (v := (1 : Int32)) hx hb dX8_readMore_107 (by decide) ?_
      refine lv_iadd hx hb dX8_readMore_108 ?_
      obtain ⟨f21, q21, h45⟩ := obn h44
      clear h44
      refine xast hx hb hK hP hD hS 2 rfl q21 dX8_readMore_109 (wn := (cO ca ga (sA (sA v18.2 1 f19) 1 f21))) rfl (fun H locs hP hD hS => ?_)
      refine lv_goto (tgt := 206) hx hb dX8_readMore_110 (by decide) ?_
      obtain rfl := Option.some.inj h45
      exact hret _ _ _ _ hP hD hS dX8_readMore_206
  · skip
    replace hm := (if_neg c1).symm.trans hm
    refine lv_aload_n hx hb dX8_readMore_5 rfl (lv_at hl 0 rfl) ?_
    refine xget (ref := "FriezeFolkModel") (C := RX8) (T := TX8) (N := 24) (ci := 8) (v := .ref (ga 2)) hx hb hts inX8 hown hK hP 0 rfl rfl 1 (by decide) k1 rfl rfl dX8_readMore_6 ?_
    refine lv_aload_n hx hb dX8_readMore_9 rfl (lv_at hl 0 rfl) ?_
    refine xget (ref := "FriezeFolkModel") (C := RX8) (T := TX8) (N := 24) (ci := 8) (v := .ref (ga 2)) hx hb hts inX8 hown hK hP 0 rfl rfl 1 (by decide) k1 rfl rfl dX8_readMore_10 ?_
    refine lv_bipush (v := (12 : Int32)) hx hb dX8_readMore_13 (by decide) ?_
    obtain ⟨v22, q22, h46⟩ := obn hm
    clear hm
    refine xald hx hb hK hP 2 rfl q22 dX8_readMore_15 ?_
    refine lv_iload_n hx hb dX8_readMore_16 rfl (lv_at hl 1 rfl) ?_
    obtain ⟨f23, q23, h47⟩ := obn h46
    clear h46
    refine xast hx hb hK hP hD hS 2 rfl q23 dX8_readMore_17 (wn := (cO ca ga (sA g 1 f23))) rfl (fun H locs hP hD hS => ?_)
    refine lv_aload_n hx hb dX8_readMore_18 rfl (lv_at hl 0 rfl) ?_
    refine xget (ref := "FriezeFolkModel") (C := RX8) (T := TX8) (N := 24) (ci := 8) (v := .ref (ga 2)) hx hb hts inX8 hown hK hP 0 rfl rfl 1 (by decide) k1 rfl rfl dX8_readMore_19 ?_
    refine lv_bipush (v := (6 : Int32)) hx hb dX8_readMore_22 (by decide) ?_
    refine lv_aload_n hx hb dX8_readMore_24 rfl (lv_at hl 0 rfl) ?_
    refine xget (ref := "FriezeFolkModel") (C := RX8) (T := TX8) (N := 24) (ci := 8) (v := .ref (ga 2)) hx hb hts inX8 hown hK hP 0 rfl rfl 1 (by decide) k1 rfl rfl dX8_readMore_25 ?_
    refine lv_bipush (v := (12 : Int32)) hx hb dX8_readMore_28 (by decide) ?_
    obtain ⟨v24, q24, h48⟩ := obn h47
    clear h47
    refine xald hx hb hK hP 2 rfl q24 dX8_readMore_30 ?_
    refine lv_iadd hx hb dX8_readMore_31 ?_
    refine lv_aload_n hx hb dX8_readMore_32 rfl (lv_at hl 0 rfl) ?_
    refine lv_iconst (v := (0 : Int32)) hx hb dX8_readMore_33 (by decide) ?_
    refine lv_bipush (v := (9 : Int32)) hx hb dX8_readMore_34 (by decide) ?_
    obtain ⟨v25, q25, h49⟩ := obn h48
    clear h48
    refine xVi (As := [.int (0 : Int32), .int (9 : Int32)]) (ci := 8) ⟨hx, hb, hml, hown, hts⟩ (k_X8_number l D ca ga (sA g 1 f23) (0 : Int32) (9 : Int32) _ q25) (cwV 2 hts gX8_readMore_X8_number rfl rfl rfl (by decide +kernel) ⟨Nat.le_of_ble_eq_true rfl, Nat.le_of_ble_eq_true rfl⟩) hK hA hP hD hS dX8_readMore_36 rfl hl.1 [0, 1, 2, 3, 4, 5, 6, 7, 8, 9, 10, 11, 12, 13] [] [0, 1, 2, 3, 4, 5, 6, 7, 8, 9, 10, 11, 12, 13] rfl rfl (wr := []) rfl rfl (by decide) (wn := (cO ca ga v25.2)) rfl rfl rfl rfl rfl rfl (Nat.le_of_ble_eq_true rfl) (fun H locs hP hD hS => ?_)
    obtain ⟨f26, q26, h50⟩ := obn h49
    clear h49
    refine xast hx hb hK hP hD hS 2 rfl q26 dX8_readMore_39 (wn := (cO ca ga (sA v25.2 1 f26))) rfl (fun H locs hP hD hS => ?_)
    refine lv_aload_n hx hb dX8_readMore_40 rfl (lv_at hl 0 rfl) ?_
    refine xget (ref := "FriezeFolkModel") (C := RX8) (T := TX8) (N := 24) (ci := 8) (v := .ref (ga 2)) hx hb hts inX8 hown hK hP 0 rfl rfl 1 (by decide) k1 rfl rfl dX8_readMore_41 ?_
    refine lv_bipush (v := (12 : Int32)) hx hb dX8_readMore_44 (by decide) ?_
    refine lv_dup2_11 hx hb dX8_readMore_46 rfl rfl ?_
    obtain ⟨v27, q27, h51⟩ := obn h50
    clear h50
    refine xald hx hb hK hP 2 rfl q27 dX8_readMore_47 ?_
    refine lv_iconst (v := (1 : Int32)) hx hb dX8_readMore_48 (by decide) ?_
    refine lv_iadd hx hb dX8_readMore_49 ?_
    obtain ⟨f28, q28, h52⟩ := obn h51
    clear h51
    refine xast hx hb hK hP hD hS 2 rfl q28 dX8_readMore_50 (wn := (cO ca ga (sA (sA v25.2 1 f26) 1 f28))) rfl (fun H locs hP hD hS => ?_)
    refine lv_goto (tgt := 206) hx hb dX8_readMore_51 (by decide) ?_
    obtain rfl := Option.some.inj h52
    exact hret _ _ _ _ hP hD hS dX8_readMore_206

def mX8_readLine (g : GS) : Option (GS) :=
  Option.bind (mX8_nameHere g) fun v1 =>
  Option.bind (mX8_in v1.toInt64 (0 : Int64) (7 : Int64)) fun v2 =>
  if v2 = 0 then
    Option.bind (mX8_fails g (2 : Int32)) fun v29 =>
    some v29
  else
    Option.bind (
      if (3 : Int32) < v1 then
        if v1 = (4 : Int32) then
          Option.bind (ald 40 (g.1 1) (39 : Int32)) fun v6 =>
          if v6 = (4 : Int32) then
            Option.bind (mX8_fails g (5 : Int32)) fun v8 =>
            some v8
          else
            some g
        else
          some g
      else
        Option.bind (ald 40 (g.1 1) (12 : Int32)) fun v9 =>
        if v9 = (6 : Int32) then
          Option.bind (mX8_fails g (5 : Int32)) fun v11 =>
          some v11
        else
          if v1 = (4 : Int32) then
            Option.bind (ald 40 (g.1 1) (39 : Int32)) fun v13 =>
            if v13 = (4 : Int32) then
              Option.bind (mX8_fails g (5 : Int32)) fun v15 =>
              some v15
            else
              some g
          else
            some g) fun (v16 : GS) =>
    Option.bind (
      if v1 < (5 : Int32) then
        some v16
      else
        if (((v16.2 2) >>> (v1 &&& 31)) &&& (1 : Int32)) = (1 : Int32) then
          Option.bind (mX8_fails v16 (4 : Int32)) fun v19 =>
          some v19
        else
          some v16) fun (v20 : GS) =>
    Option.bind (mX8_step (sI v20 2 ((v20.2 2) ||| ((1 : Int32) <<< (v1 &&& 31))))) fun v21 =>
    if (v21.2 6) ≤ 0 then
      Option.bind (mX8_readMore v21 v1) fun v23 =>
      Option.bind (
        if (v23.2 6) = 0 then
          if (v23.2 10) = (3 : Int32) then
            some v23
          else
            Option.bind (mX8_fails v23 (2 : Int32)) fun v26 =>
            some v26
        else
          some v23) fun (v27 : GS) =>
      Option.bind (mX8_step v27) fun v28 =>
      some v28
    else
      some v21
abbrev rmX8_readLine : Room := { frames := 4, cells := 0, slots := 0, locals := 91 }
set_option maxHeartbeats 4000000 in
set_option maxRecDepth 100000 in
theorem k_X8_readLine (l : Launch) (D : va_G) (ca : Nat → ClassId) (ga : Nat → Nat) (g : GS) (o : GS) (hm : mX8_readLine g = some o) : KV l yX8_readLine wsX8_readLine rmX8_readLine D ca [.ref (ga 0)] (cO ca ga g) (cO ca ga o) := by
  refine KV.of (cc := cX8_readLine) (n := 2) (plainFor_of_name (by decide)) rfl (Nat.le_of_ble_eq_true rfl) ?_
  intro p e s m below meth c A Z hx hb hml hts hown hA hK hP hD hS hret ls hl
  have hown : s.vm.findClass RX8 = some m.cls := hown
  have hl : lv_has ls 2 [(0, .ref (ga 0))] := hl
  have inX8 : ∀ w ∈ wsX80, w ∈ wsX8_readLine := by decide +kernel
  have k1 := hts (.constantLong RX8 105 (7 : Int64)) (by decide +kernel)
  have k2 := hts (.fieldLink RX8 13 "FriezeFolkModel" "readPage" "[I") (by decide +kernel)
  have k3 := hts (.fieldLink RX8 107 "FriezeFolkModel" "toldOnce" "I") (by decide +kernel)
  have k4 := hts (.fieldLink RX8 60 "FriezeFolkModel" "broken" "I") (by decide +kernel)
  have k5 := hts (.fieldLink RX8 69 "FriezeFolkModel" "token" "I") (by decide +kernel)
  unfold mX8_readLine at hm
  refine lv_aload_n hx hb dX8_readLine_0 rfl (lv_at hl 0 rfl) ?_
  obtain ⟨v1, q1, h30⟩ := obn hm
  clear hm
  refine xVi (As := []) (ci := 8) ⟨hx, hb, hml, hown, hts⟩ (k_X8_nameHere l D ca ga g _ q1) (cwV 0 hts gX8_readLine_X8_nameHere rfl rfl rfl (by decide +kernel) ⟨Nat.le_of_ble_eq_true rfl, Nat.le_of_ble_eq_true rfl⟩) hK hA hP hD hS dX8_readLine_1 rfl hl.1 [0, 1, 2, 3, 4, 5, 6, 7, 8, 9, 10, 11, 12, 13] [] [0, 1, 2, 3, 4, 5, 6, 7, 8, 9, 10, 11, 12, 13] rfl rfl (wr := []) rfl rfl (by decide) (wn := (cO ca ga g)) rfl rfl rfl rfl rfl rfl (Nat.le_of_ble_eq_true rfl) (fun H locs hP hD hS => ?_)
  refine lv_istore_n (lv' := [(1, .int v1), (0, .ref (ga 0))]) hx hb dX8_readLine_4 rfl hl (by decide) rfl (fun ls hl => ?_)
  refine lv_iload_n hx hb dX8_readLine_5 rfl (lv_at hl 0 rfl) ?_
  refine lv_i2l (v := v1.toInt64) hx hb dX8_readLine_6 rfl ?_
  refine lv_lconst (v := (0 : Int64)) hx hb dX8_readLine_7 (by decide) ?_
  refine lv_ldc2 hx hb hown k1 dX8_readLine_8 ?_
  obtain ⟨v2, q2, h31⟩ := obn h30
  clear h30
  refine xSi (As := [.long v1.toInt64, .long (0 : Int64), .long (7 : Int64)]) ⟨hx, hb, hml, hown, hts⟩ (k_X8_in l D ca  v1.toInt64 (0 : Int64) (7 : Int64) _ q2) (va_cwS 3 hts gX8_readLine_X8_in rfl rfl rfl (by decide +kernel) ⟨Nat.le_of_ble_eq_true rfl, Nat.le_of_ble_eq_true rfl⟩) hK hA hP hD hS dX8_readLine_11 rfl hl.1 [] [0, 1, 2, 3, 4, 5, 6, 7, 8, 9, 10, 11, 12, 13] [0, 1, 2, 3, 4, 5, 6, 7, 8, 9, 10, 11, 12, 13] rfl rfl (wr := ((cO ca ga g))) rfl rfl (by decide) (wn := (cO ca ga g)) rfl rfl rfl (Nat.le_of_ble_eq_true rfl) (fun H locs hP hD hS => ?_)
  refine lv_if_ne (tgt := 23) hx hb dX8_readLine_14 (by decide) (fun c3 => ?_) (fun c3 => ?_)
  · skip
    replace h31 := (if_neg c3).symm.trans h31
    refine lv_iload_n hx hb dX8_readLine_23 rfl (lv_at hl 0 rfl) ?_
    refine lv_iconst (v := (3 : Int32)) hx hb dX8_readLine_24 (by decide) ?_
    obtain ⟨v16, q32, h33⟩ := obn h31
    clear h31
    have J16 : ∀ (ls : Array Slot) (H : Heap) (locs : List Loc), lv_has ls 2 [(0, .ref (ga 0)), (1, .int v1)] → va_P D vwCl (cO ca ga v16) H → va_D A (cO ca ga v16) → va_S A s.heap H locs → W p l e rmX8_readLine s m ([.ref (ga 0)] : List Value).toArray below meth c H locs 0 0 Z (F0 m 61 ls []) := by
      intro ls H locs hl hP hD hS
      refine lv_iload_n hx hb dX8_readLine_61 rfl (lv_at hl 1 rfl) ?_
      refine lv_iconst (v := (5 : Int32)) hx hb dX8_readLine_62 (by decide) ?_
      obtain ⟨v20, q34, h35⟩ := obn h33
      clear h33
      have J20 : ∀ (ls : Array Slot) (H : Heap) (locs : List Loc), lv_has ls 2 [(0, .ref (ga 0)), (1, .int v1)] → va_P D vwCl (cO ca ga v20) H → va_D A (cO ca ga v20) → va_S A s.heap H locs → W p l e rmX8_readLine s m ([.ref (ga 0)] : List Value).toArray below meth c H locs 0 0 Z (F0 m 83 ls []) := by
        intro ls H locs hl hP hD hS
        refine lv_aload_n hx hb dX8_readLine_83 rfl (lv_at hl 0 rfl) ?_
        refine lv_dup hx hb dX8_readLine_84 rfl ?_
        refine xget (ref := "FriezeFolkModel") (C := RX8) (T := TX8) (N := 24) (ci := 8) (v := .int (v20.2 2)) hx hb hts inX8 hown hK hP 0 rfl rfl 2 (by decide) k3 rfl rfl dX8_readLine_85 ?_
        refine lv_iconst (v := (1 : Int32)) hx hb dX8_readLine_88 (by decide) ?_
        refine lv_iload_n hx hb dX8_readLine_89 rfl (lv_at hl 1 rfl) ?_
        refine lv_ishl hx hb dX8_readLine_90 ?_
        refine lv_ior hx hb dX8_readLine_91 ?_
        refine xput (ref := "FriezeFolkModel") (C := RX8) (T := TX8) (N := 24) (ci := 8) (v := .int ((v20.2 2) ||| ((1 : Int32) <<< (v1 &&& 31)))) (ty := .int) hx hb hts inX8 tyX8 tyX8_ok nmX8 hown hK hP hD hS 0 rfl rfl 2 (by decide) k3 rfl rfl (by decide +kernel) rfl rfl (Nat.le_of_ble_eq_true rfl) dX8_readLine_92 (wn := (cO ca ga (sI v20 2 ((v20.2 2) ||| ((1 : Int32) <<< (v1 &&& 31)))))) rfl (fun H locs hP hD hS => ?_)
        refine lv_aload_n hx hb dX8_readLine_95 rfl (lv_at hl 0 rfl) ?_
        obtain ⟨v21, q21, h36⟩ := obn h35
        clear h35
        refine xVv (As := []) (ci := 8) ⟨hx, hb, hml, hown, hts⟩ (k_X8_step l D ca ga (sI v20 2 ((v20.2 2) ||| ((1 : Int32) <<< (v1 &&& 31)))) _ q21) (cwV 0 hts gX8_readLine_X8_step rfl rfl rfl (by decide +kernel) ⟨Nat.le_of_ble_eq_true rfl, Nat.le_of_ble_eq_true rfl⟩) hK hA hP hD hS dX8_readLine_96 rfl hl.1 [0, 1, 2, 3, 4, 5, 6, 7, 8, 9, 10, 11, 12, 13] [] [0, 1, 2, 3, 4, 5, 6, 7, 8, 9, 10, 11, 12, 13] rfl rfl (wr := []) rfl rfl (by decide) (wn := (cO ca ga v21)) rfl rfl rfl rfl rfl rfl (Nat.le_of_ble_eq_true rfl) (fun H locs hP hD hS => ?_)
        refine lv_aload_n hx hb dX8_readLine_99 rfl (lv_at hl 0 rfl) ?_
        refine xget (ref := "FriezeFolkModel") (C := RX8) (T := TX8) (N := 24) (ci := 8) (v := .int (v21.2 6)) hx hb hts inX8 hown hK hP 0 rfl rfl 6 (by decide) k4 rfl rfl dX8_readLine_100 ?_
        refine lv_if_le (tgt := 107) hx hb dX8_readLine_103 (by decide) (fun c22 => ?_) (fun c22 => ?_)
        · skip
          replace h36 := (if_pos c22).symm.trans h36
          refine lv_aload_n hx hb dX8_readLine_107 rfl (lv_at hl 0 rfl) ?_
          refine lv_iload_n hx hb dX8_readLine_108 rfl (lv_at hl 1 rfl) ?_
          obtain ⟨v23, q23, h37⟩ := obn h36
          clear h36
          refine xVv (As := [.int v1]) (ci := 8) ⟨hx, hb, hml, hown, hts⟩ (k_X8_readMore l D ca ga v21 v1 _ q23) (cwV 1 hts gX8_readLine_X8_readMore rfl rfl rfl (by decide +kernel) ⟨Nat.le_of_ble_eq_true rfl, Nat.le_of_ble_eq_true rfl⟩) hK hA hP hD hS dX8_readLine_109 rfl hl.1 [0, 1, 2, 3, 4, 5, 6, 7, 8, 9, 10, 11, 12, 13] [] [0, 1, 2, 3, 4, 5, 6, 7, 8, 9, 10, 11, 12, 13] rfl rfl (wr := []) rfl rfl (by decide) (wn := (cO ca ga v23)) rfl rfl rfl rfl rfl rfl (Nat.le_of_ble_eq_true rfl) (fun H locs hP hD hS => ?_)
          refine lv_aload_n hx hb dX8_readLine_112 rfl (lv_at hl 0 rfl) ?_
          refine xget (ref := "FriezeFolkModel") (C := RX8) (T := TX8) (N := 24) (ci := 8) (v := .int (v23.2 6)) hx hb hts inX8 hown hK hP 0 rfl rfl 6 (by decide) k4 rfl rfl dX8_readLine_113 ?_
          obtain ⟨v27, q38, h39⟩ := obn h37
          clear h37
          have J27 : ∀ (ls : Array Slot) (H : Heap) (locs : List Loc), lv_has ls 2 [(0, .ref (ga 0))] → va_P D vwCl (cO ca ga v27) H → va_D A (cO ca ga v27) → va_S A s.heap H locs → W p l e rmX8_readLine s m ([.ref (ga 0)] : List Value).toArray below meth c H locs 0 0 Z (F0 m 132 ls []) := by
            intro ls H locs hl hP hD hS
            refine lv_aload_n hx hb dX8_readLine_132 rfl (lv_at hl 0 rfl) ?_
            obtain ⟨v28, q28, h40⟩ := obn h39
            clear h39
            refine xVv (As := []) (ci := 8) ⟨hx, hb, hml, hown, hts⟩ (k_X8_step l D ca ga v27 _ q28) (cwV 0 hts gX8_readLine_X8_step rfl rfl rfl (by decide +kernel) ⟨Nat.le_of_ble_eq_true rfl, Nat.le_of_ble_eq_true rfl⟩) hK hA hP hD hS dX8_readLine_133 rfl hl.1 [0, 1, 2, 3, 4, 5, 6, 7, 8, 9, 10, 11, 12, 13] [] [0, 1, 2, 3, 4, 5, 6, 7, 8, 9, 10, 11, 12, 13] rfl rfl (wr := []) rfl rfl (by decide) (wn := (cO ca ga v28)) rfl rfl rfl rfl rfl rfl (Nat.le_of_ble_eq_true rfl) (fun H locs hP hD hS => ?_)
            obtain rfl := Option.some.inj h40
            exact hret _ _ _ _ hP hD hS dX8_readLine_136
          refine lv_if_ne (tgt := 132) hx hb dX8_readLine_116 (by decide) (fun c24 => ?_) (fun c24 => ?_)
          · skip
            replace q38 := (if_neg c24).symm.trans q38
            obtain rfl := Option.some.inj q38
            exact J27 _ _ _ (lv_sub hl [0] rfl) hP hD hS
          · skip
            replace q38 := (if_pos c24).symm.trans q38
            refine lv_aload_n hx hb dX8_readLine_119 rfl (lv_at hl 0 rfl) ?_
            refine xget (ref := "FriezeFolkModel") (C := RX8) (T := TX8) (N := 24) (ci := 8) (v := .int (v23.2 10)) hx hb hts inX8 hown hK hP 0 rfl rfl 10 (by decide) k5 rfl rfl dX8_readLine_120 ?_
            refine lv_iconst (v := (3 : Int32)) hx hb dX8_readLine_123 (by decide) ?_
            refine lv_icmp_eq (tgt := 132) hx hb dX8_readLine_124 (by decide) (fun c25 => ?_) (fun c25 => ?_)
            · skip
              replace q38 := (if_pos c25).symm.trans q38
              obtain rfl := Option.some.inj q38
              exact J27 _ _ _ (lv_sub hl [0] rfl) hP hD hS
            · skip
              replace q38 := (if_neg c25).symm.trans q38
              refine lv_aload_n hx hb dX8_readLine_127 rfl (lv_at hl 0 rfl) ?_
              refine lv_iconst (v := (2 : Int32)) hx hb dX8_readLine_128 (by decide) ?_
              obtain ⟨v26, q26, h41⟩ := obn q38
              clear q38
              refine xVv (As := [.int (2 : Int32)]) (ci := 8) ⟨hx, hb, hml, hown, hts⟩ (k_X8_fails l D ca ga v23 (2 : Int32) _ q26) (cwV 1 hts gX8_readLine_X8_fails rfl rfl rfl (by decide +kernel) ⟨Nat.le_of_ble_eq_true rfl, Nat.le_of_ble_eq_true rfl⟩) hK hA hP hD hS dX8_readLine_129 rfl hl.1 [0, 1, 2, 3, 4, 5, 6, 7, 8, 9, 10, 11, 12, 13] [] [0, 1, 2, 3, 4, 5, 6, 7, 8, 9, 10, 11, 12, 13] rfl rfl (wr := []) rfl rfl (by decide) (wn := (cO ca ga v26)) rfl rfl rfl rfl rfl rfl (Nat.le_of_ble_eq_true rfl) (fun H locs hP hD hS => ?_)
              obtain rfl := Option.some.inj h41
              exact J27 _ _ _ (lv_sub hl [0] rfl) hP hD hS
        · skip
          replace h36 := (if_neg c22).symm.trans h36
          obtain rfl := Option.some.inj h36
          exact hret _ _ _ _ hP hD hS dX8_readLine_106
      refine lv_icmp_lt (tgt := 83) hx hb dX8_readLine_63 (by decide) (fun c17 => ?_) (fun c17 => ?_)
      · skip
        replace q34 := (if_pos c17).symm.trans q34
        obtain rfl := Option.some.inj q34
        exact J20 _ _ _ (lv_sub hl [0, 1] rfl) hP hD hS
      · skip
        replace q34 := (if_neg c17).symm.trans q34
        refine lv_aload_n hx hb dX8_readLine_66 rfl (lv_at hl 0 rfl) ?_
        refine xget (ref := "FriezeFolkModel") (C := RX8) (T := TX8) (N := 24) (ci := 8) (v := .int (v16.2 2)) hx hb hts inX8 hown hK hP 0 rfl rfl 2 (by decide) k3 rfl rfl dX8_readLine_67 ?_
        refine lv_iload_n hx hb dX8_readLine_70 rfl (lv_at hl 1 rfl) ?_
        refine lv_ishr hx hb dX8_readLine_71 ?_
        refine lv_iconst (v := (1 : Int32)) hx hb dX8_readLine_72 (by decide) ?_
        refine lv_iand hx hb dX8_readLine_73 ?_
        refine lv_iconst (v := (1 : Int32)) hx hb dX8_readLine_74 (by decide) ?_
        refine lv_icmp_ne (tgt := 83) hx hb dX8_readLine_75 (by decide) (fun c18 => ?_) (fun c18 => ?_)
        · skip
          replace q34 := (if_neg c18).symm.trans q34
          obtain rfl := Option.some.inj q34
          exact J20 _ _ _ (lv_sub hl [0, 1] rfl) hP hD hS
        · skip
          replace q34 := (if_pos c18).symm.trans q34
          refine lv_aload_n hx hb dX8_readLine_78 rfl (lv_at hl 0 rfl) ?_
          refine lv_iconst (v := (4 : Int32)) hx hb dX8_readLine_79 (by decide) ?_
          obtain ⟨v19, q19, h42⟩ := obn q34
          clear q34
          refine xVv (As := [.int (4 : Int32)]) (ci := 8) ⟨hx, hb, hml, hown, hts⟩ (k_X8_fails l D ca ga v16 (4 : Int32) _ q19) (cwV 1 hts gX8_readLine_X8_fails rfl rfl rfl (by decide +kernel) ⟨Nat.le_of_ble_eq_true rfl, Nat.le_of_ble_eq_true rfl⟩) hK hA hP hD hS dX8_readLine_80 rfl hl.1 [0, 1, 2, 3, 4, 5, 6, 7, 8, 9, 10, 11, 12, 13] [] [0, 1, 2, 3, 4, 5, 6, 7, 8, 9, 10, 11, 12, 13] rfl rfl (wr := []) rfl rfl (by decide) (wn := (cO ca ga v19)) rfl rfl rfl rfl rfl rfl (Nat.le_of_ble_eq_true rfl) (fun H locs hP hD hS => ?_)
          obtain rfl := Option.some.inj h42
          exact J20 _ _ _ (lv_sub hl [0, 1] rfl) hP hD hS
    refine lv_icmp_gt (tgt := 40) hx hb dX8_readLine_25 (by decide) (fun c4 => ?_) (fun c4 => ?_)
    · skip
      replace q32 := (if_pos c4).symm.trans q32
      refine lv_iload_n hx hb dX8_readLine_40 rfl (lv_at hl 0 rfl) ?_
      refine lv_iconst (v := (4 : Int32)) hx hb dX8_readLine_41 (by decide) ?_
      refine lv_icmp_ne (tgt := 61) hx hb dX8_readLine_42 (by decide) (fun c5 => ?_) (fun c5 => ?_)
      · skip
        replace q32 := (if_neg c5).symm.trans q32
        obtain rfl := Option.some.inj q32
        exact J16 _ _ _ (lv_sub hl [1, 0] rfl) hP hD hS
      · skip
        replace q32 := (if_pos c5).symm.trans q32
        refine lv_aload_n hx hb dX8_readLine_45 rfl (lv_at hl 1 rfl) ?_
        refine xget (ref := "FriezeFolkModel") (C := RX8) (T := TX8) (N := 24) (ci := 8) (v := .ref (ga 2)) hx hb hts inX8 hown hK hP 0 rfl rfl 1 (by decide) k2 rfl rfl dX8_readLine_46 ?_
        refine lv_bipush (v := (39 : Int32)) hx hb dX8_readLine_49 (by decide) ?_
        obtain ⟨v6, q6, h43⟩ := obn q32
        clear q32
        refine xald hx hb hK hP 2 rfl q6 dX8_readLine_51 ?_
        refine lv_iconst (v := (4 : Int32)) hx hb dX8_readLine_52 (by decide) ?_
        refine lv_icmp_ne (tgt := 61) hx hb dX8_readLine_53 (by decide) (fun c7 => ?_) (fun c7 => ?_)
        · skip
          replace h43 := (if_neg c7).symm.trans h43
          obtain rfl := Option.some.inj h43
          exact J16 _ _ _ (lv_sub hl [1, 0] rfl) hP hD hS
        · skip
          replace h43 := (if_pos c7).symm.trans h43
          refine lv_aload_n hx hb dX8_readLine_56 rfl (lv_at hl 1 rfl) ?_
          refine lv_iconst (v := (5 : Int32)) hx hb dX8_readLine_57 (by decide) ?_
          obtain ⟨v8, q8, h44⟩ := obn h43
          clear h43
          refine xVv (As := [.int (5 : Int32)]) (ci := 8) ⟨hx, hb, hml, hown, hts⟩ (k_X8_fails l D ca ga g (5 : Int32) _ q8) (cwV 1 hts gX8_readLine_X8_fails rfl rfl rfl (by decide +kernel) ⟨Nat.le_of_ble_eq_true rfl, Nat.le_of_ble_eq_true rfl⟩) hK hA hP hD hS dX8_readLine_58 rfl hl.1 [0, 1, 2, 3, 4, 5, 6, 7, 8, 9, 10, 11, 12, 13] [] [0, 1, 2, 3, 4, 5, 6, 7, 8, 9, 10, 11, 12, 13] rfl rfl (wr := []) rfl rfl (by decide) (wn := (cO ca ga v8)) rfl rfl rfl rfl rfl rfl (Nat.le_of_ble_eq_true rfl) (fun H locs hP hD hS => ?_)
          obtain rfl := Option.some.inj h44
          exact J16 _ _ _ (lv_sub hl [1, 0] rfl) hP hD hS
    · skip
      replace q32 := (if_neg c4).symm.trans q32
      refine lv_aload_n hx hb dX8_readLine_28 rfl (lv_at hl 1 rfl) ?_
      refine xget (ref := "FriezeFolkModel") (C := RX8) (T := TX8) (N := 24) (ci := 8) (v := .ref (ga 2)) hx hb hts inX8 hown hK hP 0 rfl rfl 1 (by decide) k2 rfl rfl dX8_readLine_29 ?_
      refine lv_bipush (v := (12 : Int32)) hx hb dX8_readLine_32 (by decide) ?_
      obtain ⟨v9, q9, h45⟩ := obn q32
      clear q32
      refine xald hx hb hK hP 2 rfl q9 dX8_readLine_34 ?_
      refine lv_bipush (v := (6 : Int32)) hx hb dX8_readLine_35 (by decide) ?_
      refine lv_icmp_eq (tgt := 56) hx hb dX8_readLine_37 (by decide) (fun c10 => ?_) (fun c10 => ?_)
      · skip
        replace h45 := (if_pos c10).symm.trans h45
        refine lv_aload_n hx hb dX8_readLine_56 rfl (lv_at hl 1 rfl) ?_
        refine lv_iconst (v := (5 : Int32)) hx hb dX8_readLine_57 (by decide) ?_
        obtain ⟨v11, q11, h46⟩ := obn h45
        clear h45
        refine xVv (As := [.int (5 : Int32)]) (ci := 8) ⟨hx, hb, hml, hown, hts⟩ (k_X8_fails l D ca ga g (5 : Int32) _ q11) (cwV 1 hts gX8_readLine_X8_fails rfl rfl rfl (by decide +kernel) ⟨Nat.le_of_ble_eq_true rfl, Nat.le_of_ble_eq_true rfl⟩) hK hA hP hD hS dX8_readLine_58 rfl hl.1 [0, 1, 2, 3, 4, 5, 6, 7, 8, 9, 10, 11, 12, 13] [] [0, 1, 2, 3, 4, 5, 6, 7, 8, 9, 10, 11, 12, 13] rfl rfl (wr := []) rfl rfl (by decide) (wn := (cO ca ga v11)) rfl rfl rfl rfl rfl rfl (Nat.le_of_ble_eq_true rfl) (fun H locs hP hD hS => ?_)
        obtain rfl := Option.some.inj h46
        exact J16 _ _ _ (lv_sub hl [1, 0] rfl) hP hD hS
      · skip
        replace h45 := (if_neg c10).symm.trans h45
        refine lv_iload_n hx hb dX8_readLine_40 rfl (lv_at hl 0 rfl) ?_
        refine lv_iconst (v := (4 : Int32)) hx hb dX8_readLine_41 (by decide) ?_
        refine lv_icmp_ne (tgt := 61) hx hb dX8_readLine_42 (by decide) (fun c12 => ?_) (fun c12 => ?_)
        · skip
          replace h45 := (if_neg c12).symm.trans h45
          obtain rfl := Option.some.inj h45
          exact J16 _ _ _ (lv_sub hl [1, 0] rfl) hP hD hS
        · skip
          replace h45 := (if_pos c12).symm.trans h45
          refine lv_aload_n hx hb dX8_readLine_45 rfl (lv_at hl 1 rfl) ?_
          refine xget (ref := "FriezeFolkModel") (C := RX8) (T := TX8) (N := 24) (ci := 8) (v := .ref (ga 2)) hx hb hts inX8 hown hK hP 0 rfl rfl 1 (by decide) k2 rfl rfl dX8_readLine_46 ?_
          refine lv_bipush (v := (39 : Int32)) hx hb dX8_readLine_49 (by decide) ?_
          obtain ⟨v13, q13, h47⟩ := obn h45
          clear h45
          refine xald hx hb hK hP 2 rfl q13 dX8_readLine_51 ?_
          refine lv_iconst (v := (4 : Int32)) hx hb dX8_readLine_52 (by decide) ?_
          refine lv_icmp_ne (tgt := 61) hx hb dX8_readLine_53 (by decide) (fun c14 => ?_) (fun c14 => ?_)
          · skip
            replace h47 := (if_neg c14).symm.trans h47
            obtain rfl := Option.some.inj h47
            exact J16 _ _ _ (lv_sub hl [1, 0] rfl) hP hD hS
          · skip
            replace h47 := (if_pos c14).symm.trans h47
            refine lv_aload_n hx hb dX8_readLine_56 rfl (lv_at hl 1 rfl) ?_
            refine lv_iconst (v := (5 : Int32)) hx hb dX8_readLine_57 (by decide) ?_
            obtain ⟨v15, q15, h48⟩ := obn h47
            clear h47
            refine xVv (As := [.int (5 : Int32)]) (ci := 8) ⟨hx, hb, hml, hown, hts⟩ (k_X8_fails l D ca ga g (5 : Int32) _ q15) (cwV 1 hts gX8_readLine_X8_fails rfl rfl rfl (by decide +kernel) ⟨Nat.le_of_ble_eq_true rfl, Nat.le_of_ble_eq_true rfl⟩) hK hA hP hD hS dX8_readLine_58 rfl hl.1 [0, 1, 2, 3, 4, 5, 6, 7, 8, 9, 10, 11, 12, 13] [] [0, 1, 2, 3, 4, 5, 6, 7, 8, 9, 10, 11, 12, 13] rfl rfl (wr := []) rfl rfl (by decide) (wn := (cO ca ga v15)) rfl rfl rfl rfl rfl rfl (Nat.le_of_ble_eq_true rfl) (fun H locs hP hD hS => ?_)
            obtain rfl := Option.some.inj h48
            exact J16 _ _ _ (lv_sub hl [1, 0] rfl) hP hD hS
  · skip
    replace h31 := (if_pos c3).symm.trans h31
    refine lv_aload_n hx hb dX8_readLine_17 rfl (lv_at hl 1 rfl) ?_
    refine lv_iconst (v := (2 : Int32)) hx hb dX8_readLine_18 (by decide) ?_
    obtain ⟨v29, q29, h49⟩ := obn h31
    clear h31
    refine xVv (As := [.int (2 : Int32)]) (ci := 8) ⟨hx, hb, hml, hown, hts⟩ (k_X8_fails l D ca ga g (2 : Int32) _ q29) (cwV 1 hts gX8_readLine_X8_fails rfl rfl rfl (by decide +kernel) ⟨Nat.le_of_ble_eq_true rfl, Nat.le_of_ble_eq_true rfl⟩) hK hA hP hD hS dX8_readLine_19 rfl hl.1 [0, 1, 2, 3, 4, 5, 6, 7, 8, 9, 10, 11, 12, 13] [] [0, 1, 2, 3, 4, 5, 6, 7, 8, 9, 10, 11, 12, 13] rfl rfl (wr := []) rfl rfl (by decide) (wn := (cO ca ga v29)) rfl rfl rfl rfl rfl rfl (Nat.le_of_ble_eq_true rfl) (fun H locs hP hD hS => ?_)
    obtain rfl := Option.some.inj h49
    exact hret _ _ _ _ hP hD hS dX8_readLine_22
def mX8_text_l19 (s4 : Int32 × GS) : Option ((Int32 × GS) ⊕ (Int32 × GS)) :=
  if (40 : Int32) ≤ s4.1 then
    some (.inr (s4.1, s4.2))
  else
    Option.bind (ast 40 (s4.2.1 1) s4.1 (0 : Int32)) fun f6 =>
    some (.inl ((s4.1 + (1 : Int32)), (sA s4.2 1 f6)))

def mX8_text_l42 (s13 : Int32 × GS) : Option ((Int32 × GS) ⊕ (Int32 × GS)) :=
  if (s13.2.2 6) = 0 then
    if (s13.2.2 10) = 0 then
      some (.inr (s13.1, s13.2))
    else
      Option.bind (mX8_readLine s13.2) fun v16 =>
      some (.inl ((s13.1 + (1 : Int32)), v16))
  else
    some (.inr (s13.1, s13.2))

def mX8_text_l96 (s23 : Int32 × GS) : Option ((Int32 × GS) ⊕ (Int32 × GS)) :=
  if (40 : Int32) ≤ s23.1 then
    some (.inr (s23.1, s23.2))
  else
    Option.bind (ald 40 (s23.2.1 1) s23.1) fun v25 =>
    Option.bind (ast 240 (s23.2.1 0) s23.1 v25) fun f26 =>
    some (.inl ((s23.1 + (1 : Int32)), (sA s23.2 0 f26)))

def mX8_text (g : GS) : Option (Int32 × GS) :=
  Option.bind (whO (mX8_text_l19) FU ((0 : Int32), (sI (sI (sI g 6 (0 : Int32)) 8 (0 : Int32)) 2 (0 : Int32)))) fun e7 =>
  Option.bind (mX8_step e7.2) fun v8 =>
  Option.bind (whO (mX8_text_l42) FU ((0 : Int32), v8)) fun e17 =>
  if ((sI (sI e17.2 4 (0 : Int32)) 5 ((sI e17.2 4 (0 : Int32)).2 6)).2 6) ≤ 0 then
    Option.bind (whO (mX8_text_l96) FU ((0 : Int32), (sI (sI e17.2 4 (0 : Int32)) 5 ((sI e17.2 4 (0 : Int32)).2 6)))) fun e27 =>
    Option.bind (ast 2 ((sI e27.2 17 (0 : Int32)).1 19) (0 : Int32) (vp_nar .boolean (0 : Int32))) fun f28 =>
    Option.bind (ast 2 ((sA (sI e27.2 17 (0 : Int32)) 19 f28).1 19) (1 : Int32) (vp_nar .boolean (0 : Int32))) fun f29 =>
    some (e17.1, (sA (sA (sI e27.2 17 (0 : Int32)) 19 f28) 19 f29))
  else
    some (((-10 : Int32) - ((sI (sI e17.2 4 (0 : Int32)) 5 ((sI e17.2 4 (0 : Int32)).2 6)).2 7)), (sI (sI e17.2 4 (0 : Int32)) 5 ((sI e17.2 4 (0 : Int32)).2 6)))
abbrev rmX8_text : Room := { frames := 5, cells := 0, slots := 0, locals := 112 }
set_option maxHeartbeats 4000000 in
set_option maxRecDepth 100000 in
theorem k_X8_text (l : Launch) (D : va_G) (ca : Nat → ClassId) (ga : Nat → Nat) (g : GS) (o : Int32 × GS) (hm : mX8_text g = some o) : KI l yX8_text wsX8_text rmX8_text D ca [.ref (ga 0)] (cO ca ga g) (cO ca ga o.2) o.1 := by
  refine KI.of (cc := cX8_text) (n := 3) (plainFor_of_name (by decide)) rfl (Nat.le_of_ble_eq_true rfl) ?_
  intro p e s m below meth c A Z hx hb hml hts hown hA hK hP hD hS hret ls hl
  have hown : s.vm.findClass RX8 = some m.cls := hown
  have hl : lv_has ls 3 [(0, .ref (ga 0))] := hl
  have inX8 : ∀ w ∈ wsX80, w ∈ wsX8_text := by decide +kernel
  have k1 := hts (.fieldLink RX8 60 "FriezeFolkModel" "broken" "I") (by decide +kernel)
  have k2 := hts (.fieldLink RX8 72 "FriezeFolkModel" "spot" "I") (by decide +kernel)
  have k3 := hts (.fieldLink RX8 107 "FriezeFolkModel" "toldOnce" "I") (by decide +kernel)
  have k4 := hts (.fieldLink RX8 13 "FriezeFolkModel" "readPage" "[I") (by decide +kernel)
  have k5 := hts (.fieldLink RX8 69 "FriezeFolkModel" "token" "I") (by decide +kernel)
  have k6 := hts (.fieldLink RX8 56 "FriezeFolkModel" "taped" "I") (by decide +kernel)
  have k7 := hts (.fieldLink RX8 116 "FriezeFolkModel" "fault" "I") (by decide +kernel)
  have k8 := hts (.fieldLink RX8 66 "FriezeFolkModel" "brokenAt" "I") (by decide +kernel)
  have k9 := hts (.fieldLink RX8 7 "FriezeFolkModel" "state" "[I") (by decide +kernel)
  have k10 := hts (.fieldLink RX8 119 "FriezeFolkModel" "seenMany" "I") (by decide +kernel)
  have k11 := hts (.fieldLink RX8 37 "FriezeFolkModel" "isKept" "[Z") (by decide +kernel)
  unfold mX8_text at hm
  refine lv_aload_n hx hb dX8_text_0 rfl (lv_at hl 0 rfl) ?_
  refine lv_iconst (v := (0 : Int32)) hx hb dX8_text_1 (by decide) ?_
  refine xput (ref := "FriezeFolkModel") (C := RX8) (T := TX8) (N := 24) (ci := 8) (v := .int (0 : Int32)) (ty := .int) hx hb hts inX8 tyX8 tyX8_ok nmX8 hown hK hP hD hS 0 rfl rfl 6 (by decide) k1 rfl rfl (by decide +kernel) rfl rfl (Nat.le_of_ble_eq_true rfl) dX8_text_2 (wn := (cO ca ga (sI g 6 (0 : Int32)))) rfl (fun H locs hP hD hS => ?_)
  refine lv_aload_n hx hb dX8_text_5 rfl (lv_at hl 0 rfl) ?_
  refine lv_iconst (v := (0 : Int32)) hx hb dX8_text_6 (by decide) ?_
  refine xput (ref := "FriezeFolkModel") (C := RX8) (T := TX8) (N := 24) (ci := 8) (v := .int (0 : Int32)) (ty := .int) hx hb hts inX8 tyX8 tyX8_ok nmX8 hown hK hP hD hS 0 rfl rfl 8 (by decide) k2 rfl rfl (by decide +kernel) rfl rfl (Nat.le_of_ble_eq_true rfl) dX8_text_7 (wn := (cO ca ga (sI (sI g 6 (0 : Int32)) 8 (0 : Int32)))) rfl (fun H locs hP hD hS => ?_)
  refine lv_aload_n hx hb dX8_text_10 rfl (lv_at hl 0 rfl) ?_
  refine lv_iconst (v := (0 : Int32)) hx hb dX8_text_11 (by decide) ?_
  refine xput (ref := "FriezeFolkModel") (C := RX8) (T := TX8) (N := 24) (ci := 8) (v := .int (0 : Int32)) (ty := .int) hx hb hts inX8 tyX8 tyX8_ok nmX8 hown hK hP hD hS 0 rfl rfl 2 (by decide) k3 rfl rfl (by decide +kernel) rfl rfl (Nat.le_of_ble_eq_true rfl) dX8_text_12 (wn := (cO ca ga (sI (sI (sI g 6 (0 : Int32)) 8 (0 : Int32)) 2 (0 : Int32)))) rfl (fun H locs hP hD hS => ?_)
  refine lv_iconst (v := (0 : Int32)) hx hb dX8_text_15 (by decide) ?_
  refine lv_istore_n (lv' := [(1, .int (0 : Int32)), (0, .ref (ga 0))]) hx hb dX8_text_16 rfl hl (by decide) rfl (fun ls hl => ?_)
  refine lv_iconst (v := (0 : Int32)) hx hb dX8_text_17 (by decide) ?_
  refine lv_istore_n (lv' := [(2, .int (0 : Int32)), (1, .int (0 : Int32)), (0, .ref (ga 0))]) hx hb dX8_text_18 rfl hl (by decide) rfl (fun ls hl => ?_)
  obtain ⟨e7, w30, h31⟩ := obn hm
  clear hm
  have AF7 : ∀ (ls : Array Slot) (H : Heap) (locs : List Loc), lv_has ls 3 [(0, .ref (ga 0)), (1, .int (0 : Int32))] → va_P D vwCl (cO ca ga e7.2) H → va_D A (cO ca ga e7.2) → va_S A s.heap H locs → W p l e rmX8_text s m ([.ref (ga 0)] : List Value).toArray below meth c H locs 0 0 Z (F0 m 38 ls []) := by
    intro ls H locs hl hP hD hS
    refine lv_aload_n hx hb dX8_text_38 rfl (lv_at hl 0 rfl) ?_
    obtain ⟨v8, q8, h32⟩ := obn h31
    clear h31
    refine xVv (As := []) (ci := 8) ⟨hx, hb, hml, hown, hts⟩ (k_X8_step l D ca ga e7.2 _ q8) (cwV 0 hts gX8_text_X8_step rfl rfl rfl (by decide +kernel) ⟨Nat.le_of_ble_eq_true rfl, Nat.le_of_ble_eq_true rfl⟩) hK hA hP hD hS dX8_text_39 rfl hl.1 [0, 1, 2, 3, 4, 5, 6, 7, 8, 9, 10, 11, 12, 13] [] [0, 1, 2, 3, 4, 5, 6, 7, 8, 9, 10, 11, 12, 13] rfl rfl (wr := []) rfl rfl (by decide) (wn := (cO ca ga v8)) rfl rfl rfl rfl rfl rfl (Nat.le_of_ble_eq_true rfl) (fun H locs hP hD hS => ?_)
    obtain ⟨e17, w33, h34⟩ := obn h32
    clear h32
    have AF17 : ∀ (ls : Array Slot) (H : Heap) (locs : List Loc), lv_has ls 3 [(0, .ref (ga 0)), (1, .int e17.1)] → va_P D vwCl (cO ca ga e17.2) H → va_D A (cO ca ga e17.2) → va_S A s.heap H locs → W p l e rmX8_text s m ([.ref (ga 0)] : List Value).toArray below meth c H locs 0 0 Z (F0 m 66 ls []) := by
      intro ls H locs hl hP hD hS
      refine lv_aload_n hx hb dX8_text_66 rfl (lv_at hl 0 rfl) ?_
      refine lv_iconst (v := (0 : Int32)) hx hb dX8_text_67 (by decide) ?_
      refine xput (ref := "FriezeFolkModel") (C := RX8) (T := TX8) (N := 24) (ci := 8) (v := .int (0 : Int32)) (ty := .int) hx hb hts inX8 tyX8 tyX8_ok nmX8 hown hK hP hD hS 0 rfl rfl 4 (by decide) k6 rfl rfl (by decide +kernel) rfl rfl (Nat.le_of_ble_eq_true rfl) dX8_text_68 (wn := (cO ca ga (sI e17.2 4 (0 : Int32)))) rfl (fun H locs hP hD hS => ?_)
      refine lv_aload_n hx hb dX8_text_71 rfl (lv_at hl 0 rfl) ?_
      refine lv_aload_n hx hb dX8_text_72 rfl (lv_at hl 0 rfl) ?_
      refine xget (ref := "FriezeFolkModel") (C := RX8) (T := TX8) (N := 24) (ci := 8) (v := .int ((sI e17.2 4 (0 : Int32)).2 6)) hx hb hts inX8 hown hK hP 0 rfl rfl 6 (by decide) k1 rfl rfl dX8_text_73 ?_
      refine xput (ref := "FriezeFolkModel") (C := RX8) (T := TX8) (N := 24) (ci := 8) (v := .int ((sI e17.2 4 (0 : Int32)).2 6)) (ty := .int) hx hb hts inX8 tyX8 tyX8_ok nmX8 hown hK hP hD hS 0 rfl rfl 5 (by decide) k7 rfl rfl (by decide +kernel) rfl rfl (Nat.le_of_ble_eq_true rfl) dX8_text_76 (wn := (cO ca ga (sI (sI e17.2 4 (0 : Int32)) 5 ((sI e17.2 4 (0 : Int32)).2 6)))) rfl (fun H locs hP hD hS => ?_)
      refine lv_aload_n hx hb dX8_text_79 rfl (lv_at hl 0 rfl) ?_
      refine xget (ref := "FriezeFolkModel") (C := RX8) (T := TX8) (N := 24) (ci := 8) (v := .int ((sI (sI e17.2 4 (0 : Int32)) 5 ((sI e17.2 4 (0 : Int32)).2 6)).2 6)) hx hb hts inX8 hown hK hP 0 rfl rfl 6 (by decide) k1 rfl rfl dX8_text_80 ?_
      refine lv_if_le (tgt := 94) hx hb dX8_text_83 (by decide) (fun c18 => ?_) (fun c18 => ?_)
      · skip
        replace h34 := (if_pos c18).symm.trans h34
        refine lv_iconst (v := (0 : Int32)) hx hb dX8_text_94 (by decide) ?_
        refine lv_istore_n (lv' := [(2, .int (0 : Int32)), (0, .ref (ga 0)), (1, .int e17.1)]) hx hb dX8_text_95 rfl hl (by decide) rfl (fun ls hl => ?_)
        obtain ⟨e27, w35, h36⟩ := obn h34
        clear h34
        have AF27 : ∀ (ls : Array Slot) (H : Heap) (locs : List Loc), lv_has ls 3 [(0, .ref (ga 0)), (1, .int e17.1)] → va_P D vwCl (cO ca ga e27.2) H → va_D A (cO ca ga e27.2) → va_S A s.heap H locs → W p l e rmX8_text s m ([.ref (ga 0)] : List Value).toArray below meth c H locs 0 0 Z (F0 m 120 ls []) := by
          intro ls H locs hl hP hD hS
          refine lv_aload_n hx hb dX8_text_120 rfl (lv_at hl 0 rfl) ?_
          refine lv_iconst (v := (0 : Int32)) hx hb dX8_text_121 (by decide) ?_
          refine xput (ref := "FriezeFolkModel") (C := RX8) (T := TX8) (N := 24) (ci := 8) (v := .int (0 : Int32)) (ty := .int) hx hb hts inX8 tyX8 tyX8_ok nmX8 hown hK hP hD hS 0 rfl rfl 17 (by decide) k10 rfl rfl (by decide +kernel) rfl rfl (Nat.le_of_ble_eq_true rfl) dX8_text_122 (wn := (cO ca ga (sI e27.2 17 (0 : Int32)))) rfl (fun H locs hP hD hS => ?_)
          refine lv_aload_n hx hb dX8_text_125 rfl (lv_at hl 0 rfl) ?_
          refine xget (ref := "FriezeFolkModel") (C := RX8) (T := TX8) (N := 24) (ci := 8) (v := .ref (ga 20)) hx hb hts inX8 hown hK hP 0 rfl rfl 19 (by decide) k11 rfl rfl dX8_text_126 ?_
          refine lv_iconst (v := (0 : Int32)) hx hb dX8_text_129 (by decide) ?_
          refine lv_iconst (v := (0 : Int32)) hx hb dX8_text_130 (by decide) ?_
          obtain ⟨f28, q28, h37⟩ := obn h36
          clear h36
          refine xzast hx hb hK hP hD hS 10 rfl q28 dX8_text_131 (wn := (cO ca ga (sA (sI e27.2 17 (0 : Int32)) 19 f28))) rfl (fun H locs hP hD hS => ?_)
          refine lv_aload_n hx hb dX8_text_132 rfl (lv_at hl 0 rfl) ?_
          refine xget (ref := "FriezeFolkModel") (C := RX8) (T := TX8) (N := 24) (ci := 8) (v := .ref (ga 20)) hx hb hts inX8 hown hK hP 0 rfl rfl 19 (by decide) k11 rfl rfl dX8_text_133 ?_
          refine lv_iconst (v := (1 : Int32)) hx hb dX8_text_136 (by decide) ?_
          refine lv_iconst (v := (0 : Int32)) hx hb dX8_text_137 (by decide) ?_
          obtain ⟨f29, q29, h38⟩ := obn h37
          clear h37
          refine xzast hx hb hK hP hD hS 10 rfl q29 dX8_text_138 (wn := (cO ca ga (sA (sA (sI e27.2 17 (0 : Int32)) 19 f28) 19 f29))) rfl (fun H locs hP hD hS => ?_)
          refine lv_iload_n hx hb dX8_text_139 rfl (lv_at hl 1 rfl) ?_
          obtain rfl := Option.some.inj h38
          exact hret _ _ _ _ (vp_nar_int _) hP hD hS dX8_text_140
        refine whO_walk (I := fun s23 => ∀ (ls : Array Slot) (H : Heap) (locs : List Loc), lv_has ls 3 [(0, .ref (ga 0)), (1, .int e17.1), (2, .int s23.1)] → va_P D vwCl (cO ca ga s23.2) H → va_D A (cO ca ga s23.2) → va_S A s.heap H locs → W p l e rmX8_text s m ([.ref (ga 0)] : List Value).toArray below meth c H locs 0 0 Z (F0 m 96 ls [])) ?_ _ _ w35 _ _ _ (lv_sub hl [1, 2, 0] rfl) hP hD hS
        clear w35
        intro s23 o27 h39 hi27 ho27 ls H locs hl hP hD hS
        unfold mX8_text_l96 at h39
        refine lv_iload_n hx hb dX8_text_96 rfl (lv_at hl 2 rfl) ?_
        refine lv_bipush (v := (40 : Int32)) hx hb dX8_text_97 (by decide) ?_
        refine lv_icmp_ge (tgt := 120) hx hb dX8_text_99 (by decide) (fun c24 => ?_) (fun c24 => ?_)
        · skip
          replace h39 := (if_pos c24).symm.trans h39
          have h40 := ho27 _ (Option.some.inj h39).symm
          subst h40
          exact AF27 _ _ _ (lv_sub hl [0, 1] rfl) hP hD hS
        · skip
          replace h39 := (if_neg c24).symm.trans h39
          refine lv_aload_n hx hb dX8_text_102 rfl (lv_at hl 0 rfl) ?_
          refine xget (ref := "FriezeFolkModel") (C := RX8) (T := TX8) (N := 24) (ci := 8) (v := .ref (ga 1)) hx hb hts inX8 hown hK hP 0 rfl rfl 0 (by decide) k9 rfl rfl dX8_text_103 ?_
          refine lv_iload_n hx hb dX8_text_106 rfl (lv_at hl 2 rfl) ?_
          refine lv_aload_n hx hb dX8_text_107 rfl (lv_at hl 0 rfl) ?_
          refine xget (ref := "FriezeFolkModel") (C := RX8) (T := TX8) (N := 24) (ci := 8) (v := .ref (ga 2)) hx hb hts inX8 hown hK hP 0 rfl rfl 1 (by decide) k4 rfl rfl dX8_text_108 ?_
          refine lv_iload_n hx hb dX8_text_111 rfl (lv_at hl 2 rfl) ?_
          obtain ⟨v25, q25, h41⟩ := obn h39
          clear h39
          refine xald hx hb hK hP 2 rfl q25 dX8_text_112 ?_
          obtain ⟨f26, q26, h42⟩ := obn h41
          clear h41
          refine xast hx hb hK hP hD hS 1 rfl q26 dX8_text_113 (wn := (cO ca ga (sA s23.2 0 f26))) rfl (fun H locs hP hD hS => ?_)
          refine lv_iinc (v := (s23.1 + (1 : Int32))) (lv' := [(2, .int (s23.1 + (1 : Int32))), (0, .ref (ga 0)), (1, .int e17.1)]) hx hb dX8_text_114 hl (k := 2) rfl rfl (by decide) rfl (fun ls hl => ?_)
          refine lv_goto (tgt := 96) hx hb dX8_text_117 (by decide) ?_
          exact hi27 _ (Option.some.inj h42).symm _ _ _ (lv_sub hl [1, 2, 0] rfl) hP hD hS
      · skip
        replace h34 := (if_neg c18).symm.trans h34
        refine lv_bipush (v := (-10 : Int32)) hx hb dX8_text_86 (by decide) ?_
        refine lv_aload_n hx hb dX8_text_88 rfl (lv_at hl 0 rfl) ?_
        refine xget (ref := "FriezeFolkModel") (C := RX8) (T := TX8) (N := 24) (ci := 8) (v := .int ((sI (sI e17.2 4 (0 : Int32)) 5 ((sI e17.2 4 (0 : Int32)).2 6)).2 7)) hx hb hts inX8 hown hK hP 0 rfl rfl 7 (by decide) k8 rfl rfl dX8_text_89 ?_
        refine lv_isub hx hb dX8_text_92 ?_
        obtain rfl := Option.some.inj h34
        exact hret _ _ _ _ (vp_nar_int _) hP hD hS dX8_text_93
    refine whO_walk (I := fun s13 => ∀ (ls : Array Slot) (H : Heap) (locs : List Loc), lv_has ls 3 [(0, .ref (ga 0)), (1, .int s13.1)] → va_P D vwCl (cO ca ga s13.2) H → va_D A (cO ca ga s13.2) → va_S A s.heap H locs → W p l e rmX8_text s m ([.ref (ga 0)] : List Value).toArray below meth c H locs 0 0 Z (F0 m 42 ls [])) ?_ _ _ w33 _ _ _ (lv_sub hl [0, 1] rfl) hP hD hS
    clear w33
    intro s13 o17 h43 hi17 ho17 ls H locs hl hP hD hS
    unfold mX8_text_l42 at h43
    refine lv_aload_n hx hb dX8_text_42 rfl (lv_at hl 0 rfl) ?_
    refine xget (ref := "FriezeFolkModel") (C := RX8) (T := TX8) (N := 24) (ci := 8) (v := .int (s13.2.2 6)) hx hb hts inX8 hown hK hP 0 rfl rfl 6 (by decide) k1 rfl rfl dX8_text_43 ?_
    refine lv_if_ne (tgt := 66) hx hb dX8_text_46 (by decide) (fun c14 => ?_) (fun c14 => ?_)
    · skip
      replace h43 := (if_neg c14).symm.trans h43
      have h44 := ho17 _ (Option.some.inj h43).symm
      subst h44
      exact AF17 _ _ _ (lv_sub hl [0, 1] rfl) hP hD hS
    · skip
      replace h43 := (if_pos c14).symm.trans h43
      refine lv_aload_n hx hb dX8_text_49 rfl (lv_at hl 0 rfl) ?_
      refine xget (ref := "FriezeFolkModel") (C := RX8) (T := TX8) (N := 24) (ci := 8) (v := .int (s13.2.2 10)) hx hb hts inX8 hown hK hP 0 rfl rfl 10 (by decide) k5 rfl rfl dX8_text_50 ?_
      refine lv_if_eq (tgt := 66) hx hb dX8_text_53 (by decide) (fun c15 => ?_) (fun c15 => ?_)
      · skip
        replace h43 := (if_pos c15).symm.trans h43
        have h45 := ho17 _ (Option.some.inj h43).symm
        subst h45
        exact AF17 _ _ _ (lv_sub hl [0, 1] rfl) hP hD hS
      · skip
        replace h43 := (if_neg c15).symm.trans h43
        refine lv_aload_n hx hb dX8_text_56 rfl (lv_at hl 0 rfl) ?_
        obtain ⟨v16, q16, h46⟩ := obn h43
        clear h43
        refine xVv (As := []) (ci := 8) ⟨hx, hb, hml, hown, hts⟩ (k_X8_readLine l D ca ga s13.2 _ q16) (cwV 0 hts gX8_text_X8_readLine rfl rfl rfl (by decide +kernel) ⟨Nat.le_of_ble_eq_true rfl, Nat.le_of_ble_eq_true rfl⟩) hK hA hP hD hS dX8_text_57 rfl hl.1 [0, 1, 2, 3, 4, 5, 6, 7, 8, 9, 10, 11, 12, 13] [] [0, 1, 2, 3, 4, 5, 6, 7, 8, 9, 10, 11, 12, 13] rfl rfl (wr := []) rfl rfl (by decide) (wn := (cO ca ga v16)) rfl rfl rfl rfl rfl rfl (Nat.le_of_ble_eq_true rfl) (fun H locs hP hD hS => ?_)
        refine lv_iinc (v := (s13.1 + (1 : Int32))) (lv' := [(1, .int (s13.1 + (1 : Int32))), (0, .ref (ga 0))]) hx hb dX8_text_60 hl (k := 1) rfl rfl (by decide) rfl (fun ls hl => ?_)
        refine lv_goto (tgt := 42) hx hb dX8_text_63 (by decide) ?_
        exact hi17 _ (Option.some.inj h46).symm _ _ _ (lv_sub hl [1, 0] rfl) hP hD hS
  refine whO_walk (I := fun s4 => ∀ (ls : Array Slot) (H : Heap) (locs : List Loc), lv_has ls 3 [(0, .ref (ga 0)), (1, .int (0 : Int32)), (2, .int s4.1)] → va_P D vwCl (cO ca ga s4.2) H → va_D A (cO ca ga s4.2) → va_S A s.heap H locs → W p l e rmX8_text s m ([.ref (ga 0)] : List Value).toArray below meth c H locs 0 0 Z (F0 m 19 ls [])) ?_ _ _ w30 _ _ _ (lv_sub hl [2, 1, 0] rfl) hP hD hS
  clear w30
  intro s4 o7 h47 hi7 ho7 ls H locs hl hP hD hS
  unfold mX8_text_l19 at h47
  refine lv_iload_n hx hb dX8_text_19 rfl (lv_at hl 2 rfl) ?_
  refine lv_bipush (v := (40 : Int32)) hx hb dX8_text_20 (by decide) ?_
  refine lv_icmp_ge (tgt := 38) hx hb dX8_text_22 (by decide) (fun c5 => ?_) (fun c5 => ?_)
  · skip
    replace h47 := (if_pos c5).symm.trans h47
    have h48 := ho7 _ (Option.some.inj h47).symm
    subst h48
    exact AF7 _ _ _ (lv_sub hl [0, 1] rfl) hP hD hS
  · skip
    replace h47 := (if_neg c5).symm.trans h47
    refine lv_aload_n hx hb dX8_text_25 rfl (lv_at hl 0 rfl) ?_
    refine xget (ref := "FriezeFolkModel") (C := RX8) (T := TX8) (N := 24) (ci := 8) (v := .ref (ga 2)) hx hb hts inX8 hown hK hP 0 rfl rfl 1 (by decide) k4 rfl rfl dX8_text_26 ?_
    refine lv_iload_n hx hb dX8_text_29 rfl (lv_at hl 2 rfl) ?_
    refine lv_iconst (v := (0 : Int32)) hx hb dX8_text_30 (by decide) ?_
    obtain ⟨f6, q6, h49⟩ := obn h47
    clear h47
    refine xast hx hb hK hP hD hS 2 rfl q6 dX8_text_31 (wn := (cO ca ga (sA s4.2 1 f6))) rfl (fun H locs hP hD hS => ?_)
    refine lv_iinc (v := (s4.1 + (1 : Int32))) (lv' := [(2, .int (s4.1 + (1 : Int32))), (0, .ref (ga 0)), (1, .int (0 : Int32))]) hx hb dX8_text_32 hl (k := 2) rfl rfl (by decide) rfl (fun ls hl => ?_)
    refine lv_goto (tgt := 19) hx hb dX8_text_35 (by decide) ?_
    exact hi7 _ (Option.some.inj h49).symm _ _ _ (lv_sub hl [1, 2, 0] rfl) hP hD hS

def mX8_fault (g : GS) : Option (Int32) :=
  some (g.2 5)
abbrev rmX8_fault : Room := { frames := 0, cells := 0, slots := 0, locals := 0 }
set_option maxHeartbeats 4000000 in
set_option maxRecDepth 100000 in
theorem k_X8_fault (l : Launch) (D : va_G) (ca : Nat → ClassId) (ga : Nat → Nat) (g : GS) (o : Int32) (hm : mX8_fault g = some o) : KI l yX8_fault wsX8_fault rmX8_fault D ca [.ref (ga 0)] (cO ca ga g) (cO ca ga g) o := by
  refine KI.of (cc := cX8_fault) (n := 1) (plainFor_of_name (by decide)) rfl (Nat.le_of_ble_eq_true rfl) ?_
  intro p e s m below meth c A Z hx hb hml hts hown hA hK hP hD hS hret ls hl
  have hown : s.vm.findClass RX8 = some m.cls := hown
  have hl : lv_has ls 1 [(0, .ref (ga 0))] := hl
  have inX8 : ∀ w ∈ wsX80, w ∈ wsX8_fault := by decide +kernel
  have k1 := hts (.fieldLink RX8 116 "FriezeFolkModel" "fault" "I") (by decide +kernel)
  unfold mX8_fault at hm
  refine lv_aload_n hx hb dX8_fault_0 rfl (lv_at hl 0 rfl) ?_
  refine xget (ref := "FriezeFolkModel") (C := RX8) (T := TX8) (N := 24) (ci := 8) (v := .int (g.2 5)) hx hb hts inX8 hown hK hP 0 rfl rfl 5 (by decide) k1 rfl rfl dX8_fault_1 ?_
  obtain rfl := Option.some.inj hm
  exact hret _ _ _ _ (vp_nar_int _) hP hD hS dX8_fault_4

def mX8_longOn (g : GS) (i : Int32) : Option (Int32) :=
  Option.bind (ald 240 (g.1 0) (i + (13 : Int32))) fun v1 =>
  some (v1 + (12 : Int32))
abbrev rmX8_longOn : Room := { frames := 0, cells := 0, slots := 0, locals := 0 }
set_option maxHeartbeats 4000000 in
set_option maxRecDepth 100000 in
theorem k_X8_longOn (l : Launch) (D : va_G) (ca : Nat → ClassId) (ga : Nat → Nat) (g : GS) (i : Int32) (o : Int32) (hm : mX8_longOn g i = some o) : KI l yX8_longOn wsX8_longOn rmX8_longOn D ca [.ref (ga 0), .int i] (cO ca ga g) (cO ca ga g) o := by
  refine KI.of (cc := cX8_longOn) (n := 2) (plainFor_of_name (by decide)) rfl (Nat.le_of_ble_eq_true rfl) ?_
  intro p e s m below meth c A Z hx hb hml hts hown hA hK hP hD hS hret ls hl
  have hown : s.vm.findClass RX8 = some m.cls := hown
  have hl : lv_has ls 2 [(0, .ref (ga 0)), (1, .int i)] := hl
  have inX8 : ∀ w ∈ wsX80, w ∈ wsX8_longOn := by decide +kernel
  have k1 := hts (.fieldLink RX8 7 "FriezeFolkModel" "state" "[I") (by decide +kernel)
  unfold mX8_longOn at hm
  refine lv_aload_n hx hb dX8_longOn_0 rfl (lv_at hl 0 rfl) ?_
  refine xget (ref := "FriezeFolkModel") (C := RX8) (T := TX8) (N := 24) (ci := 8) (v := .ref (ga 1)) hx hb hts inX8 hown hK hP 0 rfl rfl 0 (by decide) k1 rfl rfl dX8_longOn_1 ?_
  refine lv_iload_n hx hb dX8_longOn_4 rfl (lv_at hl 1 rfl) ?_
  refine lv_bipush (v := (13 : Int32)) hx hb dX8_longOn_5 (by decide) ?_
  refine lv_iadd hx hb dX8_longOn_7 ?_
  obtain ⟨v1, q1, h2⟩ := obn hm
  clear hm
  refine xald hx hb hK hP 1 rfl q1 dX8_longOn_8 ?_
  refine lv_bipush (v := (12 : Int32)) hx hb dX8_longOn_9 (by decide) ?_
  refine lv_iadd hx hb dX8_longOn_11 ?_
  obtain rfl := Option.some.inj h2
  exact hret _ _ _ _ (vp_nar_int _) hP hD hS dX8_longOn_12

def mX8_isPlace (g : GS) (i : Int32) : Option (Int32) :=
  Option.bind (mX8_longOn g (0 : Int32)) fun v1 =>
  Option.bind (mX8_in i.toInt64 (0 : Int64) (v1 - (1 : Int32)).toInt64) fun v2 =>
  Option.bind (rtZ v2) fun z1 =>
  some z1
abbrev rmX8_isPlace : Room := { frames := 1, cells := 0, slots := 0, locals := 25 }
set_option maxHeartbeats 4000000 in
set_option maxRecDepth 100000 in
theorem k_X8_isPlace (l : Launch) (D : va_G) (ca : Nat → ClassId) (ga : Nat → Nat) (g : GS) (i : Int32) (o : Int32) (hm : mX8_isPlace g i = some o) : KI l yX8_isPlace wsX8_isPlace rmX8_isPlace D ca [.ref (ga 0), .int i] (cO ca ga g) (cO ca ga g) o := by
  refine KI.of (cc := cX8_isPlace) (n := 2) (plainFor_of_name (by decide)) rfl (Nat.le_of_ble_eq_true rfl) ?_
  intro p e s m below meth c A Z hx hb hml hts hown hA hK hP hD hS hret ls hl
  have hown : s.vm.findClass RX8 = some m.cls := hown
  have hl : lv_has ls 2 [(0, .ref (ga 0)), (1, .int i)] := hl
  unfold mX8_isPlace at hm
  refine lv_iload_n hx hb dX8_isPlace_0 rfl (lv_at hl 1 rfl) ?_
  refine lv_i2l (v := i.toInt64) hx hb dX8_isPlace_1 rfl ?_
  refine lv_lconst (v := (0 : Int64)) hx hb dX8_isPlace_2 (by decide) ?_
  refine lv_aload_n hx hb dX8_isPlace_3 rfl (lv_at hl 0 rfl) ?_
  refine lv_iconst (v := (0 : Int32)) hx hb dX8_isPlace_4 (by decide) ?_
  obtain ⟨v1, q1, h3⟩ := obn hm
  clear hm
  refine xVi (As := [.int (0 : Int32)]) (ci := 8) ⟨hx, hb, hml, hown, hts⟩ (k_X8_longOn l D ca ga g (0 : Int32) _ q1) (cwV 1 hts gX8_isPlace_X8_longOn rfl rfl rfl (by decide +kernel) ⟨Nat.le_of_ble_eq_true rfl, Nat.le_of_ble_eq_true rfl⟩) hK hA hP hD hS dX8_isPlace_5 rfl hl.1 [0, 1, 2, 3, 4, 5, 6, 7, 8, 9, 10, 11, 12, 13] [] [0, 1, 2, 3, 4, 5, 6, 7, 8, 9, 10, 11, 12, 13] rfl rfl (wr := []) rfl rfl (by decide) (wn := (cO ca ga g)) rfl rfl rfl rfl rfl rfl (Nat.le_of_ble_eq_true rfl) (fun H locs hP hD hS => ?_)
  refine lv_iconst (v := (1 : Int32)) hx hb dX8_isPlace_8 (by decide) ?_
  refine lv_isub hx hb dX8_isPlace_9 ?_
  refine lv_i2l (v := (v1 - (1 : Int32)).toInt64) hx hb dX8_isPlace_10 rfl ?_
  obtain ⟨v2, q2, h4⟩ := obn h3
  clear h3
  refine xSi (As := [.long i.toInt64, .long (0 : Int64), .long (v1 - (1 : Int32)).toInt64]) ⟨hx, hb, hml, hown, hts⟩ (k_X8_in l D ca  i.toInt64 (0 : Int64) (v1 - (1 : Int32)).toInt64 _ q2) (va_cwS 3 hts gX8_isPlace_X8_in rfl rfl rfl (by decide +kernel) ⟨Nat.le_of_ble_eq_true rfl, Nat.le_of_ble_eq_true rfl⟩) hK hA hP hD hS dX8_isPlace_11 rfl hl.1 [] [0, 1, 2, 3, 4, 5, 6, 7, 8, 9, 10, 11, 12, 13] [0, 1, 2, 3, 4, 5, 6, 7, 8, 9, 10, 11, 12, 13] rfl rfl (wr := ((cO ca ga g))) rfl rfl (by decide) (wn := (cO ca ga g)) rfl rfl rfl (Nat.le_of_ble_eq_true rfl) (fun H locs hP hD hS => ?_)
  obtain ⟨z1, h5, h6⟩ := obn h4
  obtain ⟨rfl, hnz⟩ := rtZ_s h5
  obtain rfl := Option.some.inj h6
  exact hret _ _ _ _ hnz hP hD hS dX8_isPlace_14

def mX8_isBlock (g : GS) (j : Int32) : Option (Int32) :=
  Option.bind (ald 240 (g.1 0) (12 : Int32)) fun v1 =>
  Option.bind (mX8_in j.toInt64 (0 : Int64) (v1 - (1 : Int32)).toInt64) fun v2 =>
  Option.bind (rtZ v2) fun z2 =>
  some z2
abbrev rmX8_isBlock : Room := { frames := 1, cells := 0, slots := 0, locals := 25 }
set_option maxHeartbeats 4000000 in
set_option maxRecDepth 100000 in
theorem k_X8_isBlock (l : Launch) (D : va_G) (ca : Nat → ClassId) (ga : Nat → Nat) (g : GS) (j : Int32) (o : Int32) (hm : mX8_isBlock g j = some o) : KI l yX8_isBlock wsX8_isBlock rmX8_isBlock D ca [.ref (ga 0), .int j] (cO ca ga g) (cO ca ga g) o := by
  refine KI.of (cc := cX8_isBlock) (n := 2) (plainFor_of_name (by decide)) rfl (Nat.le_of_ble_eq_true rfl) ?_
  intro p e s m below meth c A Z hx hb hml hts hown hA hK hP hD hS hret ls hl
  have hown : s.vm.findClass RX8 = some m.cls := hown
  have hl : lv_has ls 2 [(0, .ref (ga 0)), (1, .int j)] := hl
  have inX8 : ∀ w ∈ wsX80, w ∈ wsX8_isBlock := by decide +kernel
  have k1 := hts (.fieldLink RX8 7 "FriezeFolkModel" "state" "[I") (by decide +kernel)
  unfold mX8_isBlock at hm
  refine lv_iload_n hx hb dX8_isBlock_0 rfl (lv_at hl 1 rfl) ?_
  refine lv_i2l (v := j.toInt64) hx hb dX8_isBlock_1 rfl ?_
  refine lv_lconst (v := (0 : Int64)) hx hb dX8_isBlock_2 (by decide) ?_
  refine lv_aload_n hx hb dX8_isBlock_3 rfl (lv_at hl 0 rfl) ?_
  refine xget (ref := "FriezeFolkModel") (C := RX8) (T := TX8) (N := 24) (ci := 8) (v := .ref (ga 1)) hx hb hts inX8 hown hK hP 0 rfl rfl 0 (by decide) k1 rfl rfl dX8_isBlock_4 ?_
  refine lv_bipush (v := (12 : Int32)) hx hb dX8_isBlock_7 (by decide) ?_
  obtain ⟨v1, q1, h3⟩ := obn hm
  clear hm
  refine xald hx hb hK hP 1 rfl q1 dX8_isBlock_9 ?_
  refine lv_iconst (v := (1 : Int32)) hx hb dX8_isBlock_10 (by decide) ?_
  refine lv_isub hx hb dX8_isBlock_11 ?_
  refine lv_i2l (v := (v1 - (1 : Int32)).toInt64) hx hb dX8_isBlock_12 rfl ?_
  obtain ⟨v2, q2, h4⟩ := obn h3
  clear h3
  refine xSi (As := [.long j.toInt64, .long (0 : Int64), .long (v1 - (1 : Int32)).toInt64]) ⟨hx, hb, hml, hown, hts⟩ (k_X8_in l D ca  j.toInt64 (0 : Int64) (v1 - (1 : Int32)).toInt64 _ q2) (va_cwS 3 hts gX8_isBlock_X8_in rfl rfl rfl (by decide +kernel) ⟨Nat.le_of_ble_eq_true rfl, Nat.le_of_ble_eq_true rfl⟩) hK hA hP hD hS dX8_isBlock_13 rfl hl.1 [] [0, 1, 2, 3, 4, 5, 6, 7, 8, 9, 10, 11, 12, 13] [0, 1, 2, 3, 4, 5, 6, 7, 8, 9, 10, 11, 12, 13] rfl rfl (wr := ((cO ca ga g))) rfl rfl (by decide) (wn := (cO ca ga g)) rfl rfl rfl (Nat.le_of_ble_eq_true rfl) (fun H locs hP hD hS => ?_)
  obtain ⟨z2, h5, h6⟩ := obn h4
  obtain ⟨rfl, hnz⟩ := rtZ_s h5
  obtain rfl := Option.some.inj h6
  exact hret _ _ _ _ hnz hP hD hS dX8_isBlock_16

def mX8_isRoll (g : GS) (r : Int32) : Option (Int32) :=
  Option.bind (ald 240 (g.1 0) (39 : Int32)) fun v1 =>
  Option.bind (mX8_in r.toInt64 (0 : Int64) (v1 - (1 : Int32)).toInt64) fun v2 =>
  Option.bind (rtZ v2) fun z3 =>
  some z3
abbrev rmX8_isRoll : Room := { frames := 1, cells := 0, slots := 0, locals := 25 }
set_option maxHeartbeats 4000000 in
set_option maxRecDepth 100000 in
theorem k_X8_isRoll (l : Launch) (D : va_G) (ca : Nat → ClassId) (ga : Nat → Nat) (g : GS) (r : Int32) (o : Int32) (hm : mX8_isRoll g r = some o) : KI l yX8_isRoll wsX8_isRoll rmX8_isRoll D ca [.ref (ga 0), .int r] (cO ca ga g) (cO ca ga g) o := by
  refine KI.of (cc := cX8_isRoll) (n := 2) (plainFor_of_name (by decide)) rfl (Nat.le_of_ble_eq_true rfl) ?_
  intro p e s m below meth c A Z hx hb hml hts hown hA hK hP hD hS hret ls hl
  have hown : s.vm.findClass RX8 = some m.cls := hown
  have hl : lv_has ls 2 [(0, .ref (ga 0)), (1, .int r)] := hl
  have inX8 : ∀ w ∈ wsX80, w ∈ wsX8_isRoll := by decide +kernel
  have k1 := hts (.fieldLink RX8 7 "FriezeFolkModel" "state" "[I") (by decide +kernel)
  unfold mX8_isRoll at hm
  refine lv_iload_n hx hb dX8_isRoll_0 rfl (lv_at hl 1 rfl) ?_
  refine lv_i2l (v := r.toInt64) hx hb dX8_isRoll_1 rfl ?_
  refine lv_lconst (v := (0 : Int64)) hx hb dX8_isRoll_2 (by decide) ?_
  refine lv_aload_n hx hb dX8_isRoll_3 rfl (lv_at hl 0 rfl) ?_
  refine xget (ref := "FriezeFolkModel") (C := RX8) (T := TX8) (N := 24) (ci := 8) (v := .ref (ga 1)) hx hb hts inX8 hown hK hP 0 rfl rfl 0 (by decide) k1 rfl rfl dX8_isRoll_4 ?_
  refine lv_bipush (v := (39 : Int32)) hx hb dX8_isRoll_7 (by decide) ?_
  obtain ⟨v1, q1, h3⟩ := obn hm
  clear hm
  refine xald hx hb hK hP 1 rfl q1 dX8_isRoll_9 ?_
  refine lv_iconst (v := (1 : Int32)) hx hb dX8_isRoll_10 (by decide) ?_
  refine lv_isub hx hb dX8_isRoll_11 ?_
  refine lv_i2l (v := (v1 - (1 : Int32)).toInt64) hx hb dX8_isRoll_12 rfl ?_
  obtain ⟨v2, q2, h4⟩ := obn h3
  clear h3
  refine xSi (As := [.long r.toInt64, .long (0 : Int64), .long (v1 - (1 : Int32)).toInt64]) ⟨hx, hb, hml, hown, hts⟩ (k_X8_in l D ca  r.toInt64 (0 : Int64) (v1 - (1 : Int32)).toInt64 _ q2) (va_cwS 3 hts gX8_isRoll_X8_in rfl rfl rfl (by decide +kernel) ⟨Nat.le_of_ble_eq_true rfl, Nat.le_of_ble_eq_true rfl⟩) hK hA hP hD hS dX8_isRoll_13 rfl hl.1 [] [0, 1, 2, 3, 4, 5, 6, 7, 8, 9, 10, 11, 12, 13] [0, 1, 2, 3, 4, 5, 6, 7, 8, 9, 10, 11, 12, 13] rfl rfl (wr := ((cO ca ga g))) rfl rfl (by decide) (wn := (cO ca ga g)) rfl rfl rfl (Nat.le_of_ble_eq_true rfl) (fun H locs hP hD hS => ?_)
  obtain ⟨z3, h5, h6⟩ := obn h4
  obtain ⟨rfl, hnz⟩ := rtZ_s h5
  obtain rfl := Option.some.inj h6
  exact hret _ _ _ _ hnz hP hD hS dX8_isRoll_16

def mX8_whoOn (g : GS) (j : Int32) (i : Int32) : Option (Int32) :=
  Option.bind (ald 240 (g.1 0) (j + (12 : Int32))) fun v1 =>
  if v1 = 0 then
    some (-4 : Int32)
  else
    Option.bind (ald 240 (g.1 0) (j + (14 : Int32))) fun v3 =>
    Option.bind (irm (i + v3) v1) fun v4 =>
    some v4
abbrev rmX8_whoOn : Room := { frames := 0, cells := 0, slots := 0, locals := 0 }
set_option maxHeartbeats 4000000 in
set_option maxRecDepth 100000 in
theorem k_X8_whoOn (l : Launch) (D : va_G) (ca : Nat → ClassId) (ga : Nat → Nat) (g : GS) (j : Int32) (i : Int32) (o : Int32) (hm : mX8_whoOn g j i = some o) : KI l yX8_whoOn wsX8_whoOn rmX8_whoOn D ca [.ref (ga 0), .int j, .int i] (cO ca ga g) (cO ca ga g) o := by
  refine KI.of (cc := cX8_whoOn) (n := 4) (plainFor_of_name (by decide)) rfl (Nat.le_of_ble_eq_true rfl) ?_
  intro p e s m below meth c A Z hx hb hml hts hown hA hK hP hD hS hret ls hl
  have hown : s.vm.findClass RX8 = some m.cls := hown
  have hl : lv_has ls 4 [(0, .ref (ga 0)), (1, .int j), (2, .int i)] := hl
  have inX8 : ∀ w ∈ wsX80, w ∈ wsX8_whoOn := by decide +kernel
  have k1 := hts (.fieldLink RX8 7 "FriezeFolkModel" "state" "[I") (by decide +kernel)
  unfold mX8_whoOn at hm
  refine lv_aload_n hx hb dX8_whoOn_0 rfl (lv_at hl 0 rfl) ?_
  refine xget (ref := "FriezeFolkModel") (C := RX8) (T := TX8) (N := 24) (ci := 8) (v := .ref (ga 1)) hx hb hts inX8 hown hK hP 0 rfl rfl 0 (by decide) k1 rfl rfl dX8_whoOn_1 ?_
  refine lv_iload_n hx hb dX8_whoOn_4 rfl (lv_at hl 1 rfl) ?_
  refine lv_bipush (v := (12 : Int32)) hx hb dX8_whoOn_5 (by decide) ?_
  refine lv_iadd hx hb dX8_whoOn_7 ?_
  obtain ⟨v1, q1, h5⟩ := obn hm
  clear hm
  refine xald hx hb hK hP 1 rfl q1 dX8_whoOn_8 ?_
  refine lv_istore_n (lv' := [(3, .int v1), (0, .ref (ga 0)), (1, .int j), (2, .int i)]) hx hb dX8_whoOn_9 rfl hl (by decide) rfl (fun ls hl => ?_)
  refine lv_iload_n hx hb dX8_whoOn_10 rfl (lv_at hl 0 rfl) ?_
  refine lv_if_ne (tgt := 19) hx hb dX8_whoOn_11 (by decide) (fun c2 => ?_) (fun c2 => ?_)
  · skip
    replace h5 := (if_neg c2).symm.trans h5
    refine lv_iload_n hx hb dX8_whoOn_19 rfl (lv_at hl 3 rfl) ?_
    refine lv_aload_n hx hb dX8_whoOn_20 rfl (lv_at hl 1 rfl) ?_
    refine xget (ref := "FriezeFolkModel") (C := RX8) (T := TX8) (N := 24) (ci := 8) (v := .ref (ga 1)) hx hb hts inX8 hown hK hP 0 rfl rfl 0 (by decide) k1 rfl rfl dX8_whoOn_21 ?_
    refine lv_iload_n hx hb dX8_whoOn_24 rfl (lv_at hl 2 rfl) ?_
    refine lv_bipush (v := (14 : Int32)) hx hb dX8_whoOn_25 (by decide) ?_
    refine lv_iadd hx hb dX8_whoOn_27 ?_
    obtain ⟨v3, q3, h6⟩ := obn h5
    clear h5
    refine xald hx hb hK hP 1 rfl q3 dX8_whoOn_28 ?_
    refine lv_iadd hx hb dX8_whoOn_29 ?_
    refine lv_iload_n hx hb dX8_whoOn_30 rfl (lv_at hl 0 rfl) ?_
    obtain ⟨v4, q4, h7⟩ := obn h6
    clear h6
    refine xirm hx hb q4 dX8_whoOn_31 ?_
    obtain rfl := Option.some.inj h7
    exact hret _ _ _ _ (vp_nar_int _) hP hD hS dX8_whoOn_32
  · skip
    replace h5 := (if_pos c2).symm.trans h5
    refine lv_bipush (v := (-4 : Int32)) hx hb dX8_whoOn_14 (by decide) ?_
    refine lv_goto (tgt := 32) hx hb dX8_whoOn_16 (by decide) ?_
    obtain rfl := Option.some.inj h5
    exact hret _ _ _ _ (vp_nar_int _) hP hD hS dX8_whoOn_32
