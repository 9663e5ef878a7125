
def mX5_isLetter (x : Int32) : Option (Int32) :=
  if x < (97 : Int32) then
    some (0 : Int32)
  else
    if (122 : Int32) < x then
      some (0 : Int32)
    else
      some (1 : Int32)
abbrev rmX5_isLetter : Room := { frames := 0, cells := 0, slots := 0, locals := 0 }
set_option maxHeartbeats 4000000 in
set_option maxRecDepth 100000 in
theorem k_X5_isLetter (l : Launch) (D : va_G) (ca : Nat → ClassId)   (x : Int32) (o : Int32) (hm : mX5_isLetter x = some o) : KI l yX5_isLetter wsX5_isLetter rmX5_isLetter D ca [.int x] ([] : va_W) ([] : va_W) o := by
  refine KI.of (cc := cX5_isLetter) (n := 1) (plainFor_of_name (by decide)) rfl (Nat.le_of_ble_eq_true rfl) ?_
  intro p e s m below meth c A Z hx hb hml hts hown hA hK hP hD hS hret ls hl
  have hown : s.vm.findClass RX5 = some m.cls := hown
  have hl : lv_has ls 1 [(0, .int x)] := hl
  unfold mX5_isLetter at hm
  refine lv_iload_n hx hb dX5_isLetter_0 rfl (lv_at hl 0 rfl) ?_
  refine lv_bipush (v := (97 : Int32)) hx hb dX5_isLetter_1 (by decide) ?_
  refine lv_icmp_lt (tgt := 16) hx hb dX5_isLetter_3 (by decide) (fun c1 => ?_) (fun c1 => ?_)
  · skip
    replace hm := (if_pos c1).symm.trans hm
    refine lv_iconst (v := (0 : Int32)) hx hb dX5_isLetter_16 (by decide) ?_
    obtain rfl := Option.some.inj hm
    exact hret _ _ _ _ nar0 hP hD hS dX5_isLetter_17
  · skip
    replace hm := (if_neg c1).symm.trans hm
    refine lv_iload_n hx hb dX5_isLetter_6 rfl (lv_at hl 0 rfl) ?_
    refine lv_bipush (v := (122 : Int32)) hx hb dX5_isLetter_7 (by decide) ?_
    refine lv_icmp_gt (tgt := 16) hx hb dX5_isLetter_9 (by decide) (fun c2 => ?_) (fun c2 => ?_)
    · skip
      replace hm := (if_pos c2).symm.trans hm
      refine lv_iconst (v := (0 : Int32)) hx hb dX5_isLetter_16 (by decide) ?_
      obtain rfl := Option.some.inj hm
      exact hret _ _ _ _ nar0 hP hD hS dX5_isLetter_17
    · skip
      replace hm := (if_neg c2).symm.trans hm
      refine lv_iconst (v := (1 : Int32)) hx hb dX5_isLetter_12 (by decide) ?_
      refine lv_goto (tgt := 17) hx hb dX5_isLetter_13 (by decide) ?_
      obtain rfl := Option.some.inj hm
      exact hret _ _ _ _ nar1 hP hD hS dX5_isLetter_17

def mX5_isFigure (x : Int32) : Option (Int32) :=
  if x < (48 : Int32) then
    some (0 : Int32)
  else
    if (57 : Int32) < x then
      some (0 : Int32)
    else
      some (1 : Int32)
abbrev rmX5_isFigure : Room := { frames := 0, cells := 0, slots := 0, locals := 0 }
set_option maxHeartbeats 4000000 in
set_option maxRecDepth 100000 in
theorem k_X5_isFigure (l : Launch) (D : va_G) (ca : Nat → ClassId)   (x : Int32) (o : Int32) (hm : mX5_isFigure x = some o) : KI l yX5_isFigure wsX5_isFigure rmX5_isFigure D ca [.int x] ([] : va_W) ([] : va_W) o := by
  refine KI.of (cc := cX5_isFigure) (n := 1) (plainFor_of_name (by decide)) rfl (Nat.le_of_ble_eq_true rfl) ?_
  intro p e s m below meth c A Z hx hb hml hts hown hA hK hP hD hS hret ls hl
  have hown : s.vm.findClass RX5 = some m.cls := hown
  have hl : lv_has ls 1 [(0, .int x)] := hl
  unfold mX5_isFigure at hm
  refine lv_iload_n hx hb dX5_isFigure_0 rfl (lv_at hl 0 rfl) ?_
  refine lv_bipush (v := (48 : Int32)) hx hb dX5_isFigure_1 (by decide) ?_
  refine lv_icmp_lt (tgt := 16) hx hb dX5_isFigure_3 (by decide) (fun c1 => ?_) (fun c1 => ?_)
  · skip
    replace hm := (if_pos c1).symm.trans hm
    refine lv_iconst (v := (0 : Int32)) hx hb dX5_isFigure_16 (by decide) ?_
    obtain rfl := Option.some.inj hm
    exact hret _ _ _ _ nar0 hP hD hS dX5_isFigure_17
  · skip
    replace hm := (if_neg c1).symm.trans hm
    refine lv_iload_n hx hb dX5_isFigure_6 rfl (lv_at hl 0 rfl) ?_
    refine lv_bipush (v := (57 : Int32)) hx hb dX5_isFigure_7 (by decide) ?_
    refine lv_icmp_gt (tgt := 16) hx hb dX5_isFigure_9 (by decide) (fun c2 => ?_) (fun c2 => ?_)
    · skip
      replace hm := (if_pos c2).symm.trans hm
      refine lv_iconst (v := (0 : Int32)) hx hb dX5_isFigure_16 (by decide) ?_
      obtain rfl := Option.some.inj hm
      exact hret _ _ _ _ nar0 hP hD hS dX5_isFigure_17
    · skip
      replace hm := (if_neg c2).symm.trans hm
      refine lv_iconst (v := (1 : Int32)) hx hb dX5_isFigure_12 (by decide) ?_
      refine lv_goto (tgt := 17) hx hb dX5_isFigure_13 (by decide) ?_
      obtain rfl := Option.some.inj hm
      exact hret _ _ _ _ nar1 hP hD hS dX5_isFigure_17

def mX5_append (g : GS) (n : Int32) : Option (Int32 × GS) :=
  if (g.2 2) < 0 then
    some ((0 : Int32), g)
  else
    if (g.2 2) < (160 : Int32) then
      Option.bind (ast 160 (g.1 1) (g.2 2) (vp_nar .byte n.toInt8.toInt32)) fun f3 =>
      some ((1 : Int32), (sI (sA g 1 f3) 2 (((sA g 1 f3).2 2) + (1 : Int32))))
    else
      some ((0 : Int32), g)
abbrev rmX5_append : Room := { frames := 0, cells := 0, slots := 0, locals := 0 }
set_option maxHeartbeats 4000000 in
set_option maxRecDepth 100000 in
theorem k_X5_append (l : Launch) (D : va_G) (ca : Nat → ClassId) (gh : Nat) (ga : Nat → Nat) (g : GS) (n : Int32) (o : Int32 × GS) (hm : mX5_append g n = some o) : KI l yX5_append wsX5_append rmX5_append D ca [.ref (ga 0), .int n] (cR ca gh ga g) (cR ca gh ga o.2) o.1 := by
  refine KI.of (cc := cX5_append) (n := 2) (plainFor_of_name (by decide)) rfl (Nat.le_of_ble_eq_true rfl) ?_
  intro p e s m below meth c A Z hx hb hml hts hown hA hK hP hD hS hret ls hl
  have hown : s.vm.findClass RX5 = some m.cls := hown
  have hl : lv_has ls 2 [(0, .ref (ga 0)), (1, .int n)] := hl
  have inX5 : ∀ w ∈ wsX50, w ∈ wsX5_append := by decide +kernel
  have k1 := hts (.fieldLink RX5 22 "FriezeFolk$Reader" "size" "I") (by decide +kernel)
  have k2 := hts (.fieldLink RX5 18 "FriezeFolk$Reader" "tape" "[B") (by decide +kernel)
  unfold mX5_append at hm
  refine lv_aload_n hx hb dX5_append_0 rfl (lv_at hl 0 rfl) ?_
  refine xget (ref := "FriezeFolk$Reader") (C := RX5) (T := TX5) (N := 10) (ci := 5) (v := .int (g.2 2)) hx hb hts inX5 hown hK hP 0 rfl rfl 2 (by decide) k1 rfl rfl dX5_append_1 ?_
  refine lv_if_lt (tgt := 17) hx hb dX5_append_4 (by decide) (fun c1 => ?_) (fun c1 => ?_)
  · skip
    replace hm := (if_pos c1).symm.trans hm
    refine lv_iconst (v := (0 : Int32)) hx hb dX5_append_17 (by decide) ?_
    obtain rfl := Option.some.inj hm
    exact hret _ _ _ _ nar0 hP hD hS dX5_append_18
  · skip
    replace hm := (if_neg c1).symm.trans hm
    refine lv_aload_n hx hb dX5_append_7 rfl (lv_at hl 0 rfl) ?_
    refine xget (ref := "FriezeFolk$Reader") (C := RX5) (T := TX5) (N := 10) (ci := 5) (v := .int (g.2 2)) hx hb hts inX5 hown hK hP 0 rfl rfl 2 (by decide) k1 rfl rfl dX5_append_8 ?_
    refine lv_sipush (v := (160 : Int32)) hx hb dX5_append_11 (by decide) ?_
    refine lv_icmp_lt (tgt := 19) hx hb dX5_append_14 (by decide) (fun c2 => ?_) (fun c2 => ?_)
    · skip
      replace hm := (if_pos c2).symm.trans hm
      refine lv_aload_n hx hb dX5_append_19 rfl (lv_at hl 0 rfl) ?_
      refine xget (ref := "FriezeFolk$Reader") (C := RX5) (T := TX5) (N := 10) (ci := 5) (v := .ref (ga 1)) hx hb hts inX5 hown hK hP 0 rfl rfl 1 (by decide) k2 rfl rfl dX5_append_20 ?_
      refine lv_aload_n hx hb dX5_append_23 rfl (lv_at hl 0 rfl) ?_
      refine xget (ref := "FriezeFolk$Reader") (C := RX5) (T := TX5) (N := 10) (ci := 5) (v := .int (g.2 2)) hx hb hts inX5 hown hK hP 0 rfl rfl 2 (by decide) k1 rfl rfl dX5_append_24 ?_
      refine lv_iload_n hx hb dX5_append_27 rfl (lv_at hl 1 rfl) ?_
      refine lv_i2b (v := n.toInt8.toInt32) hx hb dX5_append_28 rfl ?_
      obtain ⟨f3, q3, h4⟩ := obn hm
      clear hm
      refine xbast hx hb hK hP hD hS 1 rfl q3 dX5_append_29 (wn := (cR ca gh ga (sA g 1 f3))) rfl (fun H locs hP hD hS => ?_)
      refine lv_aload_n hx hb dX5_append_30 rfl (lv_at hl 0 rfl) ?_
      refine lv_dup hx hb dX5_append_31 rfl ?_
      refine xget (ref := "FriezeFolk$Reader") (C := RX5) (T := TX5) (N := 10) (ci := 5) (v := .int ((sA g 1 f3).2 2)) hx hb hts inX5 hown hK hP 0 rfl rfl 2 (by decide) k1 rfl rfl dX5_append_32 ?_
      refine lv_iconst (v := (1 : Int32)) hx hb dX5_append_35 (by decide) ?_
      refine lv_iadd hx hb dX5_append_36 ?_
      refine xput (ref := "FriezeFolk$Reader") (C := RX5) (T := TX5) (N := 10) (ci := 5) (v := .int (((sA g 1 f3).2 2) + (1 : Int32))) (ty := .int) hx hb hts inX5 tyX5 tyX5_ok nmX5 hown hK hP hD hS 0 rfl rfl 2 (by decide) k1 rfl rfl (by decide +kernel) rfl rfl (Nat.le_of_ble_eq_true rfl) dX5_append_37 (wn := (cR ca gh ga (sI (sA g 1 f3) 2 (((sA g 1 f3).2 2) + (1 : Int32))))) rfl (fun H locs hP hD hS => ?_)
      refine lv_iconst (v := (1 : Int32)) hx hb dX5_append_40 (by decide) ?_
      obtain rfl := Option.some.inj h4
      exact hret _ _ _ _ nar1 hP hD hS dX5_append_41
    · skip
      replace hm := (if_neg c2).symm.trans hm
      refine lv_iconst (v := (0 : Int32)) hx hb dX5_append_17 (by decide) ?_
      obtain rfl := Option.some.inj hm
      exact hret _ _ _ _ nar0 hP hD hS dX5_append_18

def mX5_byteAt (g : GS) (i : Int32) : Option (Int32) :=
  if i < 0 then
    some (-4 : Int32)
  else
    if (g.2 2) ≤ i then
      some (-4 : Int32)
    else
      if (160 : Int32) ≤ i then
        some (-4 : Int32)
      else
        Option.bind (ald 160 (g.1 1) i) fun v4 =>
        some v4
abbrev rmX5_byteAt : Room := { frames := 0, cells := 0, slots := 0, locals := 0 }
set_option maxHeartbeats 4000000 in
set_option maxRecDepth 100000 in
theorem k_X5_byteAt (l : Launch) (D : va_G) (ca : Nat → ClassId) (gh : Nat) (ga : Nat → Nat) (g : GS) (i : Int32) (o : Int32) (hm : mX5_byteAt g i = some o) : KI l yX5_byteAt wsX5_byteAt rmX5_byteAt D ca [.ref (ga 0), .int i] (cR ca gh ga g) (cR ca gh ga g) o := by
  refine KI.of (cc := cX5_byteAt) (n := 2) (plainFor_of_name (by decide)) rfl (Nat.le_of_ble_eq_true rfl) ?_
  intro p e s m below meth c A Z hx hb hml hts hown hA hK hP hD hS hret ls hl
  have hown : s.vm.findClass RX5 = some m.cls := hown
  have hl : lv_has ls 2 [(0, .ref (ga 0)), (1, .int i)] := hl
  have inX5 : ∀ w ∈ wsX50, w ∈ wsX5_byteAt := by decide +kernel
  have k1 := hts (.fieldLink RX5 22 "FriezeFolk$Reader" "size" "I") (by decide +kernel)
  have k2 := hts (.fieldLink RX5 18 "FriezeFolk$Reader" "tape" "[B") (by decide +kernel)
  unfold mX5_byteAt at hm
  refine lv_iload_n hx hb dX5_byteAt_0 rfl (lv_at hl 1 rfl) ?_
  refine lv_if_lt (tgt := 28) hx hb dX5_byteAt_1 (by decide) (fun c1 => ?_) (fun c1 => ?_)
  · skip
    replace hm := (if_pos c1).symm.trans hm
    refine lv_bipush (v := (-4 : Int32)) hx hb dX5_byteAt_28 (by decide) ?_
    obtain rfl := Option.some.inj hm
    exact hret _ _ _ _ (vp_nar_int _) hP hD hS dX5_byteAt_30
  · skip
    replace hm := (if_neg c1).symm.trans hm
    refine lv_iload_n hx hb dX5_byteAt_4 rfl (lv_at hl 1 rfl) ?_
    refine lv_aload_n hx hb dX5_byteAt_5 rfl (lv_at hl 0 rfl) ?_
    refine xget (ref := "FriezeFolk$Reader") (C := RX5) (T := TX5) (N := 10) (ci := 5) (v := .int (g.2 2)) hx hb hts inX5 hown hK hP 0 rfl rfl 2 (by decide) k1 rfl rfl dX5_byteAt_6 ?_
    refine lv_icmp_ge (tgt := 28) hx hb dX5_byteAt_9 (by decide) (fun c2 => ?_) (fun c2 => ?_)
    · skip
      replace hm := (if_pos c2).symm.trans hm
      refine lv_bipush (v := (-4 : Int32)) hx hb dX5_byteAt_28 (by decide) ?_
      obtain rfl := Option.some.inj hm
      exact hret _ _ _ _ (vp_nar_int _) hP hD hS dX5_byteAt_30
    · skip
      replace hm := (if_neg c2).symm.trans hm
      refine lv_iload_n hx hb dX5_byteAt_12 rfl (lv_at hl 1 rfl) ?_
      refine lv_sipush (v := (160 : Int32)) hx hb dX5_byteAt_13 (by decide) ?_
      refine lv_icmp_ge (tgt := 28) hx hb dX5_byteAt_16 (by decide) (fun c3 => ?_) (fun c3 => ?_)
      · skip
        replace hm := (if_pos c3).symm.trans hm
        refine lv_bipush (v := (-4 : Int32)) hx hb dX5_byteAt_28 (by decide) ?_
        obtain rfl := Option.some.inj hm
        exact hret _ _ _ _ (vp_nar_int _) hP hD hS dX5_byteAt_30
      · skip
        replace hm := (if_neg c3).symm.trans hm
        refine lv_aload_n hx hb dX5_byteAt_19 rfl (lv_at hl 0 rfl) ?_
        refine xget (ref := "FriezeFolk$Reader") (C := RX5) (T := TX5) (N := 10) (ci := 5) (v := .ref (ga 1)) hx hb hts inX5 hown hK hP 0 rfl rfl 1 (by decide) k2 rfl rfl dX5_byteAt_20 ?_
        refine lv_iload_n hx hb dX5_byteAt_23 rfl (lv_at hl 1 rfl) ?_
        obtain ⟨v4, q4, h5⟩ := obn hm
        clear hm
        refine xbald hx hb hK hP 1 rfl q4 dX5_byteAt_24 ?_
        refine lv_goto (tgt := 30) hx hb dX5_byteAt_25 (by decide) ?_
        obtain rfl := Option.some.inj h5
        exact hret _ _ _ _ (vp_nar_int _) hP hD hS dX5_byteAt_30
def mX5_takeLetters_l0 (s6 : GS) : Option ((GS) ⊕ (GS)) :=
  if (s6.2 2) ≤ (s6.2 7) then
    some (.inr s6)
  else
    Option.bind (mX5_byteAt s6 (s6.2 7)) fun v8 =>
    Option.bind (mX5_isLetter v8) fun v9 =>
    if v9 = 0 then
      some (.inr s6)
    else
      some (.inl (sI s6 7 ((s6.2 7) + (1 : Int32))))

def mX5_takeLetters (g : GS) : Option (GS) :=
  Option.bind (whO (mX5_takeLetters_l0) FU g) fun e11 =>
  some (sI e11 5 (1 : Int32))
abbrev rmX5_takeLetters : Room := { frames := 1, cells := 0, slots := 0, locals := 21 }
set_option maxHeartbeats 4000000 in
set_option maxRecDepth 100000 in
theorem k_X5_takeLetters (l : Launch) (D : va_G) (ca : Nat → ClassId) (gh : Nat) (ga : Nat → Nat) (g : GS) (o : GS) (hm : mX5_takeLetters g = some o) : KV l yX5_takeLetters wsX5_takeLetters rmX5_takeLetters D ca [.ref (ga 0)] (cR ca gh ga g) (cR ca gh ga o) := by
  refine KV.of (cc := cX5_takeLetters) (n := 1) (plainFor_of_name (by decide)) rfl (Nat.le_of_ble_eq_true rfl) ?_
  intro p e s m below meth c A Z hx hb hml hts hown hA hK hP hD hS hret ls hl
  have hown : s.vm.findClass RX5 = some m.cls := hown
  have hl : lv_has ls 1 [(0, .ref (ga 0))] := hl
  have inX5 : ∀ w ∈ wsX50, w ∈ wsX5_takeLetters := by decide +kernel
  have k1 := hts (.fieldLink RX5 38 "FriezeFolk$Reader" "stop" "I") (by decide +kernel)
  have k2 := hts (.fieldLink RX5 22 "FriezeFolk$Reader" "size" "I") (by decide +kernel)
  have k3 := hts (.fieldLink RX5 32 "FriezeFolk$Reader" "token" "I") (by decide +kernel)
  unfold mX5_takeLetters at hm
  obtain ⟨e11, w12, h13⟩ := obn hm
  clear hm
  have AF11 : ∀ (ls : Array Slot) (H : Heap) (locs : List Loc), lv_has ls 1 [(0, .ref (ga 0))] → va_P D vwCl (cR ca gh ga e11) H → va_D A (cR ca gh ga e11) → va_S A s.heap H locs → W p l e rmX5_takeLetters s m ([.ref (ga 0)] : List Value).toArray below meth c H locs 0 0 Z (F0 m 38 ls []) := by
    intro ls H locs hl hP hD hS
    refine lv_aload_n hx hb dX5_takeLetters_38 rfl (lv_at hl 0 rfl) ?_
    refine lv_iconst (v := (1 : Int32)) hx hb dX5_takeLetters_39 (by decide) ?_
    refine xput (ref := "FriezeFolk$Reader") (C := RX5) (T := TX5) (N := 10) (ci := 5) (v := .int (1 : Int32)) (ty := .int) hx hb hts inX5 tyX5 tyX5_ok nmX5 hown hK hP hD hS 0 rfl rfl 5 (by decide) k3 rfl rfl (by decide +kernel) rfl rfl (Nat.le_of_ble_eq_true rfl) dX5_takeLetters_40 (wn := (cR ca gh ga (sI e11 5 (1 : Int32)))) rfl (fun H locs hP hD hS => ?_)
    obtain rfl := Option.some.inj h13
    exact hret _ _ _ _ hP hD hS dX5_takeLetters_43
  refine whO_walk (I := fun s6 => ∀ (ls : Array Slot) (H : Heap) (locs : List Loc), lv_has ls 1 [(0, .ref (ga 0))] → va_P D vwCl (cR ca gh ga s6) H → va_D A (cR ca gh ga s6) → va_S A s.heap H locs → W p l e rmX5_takeLetters s m ([.ref (ga 0)] : List Value).toArray below meth c H locs 0 0 Z (F0 m 0 ls [])) ?_ _ _ w12 _ _ _ (lv_sub hl [0] rfl) hP hD hS
  clear w12
  intro s6 o11 h14 hi11 ho11 ls H locs hl hP hD hS
  unfold mX5_takeLetters_l0 at h14
  refine lv_aload_n hx hb dX5_takeLetters_0 rfl (lv_at hl 0 rfl) ?_
  refine xget (ref := "FriezeFolk$Reader") (C := RX5) (T := TX5) (N := 10) (ci := 5) (v := .int (s6.2 7)) hx hb hts inX5 hown hK hP 0 rfl rfl 7 (by decide) k1 rfl rfl dX5_takeLetters_1 ?_
  refine lv_aload_n hx hb dX5_takeLetters_4 rfl (lv_at hl 0 rfl) ?_
  refine xget (ref := "FriezeFolk$Reader") (C := RX5) (T := TX5) (N := 10) (ci := 5) (v := .int (s6.2 2)) hx hb hts inX5 hown hK hP 0 rfl rfl 2 (by decide) k2 rfl rfl dX5_takeLetters_5 ?_
  refine lv_icmp_ge (tgt := 38) hx hb dX5_takeLetters_8 (by decide) (fun c7 => ?_) (fun c7 => ?_)
  · skip
    replace h14 := (if_pos c7).symm.trans h14
    have h15 := ho11 _ (Option.some.inj h14).symm
    subst h15
    exact AF11 _ _ _ (lv_sub hl [0] rfl) hP hD hS
  · skip
    replace h14 := (if_neg c7).symm.trans h14
    refine lv_aload_n hx hb dX5_takeLetters_11 rfl (lv_at hl 0 rfl) ?_
    refine lv_aload_n hx hb dX5_takeLetters_12 rfl (lv_at hl 0 rfl) ?_
    refine xget (ref := "FriezeFolk$Reader") (C := RX5) (T := TX5) (N := 10) (ci := 5) (v := .int (s6.2 7)) hx hb hts inX5 hown hK hP 0 rfl rfl 7 (by decide) k1 rfl rfl dX5_takeLetters_13 ?_
    obtain ⟨v8, q8, h16⟩ := obn h14
    clear h14
    refine xVi (As := [.int (s6.2 7)]) (ci := 5) ⟨hx, hb, hml, hown, hts⟩ (k_X5_byteAt l D ca gh ga s6 (s6.2 7) _ q8) (cwV 1 hts gX5_takeLetters_X5_byteAt rfl rfl rfl (by decide +kernel) ⟨Nat.le_of_ble_eq_true rfl, Nat.le_of_ble_eq_true rfl⟩) hK hA hP hD hS dX5_takeLetters_16 rfl hl.1 [0, 1] [] [0, 1] rfl rfl (wr := []) rfl rfl (by decide) (wn := (cR ca gh ga s6)) rfl rfl rfl rfl rfl rfl (Nat.le_of_ble_eq_true rfl) (fun H locs hP hD hS => ?_)
    obtain ⟨v9, q9, h17⟩ := obn h16
    clear h16
    refine xSi (As := [.int v8]) ⟨hx, hb, hml, hown, hts⟩ (k_X5_isLetter l D ca  v8 _ q9) (va_cwS 1 hts gX5_takeLetters_X5_isLetter rfl rfl rfl (by decide +kernel) ⟨Nat.le_of_ble_eq_true rfl, Nat.le_of_ble_eq_true rfl⟩) hK hA hP hD hS dX5_takeLetters_19 rfl hl.1 [] [0, 1] [0, 1] rfl rfl (wr := ((cR ca gh ga s6))) rfl rfl (by decide) (wn := (cR ca gh ga s6)) rfl rfl rfl (Nat.le_of_ble_eq_true rfl) (fun H locs hP hD hS => ?_)
    refine lv_if_eq (tgt := 38) hx hb dX5_takeLetters_22 (by decide) (fun c10 => ?_) (fun c10 => ?_)
    · skip
      replace h17 := (if_pos c10).symm.trans h17
      have h18 := ho11 _ (Option.some.inj h17).symm
      subst h18
      exact AF11 _ _ _ (lv_sub hl [0] rfl) hP hD hS
    · skip
      replace h17 := (if_neg c10).symm.trans h17
      refine lv_aload_n hx hb dX5_takeLetters_25 rfl (lv_at hl 0 rfl) ?_
      refine lv_dup hx hb dX5_takeLetters_26 rfl ?_
      refine xget (ref := "FriezeFolk$Reader") (C := RX5) (T := TX5) (N := 10) (ci := 5) (v := .int (s6.2 7)) hx hb hts inX5 hown hK hP 0 rfl rfl 7 (by decide) k1 rfl rfl dX5_takeLetters_27 ?_
      refine lv_iconst (v := (1 : Int32)) hx hb dX5_takeLetters_30 (by decide) ?_
      refine lv_iadd hx hb dX5_takeLetters_31 ?_
      refine xput (ref := "FriezeFolk$Reader") (C := RX5) (T := TX5) (N := 10) (ci := 5) (v := .int ((s6.2 7) + (1 : Int32))) (ty := .int) hx hb hts inX5 tyX5 tyX5_ok nmX5 hown hK hP hD hS 0 rfl rfl 7 (by decide) k1 rfl rfl (by decide +kernel) rfl rfl (Nat.le_of_ble_eq_true rfl) dX5_takeLetters_32 (wn := (cR ca gh ga (sI s6 7 ((s6.2 7) + (1 : Int32))))) rfl (fun H locs hP hD hS => ?_)
      refine lv_goto (tgt := 0) hx hb dX5_takeLetters_35 (by decide) ?_
      exact hi11 _ (Option.some.inj h17).symm _ _ _ (lv_sub hl [0] rfl) hP hD hS
def mX5_takeFigures_l5 (s7 : GS) : Option ((GS) ⊕ (GS)) :=
  if (s7.2 2) ≤ (s7.2 7) then
    some (.inr s7)
  else
    Option.bind (mX5_byteAt s7 (s7.2 7)) fun v9 =>
    Option.bind (mX5_isFigure v9) fun v10 =>
    if v10 = 0 then
      some (.inr s7)
    else
      Option.bind (mX5_byteAt s7 (s7.2 7)) fun v12 =>
      some (.inl (sI (sI s7 8 ((((s7.2 8) * (10 : Int32)) + v12) - (48 : Int32))) 7 (((sI s7 8 ((((s7.2 8) * (10 : Int32)) + v12) - (48 : Int32))).2 7) + (1 : Int32))))

def mX5_takeFigures (g : GS) : Option (GS) :=
  Option.bind (whO (mX5_takeFigures_l5) FU (sI g 8 (0 : Int32))) fun e13 =>
  if (2 : Int32) < ((e13.2 7) - (e13.2 6)) then
    some (sI e13 5 (4 : Int32))
  else
    some (sI e13 5 (2 : Int32))
abbrev rmX5_takeFigures : Room := { frames := 1, cells := 0, slots := 0, locals := 21 }
set_option maxHeartbeats 4000000 in
set_option maxRecDepth 100000 in
theorem k_X5_takeFigures (l : Launch) (D : va_G) (ca : Nat → ClassId) (gh : Nat) (ga : Nat → Nat) (g : GS) (o : GS) (hm : mX5_takeFigures g = some o) : KV l yX5_takeFigures wsX5_takeFigures rmX5_takeFigures D ca [.ref (ga 0)] (cR ca gh ga g) (cR ca gh ga o) := by
  refine KV.of (cc := cX5_takeFigures) (n := 1) (plainFor_of_name (by decide)) rfl (Nat.le_of_ble_eq_true rfl) ?_
  intro p e s m below meth c A Z hx hb hml hts hown hA hK hP hD hS hret ls hl
  have hown : s.vm.findClass RX5 = some m.cls := hown
  have hl : lv_has ls 1 [(0, .ref (ga 0))] := hl
  have inX5 : ∀ w ∈ wsX50, w ∈ wsX5_takeFigures := by decide +kernel
  have k1 := hts (.fieldLink RX5 41 "FriezeFolk$Reader" "number" "I") (by decide +kernel)
  have k2 := hts (.fieldLink RX5 38 "FriezeFolk$Reader" "stop" "I") (by decide +kernel)
  have k3 := hts (.fieldLink RX5 22 "FriezeFolk$Reader" "size" "I") (by decide +kernel)
  have k4 := hts (.fieldLink RX5 35 "FriezeFolk$Reader" "start" "I") (by decide +kernel)
  have k5 := hts (.fieldLink RX5 32 "FriezeFolk$Reader" "token" "I") (by decide +kernel)
  unfold mX5_takeFigures at hm
  refine lv_aload_n hx hb dX5_takeFigures_0 rfl (lv_at hl 0 rfl) ?_
  refine lv_iconst (v := (0 : Int32)) hx hb dX5_takeFigures_1 (by decide) ?_
  refine xput (ref := "FriezeFolk$Reader") (C := RX5) (T := TX5) (N := 10) (ci := 5) (v := .int (0 : Int32)) (ty := .int) hx hb hts inX5 tyX5 tyX5_ok nmX5 hown hK hP hD hS 0 rfl rfl 8 (by decide) k1 rfl rfl (by decide +kernel) rfl rfl (Nat.le_of_ble_eq_true rfl) dX5_takeFigures_2 (wn := (cR ca gh ga (sI g 8 (0 : Int32)))) rfl (fun H locs hP hD hS => ?_)
  obtain ⟨e13, w15, h16⟩ := obn hm
  clear hm
  have AF13 : ∀ (ls : Array Slot) (H : Heap) (locs : List Loc), lv_has ls 1 [(0, .ref (ga 0))] → va_P D vwCl (cR ca gh ga e13) H → va_D A (cR ca gh ga e13) → va_S A s.heap H locs → W p l e rmX5_takeFigures s m ([.ref (ga 0)] : List Value).toArray below meth c H locs 0 0 Z (F0 m 66 ls []) := by
    intro ls H locs hl hP hD hS
    refine lv_aload_n hx hb dX5_takeFigures_66 rfl (lv_at hl 0 rfl) ?_
    refine lv_aload_n hx hb dX5_takeFigures_67 rfl (lv_at hl 0 rfl) ?_
    refine xget (ref := "FriezeFolk$Reader") (C := RX5) (T := TX5) (N := 10) (ci := 5) (v := .int (e13.2 7)) hx hb hts inX5 hown hK hP 0 rfl rfl 7 (by decide) k2 rfl rfl dX5_takeFigures_68 ?_
    refine lv_aload_n hx hb dX5_takeFigures_71 rfl (lv_at hl 0 rfl) ?_
    refine xget (ref := "FriezeFolk$Reader") (C := RX5) (T := TX5) (N := 10) (ci := 5) (v := .int (e13.2 6)) hx hb hts inX5 hown hK hP 0 rfl rfl 6 (by decide) k4 rfl rfl dX5_takeFigures_72 ?_
    refine lv_isub hx hb dX5_takeFigures_75 ?_
    refine lv_iconst (v := (2 : Int32)) hx hb dX5_takeFigures_76 (by decide) ?_
    refine lv_icmp_gt (tgt := 84) hx hb dX5_takeFigures_77 (by decide) (fun c14 => ?_) (fun c14 => ?_)
    · skip
      replace h16 := (if_pos c14).symm.trans h16
      refine lv_iconst (v := (4 : Int32)) hx hb dX5_takeFigures_84 (by decide) ?_
      refine xput (ref := "FriezeFolk$Reader") (C := RX5) (T := TX5) (N := 10) (ci := 5) (v := .int (4 : Int32)) (ty := .int) hx hb hts inX5 tyX5 tyX5_ok nmX5 hown hK hP hD hS 0 rfl rfl 5 (by decide) k5 rfl rfl (by decide +kernel) rfl rfl (Nat.le_of_ble_eq_true rfl) dX5_takeFigures_85 (wn := (cR ca gh ga (sI e13 5 (4 : Int32)))) rfl (fun H locs hP hD hS => ?_)
      obtain rfl := Option.some.inj h16
      exact hret _ _ _ _ hP hD hS dX5_takeFigures_88
    · skip
      replace h16 := (if_neg c14).symm.trans h16
      refine lv_iconst (v := (2 : Int32)) hx hb dX5_takeFigures_80 (by decide) ?_
      refine lv_goto (tgt := 85) hx hb dX5_takeFigures_81 (by decide) ?_
      refine xput (ref := "FriezeFolk$Reader") (C := RX5) (T := TX5) (N := 10) (ci := 5) (v := .int (2 : Int32)) (ty := .int) hx hb hts inX5 tyX5 tyX5_ok nmX5 hown hK hP hD hS 0 rfl rfl 5 (by decide) k5 rfl rfl (by decide +kernel) rfl rfl (Nat.le_of_ble_eq_true rfl) dX5_takeFigures_85 (wn := (cR ca gh ga (sI e13 5 (2 : Int32)))) rfl (fun H locs hP hD hS => ?_)
      obtain rfl := Option.some.inj h16
      exact hret _ _ _ _ hP hD hS dX5_takeFigures_88
  refine whO_walk (I := fun s7 => ∀ (ls : Array Slot) (H : Heap) (locs : List Loc), lv_has ls 1 [(0, .ref (ga 0))] → va_P D vwCl (cR ca gh ga s7) H → va_D A (cR ca gh ga s7) → va_S A s.heap H locs → W p l e rmX5_takeFigures s m ([.ref (ga 0)] : List Value).toArray below meth c H locs 0 0 Z (F0 m 5 ls [])) ?_ _ _ w15 _ _ _ (lv_sub hl [0] rfl) hP hD hS
  clear w15
  intro s7 o13 h17 hi13 ho13 ls H locs hl hP hD hS
  unfold mX5_takeFigures_l5 at h17
  refine lv_aload_n hx hb dX5_takeFigures_5 rfl (lv_at hl 0 rfl) ?_
  refine xget (ref := "FriezeFolk$Reader") (C := RX5) (T := TX5) (N := 10) (ci := 5) (v := .int (s7.2 7)) hx hb hts inX5 hown hK hP 0 rfl rfl 7 (by decide) k2 rfl rfl dX5_takeFigures_6 ?_
  refine lv_aload_n hx hb dX5_takeFigures_9 rfl (lv_at hl 0 rfl) ?_
  refine xget (ref := "FriezeFolk$Reader") (C := RX5) (T := TX5) (N := 10) (ci := 5) (v := .int (s7.2 2)) hx hb hts inX5 hown hK hP 0 rfl rfl 2 (by decide) k3 rfl rfl dX5_takeFigures_10 ?_
  refine lv_icmp_ge (tgt := 66) hx hb dX5_takeFigures_13 (by decide) (fun c8 => ?_) (fun c8 => ?_)
  · skip
    replace h17 := (if_pos c8).symm.trans h17
    have h18 := ho13 _ (Option.some.inj h17).symm
    subst h18
    exact AF13 _ _ _ (lv_sub hl [0] rfl) hP hD hS
  · skip
    replace h17 := (if_neg c8).symm.trans h17
    refine lv_aload_n hx hb dX5_takeFigures_16 rfl (lv_at hl 0 rfl) ?_
    refine lv_aload_n hx hb dX5_takeFigures_17 rfl (lv_at hl 0 rfl) ?_
    refine xget (ref := "FriezeFolk$Reader") (C := RX5) (T := TX5) (N := 10) (ci := 5) (v := .int (s7.2 7)) hx hb hts inX5 hown hK hP 0 rfl rfl 7 (by decide) k2 rfl rfl dX5_takeFigures_18 ?_
    obtain ⟨v9, q9, h19⟩ := obn h17
    clear h17
    refine xVi (As := [.int (s7.2 7)]) (ci := 5) ⟨hx, hb, hml, hown, hts⟩ (k_X5_byteAt l D ca gh ga s7 (s7.2 7) _ q9) (cwV 1 hts gX5_takeFigures_X5_byteAt rfl rfl rfl (by decide +kernel) ⟨Nat.le_of_ble_eq_true rfl, Nat.le_of_ble_eq_true rfl⟩) hK hA hP hD hS dX5_takeFigures_21 rfl hl.1 [0, 1] [] [0, 1] rfl rfl (wr := []) rfl rfl (by decide) (wn := (cR ca gh ga s7)) rfl rfl rfl rfl rfl rfl (Nat.le_of_ble_eq_true rfl) (fun H locs hP hD hS => ?_)
    obtain ⟨v10, q10, h20⟩ := obn h19
    clear h19
    refine xSi (As := [.int v9]) ⟨hx, hb, hml, hown, hts⟩ (k_X5_isFigure l D ca  v9 _ q10) (va_cwS 1 hts gX5_takeFigures_X5_isFigure rfl rfl rfl (by decide +kernel) ⟨Nat.le_of_ble_eq_true rfl, Nat.le_of_ble_eq_true rfl⟩) hK hA hP hD hS dX5_takeFigures_24 rfl hl.1 [] [0, 1] [0, 1] rfl rfl (wr := ((cR ca gh ga s7))) rfl rfl (by decide) (wn := (cR ca gh ga s7)) rfl rfl rfl (Nat.le_of_ble_eq_true rfl) (fun H locs hP hD hS => ?_)
    refine lv_if_eq (tgt := 66) hx hb dX5_takeFigures_27 (by decide) (fun c11 => ?_) (fun c11 => ?_)
    · skip
      replace h20 := (if_pos c11).symm.trans h20
      have h21 := ho13 _ (Option.some.inj h20).symm
      subst h21
      exact AF13 _ _ _ (lv_sub hl [0] rfl) hP hD hS
    · skip
      replace h20 := (if_neg c11).symm.trans h20
      refine lv_aload_n hx hb dX5_takeFigures_30 rfl (lv_at hl 0 rfl) ?_
      refine lv_aload_n hx hb dX5_takeFigures_31 rfl (lv_at hl 0 rfl) ?_
      refine xget (ref := "FriezeFolk$Reader") (C := RX5) (T := TX5) (N := 10) (ci := 5) (v := .int (s7.2 8)) hx hb hts inX5 hown hK hP 0 rfl rfl 8 (by decide) k1 rfl rfl dX5_takeFigures_32 ?_
      refine lv_bipush (v := (10 : Int32)) hx hb dX5_takeFigures_35 (by decide) ?_
      refine lv_imul hx hb dX5_takeFigures_37 ?_
      refine lv_aload_n hx hb dX5_takeFigures_38 rfl (lv_at hl 0 rfl) ?_
      refine lv_aload_n hx hb dX5_takeFigures_39 rfl (lv_at hl 0 rfl) ?_
      refine xget (ref := "FriezeFolk$Reader") (C := RX5) (T := TX5) (N := 10) (ci := 5) (v := .int (s7.2 7)) hx hb hts inX5 hown hK hP 0 rfl rfl 7 (by decide) k2 rfl rfl dX5_takeFigures_40 ?_
      obtain ⟨v12, q12, h22⟩ := obn h20
      clear h20
      refine xVi (As := [.int (s7.2 7)]) (ci := 5) ⟨hx, hb, hml, hown, hts⟩ (k_X5_byteAt l D ca gh ga s7 (s7.2 7) _ q12) (cwV 1 hts gX5_takeFigures_X5_byteAt rfl rfl rfl (by decide +kernel) ⟨Nat.le_of_ble_eq_true rfl, Nat.le_of_ble_eq_true rfl⟩) hK hA hP hD hS dX5_takeFigures_43 rfl hl.1 [0, 1] [] [0, 1] rfl rfl (wr := []) rfl rfl (by decide) (wn := (cR ca gh ga s7)) rfl rfl rfl rfl rfl rfl (Nat.le_of_ble_eq_true rfl) (fun H locs hP hD hS => ?_)
      refine lv_iadd hx hb dX5_takeFigures_46 ?_
      refine lv_bipush (v := (48 : Int32)) hx hb dX5_takeFigures_47 (by decide) ?_
      refine lv_isub hx hb dX5_takeFigures_49 ?_
      refine xput (ref := "FriezeFolk$Reader") (C := RX5) (T := TX5) (N := 10) (ci := 5) (v := .int ((((s7.2 8) * (10 : Int32)) + v12) - (48 : Int32))) (ty := .int) hx hb hts inX5 tyX5 tyX5_ok nmX5 hown hK hP hD hS 0 rfl rfl 8 (by decide) k1 rfl rfl (by decide +kernel) rfl rfl (Nat.le_of_ble_eq_true rfl) dX5_takeFigures_50 (wn := (cR ca gh ga (sI s7 8 ((((s7.2 8) * (10 : Int32)) + v12) - (48 : Int32))))) rfl (fun H locs hP hD hS => ?_)
      refine lv_aload_n hx hb dX5_takeFigures_53 rfl (lv_at hl 0 rfl) ?_
      refine lv_dup hx hb dX5_takeFigures_54 rfl ?_
      refine xget (ref := "FriezeFolk$Reader") (C := RX5) (T := TX5) (N := 10) (ci := 5) (v := .int ((sI s7 8 ((((s7.2 8) * (10 : Int32)) + v12) - (48 : Int32))).2 7)) hx hb hts inX5 hown hK hP 0 rfl rfl 7 (by decide) k2 rfl rfl dX5_takeFigures_55 ?_
      refine lv_iconst (v := (1 : Int32)) hx hb dX5_takeFigures_58 (by decide) ?_
      refine lv_iadd hx hb dX5_takeFigures_59 ?_
      refine xput (ref := "FriezeFolk$Reader") (C := RX5) (T := TX5) (N := 10) (ci := 5) (v := .int (((sI s7 8 ((((s7.2 8) * (10 : Int32)) + v12) - (48 : Int32))).2 7) + (1 : Int32))) (ty := .int) hx hb hts inX5 tyX5 tyX5_ok nmX5 hown hK hP hD hS 0 rfl rfl 7 (by decide) k2 rfl rfl (by decide +kernel) rfl rfl (Nat.le_of_ble_eq_true rfl) dX5_takeFigures_60 (wn := (cR ca gh ga (sI (sI s7 8 ((((s7.2 8) * (10 : Int32)) + v12) - (48 : Int32))) 7 (((sI s7 8 ((((s7.2 8) * (10 : Int32)) + v12) - (48 : Int32))).2 7) + (1 : Int32))))) rfl (fun H locs hP hD hS => ?_)
      refine lv_goto (tgt := 5) hx hb dX5_takeFigures_63 (by decide) ?_
      exact hi13 _ (Option.some.inj h22).symm _ _ _ (lv_sub hl [0] rfl) hP hD hS
def mX5_nextToken_l8 (s5 : GS) : Option ((GS) ⊕ (GS)) :=
  if (s5.2 2) ≤ (s5.2 6) then
    some (.inr s5)
  else
    Option.bind (mX5_byteAt s5 (s5.2 6)) fun v7 =>
    if v7 = (32 : Int32) then
      some (.inl (sI s5 6 ((s5.2 6) + (1 : Int32))))
    else
      some (.inr s5)

def mX5_nextToken (g : GS) : Option (GS) :=
  Option.bind (whO (mX5_nextToken_l8) FU (sI g 6 (g.2 7))) fun e9 =>
  if ((sI e9 7 (e9.2 6)).2 6) < ((sI e9 7 (e9.2 6)).2 2) then
    Option.bind (mX5_byteAt (sI e9 7 (e9.2 6)) ((sI e9 7 (e9.2 6)).2 6)) fun v11 =>
    Option.bind (mX5_isLetter v11) fun v12 =>
    if v12 = 0 then
      Option.bind (mX5_byteAt (sI e9 7 (e9.2 6)) ((sI e9 7 (e9.2 6)).2 6)) fun v14 =>
      Option.bind (mX5_isFigure v14) fun v15 =>
      if v15 = 0 then
        Option.bind (mX5_byteAt (sI e9 7 (e9.2 6)) ((sI e9 7 (e9.2 6)).2 6)) fun v17 =>
        Option.bind (
          if v17 = (59 : Int32) then
            some (3 : Int32)
          else
            some (4 : Int32)) fun (v19 : Int32) =>
        some (sI (sI (sI e9 7 (e9.2 6)) 5 v19) 7 (((sI (sI e9 7 (e9.2 6)) 5 v19).2 6) + (1 : Int32)))
      else
        Option.bind (mX5_takeFigures (sI e9 7 (e9.2 6))) fun v20 =>
        some v20
    else
      Option.bind (mX5_takeLetters (sI e9 7 (e9.2 6))) fun v21 =>
      some v21
  else
    some (sI (sI e9 7 (e9.2 6)) 5 (0 : Int32))
abbrev rmX5_nextToken : Room := { frames := 2, cells := 0, slots := 0, locals := 41 }
set_option maxHeartbeats 4000000 in
set_option maxRecDepth 100000 in
theorem k_X5_nextToken (l : Launch) (D : va_G) (ca : Nat → ClassId) (gh : Nat) (ga : Nat → Nat) (g : GS) (o : GS) (hm : mX5_nextToken g = some o) : KV l yX5_nextToken wsX5_nextToken rmX5_nextToken D ca [.ref (ga 0)] (cR ca gh ga g) (cR ca gh ga o) := by
  refine KV.of (cc := cX5_nextToken) (n := 1) (plainFor_of_name (by decide)) rfl (Nat.le_of_ble_eq_true rfl) ?_
  intro p e s m below meth c A Z hx hb hml hts hown hA hK hP hD hS hret ls hl
  have hown : s.vm.findClass RX5 = some m.cls := hown
  have hl : lv_has ls 1 [(0, .ref (ga 0))] := hl
  have inX5 : ∀ w ∈ wsX50, w ∈ wsX5_nextToken := by decide +kernel
  have k1 := hts (.fieldLink RX5 38 "FriezeFolk$Reader" "stop" "I") (by decide +kernel)
  have k2 := hts (.fieldLink RX5 35 "FriezeFolk$Reader" "start" "I") (by decide +kernel)
  have k3 := hts (.fieldLink RX5 22 "FriezeFolk$Reader" "size" "I") (by decide +kernel)
  have k4 := hts (.fieldLink RX5 32 "FriezeFolk$Reader" "token" "I") (by decide +kernel)
  unfold mX5_nextToken at hm
  refine lv_aload_n hx hb dX5_nextToken_0 rfl (lv_at hl 0 rfl) ?_
  refine lv_aload_n hx hb dX5_nextToken_1 rfl (lv_at hl 0 rfl) ?_
  refine xget (ref := "FriezeFolk$Reader") (C := RX5) (T := TX5) (N := 10) (ci := 5) (v := .int (g.2 7)) hx hb hts inX5 hown hK hP 0 rfl rfl 7 (by decide) k1 rfl rfl dX5_nextToken_2 ?_
  refine xput (ref := "FriezeFolk$Reader") (C := RX5) (T := TX5) (N := 10) (ci := 5) (v := .int (g.2 7)) (ty := .int) hx hb hts inX5 tyX5 tyX5_ok nmX5 hown hK hP hD hS 0 rfl rfl 6 (by decide) k2 rfl rfl (by decide +kernel) rfl rfl (Nat.le_of_ble_eq_true rfl) dX5_nextToken_5 (wn := (cR ca gh ga (sI g 6 (g.2 7)))) rfl (fun H locs hP hD hS => ?_)
  obtain ⟨e9, w22, h23⟩ := obn hm
  clear hm
  have AF9 : ∀ (ls : Array Slot) (H : Heap) (locs : List Loc), lv_has ls 1 [(0, .ref (ga 0))] → va_P D vwCl (cR ca gh ga e9) H → va_D A (cR ca gh ga e9) → va_S A s.heap H locs → W p l e rmX5_nextToken s m ([.ref (ga 0)] : List Value).toArray below meth c H locs 0 0 Z (F0 m 45 ls []) := by
    intro ls H locs hl hP hD hS
    refine lv_aload_n hx hb dX5_nextToken_45 rfl (lv_at hl 0 rfl) ?_
    refine lv_aload_n hx hb dX5_nextToken_46 rfl (lv_at hl 0 rfl) ?_
    refine xget (ref := "FriezeFolk$Reader") (C := RX5) (T := TX5) (N := 10) (ci := 5) (v := .int (e9.2 6)) hx hb hts inX5 hown hK hP 0 rfl rfl 6 (by decide) k2 rfl rfl dX5_nextToken_47 ?_
    refine xput (ref := "FriezeFolk$Reader") (C := RX5) (T := TX5) (N := 10) (ci := 5) (v := .int (e9.2 6)) (ty := .int) hx hb hts inX5 tyX5 tyX5_ok nmX5 hown hK hP hD hS 0 rfl rfl 7 (by decide) k1 rfl rfl (by decide +kernel) rfl rfl (Nat.le_of_ble_eq_true rfl) dX5_nextToken_50 (wn := (cR ca gh ga (sI e9 7 (e9.2 6)))) rfl (fun H locs hP hD hS => ?_)
    refine lv_aload_n hx hb dX5_nextToken_53 rfl (lv_at hl 0 rfl) ?_
    refine xget (ref := "FriezeFolk$Reader") (C := RX5) (T := TX5) (N := 10) (ci := 5) (v := .int ((sI e9 7 (e9.2 6)).2 6)) hx hb hts inX5 hown hK hP 0 rfl rfl 6 (by decide) k2 rfl rfl dX5_nextToken_54 ?_
    refine lv_aload_n hx hb dX5_nextToken_57 rfl (lv_at hl 0 rfl) ?_
    refine xget (ref := "FriezeFolk$Reader") (C := RX5) (T := TX5) (N := 10) (ci := 5) (v := .int ((sI e9 7 (e9.2 6)).2 2)) hx hb hts inX5 hown hK hP 0 rfl rfl 2 (by decide) k3 rfl rfl dX5_nextToken_58 ?_
    refine lv_icmp_lt (tgt := 72) hx hb dX5_nextToken_61 (by decide) (fun c10 => ?_) (fun c10 => ?_)
    · skip
      replace h23 := (if_pos c10).symm.trans h23
      refine lv_aload_n hx hb dX5_nextToken_72 rfl (lv_at hl 0 rfl) ?_
      refine lv_aload_n hx hb dX5_nextToken_73 rfl (lv_at hl 0 rfl) ?_
      refine xget (ref := "FriezeFolk$Reader") (C := RX5) (T := TX5) (N := 10) (ci := 5) (v := .int ((sI e9 7 (e9.2 6)).2 6)) hx hb hts inX5 hown hK hP 0 rfl rfl 6 (by decide) k2 rfl rfl dX5_nextToken_74 ?_
      obtain ⟨v11, q11, h24⟩ := obn h23
      clear h23
      refine xVi (As := [.int ((sI e9 7 (e9.2 6)).2 6)]) (ci := 5) ⟨hx, hb, hml, hown, hts⟩ (k_X5_byteAt l D ca gh ga (sI e9 7 (e9.2 6)) ((sI e9 7 (e9.2 6)).2 6) _ q11) (cwV 1 hts gX5_nextToken_X5_byteAt rfl rfl rfl (by decide +kernel) ⟨Nat.le_of_ble_eq_true rfl, Nat.le_of_ble_eq_true rfl⟩) hK hA hP hD hS dX5_nextToken_77 rfl hl.1 [0, 1] [] [0, 1] rfl rfl (wr := []) rfl rfl (by decide) (wn := (cR ca gh ga (sI e9 7 (e9.2 6)))) rfl rfl rfl rfl rfl rfl (Nat.le_of_ble_eq_true rfl) (fun H locs hP hD hS => ?_)
      obtain ⟨v12, q12, h25⟩ := obn h24
      clear h24
      refine xSi (As := [.int v11]) ⟨hx, hb, hml, hown, hts⟩ (k_X5_isLetter l D ca  v11 _ q12) (va_cwS 1 hts gX5_nextToken_X5_isLetter rfl rfl rfl (by decide +kernel) ⟨Nat.le_of_ble_eq_true rfl, Nat.le_of_ble_eq_true rfl⟩) hK hA hP hD hS dX5_nextToken_80 rfl hl.1 [] [0, 1] [0, 1] rfl rfl (wr := ((cR ca gh ga (sI e9 7 (e9.2 6))))) rfl rfl (by decide) (wn := (cR ca gh ga (sI e9 7 (e9.2 6)))) rfl rfl rfl (Nat.le_of_ble_eq_true rfl) (fun H locs hP hD hS => ?_)
      refine lv_if_eq (tgt := 93) hx hb dX5_nextToken_83 (by decide) (fun c13 => ?_) (fun c13 => ?_)
      · skip
        replace h25 := (if_pos c13).symm.trans h25
        refine lv_aload_n hx hb dX5_nextToken_93 rfl (lv_at hl 0 rfl) ?_
        refine lv_aload_n hx hb dX5_nextToken_94 rfl (lv_at hl 0 rfl) ?_
        refine xget (ref := "FriezeFolk$Reader") (C := RX5) (T := TX5) (N := 10) (ci := 5) (v := .int ((sI e9 7 (e9.2 6)).2 6)) hx hb hts inX5 hown hK hP 0 rfl rfl 6 (by decide) k2 rfl rfl dX5_nextToken_95 ?_
        obtain ⟨v14, q14, h26⟩ := obn h25
        clear h25
        refine xVi (As := [.int ((sI e9 7 (e9.2 6)).2 6)]) (ci := 5) ⟨hx, hb, hml, hown, hts⟩ (k_X5_byteAt l D ca gh ga (sI e9 7 (e9.2 6)) ((sI e9 7 (e9.2 6)).2 6) _ q14) (cwV 1 hts gX5_nextToken_X5_byteAt rfl rfl rfl (by decide +kernel) ⟨Nat.le_of_ble_eq_true rfl, Nat.le_of_ble_eq_true rfl⟩) hK hA hP hD hS dX5_nextToken_98 rfl hl.1 [0, 1] [] [0, 1] rfl rfl (wr := []) rfl rfl (by decide) (wn := (cR ca gh ga (sI e9 7 (e9.2 6)))) rfl rfl rfl rfl rfl rfl (Nat.le_of_ble_eq_true rfl) (fun H locs hP hD hS => ?_)
        obtain ⟨v15, q15, h27⟩ := obn h26
        clear h26
        refine xSi (As := [.int v14]) ⟨hx, hb, hml, hown, hts⟩ (k_X5_isFigure l D ca  v14 _ q15) (va_cwS 1 hts gX5_nextToken_X5_isFigure rfl rfl rfl (by decide +kernel) ⟨Nat.le_of_ble_eq_true rfl, Nat.le_of_ble_eq_true rfl⟩) hK hA hP hD hS dX5_nextToken_101 rfl hl.1 [] [0, 1] [0, 1] rfl rfl (wr := ((cR ca gh ga (sI e9 7 (e9.2 6))))) rfl rfl (by decide) (wn := (cR ca gh ga (sI e9 7 (e9.2 6)))) rfl rfl rfl (Nat.le_of_ble_eq_true rfl) (fun H locs hP hD hS => ?_)
        refine lv_if_eq (tgt := 114) hx hb dX5_nextToken_104 (by decide) (fun c16 => ?_) (fun c16 => ?_)
        · skip
          replace h27 := (if_pos c16).symm.trans h27
          refine lv_aload_n hx hb dX5_nextToken_114 rfl (lv_at hl 0 rfl) ?_
          refine lv_aload_n hx hb dX5_nextToken_115 rfl (lv_at hl 0 rfl) ?_
          refine lv_aload_n hx hb dX5_nextToken_116 rfl (lv_at hl 0 rfl) ?_
          refine xget (ref := "FriezeFolk$Reader") (C := RX5) (T := TX5) (N := 10) (ci := 5) (v := .int ((sI e9 7 (e9.2 6)).2 6)) hx hb hts inX5 hown hK hP 0 rfl rfl 6 (by decide) k2 rfl rfl dX5_nextToken_117 ?_
          obtain ⟨v17, q17, h28⟩ := obn h27
          clear h27
          refine xVi (As := [.int ((sI e9 7 (e9.2 6)).2 6)]) (ci := 5) ⟨hx, hb, hml, hown, hts⟩ (k_X5_byteAt l D ca gh ga (sI e9 7 (e9.2 6)) ((sI e9 7 (e9.2 6)).2 6) _ q17) (cwV 1 hts gX5_nextToken_X5_byteAt rfl rfl rfl (by decide +kernel) ⟨Nat.le_of_ble_eq_true rfl, Nat.le_of_ble_eq_true rfl⟩) hK hA hP hD hS dX5_nextToken_120 rfl hl.1 [0, 1] [] [0, 1] rfl rfl (wr := []) rfl rfl (by decide) (wn := (cR ca gh ga (sI e9 7 (e9.2 6)))) rfl rfl rfl rfl rfl rfl (Nat.le_of_ble_eq_true rfl) (fun H locs hP hD hS => ?_)
          refine lv_bipush (v := (59 : Int32)) hx hb dX5_nextToken_123 (by decide) ?_
          obtain ⟨v19, q29, h30⟩ := obn h28
          clear h28
          have J19 : ∀ (ls : Array Slot) (H : Heap) (locs : List Loc), lv_has ls 1 [(0, .ref (ga 0))] → va_P D vwCl (cR ca gh ga (sI e9 7 (e9.2 6))) H → va_D A (cR ca gh ga (sI e9 7 (e9.2 6))) → va_S A s.heap H locs → W p l e rmX5_nextToken s m ([.ref (ga 0)] : List Value).toArray below meth c H locs 0 0 Z (F0 m 133 ls [.int v19, .ref (ga 0)]) := by
            intro ls H locs hl hP hD hS
            refine xput (ref := "FriezeFolk$Reader") (C := RX5) (T := TX5) (N := 10) (ci := 5) (v := .int v19) (ty := .int) hx hb hts inX5 tyX5 tyX5_ok nmX5 hown hK hP hD hS 0 rfl rfl 5 (by decide) k4 rfl rfl (by decide +kernel) rfl rfl (Nat.le_of_ble_eq_true rfl) dX5_nextToken_133 (wn := (cR ca gh ga (sI (sI e9 7 (e9.2 6)) 5 v19))) rfl (fun H locs hP hD hS => ?_)
            refine lv_aload_n hx hb dX5_nextToken_136 rfl (lv_at hl 0 rfl) ?_
            refine lv_aload_n hx hb dX5_nextToken_137 rfl (lv_at hl 0 rfl) ?_
            refine xget (ref := "FriezeFolk$Reader") (C := RX5) (T := TX5) (N := 10) (ci := 5) (v := .int ((sI (sI e9 7 (e9.2 6)) 5 v19).2 6)) hx hb hts inX5 hown hK hP 0 rfl rfl 6 (by decide) k2 rfl rfl dX5_nextToken_138 ?_
            refine lv_iconst (v := (1 : Int32)) hx hb dX5_nextToken_141 (by decide) ?_
            refine lv_iadd hx hb dX5_nextToken_142 ?_
            refine xput (ref := "FriezeFolk$Reader") (C := RX5) (T := TX5) (N := 10) (ci := 5) (v := .int (((sI (sI e9 7 (e9.2 6)) 5 v19).2 6) + (1 : Int32))) (ty := .int) hx hb hts inX5 tyX5 tyX5_ok nmX5 hown hK hP hD hS 0 rfl rfl 7 (by decide) k1 rfl rfl (by decide +kernel) rfl rfl (Nat.le_of_ble_eq_true rfl) dX5_nextToken_143 (wn := (cR ca gh ga (sI (sI (sI e9 7 (e9.2 6)) 5 v19) 7 (((sI (sI e9 7 (e9.2 6)) 5 v19).2 6) + (1 : Int32))))) rfl (fun H locs hP hD hS => ?_)
            obtain rfl := Option.some.inj h30
            exact hret _ _ _ _ hP hD hS dX5_nextToken_146
          refine lv_icmp_ne (tgt := 132) hx hb dX5_nextToken_125 (by decide) (fun c18 => ?_) (fun c18 => ?_)
          · skip
            replace q29 := (if_neg c18).symm.trans q29
            refine lv_iconst (v := (4 : Int32)) hx hb dX5_nextToken_132 (by decide) ?_
            obtain rfl := Option.some.inj q29
            exact J19 _ _ _ (lv_sub hl [0] rfl) hP hD hS
          · skip
            replace q29 := (if_pos c18).symm.trans q29
            refine lv_iconst (v := (3 : Int32)) hx hb dX5_nextToken_128 (by decide) ?_
            refine lv_goto (tgt := 133) hx hb dX5_nextToken_129 (by decide) ?_
            obtain rfl := Option.some.inj q29
            exact J19 _ _ _ (lv_sub hl [0] rfl) hP hD hS
        · skip
          replace h27 := (if_neg c16).symm.trans h27
          refine lv_aload_n hx hb dX5_nextToken_107 rfl (lv_at hl 0 rfl) ?_
          obtain ⟨v20, q20, h31⟩ := obn h27
          clear h27
          refine xVv (As := []) (ci := 5) ⟨hx, hb, hml, hown, hts⟩ (k_X5_takeFigures l D ca gh ga (sI e9 7 (e9.2 6)) _ q20) (cwV 0 hts gX5_nextToken_X5_takeFigures rfl rfl rfl (by decide +kernel) ⟨Nat.le_of_ble_eq_true rfl, Nat.le_of_ble_eq_true rfl⟩) hK hA hP hD hS dX5_nextToken_108 rfl hl.1 [0, 1] [] [0, 1] rfl rfl (wr := []) rfl rfl (by decide) (wn := (cR ca gh ga v20)) rfl rfl rfl rfl rfl rfl (Nat.le_of_ble_eq_true rfl) (fun H locs hP hD hS => ?_)
          refine lv_goto (tgt := 146) hx hb dX5_nextToken_111 (by decide) ?_
          obtain rfl := Option.some.inj h31
          exact hret _ _ _ _ hP hD hS dX5_nextToken_146
      · skip
        replace h25 := (if_neg c13).symm.trans h25
        refine lv_aload_n hx hb dX5_nextToken_86 rfl (lv_at hl 0 rfl) ?_
        obtain ⟨v21, q21, h32⟩ := obn h25
        clear h25
        refine xVv (As := []) (ci := 5) ⟨hx, hb, hml, hown, hts⟩ (k_X5_takeLetters l D ca gh ga (sI e9 7 (e9.2 6)) _ q21) (cwV 0 hts gX5_nextToken_X5_takeLetters rfl rfl rfl (by decide +kernel) ⟨Nat.le_of_ble_eq_true rfl, Nat.le_of_ble_eq_true rfl⟩) hK hA hP hD hS dX5_nextToken_87 rfl hl.1 [0, 1] [] [0, 1] rfl rfl (wr := []) rfl rfl (by decide) (wn := (cR ca gh ga v21)) rfl rfl rfl rfl rfl rfl (Nat.le_of_ble_eq_true rfl) (fun H locs hP hD hS => ?_)
        refine lv_goto (tgt := 146) hx hb dX5_nextToken_90 (by decide) ?_
        obtain rfl := Option.some.inj h32
        exact hret _ _ _ _ hP hD hS dX5_nextToken_146
    · skip
      replace h23 := (if_neg c10).symm.trans h23
      refine lv_aload_n hx hb dX5_nextToken_64 rfl (lv_at hl 0 rfl) ?_
      refine lv_iconst (v := (0 : Int32)) hx hb dX5_nextToken_65 (by decide) ?_
      refine xput (ref := "FriezeFolk$Reader") (C := RX5) (T := TX5) (N := 10) (ci := 5) (v := .int (0 : Int32)) (ty := .int) hx hb hts inX5 tyX5 tyX5_ok nmX5 hown hK hP hD hS 0 rfl rfl 5 (by decide) k4 rfl rfl (by decide +kernel) rfl rfl (Nat.le_of_ble_eq_true rfl) dX5_nextToken_66 (wn := (cR ca gh ga (sI (sI e9 7 (e9.2 6)) 5 (0 : Int32)))) rfl (fun H locs hP hD hS => ?_)
      refine lv_goto (tgt := 146) hx hb dX5_nextToken_69 (by decide) ?_
      obtain rfl := Option.some.inj h23
      exact hret _ _ _ _ hP hD hS dX5_nextToken_146
  refine whO_walk (I := fun s5 => ∀ (ls : Array Slot) (H : Heap) (locs : List Loc), lv_has ls 1 [(0, .ref (ga 0))] → va_P D vwCl (cR ca gh ga s5) H → va_D A (cR ca gh ga s5) → va_S A s.heap H locs → W p l e rmX5_nextToken s m ([.ref (ga 0)] : List Value).toArray below meth c H locs 0 0 Z (F0 m 8 ls [])) ?_ _ _ w22 _ _ _ (lv_sub hl [0] rfl) hP hD hS
  clear w22
  intro s5 o9 h33 hi9 ho9 ls H locs hl hP hD hS
  unfold mX5_nextToken_l8 at h33
  refine lv_aload_n hx hb dX5_nextToken_8 rfl (lv_at hl 0 rfl) ?_
  refine xget (ref := "FriezeFolk$Reader") (C := RX5) (T := TX5) (N := 10) (ci := 5) (v := .int (s5.2 6)) hx hb hts inX5 hown hK hP 0 rfl rfl 6 (by decide) k2 rfl rfl dX5_nextToken_9 ?_
  refine lv_aload_n hx hb dX5_nextToken_12 rfl (lv_at hl 0 rfl) ?_
  refine xget (ref := "FriezeFolk$Reader") (C := RX5) (T := TX5) (N := 10) (ci := 5) (v := .int (s5.2 2)) hx hb hts inX5 hown hK hP 0 rfl rfl 2 (by decide) k3 rfl rfl dX5_nextToken_13 ?_
  refine lv_icmp_ge (tgt := 45) hx hb dX5_nextToken_16 (by decide) (fun c6 => ?_) (fun c6 => ?_)
  · skip
    replace h33 := (if_pos c6).symm.trans h33
    have h34 := ho9 _ (Option.some.inj h33).symm
    subst h34
    exact AF9 _ _ _ (lv_sub hl [0] rfl) hP hD hS
  · skip
    replace h33 := (if_neg c6).symm.trans h33
    refine lv_aload_n hx hb dX5_nextToken_19 rfl (lv_at hl 0 rfl) ?_
    refine lv_aload_n hx hb dX5_nextToken_20 rfl (lv_at hl 0 rfl) ?_
    refine xget (ref := "FriezeFolk$Reader") (C := RX5) (T := TX5) (N := 10) (ci := 5) (v := .int (s5.2 6)) hx hb hts inX5 hown hK hP 0 rfl rfl 6 (by decide) k2 rfl rfl dX5_nextToken_21 ?_
    obtain ⟨v7, q7, h35⟩ := obn h33
    clear h33
    refine xVi (As := [.int (s5.2 6)]) (ci := 5) ⟨hx, hb, hml, hown, hts⟩ (k_X5_byteAt l D ca gh ga s5 (s5.2 6) _ q7) (cwV 1 hts gX5_nextToken_X5_byteAt rfl rfl rfl (by decide +kernel) ⟨Nat.le_of_ble_eq_true rfl, Nat.le_of_ble_eq_true rfl⟩) hK hA hP hD hS dX5_nextToken_24 rfl hl.1 [0, 1] [] [0, 1] rfl rfl (wr := []) rfl rfl (by decide) (wn := (cR ca gh ga s5)) rfl rfl rfl rfl rfl rfl (Nat.le_of_ble_eq_true rfl) (fun H locs hP hD hS => ?_)
    refine lv_bipush (v := (32 : Int32)) hx hb dX5_nextToken_27 (by decide) ?_
    refine lv_icmp_ne (tgt := 45) hx hb dX5_nextToken_29 (by decide) (fun c8 => ?_) (fun c8 => ?_)
    · skip
      replace h35 := (if_neg c8).symm.trans h35
      have h36 := ho9 _ (Option.some.inj h35).symm
      subst h36
      exact AF9 _ _ _ (lv_sub hl [0] rfl) hP hD hS
    · skip
      replace h35 := (if_pos c8).symm.trans h35
      refine lv_aload_n hx hb dX5_nextToken_32 rfl (lv_at hl 0 rfl) ?_
      refine lv_dup hx hb dX5_nextToken_33 rfl ?_
      refine xget (ref := "FriezeFolk$Reader") (C := RX5) (T := TX5) (N := 10) (ci := 5) (v := .int (s5.2 6)) hx hb hts inX5 hown hK hP 0 rfl rfl 6 (by decide) k2 rfl rfl dX5_nextToken_34 ?_
      refine lv_iconst (v := (1 : Int32)) hx hb dX5_nextToken_37 (by decide) ?_
      refine lv_iadd hx hb dX5_nextToken_38 ?_
      refine xput (ref := "FriezeFolk$Reader") (C := RX5) (T := TX5) (N := 10) (ci := 5) (v := .int ((s5.2 6) + (1 : Int32))) (ty := .int) hx hb hts inX5 tyX5 tyX5_ok nmX5 hown hK hP hD hS 0 rfl rfl 6 (by decide) k2 rfl rfl (by decide +kernel) rfl rfl (Nat.le_of_ble_eq_true rfl) dX5_nextToken_39 (wn := (cR ca gh ga (sI s5 6 ((s5.2 6) + (1 : Int32))))) rfl (fun H locs hP hD hS => ?_)
      refine lv_goto (tgt := 8) hx hb dX5_nextToken_42 (by decide) ?_
      exact hi9 _ (Option.some.inj h35).symm _ _ _ (lv_sub hl [0] rfl) hP hD hS

def mX5_refuse (g : GS) (n : Int32) : Option (Int32 × GS) :=
  Option.bind (
    if (g.2 5) = (4 : Int32) then
      some (1 : Int32)
    else
      some n) fun (v2 : Int32) =>
  some ((0 : Int32), (sI (sI g 3 v2) 4 ((sI g 3 v2).2 6)))
abbrev rmX5_refuse : Room := { frames := 0, cells := 0, slots := 0, locals := 0 }
set_option maxHeartbeats 4000000 in
set_option maxRecDepth 100000 in
theorem k_X5_refuse (l : Launch) (D : va_G) (ca : Nat → ClassId) (gh : Nat) (ga : Nat → Nat) (g : GS) (n : Int32) (o : Int32 × GS) (hm : mX5_refuse g n = some o) : KI l yX5_refuse wsX5_refuse rmX5_refuse D ca [.ref (ga 0), .int n] (cR ca gh ga g) (cR ca gh ga o.2) o.1 := by
  refine KI.of (cc := cX5_refuse) (n := 2) (plainFor_of_name (by decide)) rfl (Nat.le_of_ble_eq_true rfl) ?_
  intro p e s m below meth c A Z hx hb hml hts hown hA hK hP hD hS hret ls hl
  have hown : s.vm.findClass RX5 = some m.cls := hown
  have hl : lv_has ls 2 [(0, .ref (ga 0)), (1, .int n)] := hl
  have inX5 : ∀ w ∈ wsX50, w ∈ wsX5_refuse := by decide +kernel
  have k1 := hts (.fieldLink RX5 32 "FriezeFolk$Reader" "token" "I") (by decide +kernel)
  have k2 := hts (.fieldLink RX5 26 "FriezeFolk$Reader" "fault" "I") (by decide +kernel)
  have k3 := hts (.fieldLink RX5 35 "FriezeFolk$Reader" "start" "I") (by decide +kernel)
  have k4 := hts (.fieldLink RX5 29 "FriezeFolk$Reader" "faultAt" "I") (by decide +kernel)
  unfold mX5_refuse at hm
  refine lv_aload_n hx hb dX5_refuse_0 rfl (lv_at hl 0 rfl) ?_
  refine lv_aload_n hx hb dX5_refuse_1 rfl (lv_at hl 0 rfl) ?_
  refine xget (ref := "FriezeFolk$Reader") (C := RX5) (T := TX5) (N := 10) (ci := 5) (v := .int (g.2 5)) hx hb hts inX5 hown hK hP 0 rfl rfl 5 (by decide) k1 rfl rfl dX5_refuse_2 ?_
  refine lv_iconst (v := (4 : Int32)) hx hb dX5_refuse_5 (by decide) ?_
  obtain ⟨v2, q3, h4⟩ := obn hm
  clear hm
  have J2 : ∀ (ls : Array Slot) (H : Heap) (locs : List Loc), lv_has ls 2 [(0, .ref (ga 0))] → va_P D vwCl (cR ca gh ga g) H → va_D A (cR ca gh ga g) → va_S A s.heap H locs → W p l e rmX5_refuse s m ([.ref (ga 0), .int n] : List Value).toArray below meth c H locs 0 0 Z (F0 m 14 ls [.int v2, .ref (ga 0)]) := by
    intro ls H locs hl hP hD hS
    refine xput (ref := "FriezeFolk$Reader") (C := RX5) (T := TX5) (N := 10) (ci := 5) (v := .int v2) (ty := .int) hx hb hts inX5 tyX5 tyX5_ok nmX5 hown hK hP hD hS 0 rfl rfl 3 (by decide) k2 rfl rfl (by decide +kernel) rfl rfl (Nat.le_of_ble_eq_true rfl) dX5_refuse_14 (wn := (cR ca gh ga (sI g 3 v2))) rfl (fun H locs hP hD hS => ?_)
    refine lv_aload_n hx hb dX5_refuse_17 rfl (lv_at hl 0 rfl) ?_
    refine lv_aload_n hx hb dX5_refuse_18 rfl (lv_at hl 0 rfl) ?_
    refine xget (ref := "FriezeFolk$Reader") (C := RX5) (T := TX5) (N := 10) (ci := 5) (v := .int ((sI g 3 v2).2 6)) hx hb hts inX5 hown hK hP 0 rfl rfl 6 (by decide) k3 rfl rfl dX5_refuse_19 ?_
    refine xput (ref := "FriezeFolk$Reader") (C := RX5) (T := TX5) (N := 10) (ci := 5) (v := .int ((sI g 3 v2).2 6)) (ty := .int) hx hb hts inX5 tyX5 tyX5_ok nmX5 hown hK hP hD hS 0 rfl rfl 4 (by decide) k4 rfl rfl (by decide +kernel) rfl rfl (Nat.le_of_ble_eq_true rfl) dX5_refuse_22 (wn := (cR ca gh ga (sI (sI g 3 v2) 4 ((sI g 3 v2).2 6)))) rfl (fun H locs hP hD hS => ?_)
    refine lv_iconst (v := (0 : Int32)) hx hb dX5_refuse_25 (by decide) ?_
    obtain rfl := Option.some.inj h4
    exact hret _ _ _ _ nar0 hP hD hS dX5_refuse_26
  refine lv_icmp_ne (tgt := 13) hx hb dX5_refuse_6 (by decide) (fun c1 => ?_) (fun c1 => ?_)
  · skip
    replace q3 := (if_neg c1).symm.trans q3
    refine lv_iload_n hx hb dX5_refuse_13 rfl (lv_at hl 1 rfl) ?_
    obtain rfl := Option.some.inj q3
    exact J2 _ _ _ (lv_sub hl [0] rfl) hP hD hS
  · skip
    replace q3 := (if_pos c1).symm.trans q3
    refine lv_iconst (v := (1 : Int32)) hx hb dX5_refuse_9 (by decide) ?_
    refine lv_goto (tgt := 14) hx hb dX5_refuse_10 (by decide) ?_
    obtain rfl := Option.some.inj q3
    exact J2 _ _ _ (lv_sub hl [0] rfl) hP hD hS

def mX5_hasTwo (n : Int32) : Option (Int32) :=
  Option.bind (
    if n = (4 : Int32) then
      some (.inl ())
    else
      if n = (5 : Int32) then
        some (.inl ())
      else
        if n = (7 : Int32) then
          some (.inl ())
        else
          some (.inr (0 : Int32))) fun (v4 : (Unit) ⊕ (Int32)) => esc v4 fun t5 =>
  some (1 : Int32)
abbrev rmX5_hasTwo : Room := { frames := 0, cells := 0, slots := 0, locals := 0 }
set_option maxHeartbeats 4000000 in
set_option maxRecDepth 100000 in
theorem k_X5_hasTwo (l : Launch) (D : va_G) (ca : Nat → ClassId) (gh : Nat) (ga : Nat → Nat) (g : GS) (n : Int32) (o : Int32) (hm : mX5_hasTwo n = some o) : KI l yX5_hasTwo wsX5_hasTwo rmX5_hasTwo D ca [.ref (ga 0), .int n] (cR ca gh ga g) (cR ca gh ga g) o := by
  refine KI.of (cc := cX5_hasTwo) (n := 2) (plainFor_of_name (by decide)) rfl (Nat.le_of_ble_eq_true rfl) ?_
  intro p e s m below meth c A Z hx hb hml hts hown hA hK hP hD hS hret ls hl
  have hown : s.vm.findClass RX5 = some m.cls := hown
  have hl : lv_has ls 2 [(0, .ref (ga 0)), (1, .int n)] := hl
  unfold mX5_hasTwo at hm
  refine lv_iload_n hx hb dX5_hasTwo_0 rfl (lv_at hl 1 rfl) ?_
  refine lv_iconst (v := (4 : Int32)) hx hb dX5_hasTwo_1 (by decide) ?_
  obtain ⟨v4, q6, h7⟩ := obn hm
  clear hm
  have J4 : ∀ t5, v4 = .inl t5 → ∀ (ls : Array Slot) (H : Heap) (locs : List Loc), lv_has ls 2 [] → va_P D vwCl (cR ca gh ga g) H → va_D A (cR ca gh ga g) → va_S A s.heap H locs → W p l e rmX5_hasTwo s m ([.ref (ga 0), .int n] : List Value).toArray below meth c H locs 0 0 Z (F0 m 16 ls []) := by
    intro t5 ht ls H locs hl hP hD hS
    subst ht
    replace h7 := (esc_l _ _).symm.trans h7
    refine lv_iconst (v := (1 : Int32)) hx hb dX5_hasTwo_16 (by decide) ?_
    refine lv_goto (tgt := 21) hx hb dX5_hasTwo_17 (by decide) ?_
    obtain rfl := Option.some.inj h7
    exact hret _ _ _ _ nar1 hP hD hS dX5_hasTwo_21
  refine lv_icmp_eq (tgt := 16) hx hb dX5_hasTwo_2 (by decide) (fun c1 => ?_) (fun c1 => ?_)
  · skip
    replace q6 := (if_pos c1).symm.trans q6
    obtain rfl := Option.some.inj q6
    exact J4 _ rfl _ _ _ (lv_sub hl [] rfl) hP hD hS
  · skip
    replace q6 := (if_neg c1).symm.trans q6
    refine lv_iload_n hx hb dX5_hasTwo_5 rfl (lv_at hl 1 rfl) ?_
    refine lv_iconst (v := (5 : Int32)) hx hb dX5_hasTwo_6 (by decide) ?_
    refine lv_icmp_eq (tgt := 16) hx hb dX5_hasTwo_7 (by decide) (fun c2 => ?_) (fun c2 => ?_)
    · skip
      replace q6 := (if_pos c2).symm.trans q6
      obtain rfl := Option.some.inj q6
      exact J4 _ rfl _ _ _ (lv_sub hl [] rfl) hP hD hS
    · skip
      replace q6 := (if_neg c2).symm.trans q6
      refine lv_iload_n hx hb dX5_hasTwo_10 rfl (lv_at hl 1 rfl) ?_
      refine lv_bipush (v := (7 : Int32)) hx hb dX5_hasTwo_11 (by decide) ?_
      refine lv_icmp_ne (tgt := 20) hx hb dX5_hasTwo_13 (by decide) (fun c3 => ?_) (fun c3 => ?_)
      · skip
        replace q6 := (if_neg c3).symm.trans q6
        refine lv_iconst (v := (0 : Int32)) hx hb dX5_hasTwo_20 (by decide) ?_
        obtain rfl := Option.some.inj q6
        replace h7 := (esc_r _ _).symm.trans h7
        obtain rfl := Option.some.inj h7
        exact hret _ _ _ _ nar0 hP hD hS dX5_hasTwo_21
      · skip
        replace q6 := (if_pos c3).symm.trans q6
        obtain rfl := Option.some.inj q6
        exact J4 _ rfl _ _ _ (lv_sub hl [] rfl) hP hD hS

def mX5_isSecond (g : GS) (n : Int32) : Option (Int32) :=
  Option.bind (
    if n = (4 : Int32) then
      some (.inl ())
    else
      if n = (5 : Int32) then
        some (.inl ())
      else
        if n = (6 : Int32) then
          some (.inl ())
        else
          some (.inr (0 : Int32))) fun (v4 : (Unit) ⊕ (Int32)) => esc v4 fun t5 =>
  if (((g.2 9) >>> (n &&& 31)) &&& (1 : Int32)) = 0 then
    some (0 : Int32)
  else
    some (1 : Int32)
abbrev rmX5_isSecond : Room := { frames := 0, cells := 0, slots := 0, locals := 0 }
set_option maxHeartbeats 4000000 in
set_option maxRecDepth 100000 in
theorem k_X5_isSecond (l : Launch) (D : va_G) (ca : Nat → ClassId) (gh : Nat) (ga : Nat → Nat) (g : GS) (n : Int32) (o : Int32) (hm : mX5_isSecond g n = some o) : KI l yX5_isSecond wsX5_isSecond rmX5_isSecond D ca [.ref (ga 0), .int n] (cR ca gh ga g) (cR ca gh ga g) o := by
  refine KI.of (cc := cX5_isSecond) (n := 2) (plainFor_of_name (by decide)) rfl (Nat.le_of_ble_eq_true rfl) ?_
  intro p e s m below meth c A Z hx hb hml hts hown hA hK hP hD hS hret ls hl
  have hown : s.vm.findClass RX5 = some m.cls := hown
  have hl : lv_has ls 2 [(0, .ref (ga 0)), (1, .int n)] := hl
  have inX5 : ∀ w ∈ wsX50, w ∈ wsX5_isSecond := by decide +kernel
  have k1 := hts (.fieldLink RX5 44 "FriezeFolk$Reader" "linesTold" "I") (by decide +kernel)
  unfold mX5_isSecond at hm
  refine lv_iload_n hx hb dX5_isSecond_0 rfl (lv_at hl 1 rfl) ?_
  refine lv_iconst (v := (4 : Int32)) hx hb dX5_isSecond_1 (by decide) ?_
  obtain ⟨v4, q7, h8⟩ := obn hm
  clear hm
  have J4 : ∀ t5, v4 = .inl t5 → ∀ (ls : Array Slot) (H : Heap) (locs : List Loc), lv_has ls 2 [(0, .ref (ga 0)), (1, .int n)] → va_P D vwCl (cR ca gh ga g) H → va_D A (cR ca gh ga g) → va_S A s.heap H locs → W p l e rmX5_isSecond s m ([.ref (ga 0), .int n] : List Value).toArray below meth c H locs 0 0 Z (F0 m 16 ls []) := by
    intro t5 ht ls H locs hl hP hD hS
    subst ht
    replace h8 := (esc_l _ _).symm.trans h8
    refine lv_aload_n hx hb dX5_isSecond_16 rfl (lv_at hl 0 rfl) ?_
    refine xget (ref := "FriezeFolk$Reader") (C := RX5) (T := TX5) (N := 10) (ci := 5) (v := .int (g.2 9)) hx hb hts inX5 hown hK hP 0 rfl rfl 9 (by decide) k1 rfl rfl dX5_isSecond_17 ?_
    refine lv_iload_n hx hb dX5_isSecond_20 rfl (lv_at hl 1 rfl) ?_
    refine lv_ishr hx hb dX5_isSecond_21 ?_
    refine lv_iconst (v := (1 : Int32)) hx hb dX5_isSecond_22 (by decide) ?_
    refine lv_iand hx hb dX5_isSecond_23 ?_
    refine lv_if_eq (tgt := 31) hx hb dX5_isSecond_24 (by decide) (fun c6 => ?_) (fun c6 => ?_)
    · skip
      replace h8 := (if_pos c6).symm.trans h8
      refine lv_iconst (v := (0 : Int32)) hx hb dX5_isSecond_31 (by decide) ?_
      obtain rfl := Option.some.inj h8
      exact hret _ _ _ _ nar0 hP hD hS dX5_isSecond_32
    · skip
      replace h8 := (if_neg c6).symm.trans h8
      refine lv_iconst (v := (1 : Int32)) hx hb dX5_isSecond_27 (by decide) ?_
      refine lv_goto (tgt := 32) hx hb dX5_isSecond_28 (by decide) ?_
      obtain rfl := Option.some.inj h8
      exact hret _ _ _ _ nar1 hP hD hS dX5_isSecond_32
  refine lv_icmp_eq (tgt := 16) hx hb dX5_isSecond_2 (by decide) (fun c1 => ?_) (fun c1 => ?_)
  · skip
    replace q7 := (if_pos c1).symm.trans q7
    obtain rfl := Option.some.inj q7
    exact J4 _ rfl _ _ _ (lv_sub hl [0, 1] rfl) hP hD hS
  · skip
    replace q7 := (if_neg c1).symm.trans q7
    refine lv_iload_n hx hb dX5_isSecond_5 rfl (lv_at hl 1 rfl) ?_
    refine lv_iconst (v := (5 : Int32)) hx hb dX5_isSecond_6 (by decide) ?_
    refine lv_icmp_eq (tgt := 16) hx hb dX5_isSecond_7 (by decide) (fun c2 => ?_) (fun c2 => ?_)
    · skip
      replace q7 := (if_pos c2).symm.trans q7
      obtain rfl := Option.some.inj q7
      exact J4 _ rfl _ _ _ (lv_sub hl [0, 1] rfl) hP hD hS
    · skip
      replace q7 := (if_neg c2).symm.trans q7
      refine lv_iload_n hx hb dX5_isSecond_10 rfl (lv_at hl 1 rfl) ?_
      refine lv_bipush (v := (6 : Int32)) hx hb dX5_isSecond_11 (by decide) ?_
      refine lv_icmp_ne (tgt := 31) hx hb dX5_isSecond_13 (by decide) (fun c3 => ?_) (fun c3 => ?_)
      · skip
        replace q7 := (if_neg c3).symm.trans q7
        refine lv_iconst (v := (0 : Int32)) hx hb dX5_isSecond_31 (by decide) ?_
        obtain rfl := Option.some.inj q7
        replace h8 := (esc_r _ _).symm.trans h8
        obtain rfl := Option.some.inj h8
        exact hret _ _ _ _ nar0 hP hD hS dX5_isSecond_32
      · skip
        replace q7 := (if_pos c3).symm.trans q7
        obtain rfl := Option.some.inj q7
        exact J4 _ rfl _ _ _ (lv_sub hl [0, 1] rfl) hP hD hS

def mX5_takeNumber (g : GS) (i : Int32) (j : Int32) : Option (Int32 × GS) :=
  Option.bind (mX5_nextToken g) fun v1 =>
  if (v1.2 5) = (2 : Int32) then
    Option.bind (
      if (v1.2 8) < i then
        Option.bind (mX5_refuse v1 (3 : Int32)) fun v4 =>
        if v4.1 = 0 then
          some (.inr ((0 : Int32), v4.2))
        else
          some (.inl v4.2)
      else
        if (v1.2 8) ≤ j then
          some (.inl v1)
        else
          Option.bind (mX5_refuse v1 (3 : Int32)) fun v7 =>
          if v7.1 = 0 then
            some (.inr ((0 : Int32), v7.2))
          else
            some (.inl v7.2)) fun (v9 : (GS) ⊕ (Int32 × GS)) => esc v9 fun t10 =>
    some ((1 : Int32), t10)
  else
    Option.bind (mX5_refuse v1 (2 : Int32)) fun v11 =>
    Option.bind (rtZ v11.1) fun z5 =>
    some (z5, v11.2)
abbrev rmX5_takeNumber : Room := { frames := 3, cells := 0, slots := 0, locals := 61 }
set_option maxHeartbeats 4000000 in
set_option maxRecDepth 100000 in
theorem k_X5_takeNumber (l : Launch) (D : va_G) (ca : Nat → ClassId) (gh : Nat) (ga : Nat → Nat) (g : GS) (i : Int32) (j : Int32) (o : Int32 × GS) (hm : mX5_takeNumber g i j = some o) : KI l yX5_takeNumber wsX5_takeNumber rmX5_takeNumber D ca [.ref (ga 0), .int i, .int j] (cR ca gh ga g) (cR ca gh ga o.2) o.1 := by
  refine KI.of (cc := cX5_takeNumber) (n := 3) (plainFor_of_name (by decide)) rfl (Nat.le_of_ble_eq_true rfl) ?_
  intro p e s m below meth c A Z hx hb hml hts hown hA hK hP hD hS hret ls hl
  have hown : s.vm.findClass RX5 = some m.cls := hown
  have hl : lv_has ls 3 [(0, .ref (ga 0)), (1, .int i), (2, .int j)] := hl
  have inX5 : ∀ w ∈ wsX50, w ∈ wsX5_takeNumber := by decide +kernel
  have k1 := hts (.fieldLink RX5 32 "FriezeFolk$Reader" "token" "I") (by decide +kernel)
  have k2 := hts (.fieldLink RX5 41 "FriezeFolk$Reader" "number" "I") (by decide +kernel)
  unfold mX5_takeNumber at hm
  refine lv_aload_n hx hb dX5_takeNumber_0 rfl (lv_at hl 0 rfl) ?_
  obtain ⟨v1, q1, h12⟩ := obn hm
  clear hm
  refine xVv (As := []) (ci := 5) ⟨hx, hb, hml, hown, hts⟩ (k_X5_nextToken l D ca gh ga g _ q1) (cwV 0 hts gX5_takeNumber_X5_nextToken rfl rfl rfl (by decide +kernel) ⟨Nat.le_of_ble_eq_true rfl, Nat.le_of_ble_eq_true rfl⟩) hK hA hP hD hS dX5_takeNumber_1 rfl hl.1 [0, 1] [] [0, 1] rfl rfl (wr := []) rfl rfl (by decide) (wn := (cR ca gh ga v1)) rfl rfl rfl rfl rfl rfl (Nat.le_of_ble_eq_true rfl) (fun H locs hP hD hS => ?_)
  refine lv_aload_n hx hb dX5_takeNumber_4 rfl (lv_at hl 0 rfl) ?_
  refine xget (ref := "FriezeFolk$Reader") (C := RX5) (T := TX5) (N := 10) (ci := 5) (v := .int (v1.2 5)) hx hb hts inX5 hown hK hP 0 rfl rfl 5 (by decide) k1 rfl rfl dX5_takeNumber_5 ?_
  refine lv_iconst (v := (2 : Int32)) hx hb dX5_takeNumber_8 (by decide) ?_
  refine lv_icmp_eq (tgt := 18) hx hb dX5_takeNumber_9 (by decide) (fun c2 => ?_) (fun c2 => ?_)
  · skip
    replace h12 := (if_pos c2).symm.trans h12
    refine lv_aload_n hx hb dX5_takeNumber_18 rfl (lv_at hl 0 rfl) ?_
    refine xget (ref := "FriezeFolk$Reader") (C := RX5) (T := TX5) (N := 10) (ci := 5) (v := .int (v1.2 8)) hx hb hts inX5 hown hK hP 0 rfl rfl 8 (by decide) k2 rfl rfl dX5_takeNumber_19 ?_
    refine lv_iload_n hx hb dX5_takeNumber_22 rfl (lv_at hl 1 rfl) ?_
    obtain ⟨v9, q13, h14⟩ := obn h12
    clear h12
    have J9 : ∀ t10, v9 = .inl t10 → ∀ (ls : Array Slot) (H : Heap) (locs : List Loc), lv_has ls 3 [] → va_P D vwCl (cR ca gh ga t10) H → va_D A (cR ca gh ga t10) → va_S A s.heap H locs → W p l e rmX5_takeNumber s m ([.ref (ga 0), .int i, .int j] : List Value).toArray below meth c H locs 0 0 Z (F0 m 42 ls []) := by
      intro t10 ht ls H locs hl hP hD hS
      subst ht
      replace h14 := (esc_l _ _).symm.trans h14
      refine lv_iconst (v := (1 : Int32)) hx hb dX5_takeNumber_42 (by decide) ?_
      refine lv_goto (tgt := 47) hx hb dX5_takeNumber_43 (by decide) ?_
      obtain rfl := Option.some.inj h14
      exact hret _ _ _ _ nar1 hP hD hS dX5_takeNumber_47
    refine lv_icmp_lt (tgt := 34) hx hb dX5_takeNumber_23 (by decide) (fun c3 => ?_) (fun c3 => ?_)
    · skip
      replace q13 := (if_pos c3).symm.trans q13
      refine lv_aload_n hx hb dX5_takeNumber_34 rfl (lv_at hl 0 rfl) ?_
      refine lv_iconst (v := (3 : Int32)) hx hb dX5_takeNumber_35 (by decide) ?_
      obtain ⟨v4, q4, h15⟩ := obn q13
      clear q13
      refine xVi (As := [.int (3 : Int32)]) (ci := 5) ⟨hx, hb, hml, hown, hts⟩ (k_X5_refuse l D ca gh ga v1 (3 : Int32) _ q4) (cwV 1 hts gX5_takeNumber_X5_refuse rfl rfl rfl (by decide +kernel) ⟨Nat.le_of_ble_eq_true rfl, Nat.le_of_ble_eq_true rfl⟩) hK hA hP hD hS dX5_takeNumber_36 rfl hl.1 [0, 1] [] [0, 1] rfl rfl (wr := []) rfl rfl (by decide) (wn := (cR ca gh ga v4.2)) rfl rfl rfl rfl rfl rfl (Nat.le_of_ble_eq_true rfl) (fun H locs hP hD hS => ?_)
      refine lv_if_eq (tgt := 46) hx hb dX5_takeNumber_39 (by decide) (fun c5 => ?_) (fun c5 => ?_)
      · skip
        replace h15 := (if_pos c5).symm.trans h15
        refine lv_iconst (v := (0 : Int32)) hx hb dX5_takeNumber_46 (by decide) ?_
        obtain rfl := Option.some.inj h15
        replace h14 := (esc_r _ _).symm.trans h14
        obtain rfl := Option.some.inj h14
        exact hret _ _ _ _ nar0 hP hD hS dX5_takeNumber_47
      · skip
        replace h15 := (if_neg c5).symm.trans h15
        obtain rfl := Option.some.inj h15
        exact J9 _ rfl _ _ _ (lv_sub hl [] rfl) hP hD hS
    · skip
      replace q13 := (if_neg c3).symm.trans q13
      refine lv_aload_n hx hb dX5_takeNumber_26 rfl (lv_at hl 0 rfl) ?_
      refine xget (ref := "FriezeFolk$Reader") (C := RX5) (T := TX5) (N := 10) (ci := 5) (v := .int (v1.2 8)) hx hb hts inX5 hown hK hP 0 rfl rfl 8 (by decide) k2 rfl rfl dX5_takeNumber_27 ?_
      refine lv_iload_n hx hb dX5_takeNumber_30 rfl (lv_at hl 2 rfl) ?_
      refine lv_icmp_le (tgt := 42) hx hb dX5_takeNumber_31 (by decide) (fun c6 => ?_) (fun c6 => ?_)
      · skip
        replace q13 := (if_pos c6).symm.trans q13
        obtain rfl := Option.some.inj q13
        exact J9 _ rfl _ _ _ (lv_sub hl [] rfl) hP hD hS
      · skip
        replace q13 := (if_neg c6).symm.trans q13
        refine lv_aload_n hx hb dX5_takeNumber_34 rfl (lv_at hl 0 rfl) ?_
        refine lv_iconst (v := (3 : Int32)) hx hb dX5_takeNumber_35 (by decide) ?_
        obtain ⟨v7, q7, h16⟩ := obn q13
        clear q13
        refine xVi (As := [.int (3 : Int32)]) (ci := 5) ⟨hx, hb, hml, hown, hts⟩ (k_X5_refuse l D ca gh ga v1 (3 : Int32) _ q7) (cwV 1 hts gX5_takeNumber_X5_refuse rfl rfl rfl (by decide +kernel) ⟨Nat.le_of_ble_eq_true rfl, Nat.le_of_ble_eq_true rfl⟩) hK hA hP hD hS dX5_takeNumber_36 rfl hl.1 [0, 1] [] [0, 1] rfl rfl (wr := []) rfl rfl (by decide) (wn := (cR ca gh ga v7.2)) rfl rfl rfl rfl rfl rfl (Nat.le_of_ble_eq_true rfl) (fun H locs hP hD hS => ?_)
        refine lv_if_eq (tgt := 46) hx hb dX5_takeNumber_39 (by decide) (fun c8 => ?_) (fun c8 => ?_)
        · skip
          replace h16 := (if_pos c8).symm.trans h16
          refine lv_iconst (v := (0 : Int32)) hx hb dX5_takeNumber_46 (by decide) ?_
          obtain rfl := Option.some.inj h16
          replace h14 := (esc_r _ _).symm.trans h14
          obtain rfl := Option.some.inj h14
          exact hret _ _ _ _ nar0 hP hD hS dX5_takeNumber_47
        · skip
          replace h16 := (if_neg c8).symm.trans h16
          obtain rfl := Option.some.inj h16
          exact J9 _ rfl _ _ _ (lv_sub hl [] rfl) hP hD hS
  · skip
    replace h12 := (if_neg c2).symm.trans h12
    refine lv_aload_n hx hb dX5_takeNumber_12 rfl (lv_at hl 0 rfl) ?_
    refine lv_iconst (v := (2 : Int32)) hx hb dX5_takeNumber_13 (by decide) ?_
    obtain ⟨v11, q11, h17⟩ := obn h12
    clear h12
    refine xVi (As := [.int (2 : Int32)]) (ci := 5) ⟨hx, hb, hml, hown, hts⟩ (k_X5_refuse l D ca gh ga v1 (2 : Int32) _ q11) (cwV 1 hts gX5_takeNumber_X5_refuse rfl rfl rfl (by decide +kernel) ⟨Nat.le_of_ble_eq_true rfl, Nat.le_of_ble_eq_true rfl⟩) hK hA hP hD hS dX5_takeNumber_14 rfl hl.1 [0, 1] [] [0, 1] rfl rfl (wr := []) rfl rfl (by decide) (wn := (cR ca gh ga v11.2)) rfl rfl rfl rfl rfl rfl (Nat.le_of_ble_eq_true rfl) (fun H locs hP hD hS => ?_)
    obtain ⟨z5, h18, h19⟩ := obn h17
    obtain ⟨rfl, hnz⟩ := rtZ_s h18
    obtain rfl := Option.some.inj h19
    exact hret _ _ _ _ hnz hP hD hS dX5_takeNumber_17

def mX5_isTooMany (t : GS) (n : Int32) : Option (Int32) :=
  Option.bind (
    if (4 : Int32) ≤ n then
      if n = (7 : Int32) then
        if (t.2 12) < (4 : Int32) then
          some (.inr (0 : Int32))
        else
          some (.inl ())
      else
        some (.inr (0 : Int32))
    else
      if (6 : Int32) ≤ (t.2 5) then
        some (.inl ())
      else
        if n = (7 : Int32) then
          if (t.2 12) < (4 : Int32) then
            some (.inr (0 : Int32))
          else
            some (.inl ())
        else
          some (.inr (0 : Int32))) fun (v7 : (Unit) ⊕ (Int32)) => esc v7 fun t8 =>
  some (1 : Int32)
abbrev rmX5_isTooMany : Room := { frames := 0, cells := 0, slots := 0, locals := 0 }
set_option maxHeartbeats 4000000 in
set_option maxRecDepth 100000 in
theorem k_X5_isTooMany (l : Launch) (D : va_G) (ca : Nat → ClassId) (ga : Nat → Nat) (ta : Nat → Nat) (g : GS) (t : GS) (n : Int32) (o : Int32) (hm : mX5_isTooMany t n = some o) : KI l yX5_isTooMany wsX5_isTooMany rmX5_isTooMany D ca [.ref (ga 0), .int n] ((cR ca (ta 0) ga g) ++ (cH ca ta t)) ((cR ca (ta 0) ga g) ++ (cH ca ta t)) o := by
  refine KI.of (cc := cX5_isTooMany) (n := 2) (plainFor_of_name (by decide)) rfl (Nat.le_of_ble_eq_true rfl) ?_
  intro p e s m below meth c A Z hx hb hml hts hown hA hK hP hD hS hret ls hl
  have hown : s.vm.findClass RX5 = some m.cls := hown
  have hl : lv_has ls 2 [(0, .ref (ga 0)), (1, .int n)] := hl
  have inX0 : ∀ w ∈ wsX00, w ∈ wsX5_isTooMany := by decide +kernel
  have inX5 : ∀ w ∈ wsX50, w ∈ wsX5_isTooMany := by decide +kernel
  have k1 := hts (.fieldLink RX5 12 "FriezeFolk$Reader" "told" "LFriezeFolk$Hall;") (by decide +kernel)
  have k2 := hts (.fieldLink RX5 98 "FriezeFolk$Hall" "rolls" "I") (by decide +kernel)
  have k3 := hts (.fieldLink RX5 95 "FriezeFolk$Hall" "blocks" "I") (by decide +kernel)
  unfold mX5_isTooMany at hm
  refine lv_iload_n hx hb dX5_isTooMany_0 rfl (lv_at hl 1 rfl) ?_
  refine lv_iconst (v := (4 : Int32)) hx hb dX5_isTooMany_1 (by decide) ?_
  obtain ⟨v7, q9, h10⟩ := obn hm
  clear hm
  have J7 : ∀ t8, v7 = .inl t8 → ∀ (ls : Array Slot) (H : Heap) (locs : List Loc), lv_has ls 2 [] → va_P D vwCl ((cR ca (ta 0) ga g) ++ (cH ca ta t)) H → va_D A ((cR ca (ta 0) ga g) ++ (cH ca ta t)) → va_S A s.heap H locs → W p l e rmX5_isTooMany s m ([.ref (ga 0), .int n] : List Value).toArray below meth c H locs 0 0 Z (F0 m 34 ls []) := by
    intro t8 ht ls H locs hl hP hD hS
    subst ht
    replace h10 := (esc_l _ _).symm.trans h10
    refine lv_iconst (v := (1 : Int32)) hx hb dX5_isTooMany_34 (by decide) ?_
    refine lv_goto (tgt := 39) hx hb dX5_isTooMany_35 (by decide) ?_
    obtain rfl := Option.some.inj h10
    exact hret _ _ _ _ nar1 hP hD hS dX5_isTooMany_39
  refine lv_icmp_ge (tgt := 17) hx hb dX5_isTooMany_2 (by decide) (fun c1 => ?_) (fun c1 => ?_)
  · skip
    replace q9 := (if_pos c1).symm.trans q9
    refine lv_iload_n hx hb dX5_isTooMany_17 rfl (lv_at hl 1 rfl) ?_
    refine lv_bipush (v := (7 : Int32)) hx hb dX5_isTooMany_18 (by decide) ?_
    refine lv_icmp_ne (tgt := 38) hx hb dX5_isTooMany_20 (by decide) (fun c2 => ?_) (fun c2 => ?_)
    · skip
      replace q9 := (if_neg c2).symm.trans q9
      refine lv_iconst (v := (0 : Int32)) hx hb dX5_isTooMany_38 (by decide) ?_
      obtain rfl := Option.some.inj q9
      replace h10 := (esc_r _ _).symm.trans h10
      obtain rfl := Option.some.inj h10
      exact hret _ _ _ _ nar0 hP hD hS dX5_isTooMany_39
    · skip
      replace q9 := (if_pos c2).symm.trans q9
      refine lv_aload_n hx hb dX5_isTooMany_23 rfl (lv_at hl 0 rfl) ?_
      refine xget (ref := "FriezeFolk$Reader") (C := RX5) (T := TX5) (N := 10) (ci := 5) (v := .ref (ta 0)) hx hb hts inX5 hown hK hP 0 rfl rfl 0 (by decide) k1 rfl rfl dX5_isTooMany_24 ?_
      refine xget (ref := "FriezeFolk$Hall") (C := RX0) (T := TX0) (N := 13) (ci := 0) (v := .int (t.2 12)) hx hb hts inX0 hown hK hP 2 rfl rfl 12 (by decide) k2 rfl rfl dX5_isTooMany_27 ?_
      refine lv_iconst (v := (4 : Int32)) hx hb dX5_isTooMany_30 (by decide) ?_
      refine lv_icmp_lt (tgt := 38) hx hb dX5_isTooMany_31 (by decide) (fun c3 => ?_) (fun c3 => ?_)
      · skip
        replace q9 := (if_pos c3).symm.trans q9
        refine lv_iconst (v := (0 : Int32)) hx hb dX5_isTooMany_38 (by decide) ?_
        obtain rfl := Option.some.inj q9
        replace h10 := (esc_r _ _).symm.trans h10
        obtain rfl := Option.some.inj h10
        exact hret _ _ _ _ nar0 hP hD hS dX5_isTooMany_39
      · skip
        replace q9 := (if_neg c3).symm.trans q9
        obtain rfl := Option.some.inj q9
        exact J7 _ rfl _ _ _ (lv_sub hl [] rfl) hP hD hS
  · skip
    replace q9 := (if_neg c1).symm.trans q9
    refine lv_aload_n hx hb dX5_isTooMany_5 rfl (lv_at hl 0 rfl) ?_
    refine xget (ref := "FriezeFolk$Reader") (C := RX5) (T := TX5) (N := 10) (ci := 5) (v := .ref (ta 0)) hx hb hts inX5 hown hK hP 0 rfl rfl 0 (by decide) k1 rfl rfl dX5_isTooMany_6 ?_
    refine xget (ref := "FriezeFolk$Hall") (C := RX0) (T := TX0) (N := 13) (ci := 0) (v := .int (t.2 5)) hx hb hts inX0 hown hK hP 2 rfl rfl 5 (by decide) k3 rfl rfl dX5_isTooMany_9 ?_
    refine lv_bipush (v := (6 : Int32)) hx hb dX5_isTooMany_12 (by decide) ?_
    refine lv_icmp_ge (tgt := 34) hx hb dX5_isTooMany_14 (by decide) (fun c4 => ?_) (fun c4 => ?_)
    · skip
      replace q9 := (if_pos c4).symm.trans q9
      obtain rfl := Option.some.inj q9
      exact J7 _ rfl _ _ _ (lv_sub hl [] rfl) hP hD hS
    · skip
      replace q9 := (if_neg c4).symm.trans q9
      refine lv_iload_n hx hb dX5_isTooMany_17 rfl (lv_at hl 1 rfl) ?_
      refine lv_bipush (v := (7 : Int32)) hx hb dX5_isTooMany_18 (by decide) ?_
      refine lv_icmp_ne (tgt := 38) hx hb dX5_isTooMany_20 (by decide) (fun c5 => ?_) (fun c5 => ?_)
      · skip
        replace q9 := (if_neg c5).symm.trans q9
        refine lv_iconst (v := (0 : Int32)) hx hb dX5_isTooMany_38 (by decide) ?_
        obtain rfl := Option.some.inj q9
        replace h10 := (esc_r _ _).symm.trans h10
        obtain rfl := Option.some.inj h10
        exact hret _ _ _ _ nar0 hP hD hS dX5_isTooMany_39
      · skip
        replace q9 := (if_pos c5).symm.trans q9
        refine lv_aload_n hx hb dX5_isTooMany_23 rfl (lv_at hl 0 rfl) ?_
        refine xget (ref := "FriezeFolk$Reader") (C := RX5) (T := TX5) (N := 10) (ci := 5) (v := .ref (ta 0)) hx hb hts inX5 hown hK hP 0 rfl rfl 0 (by decide) k1 rfl rfl dX5_isTooMany_24 ?_
        refine xget (ref := "FriezeFolk$Hall") (C := RX0) (T := TX0) (N := 13) (ci := 0) (v := .int (t.2 12)) hx hb hts inX0 hown hK hP 2 rfl rfl 12 (by decide) k2 rfl rfl dX5_isTooMany_27 ?_
        refine lv_iconst (v := (4 : Int32)) hx hb dX5_isTooMany_30 (by decide) ?_
        refine lv_icmp_lt (tgt := 38) hx hb dX5_isTooMany_31 (by decide) (fun c6 => ?_) (fun c6 => ?_)
        · skip
          replace q9 := (if_pos c6).symm.trans q9
          refine lv_iconst (v := (0 : Int32)) hx hb dX5_isTooMany_38 (by decide) ?_
          obtain rfl := Option.some.inj q9
          replace h10 := (esc_r _ _).symm.trans h10
          obtain rfl := Option.some.inj h10
          exact hret _ _ _ _ nar0 hP hD hS dX5_isTooMany_39
        · skip
          replace q9 := (if_neg c6).symm.trans q9
          obtain rfl := Option.some.inj q9
          exact J7 _ rfl _ _ _ (lv_sub hl [] rfl) hP hD hS

def mX5_tell (g : GS) (t : GS) (n : Int32) (i : Int32) (j : Int32) : Option (GS × GS) :=
  if n = (4 : Int32) then
    some ((sI g 9 ((g.2 9) ||| ((1 : Int32) <<< (n &&& 31)))), (sI (sI t 6 i) 7 j))
  else
  if n = (5 : Int32) then
    some ((sI g 9 ((g.2 9) ||| ((1 : Int32) <<< (n &&& 31)))), (sI (sI t 8 i) 9 j))
  else
  if n = (6 : Int32) then
    some ((sI g 9 ((g.2 9) ||| ((1 : Int32) <<< (n &&& 31)))), (sI t 10 i))
  else
  if n = (7 : Int32) then
    Option.bind (mX0_addRoll t i j) fun v5 =>
    some ((sI g 9 ((g.2 9) ||| ((1 : Int32) <<< (n &&& 31)))), v5.2)
  else
    Option.bind (mX0_addBlock t n i) fun v6 =>
    some ((sI g 9 ((g.2 9) ||| ((1 : Int32) <<< (n &&& 31)))), v6.2)
abbrev rmX5_tell : Room := { frames := 1, cells := 0, slots := 0, locals := 22 }
set_option maxHeartbeats 4000000 in
set_option maxRecDepth 100000 in
theorem k_X5_tell (l : Launch) (D : va_G) (ca : Nat → ClassId) (ga : Nat → Nat) (ta : Nat → Nat) (g : GS) (t : GS) (n : Int32) (i : Int32) (j : Int32) (o : GS × GS) (hm : mX5_tell g t n i j = some o) : KV l yX5_tell wsX5_tell rmX5_tell D ca [.ref (ga 0), .int n, .int i, .int j] ((cR ca (ta 0) ga g) ++ (cH ca ta t)) ((cR ca (ta 0) ga o.1) ++ (cH ca ta o.2)) := by
  refine KV.of (cc := cX5_tell) (n := 4) (plainFor_of_name (by decide)) rfl (Nat.le_of_ble_eq_true rfl) ?_
  intro p e s m below meth c A Z hx hb hml hts hown hA hK hP hD hS hret ls hl
  have hown : s.vm.findClass RX5 = some m.cls := hown
  have hl : lv_has ls 4 [(0, .ref (ga 0)), (1, .int n), (2, .int i), (3, .int j)] := hl
  have inX0 : ∀ w ∈ wsX00, w ∈ wsX5_tell := by decide +kernel
  have inX5 : ∀ w ∈ wsX50, w ∈ wsX5_tell := by decide +kernel
  have k1 := hts (.fieldLink RX5 44 "FriezeFolk$Reader" "linesTold" "I") (by decide +kernel)
  have k2 := hts (.fieldLink RX5 12 "FriezeFolk$Reader" "told" "LFriezeFolk$Hall;") (by decide +kernel)
  have k3 := hts (.fieldLink RX5 101 "FriezeFolk$Hall" "wide" "I") (by decide +kernel)
  have k4 := hts (.fieldLink RX5 104 "FriezeFolk$Hall" "shift" "I") (by decide +kernel)
  have k5 := hts (.fieldLink RX5 107 "FriezeFolk$Hall" "window" "I") (by decide +kernel)
  have k6 := hts (.fieldLink RX5 110 "FriezeFolk$Hall" "reach" "I") (by decide +kernel)
  have k7 := hts (.fieldLink RX5 113 "FriezeFolk$Hall" "upside" "I") (by decide +kernel)
  unfold mX5_tell at hm
  refine lv_aload_n hx hb dX5_tell_0 rfl (lv_at hl 0 rfl) ?_
  refine lv_dup hx hb dX5_tell_1 rfl ?_
  refine xget (ref := "FriezeFolk$Reader") (C := RX5) (T := TX5) (N := 10) (ci := 5) (v := .int (g.2 9)) hx hb hts inX5 hown hK hP 0 rfl rfl 9 (by decide) k1 rfl rfl dX5_tell_2 ?_
  refine lv_iconst (v := (1 : Int32)) hx hb dX5_tell_5 (by decide) ?_
  refine lv_iload_n hx hb dX5_tell_6 rfl (lv_at hl 1 rfl) ?_
  refine lv_ishl hx hb dX5_tell_7 ?_
  refine lv_ior hx hb dX5_tell_8 ?_
  refine xput (ref := "FriezeFolk$Reader") (C := RX5) (T := TX5) (N := 10) (ci := 5) (v := .int ((g.2 9) ||| ((1 : Int32) <<< (n &&& 31)))) (ty := .int) hx hb hts inX5 tyX5 tyX5_ok nmX5 hown hK hP hD hS 0 rfl rfl 9 (by decide) k1 rfl rfl (by decide +kernel) rfl rfl (Nat.le_of_ble_eq_true rfl) dX5_tell_9 (wn := ((cR ca (ta 0) ga (sI g 9 ((g.2 9) ||| ((1 : Int32) <<< (n &&& 31))))) ++ (cH ca ta t))) rfl (fun H locs hP hD hS => ?_)
  refine lv_iload_n hx hb dX5_tell_12 rfl (lv_at hl 1 rfl) ?_
  by_cases c1 : n = (4 : Int32)
  · replace hm := (if_pos c1).symm.trans hm
    refine lv_tableIn (tgt := 44) hx hb dX5_tell_13 (by rw [c1]; decide) (by rw [c1]; decide) (by rw [c1] <;> rfl) (by decide) ?_
    refine lv_aload_n hx hb dX5_tell_44 rfl (lv_at hl 0 rfl) ?_
    refine xget (ref := "FriezeFolk$Reader") (C := RX5) (T := TX5) (N := 10) (ci := 5) (v := .ref (ta 0)) hx hb hts inX5 hown hK hP 0 rfl rfl 0 (by decide) k2 rfl rfl dX5_tell_45 ?_
    refine lv_iload_n hx hb dX5_tell_48 rfl (lv_at hl 2 rfl) ?_
    refine xput (ref := "FriezeFolk$Hall") (C := RX0) (T := TX0) (N := 13) (ci := 0) (v := .int i) (ty := .int) hx hb hts inX0 tyX0 tyX0_ok nmX0 hown hK hP hD hS 2 rfl rfl 6 (by decide) k3 rfl rfl (by decide +kernel) rfl rfl (Nat.le_of_ble_eq_true rfl) dX5_tell_49 (wn := ((cR ca (ta 0) ga (sI g 9 ((g.2 9) ||| ((1 : Int32) <<< (n &&& 31))))) ++ (cH ca ta (sI t 6 i)))) rfl (fun H locs hP hD hS => ?_)
    refine lv_aload_n hx hb dX5_tell_52 rfl (lv_at hl 0 rfl) ?_
    refine xget (ref := "FriezeFolk$Reader") (C := RX5) (T := TX5) (N := 10) (ci := 5) (v := .ref (ta 0)) hx hb hts inX5 hown hK hP 0 rfl rfl 0 (by decide) k2 rfl rfl dX5_tell_53 ?_
    refine lv_iload_n hx hb dX5_tell_56 rfl (lv_at hl 3 rfl) ?_
    refine xput (ref := "FriezeFolk$Hall") (C := RX0) (T := TX0) (N := 13) (ci := 0) (v := .int j) (ty := .int) hx hb hts inX0 tyX0 tyX0_ok nmX0 hown hK hP hD hS 2 rfl rfl 7 (by decide) k4 rfl rfl (by decide +kernel) rfl rfl (Nat.le_of_ble_eq_true rfl) dX5_tell_57 (wn := ((cR ca (ta 0) ga (sI g 9 ((g.2 9) ||| ((1 : Int32) <<< (n &&& 31))))) ++ (cH ca ta (sI (sI t 6 i) 7 j)))) rfl (fun H locs hP hD hS => ?_)
    refine lv_goto (tgt := 116) hx hb dX5_tell_60 (by decide) ?_
    obtain rfl := Option.some.inj hm
    exact hret _ _ _ _ hP hD hS dX5_tell_116
  replace hm := (if_neg c1).symm.trans hm
  have ec1 : ¬ (n).toInt = 4 := fun z => c1 (Int32.toInt_inj.mp (z.trans (by decide)))
  by_cases c2 : n = (5 : Int32)
  · replace hm := (if_pos c2).symm.trans hm
    refine lv_tableIn (tgt := 63) hx hb dX5_tell_13 (by rw [c2]; decide) (by rw [c2]; decide) (by rw [c2] <;> rfl) (by decide) ?_
    refine lv_aload_n hx hb dX5_tell_63 rfl (lv_at hl 0 rfl) ?_
    refine xget (ref := "FriezeFolk$Reader") (C := RX5) (T := TX5) (N := 10) (ci := 5) (v := .ref (ta 0)) hx hb hts inX5 hown hK hP 0 rfl rfl 0 (by decide) k2 rfl rfl dX5_tell_64 ?_
    refine lv_iload_n hx hb dX5_tell_67 rfl (lv_at hl 2 rfl) ?_
    refine xput (ref := "FriezeFolk$Hall") (C := RX0) (T := TX0) (N := 13) (ci := 0) (v := .int i) (ty := .int) hx hb hts inX0 tyX0 tyX0_ok nmX0 hown hK hP hD hS 2 rfl rfl 8 (by decide) k5 rfl rfl (by decide +kernel) rfl rfl (Nat.le_of_ble_eq_true rfl) dX5_tell_68 (wn := ((cR ca (ta 0) ga (sI g 9 ((g.2 9) ||| ((1 : Int32) <<< (n &&& 31))))) ++ (cH ca ta (sI t 8 i)))) rfl (fun H locs hP hD hS => ?_)
    refine lv_aload_n hx hb dX5_tell_71 rfl (lv_at hl 0 rfl) ?_
    refine xget (ref := "FriezeFolk$Reader") (C := RX5) (T := TX5) (N := 10) (ci := 5) (v := .ref (ta 0)) hx hb hts inX5 hown hK hP 0 rfl rfl 0 (by decide) k2 rfl rfl dX5_tell_72 ?_
    refine lv_iload_n hx hb dX5_tell_75 rfl (lv_at hl 3 rfl) ?_
    refine xput (ref := "FriezeFolk$Hall") (C := RX0) (T := TX0) (N := 13) (ci := 0) (v := .int j) (ty := .int) hx hb hts inX0 tyX0 tyX0_ok nmX0 hown hK hP hD hS 2 rfl rfl 9 (by decide) k6 rfl rfl (by decide +kernel) rfl rfl (Nat.le_of_ble_eq_true rfl) dX5_tell_76 (wn := ((cR ca (ta 0) ga (sI g 9 ((g.2 9) ||| ((1 : Int32) <<< (n &&& 31))))) ++ (cH ca ta (sI (sI t 8 i) 9 j)))) rfl (fun H locs hP hD hS => ?_)
    refine lv_goto (tgt := 116) hx hb dX5_tell_79 (by decide) ?_
    obtain rfl := Option.some.inj hm
    exact hret _ _ _ _ hP hD hS dX5_tell_116
  replace hm := (if_neg c2).symm.trans hm
  have ec2 : ¬ (n).toInt = 5 := fun z => c2 (Int32.toInt_inj.mp (z.trans (by decide)))
  by_cases c3 : n = (6 : Int32)
  · replace hm := (if_pos c3).symm.trans hm
    refine lv_tableIn (tgt := 82) hx hb dX5_tell_13 (by rw [c3]; decide) (by rw [c3]; decide) (by rw [c3] <;> rfl) (by decide) ?_
    refine lv_aload_n hx hb dX5_tell_82 rfl (lv_at hl 0 rfl) ?_
    refine xget (ref := "FriezeFolk$Reader") (C := RX5) (T := TX5) (N := 10) (ci := 5) (v := .ref (ta 0)) hx hb hts inX5 hown hK hP 0 rfl rfl 0 (by decide) k2 rfl rfl dX5_tell_83 ?_
    refine lv_iload_n hx hb dX5_tell_86 rfl (lv_at hl 2 rfl) ?_
    refine xput (ref := "FriezeFolk$Hall") (C := RX0) (T := TX0) (N := 13) (ci := 0) (v := .int i) (ty := .int) hx hb hts inX0 tyX0 tyX0_ok nmX0 hown hK hP hD hS 2 rfl rfl 10 (by decide) k7 rfl rfl (by decide +kernel) rfl rfl (Nat.le_of_ble_eq_true rfl) dX5_tell_87 (wn := ((cR ca (ta 0) ga (sI g 9 ((g.2 9) ||| ((1 : Int32) <<< (n &&& 31))))) ++ (cH ca ta (sI t 10 i)))) rfl (fun H locs hP hD hS => ?_)
    refine lv_goto (tgt := 116) hx hb dX5_tell_90 (by decide) ?_
    obtain rfl := Option.some.inj hm
    exact hret _ _ _ _ hP hD hS dX5_tell_116
  replace hm := (if_neg c3).symm.trans hm
  have ec3 : ¬ (n).toInt = 6 := fun z => c3 (Int32.toInt_inj.mp (z.trans (by decide)))
  by_cases c4 : n = (7 : Int32)
  · replace hm := (if_pos c4).symm.trans hm
    refine lv_tableIn (tgt := 93) hx hb dX5_tell_13 (by rw [c4]; decide) (by rw [c4]; decide) (by rw [c4] <;> rfl) (by decide) ?_
    refine lv_aload_n hx hb dX5_tell_93 rfl (lv_at hl 0 rfl) ?_
    refine xget (ref := "FriezeFolk$Reader") (C := RX5) (T := TX5) (N := 10) (ci := 5) (v := .ref (ta 0)) hx hb hts inX5 hown hK hP 0 rfl rfl 0 (by decide) k2 rfl rfl dX5_tell_94 ?_
    refine lv_iload_n hx hb dX5_tell_97 rfl (lv_at hl 2 rfl) ?_
    refine lv_iload_n hx hb dX5_tell_98 rfl (lv_at hl 3 rfl) ?_
    obtain ⟨v5, q5, h7⟩ := obn hm
    clear hm
    refine xVi (As := [.int i, .int j]) (ci := 0) ⟨hx, hb, hml, hown, hts⟩ (k_X0_addRoll l D ca ta t i j _ q5) (cwV 2 hts gX5_tell_X0_addRoll rfl rfl rfl (by decide +kernel) ⟨Nat.le_of_ble_eq_true rfl, Nat.le_of_ble_eq_true rfl⟩) hK hA hP hD hS dX5_tell_99 rfl hl.1 [2, 3, 4, 5, 6, 7] [0, 1] [0, 1, 2, 3, 4, 5, 6, 7] rfl rfl (wr := ((cR ca (ta 0) ga (sI g 9 ((g.2 9) ||| ((1 : Int32) <<< (n &&& 31))))))) rfl rfl (by decide) (wn := ((cR ca (ta 0) ga (sI g 9 ((g.2 9) ||| ((1 : Int32) <<< (n &&& 31))))) ++ (cH ca ta v5.2))) rfl rfl rfl rfl rfl rfl (Nat.le_of_ble_eq_true rfl) (fun H locs hP hD hS => ?_)
    refine lv_pop hx hb dX5_tell_102 rfl ?_
    refine lv_goto (tgt := 116) hx hb dX5_tell_103 (by decide) ?_
    obtain rfl := Option.some.inj h7
    exact hret _ _ _ _ hP hD hS dX5_tell_116
  replace hm := (if_neg c4).symm.trans hm
  have ec4 : ¬ (n).toInt = 7 := fun z => c4 (Int32.toInt_inj.mp (z.trans (by decide)))
  refine lv_tableOut (tgt := 106) hx hb dX5_tell_13 (by omega) (by decide) ?_
  refine lv_aload_n hx hb dX5_tell_106 rfl (lv_at hl 0 rfl) ?_
  refine xget (ref := "FriezeFolk$Reader") (C := RX5) (T := TX5) (N := 10) (ci := 5) (v := .ref (ta 0)) hx hb hts inX5 hown hK hP 0 rfl rfl 0 (by decide) k2 rfl rfl dX5_tell_107 ?_
  refine lv_iload_n hx hb dX5_tell_110 rfl (lv_at hl 1 rfl) ?_
  refine lv_iload_n hx hb dX5_tell_111 rfl (lv_at hl 2 rfl) ?_
  obtain ⟨v6, q6, h8⟩ := obn hm
  clear hm
  refine xVi (As := [.int n, .int i]) (ci := 0) ⟨hx, hb, hml, hown, hts⟩ (k_X0_addBlock l D ca ta t n i _ q6) (cwV 2 hts gX5_tell_X0_addBlock rfl rfl rfl (by decide +kernel) ⟨Nat.le_of_ble_eq_true rfl, Nat.le_of_ble_eq_true rfl⟩) hK hA hP hD hS dX5_tell_112 rfl hl.1 [2, 3, 4, 5, 6, 7] [0, 1] [0, 1, 2, 3, 4, 5, 6, 7] rfl rfl (wr := ((cR ca (ta 0) ga (sI g 9 ((g.2 9) ||| ((1 : Int32) <<< (n &&& 31))))))) rfl rfl (by decide) (wn := ((cR ca (ta 0) ga (sI g 9 ((g.2 9) ||| ((1 : Int32) <<< (n &&& 31))))) ++ (cH ca ta v6.2))) rfl rfl rfl rfl rfl rfl (Nat.le_of_ble_eq_true rfl) (fun H locs hP hD hS => ?_)
  refine lv_pop hx hb dX5_tell_115 rfl ?_
  obtain rfl := Option.some.inj h8
  exact hret _ _ _ _ hP hD hS dX5_tell_116

def mX7_feed (rd : GS) (n : Int32) : Option (Int32 × GS) :=
  if n < 0 then
    some ((-1 : Int32), rd)
  else
    if n ≤ (127 : Int32) then
      Option.bind (mX5_append rd n) fun v3 =>
      if v3.1 = 0 then
        some ((-3 : Int32), v3.2)
      else
        some ((v3.2.2 2), v3.2)
    else
      some ((-1 : Int32), rd)
abbrev rmX7_feed : Room := { frames := 1, cells := 0, slots := 0, locals := 21 }
set_option maxHeartbeats 4000000 in
set_option maxRecDepth 100000 in
theorem k_X7_feed (l : Launch) (D : va_G) (ca : Nat → ClassId) (ffa : Nat) (r0 r1 r2 r4 r5 r6 r7 : Nat) (rdh : Nat) (rda : Nat → Nat) (ff : Int32) (rd : GS) (n : Int32) (o : Int32 × GS) (hm : mX7_feed rd n = some o) : KI l yX7_feed wsX7_feed rmX7_feed D ca [.ref ffa, .int n] ((cF ffa r0 r1 r2 (rda 0) r4 r5 r6 r7 ff) ++ (cR ca rdh rda rd)) ((cF ffa r0 r1 r2 (rda 0) r4 r5 r6 r7 ff) ++ (cR ca rdh rda o.2)) o.1 := by
  refine KI.of (cc := cX7_feed) (n := 2) (plainFor_of_name (by decide)) rfl (Nat.le_of_ble_eq_true rfl) ?_
  intro p e s m below meth c A Z hx hb hml hts hown hA hK hP hD hS hret ls hl
  have hown : s.vm.findClass RX7 = some m.cls := hown
  have hl : lv_has ls 2 [(0, .ref ffa), (1, .int n)] := hl
  have inX5 : ∀ w ∈ wsX50, w ∈ wsX7_feed := by decide +kernel
  have inX7 : ∀ w ∈ wsX70, w ∈ wsX7_feed := by decide +kernel
  have k1 := hts (.fieldLink RX7 29 "FriezeFolk" "reader" "LFriezeFolk$Reader;") (by decide +kernel)
  have k2 := hts (.fieldLink RX7 69 "FriezeFolk$Reader" "size" "I") (by decide +kernel)
  unfold mX7_feed at hm
  refine lv_iload_n hx hb dX7_feed_0 rfl (lv_at hl 1 rfl) ?_
  refine lv_if_lt (tgt := 10) hx hb dX7_feed_1 (by decide) (fun c1 => ?_) (fun c1 => ?_)
  · skip
    replace hm := (if_pos c1).symm.trans hm
    refine lv_iconst (v := (-1 : Int32)) hx hb dX7_feed_10 (by decide) ?_
    obtain rfl := Option.some.inj hm
    exact hret _ _ _ _ (vp_nar_int _) hP hD hS dX7_feed_11
  · skip
    replace hm := (if_neg c1).symm.trans hm
    refine lv_iload_n hx hb dX7_feed_4 rfl (lv_at hl 1 rfl) ?_
    refine lv_bipush (v := (127 : Int32)) hx hb dX7_feed_5 (by decide) ?_
    refine lv_icmp_le (tgt := 12) hx hb dX7_feed_7 (by decide) (fun c2 => ?_) (fun c2 => ?_)
    · skip
      replace hm := (if_pos c2).symm.trans hm
      refine lv_aload_n hx hb dX7_feed_12 rfl (lv_at hl 0 rfl) ?_
      refine xget (ref := "FriezeFolk") (C := RX7) (T := TX7) (N := 9) (ci := 7) (v := .ref (rda 0)) hx hb hts inX7 hown hK hP 0 rfl rfl 3 (by decide) k1 rfl rfl dX7_feed_13 ?_
      refine lv_iload_n hx hb dX7_feed_16 rfl (lv_at hl 1 rfl) ?_
      obtain ⟨v3, q3, h5⟩ := obn hm
      clear hm
      refine xVi (As := [.int n]) (ci := 5) ⟨hx, hb, hml, hown, hts⟩ (k_X5_append l D ca rdh rda rd n _ q3) (cwV 1 hts gX7_feed_X5_append rfl rfl rfl (by decide +kernel) ⟨Nat.le_of_ble_eq_true rfl, Nat.le_of_ble_eq_true rfl⟩) hK hA hP hD hS dX7_feed_17 rfl hl.1 [1, 2] [0] [0, 1, 2] rfl rfl (wr := ((cF ffa r0 r1 r2 (rda 0) r4 r5 r6 r7 ff))) rfl rfl (by decide) (wn := ((cF ffa r0 r1 r2 (rda 0) r4 r5 r6 r7 ff) ++ (cR ca rdh rda v3.2))) rfl rfl rfl rfl rfl rfl (Nat.le_of_ble_eq_true rfl) (fun H locs hP hD hS => ?_)
      refine lv_if_eq (tgt := 33) hx hb dX7_feed_20 (by decide) (fun c4 => ?_) (fun c4 => ?_)
      · skip
        replace h5 := (if_pos c4).symm.trans h5
        refine lv_bipush (v := (-3 : Int32)) hx hb dX7_feed_33 (by decide) ?_
        obtain rfl := Option.some.inj h5
        exact hret _ _ _ _ (vp_nar_int _) hP hD hS dX7_feed_35
      · skip
        replace h5 := (if_neg c4).symm.trans h5
        refine lv_aload_n hx hb dX7_feed_23 rfl (lv_at hl 0 rfl) ?_
        refine xget (ref := "FriezeFolk") (C := RX7) (T := TX7) (N := 9) (ci := 7) (v := .ref (rda 0)) hx hb hts inX7 hown hK hP 0 rfl rfl 3 (by decide) k1 rfl rfl dX7_feed_24 ?_
        refine xget (ref := "FriezeFolk$Reader") (C := RX5) (T := TX5) (N := 10) (ci := 5) (v := .int (v3.2.2 2)) hx hb hts inX5 hown hK hP 1 rfl rfl 2 (by decide) k2 rfl rfl dX7_feed_27 ?_
        refine lv_goto (tgt := 35) hx hb dX7_feed_30 (by decide) ?_
        obtain rfl := Option.some.inj h5
        exact hret _ _ _ _ (vp_nar_int _) hP hD hS dX7_feed_35
    · skip
      replace hm := (if_neg c2).symm.trans hm
      refine lv_iconst (v := (-1 : Int32)) hx hb dX7_feed_10 (by decide) ?_
      obtain rfl := Option.some.inj hm
      exact hret _ _ _ _ (vp_nar_int _) hP hD hS dX7_feed_11
