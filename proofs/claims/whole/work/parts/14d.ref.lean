
def mX8_forget (g : GS) (n : Int32) : Option (Int32 × GS) :=
  Option.bind (mX8_in n.toInt64 (0 : Int64) (g.2 17).toInt64) fun v1 =>
  if v1 = 0 then
    some ((-1 : Int32), g)
  else
    some ((g.2 17), (sI g 17 n))
abbrev rmX8_forget : Room := { frames := 1, cells := 0, slots := 0, locals := 25 }
set_option maxHeartbeats 4000000 in
set_option maxRecDepth 100000 in
theorem k_X8_forget (l : Launch) (D : va_G) (ca : Nat → ClassId) (ga : Nat → Nat) (g : GS) (n : Int32) (o : Int32 × GS) (hm : mX8_forget g n = some o) : KI l yX8_forget wsX8_forget rmX8_forget D ca [.ref (ga 0), .int n] (cO ca ga g) (cO ca ga o.2) o.1 := by
  refine KI.of (cc := cX8_forget) (n := 3) (plainFor_of_name (by decide)) rfl (Nat.le_of_ble_eq_true rfl) ?_
  intro p e s m below meth c A Z hx hb hml hts hown hA hK hP hD hS hret ls hl
  have hown : s.vm.findClass RX8 = some m.cls := hown
  have hl : lv_has ls 3 [(0, .ref (ga 0)), (1, .int n)] := hl
  have inX8 : ∀ w ∈ wsX80, w ∈ wsX8_forget := by decide +kernel
  have k1 := hts (.fieldLink RX8 119 "FriezeFolkModel" "seenMany" "I") (by decide +kernel)
  unfold mX8_forget at hm
  refine lv_iload_n hx hb dX8_forget_0 rfl (lv_at hl 1 rfl) ?_
  refine lv_i2l (v := n.toInt64) hx hb dX8_forget_1 rfl ?_
  refine lv_lconst (v := (0 : Int64)) hx hb dX8_forget_2 (by decide) ?_
  refine lv_aload_n hx hb dX8_forget_3 rfl (lv_at hl 0 rfl) ?_
  refine xget (ref := "FriezeFolkModel") (C := RX8) (T := TX8) (N := 24) (ci := 8) (v := .int (g.2 17)) hx hb hts inX8 hown hK hP 0 rfl rfl 17 (by decide) k1 rfl rfl dX8_forget_4 ?_
  refine lv_i2l (v := (g.2 17).toInt64) hx hb dX8_forget_7 rfl ?_
  obtain ⟨v1, q1, h3⟩ := obn hm
  clear hm
  refine xSi (As := [.long n.toInt64, .long (0 : Int64), .long (g.2 17).toInt64]) ⟨hx, hb, hml, hown, hts⟩ (k_X8_in l D ca  n.toInt64 (0 : Int64) (g.2 17).toInt64 _ q1) (va_cwS 3 hts gX8_forget_X8_in rfl rfl rfl (by decide +kernel) ⟨Nat.le_of_ble_eq_true rfl, Nat.le_of_ble_eq_true rfl⟩) hK hA hP hD hS dX8_forget_8 rfl hl.1 [] [0, 1, 2, 3, 4, 5, 6, 7, 8, 9, 10, 11, 12, 13] [0, 1, 2, 3, 4, 5, 6, 7, 8, 9, 10, 11, 12, 13] rfl rfl (wr := ((cO ca ga g))) rfl rfl (by decide) (wn := (cO ca ga g)) rfl rfl rfl (Nat.le_of_ble_eq_true rfl) (fun H locs hP hD hS => ?_)
  refine lv_if_ne (tgt := 16) hx hb dX8_forget_11 (by decide) (fun c2 => ?_) (fun c2 => ?_)
  · skip
    replace h3 := (if_neg c2).symm.trans h3
    refine lv_aload_n hx hb dX8_forget_16 rfl (lv_at hl 0 rfl) ?_
    refine xget (ref := "FriezeFolkModel") (C := RX8) (T := TX8) (N := 24) (ci := 8) (v := .int (g.2 17)) hx hb hts inX8 hown hK hP 0 rfl rfl 17 (by decide) k1 rfl rfl dX8_forget_17 ?_
    refine lv_istore_n (lv' := [(2, .int (g.2 17)), (0, .ref (ga 0)), (1, .int n)]) hx hb dX8_forget_20 rfl hl (by decide) rfl (fun ls hl => ?_)
    refine lv_aload_n hx hb dX8_forget_21 rfl (lv_at hl 1 rfl) ?_
    refine lv_iload_n hx hb dX8_forget_22 rfl (lv_at hl 2 rfl) ?_
    refine xput (ref := "FriezeFolkModel") (C := RX8) (T := TX8) (N := 24) (ci := 8) (v := .int n) (ty := .int) hx hb hts inX8 tyX8 tyX8_ok nmX8 hown hK hP hD hS 0 rfl rfl 17 (by decide) k1 rfl rfl (by decide +kernel) rfl rfl (Nat.le_of_ble_eq_true rfl) dX8_forget_23 (wn := (cO ca ga (sI g 17 n))) rfl (fun H locs hP hD hS => ?_)
    refine lv_iload_n hx hb dX8_forget_26 rfl (lv_at hl 0 rfl) ?_
    obtain rfl := Option.some.inj h3
    exact hret _ _ _ _ (vp_nar_int _) hP hD hS dX8_forget_27
  · skip
    replace h3 := (if_pos c2).symm.trans h3
    refine lv_iconst (v := (-1 : Int32)) hx hb dX8_forget_14 (by decide) ?_
    obtain rfl := Option.some.inj h3
    exact hret _ _ _ _ (vp_nar_int _) hP hD hS dX8_forget_15
def mX8_isAsSeen_l4 (g : GS) (j : Int32) (s1 : Int32 × Int32) : Option ((Int32 × Int32) ⊕ (Int32 × Int32)) :=
  if (g.2 17) ≤ s1.2 then
    some (.inr (s1.1, s1.2))
  else
    Option.bind (
      if s1.1 = 0 then
        some (0 : Int32)
      else
        Option.bind (ald 12 (g.1 16) ((2 : Int32) * s1.2)) fun v4 =>
        Option.bind (mX8_longOn g j) fun v5 =>
        if v5 ≤ v4 then
          some (0 : Int32)
        else
          Option.bind (ald 12 (g.1 16) ((2 : Int32) * s1.2)) fun v7 =>
          Option.bind (mX8_frankOn g j v7) fun v8 =>
          Option.bind (ald 12 (g.1 16) (((2 : Int32) * s1.2) + (1 : Int32))) fun v9 =>
          if v8 = v9 then
            some (1 : Int32)
          else
            some (0 : Int32)) fun (v11 : Int32) =>
    some (.inl (v11, (s1.2 + (1 : Int32))))

def mX8_isAsSeen (g : GS) (j : Int32) : Option (Int32) :=
  Option.bind (whO (mX8_isAsSeen_l4 g j) FU ((1 : Int32), (0 : Int32))) fun e12 =>
  Option.bind (rtZ e12.1) fun z4 =>
  some z4
abbrev rmX8_isAsSeen : Room := { frames := 2, cells := 0, slots := 0, locals := 50 }
set_option maxHeartbeats 4000000 in
set_option maxRecDepth 100000 in
theorem k_X8_isAsSeen (l : Launch) (D : va_G) (ca : Nat → ClassId) (ga : Nat → Nat) (g : GS) (j : Int32) (o : Int32) (hm : mX8_isAsSeen g j = some o) : KI l yX8_isAsSeen wsX8_isAsSeen rmX8_isAsSeen D ca [.ref (ga 0), .int j] (cO ca ga g) (cO ca ga g) o := by
  refine KI.of (cc := cX8_isAsSeen) (n := 4) (plainFor_of_name (by decide)) rfl (Nat.le_of_ble_eq_true rfl) ?_
  intro p e s m below meth c A Z hx hb hml hts hown hA hK hP hD hS hret ls hl
  have hown : s.vm.findClass RX8 = some m.cls := hown
  have hl : lv_has ls 4 [(0, .ref (ga 0)), (1, .int j)] := hl
  have inX8 : ∀ w ∈ wsX80, w ∈ wsX8_isAsSeen := by decide +kernel
  have k1 := hts (.fieldLink RX8 119 "FriezeFolkModel" "seenMany" "I") (by decide +kernel)
  have k2 := hts (.fieldLink RX8 31 "FriezeFolkModel" "seen" "[I") (by decide +kernel)
  unfold mX8_isAsSeen at hm
  refine lv_iconst (v := (1 : Int32)) hx hb dX8_isAsSeen_0 (by decide) ?_
  refine lv_istore_n (lv' := [(2, .int (1 : Int32)), (0, .ref (ga 0)), (1, .int j)]) hx hb dX8_isAsSeen_1 rfl hl (by decide) rfl (fun ls hl => ?_)
  refine lv_iconst (v := (0 : Int32)) hx hb dX8_isAsSeen_2 (by decide) ?_
  refine lv_istore_n (lv' := [(3, .int (0 : Int32)), (2, .int (1 : Int32)), (0, .ref (ga 0)), (1, .int j)]) hx hb dX8_isAsSeen_3 rfl hl (by decide) rfl (fun ls hl => ?_)
  obtain ⟨e12, w13, h14⟩ := obn hm
  clear hm
  have AF12 : ∀ (ls : Array Slot) (H : Heap) (locs : List Loc), lv_has ls 4 [(2, .int e12.1)] → va_P D vwCl (cO ca ga g) H → va_D A (cO ca ga g) → va_S A s.heap H locs → W p l e rmX8_isAsSeen s m ([.ref (ga 0), .int j] : List Value).toArray below meth c H locs 0 0 Z (F0 m 70 ls []) := by
    intro ls H locs hl hP hD hS
    refine lv_iload_n hx hb dX8_isAsSeen_70 rfl (lv_at hl 0 rfl) ?_
    obtain ⟨z4, h15, h16⟩ := obn h14
    obtain ⟨rfl, hnz⟩ := rtZ_s h15
    obtain rfl := Option.some.inj h16
    exact hret _ _ _ _ hnz hP hD hS dX8_isAsSeen_71
  refine whO_walk (I := fun s1 => ∀ (ls : Array Slot) (H : Heap) (locs : List Loc), lv_has ls 4 [(0, .ref (ga 0)), (1, .int j), (2, .int s1.1), (3, .int s1.2)] → va_P D vwCl (cO ca ga g) H → va_D A (cO ca ga g) → va_S A s.heap H locs → W p l e rmX8_isAsSeen s m ([.ref (ga 0), .int j] : List Value).toArray below meth c H locs 0 0 Z (F0 m 4 ls [])) ?_ _ _ w13 _ _ _ (lv_sub hl [2, 3, 1, 0] rfl) hP hD hS
  clear w13
  intro s1 o12 h17 hi12 ho12 ls H locs hl hP hD hS
  unfold mX8_isAsSeen_l4 at h17
  refine lv_iload_n hx hb dX8_isAsSeen_4 rfl (lv_at hl 3 rfl) ?_
  refine lv_aload_n hx hb dX8_isAsSeen_5 rfl (lv_at hl 0 rfl) ?_
  refine xget (ref := "FriezeFolkModel") (C := RX8) (T := TX8) (N := 24) (ci := 8) (v := .int (g.2 17)) hx hb hts inX8 hown hK hP 0 rfl rfl 17 (by decide) k1 rfl rfl dX8_isAsSeen_6 ?_
  refine lv_icmp_ge (tgt := 70) hx hb dX8_isAsSeen_9 (by decide) (fun c2 => ?_) (fun c2 => ?_)
  · skip
    replace h17 := (if_pos c2).symm.trans h17
    have h18 := ho12 _ (Option.some.inj h17).symm
    subst h18
    exact AF12 _ _ _ (lv_sub hl [2] rfl) hP hD hS
  · skip
    replace h17 := (if_neg c2).symm.trans h17
    refine lv_iload_n hx hb dX8_isAsSeen_12 rfl (lv_at hl 2 rfl) ?_
    obtain ⟨v11, q19, h20⟩ := obn h17
    clear h17
    have J11 : ∀ (ls : Array Slot) (H : Heap) (locs : List Loc), lv_has ls 4 [(0, .ref (ga 0)), (1, .int j), (3, .int s1.2)] → va_P D vwCl (cO ca ga g) H → va_D A (cO ca ga g) → va_S A s.heap H locs → W p l e rmX8_isAsSeen s m ([.ref (ga 0), .int j] : List Value).toArray below meth c H locs 0 0 Z (F0 m 63 ls [.int v11]) := by
      intro ls H locs hl hP hD hS
      refine lv_istore_n (lv' := [(2, .int v11), (0, .ref (ga 0)), (1, .int j), (3, .int s1.2)]) hx hb dX8_isAsSeen_63 rfl hl (by decide) rfl (fun ls hl => ?_)
      refine lv_iinc (v := (s1.2 + (1 : Int32))) (lv' := [(3, .int (s1.2 + (1 : Int32))), (2, .int v11), (0, .ref (ga 0)), (1, .int j)]) hx hb dX8_isAsSeen_64 hl (k := 3) rfl rfl (by decide) rfl (fun ls hl => ?_)
      refine lv_goto (tgt := 4) hx hb dX8_isAsSeen_67 (by decide) ?_
      exact hi12 _ (Option.some.inj h20).symm _ _ _ (lv_sub hl [2, 3, 1, 0] rfl) hP hD hS
    refine lv_if_eq (tgt := 62) hx hb dX8_isAsSeen_13 (by decide) (fun c3 => ?_) (fun c3 => ?_)
    · skip
      replace q19 := (if_pos c3).symm.trans q19
      refine lv_iconst (v := (0 : Int32)) hx hb dX8_isAsSeen_62 (by decide) ?_
      obtain rfl := Option.some.inj q19
      exact J11 _ _ _ (lv_sub hl [0, 1, 3] rfl) hP hD hS
    · skip
      replace q19 := (if_neg c3).symm.trans q19
      refine lv_aload_n hx hb dX8_isAsSeen_16 rfl (lv_at hl 0 rfl) ?_
      refine xget (ref := "FriezeFolkModel") (C := RX8) (T := TX8) (N := 24) (ci := 8) (v := .ref (ga 17)) hx hb hts inX8 hown hK hP 0 rfl rfl 16 (by decide) k2 rfl rfl dX8_isAsSeen_17 ?_
      refine lv_iconst (v := (2 : Int32)) hx hb dX8_isAsSeen_20 (by decide) ?_
      refine lv_iload_n hx hb dX8_isAsSeen_21 rfl (lv_at hl 3 rfl) ?_
      refine lv_imul hx hb dX8_isAsSeen_22 ?_
      obtain ⟨v4, q4, h21⟩ := obn q19
      clear q19
      refine xald hx hb hK hP 8 rfl q4 dX8_isAsSeen_23 ?_
      refine lv_aload_n hx hb dX8_isAsSeen_24 rfl (lv_at hl 0 rfl) ?_
      refine lv_iload_n hx hb dX8_isAsSeen_25 rfl (lv_at hl 1 rfl) ?_
      obtain ⟨v5, q5, h22⟩ := obn h21
      clear h21
      refine xVi (As := [.int j]) (ci := 8) ⟨hx, hb, hml, hown, hts⟩ (k_X8_longOn l D ca ga g j _ q5) (cwV 1 hts gX8_isAsSeen_X8_longOn rfl rfl rfl (by decide +kernel) ⟨Nat.le_of_ble_eq_true rfl, Nat.le_of_ble_eq_true rfl⟩) hK hA hP hD hS dX8_isAsSeen_26 rfl hl.1 [0, 1, 2, 3, 4, 5, 6, 7, 8, 9, 10, 11, 12, 13] [] [0, 1, 2, 3, 4, 5, 6, 7, 8, 9, 10, 11, 12, 13] rfl rfl (wr := []) rfl rfl (by decide) (wn := (cO ca ga g)) rfl rfl rfl rfl rfl rfl (Nat.le_of_ble_eq_true rfl) (fun H locs hP hD hS => ?_)
      refine lv_icmp_ge (tgt := 62) hx hb dX8_isAsSeen_29 (by decide) (fun c6 => ?_) (fun c6 => ?_)
      · skip
        replace h22 := (if_pos c6).symm.trans h22
        refine lv_iconst (v := (0 : Int32)) hx hb dX8_isAsSeen_62 (by decide) ?_
        obtain rfl := Option.some.inj h22
        exact J11 _ _ _ (lv_sub hl [0, 1, 3] rfl) hP hD hS
      · skip
        replace h22 := (if_neg c6).symm.trans h22
        refine lv_aload_n hx hb dX8_isAsSeen_32 rfl (lv_at hl 0 rfl) ?_
        refine lv_iload_n hx hb dX8_isAsSeen_33 rfl (lv_at hl 1 rfl) ?_
        refine lv_aload_n hx hb dX8_isAsSeen_34 rfl (lv_at hl 0 rfl) ?_
        refine xget (ref := "FriezeFolkModel") (C := RX8) (T := TX8) (N := 24) (ci := 8) (v := .ref (ga 17)) hx hb hts inX8 hown hK hP 0 rfl rfl 16 (by decide) k2 rfl rfl dX8_isAsSeen_35 ?_
        refine lv_iconst (v := (2 : Int32)) hx hb dX8_isAsSeen_38 (by decide) ?_
        refine lv_iload_n hx hb dX8_isAsSeen_39 rfl (lv_at hl 3 rfl) ?_
        refine lv_imul hx hb dX8_isAsSeen_40 ?_
        obtain ⟨v7, q7, h23⟩ := obn h22
        clear h22
        refine xald hx hb hK hP 8 rfl q7 dX8_isAsSeen_41 ?_
        obtain ⟨v8, q8, h24⟩ := obn h23
        clear h23
        refine xVi (As := [.int j, .int v7]) (ci := 8) ⟨hx, hb, hml, hown, hts⟩ (k_X8_frankOn l D ca ga g j v7 _ q8) (cwV 2 hts gX8_isAsSeen_X8_frankOn rfl rfl rfl (by decide +kernel) ⟨Nat.le_of_ble_eq_true rfl, Nat.le_of_ble_eq_true rfl⟩) hK hA hP hD hS dX8_isAsSeen_42 rfl hl.1 [0, 1, 2, 3, 4, 5, 6, 7, 8, 9, 10, 11, 12, 13] [] [0, 1, 2, 3, 4, 5, 6, 7, 8, 9, 10, 11, 12, 13] rfl rfl (wr := []) rfl rfl (by decide) (wn := (cO ca ga g)) rfl rfl rfl rfl rfl rfl (Nat.le_of_ble_eq_true rfl) (fun H locs hP hD hS => ?_)
        refine lv_aload_n hx hb dX8_isAsSeen_45 rfl (lv_at hl 0 rfl) ?_
        refine xget (ref := "FriezeFolkModel") (C := RX8) (T := TX8) (N := 24) (ci := 8) (v := .ref (ga 17)) hx hb hts inX8 hown hK hP 0 rfl rfl 16 (by decide) k2 rfl rfl dX8_isAsSeen_46 ?_
        refine lv_iconst (v := (2 : Int32)) hx hb dX8_isAsSeen_49 (by decide) ?_
        refine lv_iload_n hx hb dX8_isAsSeen_50 rfl (lv_at hl 3 rfl) ?_
        refine lv_imul hx hb dX8_isAsSeen_51 ?_
        refine lv_iconst (v := (1 : Int32)) hx hb dX8_isAsSeen_52 (by decide) ?_
        refine lv_iadd hx hb dX8_isAsSeen_53 ?_
        obtain ⟨v9, q9, h25⟩ := obn h24
        clear h24
        refine xald hx hb hK hP 8 rfl q9 dX8_isAsSeen_54 ?_
        refine lv_icmp_ne (tgt := 62) hx hb dX8_isAsSeen_55 (by decide) (fun c10 => ?_) (fun c10 => ?_)
        · skip
          replace h25 := (if_neg c10).symm.trans h25
          refine lv_iconst (v := (0 : Int32)) hx hb dX8_isAsSeen_62 (by decide) ?_
          obtain rfl := Option.some.inj h25
          exact J11 _ _ _ (lv_sub hl [0, 1, 3] rfl) hP hD hS
        · skip
          replace h25 := (if_pos c10).symm.trans h25
          refine lv_iconst (v := (1 : Int32)) hx hb dX8_isAsSeen_58 (by decide) ?_
          refine lv_goto (tgt := 63) hx hb dX8_isAsSeen_59 (by decide) ?_
          obtain rfl := Option.some.inj h25
          exact J11 _ _ _ (lv_sub hl [0, 1, 3] rfl) hP hD hS
def mX8_kinds_l22 (j : Int32) (s10 : Int32 × Int32 × GS) : Option ((Int32 × Int32 × GS) ⊕ (Int32 × Int32 × GS)) :=
  if (4 : Int32) ≤ s10.2.1 then
    some (.inr (s10.1, s10.2.1, s10.2.2))
  else
    Option.bind (ast 240 (s10.2.2.1 0) ((200 : Int32) + j) s10.2.1) fun f12 =>
    Option.bind (mX8_isAsSeen (sA s10.2.2 0 f12) (200 : Int32)) fun v13 =>
    Option.bind (
      if v13 = 0 then
        some (0 : Int32)
      else
        some ((1 : Int32) <<< (s10.2.1 &&& 31))) fun (v15 : Int32) =>
    some (.inl ((s10.1 ||| v15), (s10.2.1 + (1 : Int32)), (sA s10.2.2 0 f12)))

def mX8_kinds (g : GS) (j : Int32) : Option (Int32 × GS) :=
  Option.bind (mX8_isBlock g j) fun v1 =>
  if v1 = 0 then
    some ((-1 : Int32), g)
  else
    Option.bind (mX8_copies g (0 : Int32) (200 : Int32)) fun v3 =>
    Option.bind (whO (mX8_kinds_l22 j) FU ((0 : Int32), (0 : Int32), v3)) fun e16 =>
    some (e16.1, e16.2.2)
abbrev rmX8_kinds : Room := { frames := 3, cells := 0, slots := 0, locals := 73 }
set_option maxHeartbeats 4000000 in
set_option maxRecDepth 100000 in
theorem k_X8_kinds (l : Launch) (D : va_G) (ca : Nat → ClassId) (ga : Nat → Nat) (g : GS) (j : Int32) (o : Int32 × GS) (hm : mX8_kinds g j = some o) : KI l yX8_kinds wsX8_kinds rmX8_kinds D ca [.ref (ga 0), .int j] (cO ca ga g) (cO ca ga o.2) o.1 := by
  refine KI.of (cc := cX8_kinds) (n := 4) (plainFor_of_name (by decide)) rfl (Nat.le_of_ble_eq_true rfl) ?_
  intro p e s m below meth c A Z hx hb hml hts hown hA hK hP hD hS hret ls hl
  have hown : s.vm.findClass RX8 = some m.cls := hown
  have hl : lv_has ls 4 [(0, .ref (ga 0)), (1, .int j)] := hl
  have inX8 : ∀ w ∈ wsX80, w ∈ wsX8_kinds := by decide +kernel
  have k1 := hts (.fieldLink RX8 7 "FriezeFolkModel" "state" "[I") (by decide +kernel)
  unfold mX8_kinds at hm
  refine lv_aload_n hx hb dX8_kinds_0 rfl (lv_at hl 0 rfl) ?_
  refine lv_iload_n hx hb dX8_kinds_1 rfl (lv_at hl 1 rfl) ?_
  obtain ⟨v1, q1, h17⟩ := obn hm
  clear hm
  refine xVi (As := [.int j]) (ci := 8) ⟨hx, hb, hml, hown, hts⟩ (k_X8_isBlock l D ca ga g j _ q1) (cwV 1 hts gX8_kinds_X8_isBlock rfl rfl rfl (by decide +kernel) ⟨Nat.le_of_ble_eq_true rfl, Nat.le_of_ble_eq_true rfl⟩) hK hA hP hD hS dX8_kinds_2 rfl hl.1 [0, 1, 2, 3, 4, 5, 6, 7, 8, 9, 10, 11, 12, 13] [] [0, 1, 2, 3, 4, 5, 6, 7, 8, 9, 10, 11, 12, 13] rfl rfl (wr := []) rfl rfl (by decide) (wn := (cO ca ga g)) rfl rfl rfl rfl rfl rfl (Nat.le_of_ble_eq_true rfl) (fun H locs hP hD hS => ?_)
  refine lv_if_ne (tgt := 10) hx hb dX8_kinds_5 (by decide) (fun c2 => ?_) (fun c2 => ?_)
  · skip
    replace h17 := (if_neg c2).symm.trans h17
    refine lv_iconst (v := (0 : Int32)) hx hb dX8_kinds_10 (by decide) ?_
    refine lv_istore_n (lv' := [(2, .int (0 : Int32)), (0, .ref (ga 0)), (1, .int j)]) hx hb dX8_kinds_11 rfl hl (by decide) rfl (fun ls hl => ?_)
    refine lv_aload_n hx hb dX8_kinds_12 rfl (lv_at hl 1 rfl) ?_
    refine lv_iconst (v := (0 : Int32)) hx hb dX8_kinds_13 (by decide) ?_
    refine lv_sipush (v := (200 : Int32)) hx hb dX8_kinds_14 (by decide) ?_
    obtain ⟨v3, q3, h18⟩ := obn h17
    clear h17
    refine xVv (As := [.int (0 : Int32), .int (200 : Int32)]) (ci := 8) ⟨hx, hb, hml, hown, hts⟩ (k_X8_copies l D ca ga g (0 : Int32) (200 : Int32) _ q3) (cwV 2 hts gX8_kinds_X8_copies rfl rfl rfl (by decide +kernel) ⟨Nat.le_of_ble_eq_true rfl, Nat.le_of_ble_eq_true rfl⟩) hK hA hP hD hS dX8_kinds_17 rfl hl.1 [0, 1, 2, 3, 4, 5, 6, 7, 8, 9, 10, 11, 12, 13] [] [0, 1, 2, 3, 4, 5, 6, 7, 8, 9, 10, 11, 12, 13] rfl rfl (wr := []) rfl rfl (by decide) (wn := (cO ca ga v3)) rfl rfl rfl rfl rfl rfl (Nat.le_of_ble_eq_true rfl) (fun H locs hP hD hS => ?_)
    refine lv_iconst (v := (0 : Int32)) hx hb dX8_kinds_20 (by decide) ?_
    refine lv_istore_n (lv' := [(3, .int (0 : Int32)), (2, .int (0 : Int32)), (0, .ref (ga 0)), (1, .int j)]) hx hb dX8_kinds_21 rfl hl (by decide) rfl (fun ls hl => ?_)
    obtain ⟨e16, w19, h20⟩ := obn h18
    clear h18
    have AF16 : ∀ (ls : Array Slot) (H : Heap) (locs : List Loc), lv_has ls 4 [(2, .int e16.1)] → va_P D vwCl (cO ca ga e16.2.2) H → va_D A (cO ca ga e16.2.2) → va_S A s.heap H locs → W p l e rmX8_kinds s m ([.ref (ga 0), .int j] : List Value).toArray below meth c H locs 0 0 Z (F0 m 64 ls []) := by
      intro ls H locs hl hP hD hS
      refine lv_iload_n hx hb dX8_kinds_64 rfl (lv_at hl 0 rfl) ?_
      obtain rfl := Option.some.inj h20
      exact hret _ _ _ _ (vp_nar_int _) hP hD hS dX8_kinds_65
    refine whO_walk (I := fun s10 => ∀ (ls : Array Slot) (H : Heap) (locs : List Loc), lv_has ls 4 [(0, .ref (ga 0)), (1, .int j), (2, .int s10.1), (3, .int s10.2.1)] → va_P D vwCl (cO ca ga s10.2.2) H → va_D A (cO ca ga s10.2.2) → va_S A s.heap H locs → W p l e rmX8_kinds s m ([.ref (ga 0), .int j] : List Value).toArray below meth c H locs 0 0 Z (F0 m 22 ls [])) ?_ _ _ w19 _ _ _ (lv_sub hl [2, 3, 1, 0] rfl) hP hD hS
    clear w19
    intro s10 o16 h21 hi16 ho16 ls H locs hl hP hD hS
    unfold mX8_kinds_l22 at h21
    refine lv_iload_n hx hb dX8_kinds_22 rfl (lv_at hl 3 rfl) ?_
    refine lv_iconst (v := (4 : Int32)) hx hb dX8_kinds_23 (by decide) ?_
    refine lv_icmp_ge (tgt := 64) hx hb dX8_kinds_24 (by decide) (fun c11 => ?_) (fun c11 => ?_)
    · skip
      replace h21 := (if_pos c11).symm.trans h21
      have h22 := ho16 _ (Option.some.inj h21).symm
      subst h22
      exact AF16 _ _ _ (lv_sub hl [2] rfl) hP hD hS
    · skip
      replace h21 := (if_neg c11).symm.trans h21
      refine lv_aload_n hx hb dX8_kinds_27 rfl (lv_at hl 0 rfl) ?_
      refine xget (ref := "FriezeFolkModel") (C := RX8) (T := TX8) (N := 24) (ci := 8) (v := .ref (ga 1)) hx hb hts inX8 hown hK hP 0 rfl rfl 0 (by decide) k1 rfl rfl dX8_kinds_28 ?_
      refine lv_sipush (v := (200 : Int32)) hx hb dX8_kinds_31 (by decide) ?_
      refine lv_iload_n hx hb dX8_kinds_34 rfl (lv_at hl 1 rfl) ?_
      refine lv_iadd hx hb dX8_kinds_35 ?_
      refine lv_iload_n hx hb dX8_kinds_36 rfl (lv_at hl 3 rfl) ?_
      obtain ⟨f12, q12, h23⟩ := obn h21
      clear h21
      refine xast hx hb hK hP hD hS 1 rfl q12 dX8_kinds_37 (wn := (cO ca ga (sA s10.2.2 0 f12))) rfl (fun H locs hP hD hS => ?_)
      refine lv_iload_n hx hb dX8_kinds_38 rfl (lv_at hl 2 rfl) ?_
      refine lv_aload_n hx hb dX8_kinds_39 rfl (lv_at hl 0 rfl) ?_
      refine lv_sipush (v := (200 : Int32)) hx hb dX8_kinds_40 (by decide) ?_
      obtain ⟨v13, q13, h24⟩ := obn h23
      clear h23
      refine xVi (As := [.int (200 : Int32)]) (ci := 8) ⟨hx, hb, hml, hown, hts⟩ (k_X8_isAsSeen l D ca ga (sA s10.2.2 0 f12) (200 : Int32) _ q13) (cwV 1 hts gX8_kinds_X8_isAsSeen rfl rfl rfl (by decide +kernel) ⟨Nat.le_of_ble_eq_true rfl, Nat.le_of_ble_eq_true rfl⟩) hK hA hP hD hS dX8_kinds_43 rfl hl.1 [0, 1, 2, 3, 4, 5, 6, 7, 8, 9, 10, 11, 12, 13] [] [0, 1, 2, 3, 4, 5, 6, 7, 8, 9, 10, 11, 12, 13] rfl rfl (wr := []) rfl rfl (by decide) (wn := (cO ca ga (sA s10.2.2 0 f12))) rfl rfl rfl rfl rfl rfl (Nat.le_of_ble_eq_true rfl) (fun H locs hP hD hS => ?_)
      obtain ⟨v15, q25, h26⟩ := obn h24
      clear h24
      have J15 : ∀ (ls : Array Slot) (H : Heap) (locs : List Loc), lv_has ls 4 [(0, .ref (ga 0)), (1, .int j), (3, .int s10.2.1)] → va_P D vwCl (cO ca ga (sA s10.2.2 0 f12)) H → va_D A (cO ca ga (sA s10.2.2 0 f12)) → va_S A s.heap H locs → W p l e rmX8_kinds s m ([.ref (ga 0), .int j] : List Value).toArray below meth c H locs 0 0 Z (F0 m 56 ls [.int v15, .int s10.1]) := by
        intro ls H locs hl hP hD hS
        refine lv_ior hx hb dX8_kinds_56 ?_
        refine lv_istore_n (lv' := [(2, .int (s10.1 ||| v15)), (0, .ref (ga 0)), (1, .int j), (3, .int s10.2.1)]) hx hb dX8_kinds_57 rfl hl (by decide) rfl (fun ls hl => ?_)
        refine lv_iinc (v := (s10.2.1 + (1 : Int32))) (lv' := [(3, .int (s10.2.1 + (1 : Int32))), (2, .int (s10.1 ||| v15)), (0, .ref (ga 0)), (1, .int j)]) hx hb dX8_kinds_58 hl (k := 3) rfl rfl (by decide) rfl (fun ls hl => ?_)
        refine lv_goto (tgt := 22) hx hb dX8_kinds_61 (by decide) ?_
        exact hi16 _ (Option.some.inj h26).symm _ _ _ (lv_sub hl [2, 3, 1, 0] rfl) hP hD hS
      refine lv_if_eq (tgt := 55) hx hb dX8_kinds_46 (by decide) (fun c14 => ?_) (fun c14 => ?_)
      · skip
        replace q25 := (if_pos c14).symm.trans q25
        refine lv_iconst (v := (0 : Int32)) hx hb dX8_kinds_55 (by decide) ?_
        obtain rfl := Option.some.inj q25
        exact J15 _ _ _ (lv_sub hl [0, 1, 3] rfl) hP hD hS
      · skip
        replace q25 := (if_neg c14).symm.trans q25
        refine lv_iconst (v := (1 : Int32)) hx hb dX8_kinds_49 (by decide) ?_
        refine lv_iload_n hx hb dX8_kinds_50 rfl (lv_at hl 3 rfl) ?_
        refine lv_ishl hx hb dX8_kinds_51 ?_
        refine lv_goto (tgt := 56) hx hb dX8_kinds_52 (by decide) ?_
        obtain rfl := Option.some.inj q25
        exact J15 _ _ _ (lv_sub hl [0, 1, 3] rfl) hP hD hS
  · skip
    replace h17 := (if_pos c2).symm.trans h17
    refine lv_iconst (v := (-1 : Int32)) hx hb dX8_kinds_8 (by decide) ?_
    obtain rfl := Option.some.inj h17
    exact hret _ _ _ _ (vp_nar_int _) hP hD hS dX8_kinds_9
def mX8_warmths_l22 (j : Int32) (s10 : Int32 × Int32 × GS) : Option ((Int32 × Int32 × GS) ⊕ (Int32 × Int32 × GS)) :=
  if (9 : Int32) < s10.2.1 then
    some (.inr (s10.1, s10.2.1, s10.2.2))
  else
    Option.bind (ast 240 (s10.2.2.1 0) ((206 : Int32) + j) s10.2.1) fun f12 =>
    Option.bind (mX8_isAsSeen (sA s10.2.2 0 f12) (200 : Int32)) fun v13 =>
    Option.bind (
      if v13 = 0 then
        some (0 : Int32)
      else
        some ((1 : Int32) <<< (s10.2.1 &&& 31))) fun (v15 : Int32) =>
    some (.inl ((s10.1 ||| v15), (s10.2.1 + (1 : Int32)), (sA s10.2.2 0 f12)))

def mX8_warmths (g : GS) (j : Int32) : Option (Int32 × GS) :=
  Option.bind (mX8_isBlock g j) fun v1 =>
  if v1 = 0 then
    some ((-1 : Int32), g)
  else
    Option.bind (mX8_copies g (0 : Int32) (200 : Int32)) fun v3 =>
    Option.bind (whO (mX8_warmths_l22 j) FU ((0 : Int32), (0 : Int32), v3)) fun e16 =>
    some (e16.1, e16.2.2)
abbrev rmX8_warmths : Room := { frames := 3, cells := 0, slots := 0, locals := 73 }
set_option maxHeartbeats 4000000 in
set_option maxRecDepth 100000 in
theorem k_X8_warmths (l : Launch) (D : va_G) (ca : Nat → ClassId) (ga : Nat → Nat) (g : GS) (j : Int32) (o : Int32 × GS) (hm : mX8_warmths g j = some o) : KI l yX8_warmths wsX8_warmths rmX8_warmths D ca [.ref (ga 0), .int j] (cO ca ga g) (cO ca ga o.2) o.1 := by
  refine KI.of (cc := cX8_warmths) (n := 4) (plainFor_of_name (by decide)) rfl (Nat.le_of_ble_eq_true rfl) ?_
  intro p e s m below meth c A Z hx hb hml hts hown hA hK hP hD hS hret ls hl
  have hown : s.vm.findClass RX8 = some m.cls := hown
  have hl : lv_has ls 4 [(0, .ref (ga 0)), (1, .int j)] := hl
  have inX8 : ∀ w ∈ wsX80, w ∈ wsX8_warmths := by decide +kernel
  have k1 := hts (.fieldLink RX8 7 "FriezeFolkModel" "state" "[I") (by decide +kernel)
  unfold mX8_warmths at hm
  refine lv_aload_n hx hb dX8_warmths_0 rfl (lv_at hl 0 rfl) ?_
  refine lv_iload_n hx hb dX8_warmths_1 rfl (lv_at hl 1 rfl) ?_
  obtain ⟨v1, q1, h17⟩ := obn hm
  clear hm
  refine xVi (As := [.int j]) (ci := 8) ⟨hx, hb, hml, hown, hts⟩ (k_X8_isBlock l D ca ga g j _ q1) (cwV 1 hts gX8_warmths_X8_isBlock rfl rfl rfl (by decide +kernel) ⟨Nat.le_of_ble_eq_true rfl, Nat.le_of_ble_eq_true rfl⟩) hK hA hP hD hS dX8_warmths_2 rfl hl.1 [0, 1, 2, 3, 4, 5, 6, 7, 8, 9, 10, 11, 12, 13] [] [0, 1, 2, 3, 4, 5, 6, 7, 8, 9, 10, 11, 12, 13] rfl rfl (wr := []) rfl rfl (by decide) (wn := (cO ca ga g)) rfl rfl rfl rfl rfl rfl (Nat.le_of_ble_eq_true rfl) (fun H locs hP hD hS => ?_)
  refine lv_if_ne (tgt := 10) hx hb dX8_warmths_5 (by decide) (fun c2 => ?_) (fun c2 => ?_)
  · skip
    replace h17 := (if_neg c2).symm.trans h17
    refine lv_iconst (v := (0 : Int32)) hx hb dX8_warmths_10 (by decide) ?_
    refine lv_istore_n (lv' := [(2, .int (0 : Int32)), (0, .ref (ga 0)), (1, .int j)]) hx hb dX8_warmths_11 rfl hl (by decide) rfl (fun ls hl => ?_)
    refine lv_aload_n hx hb dX8_warmths_12 rfl (lv_at hl 1 rfl) ?_
    refine lv_iconst (v := (0 : Int32)) hx hb dX8_warmths_13 (by decide) ?_
    refine lv_sipush (v := (200 : Int32)) hx hb dX8_warmths_14 (by decide) ?_
    obtain ⟨v3, q3, h18⟩ := obn h17
    clear h17
    refine xVv (As := [.int (0 : Int32), .int (200 : Int32)]) (ci := 8) ⟨hx, hb, hml, hown, hts⟩ (k_X8_copies l D ca ga g (0 : Int32) (200 : Int32) _ q3) (cwV 2 hts gX8_warmths_X8_copies rfl rfl rfl (by decide +kernel) ⟨Nat.le_of_ble_eq_true rfl, Nat.le_of_ble_eq_true rfl⟩) hK hA hP hD hS dX8_warmths_17 rfl hl.1 [0, 1, 2, 3, 4, 5, 6, 7, 8, 9, 10, 11, 12, 13] [] [0, 1, 2, 3, 4, 5, 6, 7, 8, 9, 10, 11, 12, 13] rfl rfl (wr := []) rfl rfl (by decide) (wn := (cO ca ga v3)) rfl rfl rfl rfl rfl rfl (Nat.le_of_ble_eq_true rfl) (fun H locs hP hD hS => ?_)
    refine lv_iconst (v := (0 : Int32)) hx hb dX8_warmths_20 (by decide) ?_
    refine lv_istore_n (lv' := [(3, .int (0 : Int32)), (2, .int (0 : Int32)), (0, .ref (ga 0)), (1, .int j)]) hx hb dX8_warmths_21 rfl hl (by decide) rfl (fun ls hl => ?_)
    obtain ⟨e16, w19, h20⟩ := obn h18
    clear h18
    have AF16 : ∀ (ls : Array Slot) (H : Heap) (locs : List Loc), lv_has ls 4 [(2, .int e16.1)] → va_P D vwCl (cO ca ga e16.2.2) H → va_D A (cO ca ga e16.2.2) → va_S A s.heap H locs → W p l e rmX8_warmths s m ([.ref (ga 0), .int j] : List Value).toArray below meth c H locs 0 0 Z (F0 m 65 ls []) := by
      intro ls H locs hl hP hD hS
      refine lv_iload_n hx hb dX8_warmths_65 rfl (lv_at hl 0 rfl) ?_
      obtain rfl := Option.some.inj h20
      exact hret _ _ _ _ (vp_nar_int _) hP hD hS dX8_warmths_66
    refine whO_walk (I := fun s10 => ∀ (ls : Array Slot) (H : Heap) (locs : List Loc), lv_has ls 4 [(0, .ref (ga 0)), (1, .int j), (2, .int s10.1), (3, .int s10.2.1)] → va_P D vwCl (cO ca ga s10.2.2) H → va_D A (cO ca ga s10.2.2) → va_S A s.heap H locs → W p l e rmX8_warmths s m ([.ref (ga 0), .int j] : List Value).toArray below meth c H locs 0 0 Z (F0 m 22 ls [])) ?_ _ _ w19 _ _ _ (lv_sub hl [2, 3, 1, 0] rfl) hP hD hS
    clear w19
    intro s10 o16 h21 hi16 ho16 ls H locs hl hP hD hS
    unfold mX8_warmths_l22 at h21
    refine lv_iload_n hx hb dX8_warmths_22 rfl (lv_at hl 3 rfl) ?_
    refine lv_bipush (v := (9 : Int32)) hx hb dX8_warmths_23 (by decide) ?_
    refine lv_icmp_gt (tgt := 65) hx hb dX8_warmths_25 (by decide) (fun c11 => ?_) (fun c11 => ?_)
    · skip
      replace h21 := (if_pos c11).symm.trans h21
      have h22 := ho16 _ (Option.some.inj h21).symm
      subst h22
      exact AF16 _ _ _ (lv_sub hl [2] rfl) hP hD hS
    · skip
      replace h21 := (if_neg c11).symm.trans h21
      refine lv_aload_n hx hb dX8_warmths_28 rfl (lv_at hl 0 rfl) ?_
      refine xget (ref := "FriezeFolkModel") (C := RX8) (T := TX8) (N := 24) (ci := 8) (v := .ref (ga 1)) hx hb hts inX8 hown hK hP 0 rfl rfl 0 (by decide) k1 rfl rfl dX8_warmths_29 ?_
      refine lv_sipush (v := (206 : Int32)) hx hb dX8_warmths_32 (by decide) ?_
      refine lv_iload_n hx hb dX8_warmths_35 rfl (lv_at hl 1 rfl) ?_
      refine lv_iadd hx hb dX8_warmths_36 ?_
      refine lv_iload_n hx hb dX8_warmths_37 rfl (lv_at hl 3 rfl) ?_
      obtain ⟨f12, q12, h23⟩ := obn h21
      clear h21
      refine xast hx hb hK hP hD hS 1 rfl q12 dX8_warmths_38 (wn := (cO ca ga (sA s10.2.2 0 f12))) rfl (fun H locs hP hD hS => ?_)
      refine lv_iload_n hx hb dX8_warmths_39 rfl (lv_at hl 2 rfl) ?_
      refine lv_aload_n hx hb dX8_warmths_40 rfl (lv_at hl 0 rfl) ?_
      refine lv_sipush (v := (200 : Int32)) hx hb dX8_warmths_41 (by decide) ?_
      obtain ⟨v13, q13, h24⟩ := obn h23
      clear h23
      refine xVi (As := [.int (200 : Int32)]) (ci := 8) ⟨hx, hb, hml, hown, hts⟩ (k_X8_isAsSeen l D ca ga (sA s10.2.2 0 f12) (200 : Int32) _ q13) (cwV 1 hts gX8_warmths_X8_isAsSeen rfl rfl rfl (by decide +kernel) ⟨Nat.le_of_ble_eq_true rfl, Nat.le_of_ble_eq_true rfl⟩) hK hA hP hD hS dX8_warmths_44 rfl hl.1 [0, 1, 2, 3, 4, 5, 6, 7, 8, 9, 10, 11, 12, 13] [] [0, 1, 2, 3, 4, 5, 6, 7, 8, 9, 10, 11, 12, 13] rfl rfl (wr := []) rfl rfl (by decide) (wn := (cO ca ga (sA s10.2.2 0 f12))) rfl rfl rfl rfl rfl rfl (Nat.le_of_ble_eq_true rfl) (fun H locs hP hD hS => ?_)
      obtain ⟨v15, q25, h26⟩ := obn h24
      clear h24
      have J15 : ∀ (ls : Array Slot) (H : Heap) (locs : List Loc), lv_has ls 4 [(0, .ref (ga 0)), (1, .int j), (3, .int s10.2.1)] → va_P D vwCl (cO ca ga (sA s10.2.2 0 f12)) H → va_D A (cO ca ga (sA s10.2.2 0 f12)) → va_S A s.heap H locs → W p l e rmX8_warmths s m ([.ref (ga 0), .int j] : List Value).toArray below meth c H locs 0 0 Z (F0 m 57 ls [.int v15, .int s10.1]) := by
        intro ls H locs hl hP hD hS
        refine lv_ior hx hb dX8_warmths_57 ?_
        refine lv_istore_n (lv' := [(2, .int (s10.1 ||| v15)), (0, .ref (ga 0)), (1, .int j), (3, .int s10.2.1)]) hx hb dX8_warmths_58 rfl hl (by decide) rfl (fun ls hl => ?_)
        refine lv_iinc (v := (s10.2.1 + (1 : Int32))) (lv' := [(3, .int (s10.2.1 + (1 : Int32))), (2, .int (s10.1 ||| v15)), (0, .ref (ga 0)), (1, .int j)]) hx hb dX8_warmths_59 hl (k := 3) rfl rfl (by decide) rfl (fun ls hl => ?_)
        refine lv_goto (tgt := 22) hx hb dX8_warmths_62 (by decide) ?_
        exact hi16 _ (Option.some.inj h26).symm _ _ _ (lv_sub hl [2, 3, 1, 0] rfl) hP hD hS
      refine lv_if_eq (tgt := 56) hx hb dX8_warmths_47 (by decide) (fun c14 => ?_) (fun c14 => ?_)
      · skip
        replace q25 := (if_pos c14).symm.trans q25
        refine lv_iconst (v := (0 : Int32)) hx hb dX8_warmths_56 (by decide) ?_
        obtain rfl := Option.some.inj q25
        exact J15 _ _ _ (lv_sub hl [0, 1, 3] rfl) hP hD hS
      · skip
        replace q25 := (if_neg c14).symm.trans q25
        refine lv_iconst (v := (1 : Int32)) hx hb dX8_warmths_50 (by decide) ?_
        refine lv_iload_n hx hb dX8_warmths_51 rfl (lv_at hl 3 rfl) ?_
        refine lv_ishl hx hb dX8_warmths_52 ?_
        refine lv_goto (tgt := 57) hx hb dX8_warmths_53 (by decide) ?_
        obtain rfl := Option.some.inj q25
        exact J15 _ _ _ (lv_sub hl [0, 1, 3] rfl) hP hD hS
  · skip
    replace h17 := (if_pos c2).symm.trans h17
    refine lv_iconst (v := (-1 : Int32)) hx hb dX8_warmths_8 (by decide) ?_
    obtain rfl := Option.some.inj h17
    exact hret _ _ _ _ (vp_nar_int _) hP hD hS dX8_warmths_9
def mX8_shiftsNow_l49 (s19 : Int32 × Int32 × GS) (s30 : Int32 × GS) : Option ((Int32 × GS) ⊕ (Int32 × GS)) :=
  Option.bind (mX8_longOn s30.2 (0 : Int32)) fun v31 =>
  if v31 ≤ s30.1 then
    some (.inr (s30.1, s30.2))
  else
    Option.bind (mX8_frankOn s30.2 (200 : Int32) s30.1) fun v33 =>
    Option.bind (ast 72 (s30.2.1 18) (((12 : Int32) * s19.2.1) + s30.1) v33) fun f34 =>
    some (.inl ((s30.1 + (1 : Int32)), (sA s30.2 18 f34)))

def mX8_shiftsNow_l12 (s19 : Int32 × Int32 × GS) : Option ((Int32 × Int32 × GS) ⊕ (Int32 × Int32 × GS)) :=
  if (6 : Int32) ≤ s19.2.1 then
    some (.inr (s19.1, s19.2.1, s19.2.2))
  else
    Option.bind (ast 240 (s19.2.2.1 0) (214 : Int32) s19.2.1) fun f21 =>
    Option.bind (mX8_isAsSeen (sA s19.2.2 0 f21) (200 : Int32)) fun v22 =>
    Option.bind (
      if v22 = 0 then
        some (0 : Int32)
      else
        some ((1 : Int32) <<< (s19.2.1 &&& 31))) fun (v24 : Int32) =>
    Option.bind (whO (mX8_shiftsNow_l49 s19) FU ((0 : Int32), (sA s19.2.2 0 f21))) fun e35 =>
    some (.inl ((s19.1 ||| v24), (s19.2.1 + (1 : Int32)), e35.2))

def mX8_shiftsNow (g : GS) : Option (Int32 × GS) :=
  Option.bind (mX8_copies g (0 : Int32) (200 : Int32)) fun v1 =>
  Option.bind (whO (mX8_shiftsNow_l12) FU ((0 : Int32), (0 : Int32), v1)) fun e36 =>
  some (e36.1, e36.2.2)
abbrev rmX8_shiftsNow : Room := { frames := 3, cells := 0, slots := 0, locals := 73 }
set_option maxHeartbeats 4000000 in
set_option maxRecDepth 100000 in
theorem k_X8_shiftsNow (l : Launch) (D : va_G) (ca : Nat → ClassId) (ga : Nat → Nat) (g : GS) (o : Int32 × GS) (hm : mX8_shiftsNow g = some o) : KI l yX8_shiftsNow wsX8_shiftsNow rmX8_shiftsNow D ca [.ref (ga 0)] (cO ca ga g) (cO ca ga o.2) o.1 := by
  refine KI.of (cc := cX8_shiftsNow) (n := 4) (plainFor_of_name (by decide)) rfl (Nat.le_of_ble_eq_true rfl) ?_
  intro p e s m below meth c A Z hx hb hml hts hown hA hK hP hD hS hret ls hl
  have hown : s.vm.findClass RX8 = some m.cls := hown
  have hl : lv_has ls 4 [(0, .ref (ga 0))] := hl
  have inX8 : ∀ w ∈ wsX80, w ∈ wsX8_shiftsNow := by decide +kernel
  have k1 := hts (.fieldLink RX8 7 "FriezeFolkModel" "state" "[I") (by decide +kernel)
  have k2 := hts (.fieldLink RX8 34 "FriezeFolkModel" "frankBy" "[I") (by decide +kernel)
  unfold mX8_shiftsNow at hm
  refine lv_iconst (v := (0 : Int32)) hx hb dX8_shiftsNow_0 (by decide) ?_
  refine lv_istore_n (lv' := [(1, .int (0 : Int32)), (0, .ref (ga 0))]) hx hb dX8_shiftsNow_1 rfl hl (by decide) rfl (fun ls hl => ?_)
  refine lv_aload_n hx hb dX8_shiftsNow_2 rfl (lv_at hl 1 rfl) ?_
  refine lv_iconst (v := (0 : Int32)) hx hb dX8_shiftsNow_3 (by decide) ?_
  refine lv_sipush (v := (200 : Int32)) hx hb dX8_shiftsNow_4 (by decide) ?_
  obtain ⟨v1, q1, h37⟩ := obn hm
  clear hm
  refine xVv (As := [.int (0 : Int32), .int (200 : Int32)]) (ci := 8) ⟨hx, hb, hml, hown, hts⟩ (k_X8_copies l D ca ga g (0 : Int32) (200 : Int32) _ q1) (cwV 2 hts gX8_shiftsNow_X8_copies rfl rfl rfl (by decide +kernel) ⟨Nat.le_of_ble_eq_true rfl, Nat.le_of_ble_eq_true rfl⟩) hK hA hP hD hS dX8_shiftsNow_7 rfl hl.1 [0, 1, 2, 3, 4, 5, 6, 7, 8, 9, 10, 11, 12, 13] [] [0, 1, 2, 3, 4, 5, 6, 7, 8, 9, 10, 11, 12, 13] rfl rfl (wr := []) rfl rfl (by decide) (wn := (cO ca ga v1)) rfl rfl rfl rfl rfl rfl (Nat.le_of_ble_eq_true rfl) (fun H locs hP hD hS => ?_)
  refine lv_iconst (v := (0 : Int32)) hx hb dX8_shiftsNow_10 (by decide) ?_
  refine lv_istore_n (lv' := [(2, .int (0 : Int32)), (1, .int (0 : Int32)), (0, .ref (ga 0))]) hx hb dX8_shiftsNow_11 rfl hl (by decide) rfl (fun ls hl => ?_)
  obtain ⟨e36, w38, h39⟩ := obn h37
  clear h37
  have AF36 : ∀ (ls : Array Slot) (H : Heap) (locs : List Loc), lv_has ls 4 [(1, .int e36.1)] → va_P D vwCl (cO ca ga e36.2.2) H → va_D A (cO ca ga e36.2.2) → va_S A s.heap H locs → W p l e rmX8_shiftsNow s m ([.ref (ga 0)] : List Value).toArray below meth c H locs 0 0 Z (F0 m 89 ls []) := by
    intro ls H locs hl hP hD hS
    refine lv_iload_n hx hb dX8_shiftsNow_89 rfl (lv_at hl 0 rfl) ?_
    obtain rfl := Option.some.inj h39
    exact hret _ _ _ _ (vp_nar_int _) hP hD hS dX8_shiftsNow_90
  refine whO_walk (I := fun s19 => ∀ (ls : Array Slot) (H : Heap) (locs : List Loc), lv_has ls 4 [(0, .ref (ga 0)), (1, .int s19.1), (2, .int s19.2.1)] → va_P D vwCl (cO ca ga s19.2.2) H → va_D A (cO ca ga s19.2.2) → va_S A s.heap H locs → W p l e rmX8_shiftsNow s m ([.ref (ga 0)] : List Value).toArray below meth c H locs 0 0 Z (F0 m 12 ls [])) ?_ _ _ w38 _ _ _ (lv_sub hl [2, 1, 0] rfl) hP hD hS
  clear w38
  intro s19 o36 h40 hi36 ho36 ls H locs hl hP hD hS
  unfold mX8_shiftsNow_l12 at h40
  refine lv_iload_n hx hb dX8_shiftsNow_12 rfl (lv_at hl 2 rfl) ?_
  refine lv_bipush (v := (6 : Int32)) hx hb dX8_shiftsNow_13 (by decide) ?_
  refine lv_icmp_ge (tgt := 89) hx hb dX8_shiftsNow_15 (by decide) (fun c20 => ?_) (fun c20 => ?_)
  · skip
    replace h40 := (if_pos c20).symm.trans h40
    have h41 := ho36 _ (Option.some.inj h40).symm
    subst h41
    exact AF36 _ _ _ (lv_sub hl [1] rfl) hP hD hS
  · skip
    replace h40 := (if_neg c20).symm.trans h40
    refine lv_aload_n hx hb dX8_shiftsNow_18 rfl (lv_at hl 0 rfl) ?_
    refine xget (ref := "FriezeFolkModel") (C := RX8) (T := TX8) (N := 24) (ci := 8) (v := .ref (ga 1)) hx hb hts inX8 hown hK hP 0 rfl rfl 0 (by decide) k1 rfl rfl dX8_shiftsNow_19 ?_
    refine lv_sipush (v := (214 : Int32)) hx hb dX8_shiftsNow_22 (by decide) ?_
    refine lv_iload_n hx hb dX8_shiftsNow_25 rfl (lv_at hl 2 rfl) ?_
    obtain ⟨f21, q21, h42⟩ := obn h40
    clear h40
    refine xast hx hb hK hP hD hS 1 rfl q21 dX8_shiftsNow_26 (wn := (cO ca ga (sA s19.2.2 0 f21))) rfl (fun H locs hP hD hS => ?_)
    refine lv_iload_n hx hb dX8_shiftsNow_27 rfl (lv_at hl 1 rfl) ?_
    refine lv_aload_n hx hb dX8_shiftsNow_28 rfl (lv_at hl 0 rfl) ?_
    refine lv_sipush (v := (200 : Int32)) hx hb dX8_shiftsNow_29 (by decide) ?_
    obtain ⟨v22, q22, h43⟩ := obn h42
    clear h42
    refine xVi (As := [.int (200 : Int32)]) (ci := 8) ⟨hx, hb, hml, hown, hts⟩ (k_X8_isAsSeen l D ca ga (sA s19.2.2 0 f21) (200 : Int32) _ q22) (cwV 1 hts gX8_shiftsNow_X8_isAsSeen rfl rfl rfl (by decide +kernel) ⟨Nat.le_of_ble_eq_true rfl, Nat.le_of_ble_eq_true rfl⟩) hK hA hP hD hS dX8_shiftsNow_32 rfl hl.1 [0, 1, 2, 3, 4, 5, 6, 7, 8, 9, 10, 11, 12, 13] [] [0, 1, 2, 3, 4, 5, 6, 7, 8, 9, 10, 11, 12, 13] rfl rfl (wr := []) rfl rfl (by decide) (wn := (cO ca ga (sA s19.2.2 0 f21))) rfl rfl rfl rfl rfl rfl (Nat.le_of_ble_eq_true rfl) (fun H locs hP hD hS => ?_)
    obtain ⟨v24, q44, h45⟩ := obn h43
    clear h43
    have J24 : ∀ (ls : Array Slot) (H : Heap) (locs : List Loc), lv_has ls 4 [(0, .ref (ga 0)), (2, .int s19.2.1)] → va_P D vwCl (cO ca ga (sA s19.2.2 0 f21)) H → va_D A (cO ca ga (sA s19.2.2 0 f21)) → va_S A s.heap H locs → W p l e rmX8_shiftsNow s m ([.ref (ga 0)] : List Value).toArray below meth c H locs 0 0 Z (F0 m 45 ls [.int v24, .int s19.1]) := by
      intro ls H locs hl hP hD hS
      refine lv_ior hx hb dX8_shiftsNow_45 ?_
      refine lv_istore_n (lv' := [(1, .int (s19.1 ||| v24)), (0, .ref (ga 0)), (2, .int s19.2.1)]) hx hb dX8_shiftsNow_46 rfl hl (by decide) rfl (fun ls hl => ?_)
      refine lv_iconst (v := (0 : Int32)) hx hb dX8_shiftsNow_47 (by decide) ?_
      refine lv_istore_n (lv' := [(3, .int (0 : Int32)), (1, .int (s19.1 ||| v24)), (0, .ref (ga 0)), (2, .int s19.2.1)]) hx hb dX8_shiftsNow_48 rfl hl (by decide) rfl (fun ls hl => ?_)
      obtain ⟨e35, w46, h47⟩ := obn h45
      clear h45
      have AF35 : ∀ (ls : Array Slot) (H : Heap) (locs : List Loc), lv_has ls 4 [(0, .ref (ga 0)), (1, .int (s19.1 ||| v24)), (2, .int s19.2.1)] → va_P D vwCl (cO ca ga e35.2) H → va_D A (cO ca ga e35.2) → va_S A s.heap H locs → W p l e rmX8_shiftsNow s m ([.ref (ga 0)] : List Value).toArray below meth c H locs 0 0 Z (F0 m 83 ls []) := by
        intro ls H locs hl hP hD hS
        refine lv_iinc (v := (s19.2.1 + (1 : Int32))) (lv' := [(2, .int (s19.2.1 + (1 : Int32))), (0, .ref (ga 0)), (1, .int (s19.1 ||| v24))]) hx hb dX8_shiftsNow_83 hl (k := 2) rfl rfl (by decide) rfl (fun ls hl => ?_)
        refine lv_goto (tgt := 12) hx hb dX8_shiftsNow_86 (by decide) ?_
        exact hi36 _ (Option.some.inj h47).symm _ _ _ (lv_sub hl [1, 2, 0] rfl) hP hD hS
      refine whO_walk (I := fun s30 => ∀ (ls : Array Slot) (H : Heap) (locs : List Loc), lv_has ls 4 [(0, .ref (ga 0)), (1, .int (s19.1 ||| v24)), (2, .int s19.2.1), (3, .int s30.1)] → va_P D vwCl (cO ca ga s30.2) H → va_D A (cO ca ga s30.2) → va_S A s.heap H locs → W p l e rmX8_shiftsNow s m ([.ref (ga 0)] : List Value).toArray below meth c H locs 0 0 Z (F0 m 49 ls [])) ?_ _ _ w46 _ _ _ (lv_sub hl [2, 1, 3, 0] rfl) hP hD hS
      clear w46
      intro s30 o35 h48 hi35 ho35 ls H locs hl hP hD hS
      unfold mX8_shiftsNow_l49 at h48
      refine lv_iload_n hx hb dX8_shiftsNow_49 rfl (lv_at hl 3 rfl) ?_
      refine lv_aload_n hx hb dX8_shiftsNow_50 rfl (lv_at hl 0 rfl) ?_
      refine lv_iconst (v := (0 : Int32)) hx hb dX8_shiftsNow_51 (by decide) ?_
      obtain ⟨v31, q31, h49⟩ := obn h48
      clear h48
      refine xVi (As := [.int (0 : Int32)]) (ci := 8) ⟨hx, hb, hml, hown, hts⟩ (k_X8_longOn l D ca ga s30.2 (0 : Int32) _ q31) (cwV 1 hts gX8_shiftsNow_X8_longOn rfl rfl rfl (by decide +kernel) ⟨Nat.le_of_ble_eq_true rfl, Nat.le_of_ble_eq_true rfl⟩) hK hA hP hD hS dX8_shiftsNow_52 rfl hl.1 [0, 1, 2, 3, 4, 5, 6, 7, 8, 9, 10, 11, 12, 13] [] [0, 1, 2, 3, 4, 5, 6, 7, 8, 9, 10, 11, 12, 13] rfl rfl (wr := []) rfl rfl (by decide) (wn := (cO ca ga s30.2)) rfl rfl rfl rfl rfl rfl (Nat.le_of_ble_eq_true rfl) (fun H locs hP hD hS => ?_)
      refine lv_icmp_ge (tgt := 83) hx hb dX8_shiftsNow_55 (by decide) (fun c32 => ?_) (fun c32 => ?_)
      · skip
        replace h49 := (if_pos c32).symm.trans h49
        have h50 := ho35 _ (Option.some.inj h49).symm
        subst h50
        exact AF35 _ _ _ (lv_sub hl [0, 1, 2] rfl) hP hD hS
      · skip
        replace h49 := (if_neg c32).symm.trans h49
        refine lv_aload_n hx hb dX8_shiftsNow_58 rfl (lv_at hl 0 rfl) ?_
        refine xget (ref := "FriezeFolkModel") (C := RX8) (T := TX8) (N := 24) (ci := 8) (v := .ref (ga 19)) hx hb hts inX8 hown hK hP 0 rfl rfl 18 (by decide) k2 rfl rfl dX8_shiftsNow_59 ?_
        refine lv_bipush (v := (12 : Int32)) hx hb dX8_shiftsNow_62 (by decide) ?_
        refine lv_iload_n hx hb dX8_shiftsNow_64 rfl (lv_at hl 2 rfl) ?_
        refine lv_imul hx hb dX8_shiftsNow_65 ?_
        refine lv_iload_n hx hb dX8_shiftsNow_66 rfl (lv_at hl 3 rfl) ?_
        refine lv_iadd hx hb dX8_shiftsNow_67 ?_
        refine lv_aload_n hx hb dX8_shiftsNow_68 rfl (lv_at hl 0 rfl) ?_
        refine lv_sipush (v := (200 : Int32)) hx hb dX8_shiftsNow_69 (by decide) ?_
        refine lv_iload_n hx hb dX8_shiftsNow_72 rfl (lv_at hl 3 rfl) ?_
        obtain ⟨v33, q33, h51⟩ := obn h49
        clear h49
        refine xVi (As := [.int (200 : Int32), .int s30.1]) (ci := 8) ⟨hx, hb, hml, hown, hts⟩ (k_X8_frankOn l D ca ga s30.2 (200 : Int32) s30.1 _ q33) (cwV 2 hts gX8_shiftsNow_X8_frankOn rfl rfl rfl (by decide +kernel) ⟨Nat.le_of_ble_eq_true rfl, Nat.le_of_ble_eq_true rfl⟩) hK hA hP hD hS dX8_shiftsNow_73 rfl hl.1 [0, 1, 2, 3, 4, 5, 6, 7, 8, 9, 10, 11, 12, 13] [] [0, 1, 2, 3, 4, 5, 6, 7, 8, 9, 10, 11, 12, 13] rfl rfl (wr := []) rfl rfl (by decide) (wn := (cO ca ga s30.2)) rfl rfl rfl rfl rfl rfl (Nat.le_of_ble_eq_true rfl) (fun H locs hP hD hS => ?_)
        obtain ⟨f34, q34, h52⟩ := obn h51
        clear h51
        refine xast hx hb hK hP hD hS 9 rfl q34 dX8_shiftsNow_76 (wn := (cO ca ga (sA s30.2 18 f34))) rfl (fun H locs hP hD hS => ?_)
        refine lv_iinc (v := (s30.1 + (1 : Int32))) (lv' := [(3, .int (s30.1 + (1 : Int32))), (0, .ref (ga 0)), (1, .int (s19.1 ||| v24)), (2, .int s19.2.1)]) hx hb dX8_shiftsNow_77 hl (k := 3) rfl rfl (by decide) rfl (fun ls hl => ?_)
        refine lv_goto (tgt := 49) hx hb dX8_shiftsNow_80 (by decide) ?_
        exact hi35 _ (Option.some.inj h52).symm _ _ _ (lv_sub hl [1, 2, 3, 0] rfl) hP hD hS
    refine lv_if_eq (tgt := 44) hx hb dX8_shiftsNow_35 (by decide) (fun c23 => ?_) (fun c23 => ?_)
    · skip
      replace q44 := (if_pos c23).symm.trans q44
      refine lv_iconst (v := (0 : Int32)) hx hb dX8_shiftsNow_44 (by decide) ?_
      obtain rfl := Option.some.inj q44
      exact J24 _ _ _ (lv_sub hl [0, 2] rfl) hP hD hS
    · skip
      replace q44 := (if_neg c23).symm.trans q44
      refine lv_iconst (v := (1 : Int32)) hx hb dX8_shiftsNow_38 (by decide) ?_
      refine lv_iload_n hx hb dX8_shiftsNow_39 rfl (lv_at hl 2 rfl) ?_
      refine lv_ishl hx hb dX8_shiftsNow_40 ?_
      refine lv_goto (tgt := 45) hx hb dX8_shiftsNow_41 (by decide) ?_
      obtain rfl := Option.some.inj q44
      exact J24 _ _ _ (lv_sub hl [0, 2] rfl) hP hD hS

def mX8_shifts (g : GS) : Option (Int32 × GS) :=
  Option.bind (mX8_shiftsNow g) fun v1 =>
  some (v1.1, v1.2)
abbrev rmX8_shifts : Room := { frames := 4, cells := 0, slots := 0, locals := 96 }
set_option maxHeartbeats 4000000 in
set_option maxRecDepth 100000 in
theorem k_X8_shifts (l : Launch) (D : va_G) (ca : Nat → ClassId) (ga : Nat → Nat) (g : GS) (o : Int32 × GS) (hm : mX8_shifts g = some o) : KI l yX8_shifts wsX8_shifts rmX8_shifts D ca [.ref (ga 0)] (cO ca ga g) (cO ca ga o.2) o.1 := by
  refine KI.of (cc := cX8_shifts) (n := 1) (plainFor_of_name (by decide)) rfl (Nat.le_of_ble_eq_true rfl) ?_
  intro p e s m below meth c A Z hx hb hml hts hown hA hK hP hD hS hret ls hl
  have hown : s.vm.findClass RX8 = some m.cls := hown
  have hl : lv_has ls 1 [(0, .ref (ga 0))] := hl
  unfold mX8_shifts at hm
  refine lv_aload_n hx hb dX8_shifts_0 rfl (lv_at hl 0 rfl) ?_
  obtain ⟨v1, q1, h2⟩ := obn hm
  clear hm
  refine xVi (As := []) (ci := 8) ⟨hx, hb, hml, hown, hts⟩ (k_X8_shiftsNow l D ca ga g _ q1) (cwV 0 hts gX8_shifts_X8_shiftsNow rfl rfl rfl (by decide +kernel) ⟨Nat.le_of_ble_eq_true rfl, Nat.le_of_ble_eq_true rfl⟩) hK hA hP hD hS dX8_shifts_1 rfl hl.1 [0, 1, 2, 3, 4, 5, 6, 7, 8, 9, 10, 11, 12, 13] [] [0, 1, 2, 3, 4, 5, 6, 7, 8, 9, 10, 11, 12, 13] rfl rfl (wr := []) rfl rfl (by decide) (wn := (cO ca ga v1.2)) rfl rfl rfl rfl rfl rfl (Nat.le_of_ble_eq_true rfl) (fun H locs hP hD hS => ?_)
  obtain rfl := Option.some.inj h2
  exact hret _ _ _ _ (vp_nar_int _) hP hD hS dX8_shifts_4
def mX8_ask_l22 (v3 : Int32 × GS) (s4 : Int32 × Int32) : Option ((Int32 × Int32) ⊕ (Int32 × Int32)) :=
  if (6 : Int32) ≤ s4.2 then
    some (.inr (s4.1, s4.2))
  else
    some (.inl ((s4.1 + ((v3.1 >>> (s4.2 &&& 31)) &&& (1 : Int32))), (s4.2 + (1 : Int32))))

def mX8_ask_l80 (v3 : Int32 × GS) (s7 : Int32 × Int32 × Int32) (s10 : Int32 × Int32) (s12 : Int32 × Int32) : Option ((Int32 × Int32) ⊕ (Int32 × Int32)) :=
  if (6 : Int32) ≤ s12.2 then
    some (.inr (s12.1, s12.2))
  else
    if ((v3.1 >>> (s10.2 &&& 31)) &&& (1 : Int32)) = (1 : Int32) then
      Option.bind (
        if ((v3.1 >>> (s12.2 &&& 31)) &&& (1 : Int32)) = (1 : Int32) then
          Option.bind (ald 72 (v3.2.1 18) (((12 : Int32) * s10.2) + s7.2.2)) fun v16 =>
          Option.bind (ald 72 (v3.2.1 18) (((12 : Int32) * s12.2) + s7.2.2)) fun v17 =>
          if v16 = v17 then
            some (1 : Int32)
          else
            some (0 : Int32)
        else
          some (0 : Int32)) fun (v19 : Int32) =>
      some (.inl ((s12.1 + v19), (s12.2 + (1 : Int32))))
    else
      some (.inr (s12.1, s12.2))

def mX8_ask_l67 (v3 : Int32 × GS) (s7 : Int32 × Int32 × Int32) (s10 : Int32 × Int32) : Option ((Int32 × Int32) ⊕ (Int32 × Int32)) :=
  if (6 : Int32) ≤ s10.2 then
    some (.inr (s10.1, s10.2))
  else
    Option.bind (whO (mX8_ask_l80 v3 s7 s10) FU ((0 : Int32), (0 : Int32))) fun e20 =>
    Option.bind (
      if e20.1 ≤ s10.1 then
        some s10.1
      else
        some e20.1) fun (v22 : Int32) =>
    some (.inl (v22, (s10.2 + (1 : Int32))))

def mX8_ask_l51 (v3 : Int32 × GS) (s7 : Int32 × Int32 × Int32) : Option ((Int32 × Int32 × Int32) ⊕ (Int32 × Int32 × Int32)) :=
  Option.bind (mX8_longOn v3.2 (0 : Int32)) fun v8 =>
  if v8 ≤ s7.2.2 then
    some (.inr (s7.1, s7.2.1, s7.2.2))
  else
    Option.bind (whO (mX8_ask_l67 v3 s7) FU ((0 : Int32), (0 : Int32))) fun e23 =>
    Option.bind (
      if s7.1 ≤ e23.1 then
        some s7.2.1
      else
        some s7.2.2) fun (v25 : Int32) =>
    Option.bind (
      if s7.1 ≤ e23.1 then
        some s7.1
      else
        some e23.1) fun (v27 : Int32) =>
    some (.inl (v27, v25, (s7.2.2 + (1 : Int32))))

def mX8_ask (g : GS) (w : Int32) : Option (Int32 × GS) :=
  Option.bind (mX8_in w.toInt64 (0 : Int64) (1 : Int64)) fun v1 =>
  if v1 = 0 then
    some ((-1 : Int32), g)
  else
    Option.bind (mX8_shiftsNow g) fun v3 =>
    Option.bind (whO (mX8_ask_l22 v3) FU ((0 : Int32), (0 : Int32))) fun e6 =>
    Option.bind (whO (mX8_ask_l51 v3) FU (e6.1, (-4 : Int32), (0 : Int32))) fun e28 =>
    Option.bind (
      if e28.2.1 = (-4 : Int32) then
        some (.inl ())
      else
        if w = 0 then
          some (.inl ())
        else
          some (.inr (e28.1, v3.2))) fun (v31 : (Unit) ⊕ (Int32 × GS)) => esc v31 fun t32 =>
    some (e28.2.1, v3.2)
abbrev rmX8_ask : Room := { frames := 4, cells := 0, slots := 0, locals := 96 }
set_option maxHeartbeats 4000000 in
set_option maxRecDepth 100000 in
theorem k_X8_ask (l : Launch) (D : va_G) (ca : Nat → ClassId) (ga : Nat → Nat) (g : GS) (w : Int32) (o : Int32 × GS) (hm : mX8_ask g w = some o) : KI l yX8_ask wsX8_ask rmX8_ask D ca [.ref (ga 0), .int w] (cO ca ga g) (cO ca ga o.2) o.1 := by
  refine KI.of (cc := cX8_ask) (n := 10) (plainFor_of_name (by decide)) rfl (Nat.le_of_ble_eq_true rfl) ?_
  intro p e s m below meth c A Z hx hb hml hts hown hA hK hP hD hS hret ls hl
  have hown : s.vm.findClass RX8 = some m.cls := hown
  have hl : lv_has ls 10 [(0, .ref (ga 0)), (1, .int w)] := hl
  have inX8 : ∀ w ∈ wsX80, w ∈ wsX8_ask := by decide +kernel
  have k1 := hts (.fieldLink RX8 34 "FriezeFolkModel" "frankBy" "[I") (by decide +kernel)
  unfold mX8_ask at hm
  refine lv_iload_n hx hb dX8_ask_0 rfl (lv_at hl 1 rfl) ?_
  refine lv_i2l (v := w.toInt64) hx hb dX8_ask_1 rfl ?_
  refine lv_lconst (v := (0 : Int64)) hx hb dX8_ask_2 (by decide) ?_
  refine lv_lconst (v := (1 : Int64)) hx hb dX8_ask_3 (by decide) ?_
  obtain ⟨v1, q1, h33⟩ := obn hm
  clear hm
  refine xSi (As := [.long w.toInt64, .long (0 : Int64), .long (1 : Int64)]) ⟨hx, hb, hml, hown, hts⟩ (k_X8_in l D ca  w.toInt64 (0 : Int64) (1 : Int64) _ q1) (va_cwS 3 hts gX8_ask_X8_in rfl rfl rfl (by decide +kernel) ⟨Nat.le_of_ble_eq_true rfl, Nat.le_of_ble_eq_true rfl⟩) hK hA hP hD hS dX8_ask_4 rfl hl.1 [] [0, 1, 2, 3, 4, 5, 6, 7, 8, 9, 10, 11, 12, 13] [0, 1, 2, 3, 4, 5, 6, 7, 8, 9, 10, 11, 12, 13] rfl rfl (wr := ((cO ca ga g))) rfl rfl (by decide) (wn := (cO ca ga g)) rfl rfl rfl (Nat.le_of_ble_eq_true rfl) (fun H locs hP hD hS => ?_)
  refine lv_if_ne (tgt := 12) hx hb dX8_ask_7 (by decide) (fun c2 => ?_) (fun c2 => ?_)
  · skip
    replace h33 := (if_neg c2).symm.trans h33
    refine lv_aload_n hx hb dX8_ask_12 rfl (lv_at hl 0 rfl) ?_
    obtain ⟨v3, q3, h34⟩ := obn h33
    clear h33
    refine xVi (As := []) (ci := 8) ⟨hx, hb, hml, hown, hts⟩ (k_X8_shiftsNow l D ca ga g _ q3) (cwV 0 hts gX8_ask_X8_shiftsNow rfl rfl rfl (by decide +kernel) ⟨Nat.le_of_ble_eq_true rfl, Nat.le_of_ble_eq_true rfl⟩) hK hA hP hD hS dX8_ask_13 rfl hl.1 [0, 1, 2, 3, 4, 5, 6, 7, 8, 9, 10, 11, 12, 13] [] [0, 1, 2, 3, 4, 5, 6, 7, 8, 9, 10, 11, 12, 13] rfl rfl (wr := []) rfl rfl (by decide) (wn := (cO ca ga v3.2)) rfl rfl rfl rfl rfl rfl (Nat.le_of_ble_eq_true rfl) (fun H locs hP hD hS => ?_)
    refine lv_istore_n (lv' := [(2, .int v3.1), (0, .ref (ga 0)), (1, .int w)]) hx hb dX8_ask_16 rfl hl (by decide) rfl (fun ls hl => ?_)
    refine lv_iconst (v := (0 : Int32)) hx hb dX8_ask_17 (by decide) ?_
    refine lv_istore_n (lv' := [(3, .int (0 : Int32)), (2, .int v3.1), (0, .ref (ga 0)), (1, .int w)]) hx hb dX8_ask_18 rfl hl (by decide) rfl (fun ls hl => ?_)
    refine lv_iconst (v := (0 : Int32)) hx hb dX8_ask_19 (by decide) ?_
    refine lv_istore (lv' := [(4, .int (0 : Int32)), (3, .int (0 : Int32)), (2, .int v3.1), (0, .ref (ga 0)), (1, .int w)]) hx hb dX8_ask_20 hl (by decide) rfl (fun ls hl => ?_)
    obtain ⟨e6, w35, h36⟩ := obn h34
    clear h34
    have AF6 : ∀ (ls : Array Slot) (H : Heap) (locs : List Loc), lv_has ls 10 [(0, .ref (ga 0)), (1, .int w), (2, .int v3.1), (3, .int e6.1)] → va_P D vwCl (cO ca ga v3.2) H → va_D A (cO ca ga v3.2) → va_S A s.heap H locs → W p l e rmX8_ask s m ([.ref (ga 0), .int w] : List Value).toArray below meth c H locs 0 0 Z (F0 m 44 ls []) := by
      intro ls H locs hl hP hD hS
      refine lv_bipush (v := (-4 : Int32)) hx hb dX8_ask_44 (by decide) ?_
      refine lv_istore (lv' := [(4, .int (-4 : Int32)), (0, .ref (ga 0)), (1, .int w), (2, .int v3.1), (3, .int e6.1)]) hx hb dX8_ask_46 hl (by decide) rfl (fun ls hl => ?_)
      refine lv_iconst (v := (0 : Int32)) hx hb dX8_ask_48 (by decide) ?_
      refine lv_istore (lv' := [(5, .int (0 : Int32)), (4, .int (-4 : Int32)), (0, .ref (ga 0)), (1, .int w), (2, .int v3.1), (3, .int e6.1)]) hx hb dX8_ask_49 hl (by decide) rfl (fun ls hl => ?_)
      obtain ⟨e28, w37, h38⟩ := obn h36
      clear h36
      have AF28 : ∀ (ls : Array Slot) (H : Heap) (locs : List Loc), lv_has ls 10 [(1, .int w), (3, .int e28.1), (4, .int e28.2.1)] → va_P D vwCl (cO ca ga v3.2) H → va_D A (cO ca ga v3.2) → va_S A s.heap H locs → W p l e rmX8_ask s m ([.ref (ga 0), .int w] : List Value).toArray below meth c H locs 0 0 Z (F0 m 208 ls []) := by
        intro ls H locs hl hP hD hS
        refine lv_iload hx hb dX8_ask_208 (lv_at hl 2 rfl) ?_
        refine lv_bipush (v := (-4 : Int32)) hx hb dX8_ask_210 (by decide) ?_
        obtain ⟨v31, q39, h40⟩ := obn h38
        clear h38
        have J31 : ∀ t32, v31 = .inl t32 → ∀ (ls : Array Slot) (H : Heap) (locs : List Loc), lv_has ls 10 [(4, .int e28.2.1)] → va_P D vwCl (cO ca ga v3.2) H → va_D A (cO ca ga v3.2) → va_S A s.heap H locs → W p l e rmX8_ask s m ([.ref (ga 0), .int w] : List Value).toArray below meth c H locs 0 0 Z (F0 m 219 ls []) := by
          intro t32 ht ls H locs hl hP hD hS
          subst ht
          replace h40 := (esc_l _ _).symm.trans h40
          refine lv_iload hx hb dX8_ask_219 (lv_at hl 0 rfl) ?_
          refine lv_goto (tgt := 225) hx hb dX8_ask_221 (by decide) ?_
          obtain rfl := Option.some.inj h40
          exact hret _ _ _ _ (vp_nar_int _) hP hD hS dX8_ask_225
        refine lv_icmp_eq (tgt := 219) hx hb dX8_ask_212 (by decide) (fun c29 => ?_) (fun c29 => ?_)
        · skip
          replace q39 := (if_pos c29).symm.trans q39
          obtain rfl := Option.some.inj q39
          exact J31 _ rfl _ _ _ (lv_sub hl [2] rfl) hP hD hS
        · skip
          replace q39 := (if_neg c29).symm.trans q39
          refine lv_iload_n hx hb dX8_ask_215 rfl (lv_at hl 0 rfl) ?_
          refine lv_if_ne (tgt := 224) hx hb dX8_ask_216 (by decide) (fun c30 => ?_) (fun c30 => ?_)
          · skip
            replace q39 := (if_neg c30).symm.trans q39
            refine lv_iload_n hx hb dX8_ask_224 rfl (lv_at hl 1 rfl) ?_
            obtain rfl := Option.some.inj q39
            replace h40 := (esc_r _ _).symm.trans h40
            obtain rfl := Option.some.inj h40
            exact hret _ _ _ _ (vp_nar_int _) hP hD hS dX8_ask_225
          · skip
            replace q39 := (if_pos c30).symm.trans q39
            obtain rfl := Option.some.inj q39
            exact J31 _ rfl _ _ _ (lv_sub hl [2] rfl) hP hD hS
      refine whO_walk (I := fun s7 => ∀ (ls : Array Slot) (H : Heap) (locs : List Loc), lv_has ls 10 [(0, .ref (ga 0)), (1, .int w), (2, .int v3.1), (3, .int s7.1), (4, .int s7.2.1), (5, .int s7.2.2)] → va_P D vwCl (cO ca ga v3.2) H → va_D A (cO ca ga v3.2) → va_S A s.heap H locs → W p l e rmX8_ask s m ([.ref (ga 0), .int w] : List Value).toArray below meth c H locs 0 0 Z (F0 m 51 ls [])) ?_ _ _ w37 _ _ _ (lv_sub hl [2, 3, 4, 5, 1, 0] rfl) hP hD hS
      clear w37
      intro s7 o28 h41 hi28 ho28 ls H locs hl hP hD hS
      unfold mX8_ask_l51 at h41
      refine lv_iload hx hb dX8_ask_51 (lv_at hl 5 rfl) ?_
      refine lv_aload_n hx hb dX8_ask_53 rfl (lv_at hl 0 rfl) ?_
      refine lv_iconst (v := (0 : Int32)) hx hb dX8_ask_54 (by decide) ?_
      obtain ⟨v8, q8, h42⟩ := obn h41
      clear h41
      refine xVi (As := [.int (0 : Int32)]) (ci := 8) ⟨hx, hb, hml, hown, hts⟩ (k_X8_longOn l D ca ga v3.2 (0 : Int32) _ q8) (cwV 1 hts gX8_ask_X8_longOn rfl rfl rfl (by decide +kernel) ⟨Nat.le_of_ble_eq_true rfl, Nat.le_of_ble_eq_true rfl⟩) hK hA hP hD hS dX8_ask_55 rfl hl.1 [0, 1, 2, 3, 4, 5, 6, 7, 8, 9, 10, 11, 12, 13] [] [0, 1, 2, 3, 4, 5, 6, 7, 8, 9, 10, 11, 12, 13] rfl rfl (wr := []) rfl rfl (by decide) (wn := (cO ca ga v3.2)) rfl rfl rfl rfl rfl rfl (Nat.le_of_ble_eq_true rfl) (fun H locs hP hD hS => ?_)
      refine lv_icmp_ge (tgt := 208) hx hb dX8_ask_58 (by decide) (fun c9 => ?_) (fun c9 => ?_)
      · skip
        replace h42 := (if_pos c9).symm.trans h42
        have h43 := ho28 _ (Option.some.inj h42).symm
        subst h43
        exact AF28 _ _ _ (lv_sub hl [1, 3, 4] rfl) hP hD hS
      · skip
        replace h42 := (if_neg c9).symm.trans h42
        refine lv_iconst (v := (0 : Int32)) hx hb dX8_ask_61 (by decide) ?_
        refine lv_istore (lv' := [(6, .int (0 : Int32)), (0, .ref (ga 0)), (1, .int w), (2, .int v3.1), (3, .int s7.1), (4, .int s7.2.1), (5, .int s7.2.2)]) hx hb dX8_ask_62 hl (by decide) rfl (fun ls hl => ?_)
        refine lv_iconst (v := (0 : Int32)) hx hb dX8_ask_64 (by decide) ?_
        refine lv_istore (lv' := [(7, .int (0 : Int32)), (6, .int (0 : Int32)), (0, .ref (ga 0)), (1, .int w), (2, .int v3.1), (3, .int s7.1), (4, .int s7.2.1), (5, .int s7.2.2)]) hx hb dX8_ask_65 hl (by decide) rfl (fun ls hl => ?_)
        obtain ⟨e23, w44, h45⟩ := obn h42
        clear h42
        have AF23 : ∀ (ls : Array Slot) (H : Heap) (locs : List Loc), lv_has ls 10 [(0, .ref (ga 0)), (1, .int w), (2, .int v3.1), (3, .int s7.1), (4, .int s7.2.1), (5, .int s7.2.2), (6, .int e23.1)] → va_P D vwCl (cO ca ga v3.2) H → va_D A (cO ca ga v3.2) → va_S A s.heap H locs → W p l e rmX8_ask s m ([.ref (ga 0), .int w] : List Value).toArray below meth c H locs 0 0 Z (F0 m 174 ls []) := by
          intro ls H locs hl hP hD hS
          refine lv_iload hx hb dX8_ask_174 (lv_at hl 6 rfl) ?_
          refine lv_iload_n hx hb dX8_ask_176 rfl (lv_at hl 3 rfl) ?_
          obtain ⟨v25, q46, h47⟩ := obn h45
          clear h45
          have J25 : ∀ (ls : Array Slot) (H : Heap) (locs : List Loc), lv_has ls 10 [(0, .ref (ga 0)), (1, .int w), (2, .int v3.1), (3, .int s7.1), (5, .int s7.2.2), (6, .int e23.1)] → va_P D vwCl (cO ca ga v3.2) H → va_D A (cO ca ga v3.2) → va_S A s.heap H locs → W p l e rmX8_ask s m ([.ref (ga 0), .int w] : List Value).toArray below meth c H locs 0 0 Z (F0 m 187 ls [.int v25]) := by
            intro ls H locs hl hP hD hS
            refine lv_istore (lv' := [(4, .int v25), (0, .ref (ga 0)), (1, .int w), (2, .int v3.1), (3, .int s7.1), (5, .int s7.2.2), (6, .int e23.1)]) hx hb dX8_ask_187 hl (by decide) rfl (fun ls hl => ?_)
            refine lv_iload hx hb dX8_ask_189 (lv_at hl 6 rfl) ?_
            refine lv_iload_n hx hb dX8_ask_191 rfl (lv_at hl 4 rfl) ?_
            obtain ⟨v27, q48, h49⟩ := obn h47
            clear h47
            have J27 : ∀ (ls : Array Slot) (H : Heap) (locs : List Loc), lv_has ls 10 [(0, .ref (ga 0)), (1, .int w), (2, .int v3.1), (4, .int v25), (5, .int s7.2.2)] → va_P D vwCl (cO ca ga v3.2) H → va_D A (cO ca ga v3.2) → va_S A s.heap H locs → W p l e rmX8_ask s m ([.ref (ga 0), .int w] : List Value).toArray below meth c H locs 0 0 Z (F0 m 201 ls [.int v27]) := by
              intro ls H locs hl hP hD hS
              refine lv_istore_n (lv' := [(3, .int v27), (0, .ref (ga 0)), (1, .int w), (2, .int v3.1), (4, .int v25), (5, .int s7.2.2)]) hx hb dX8_ask_201 rfl hl (by decide) rfl (fun ls hl => ?_)
              refine lv_iinc (v := (s7.2.2 + (1 : Int32))) (lv' := [(5, .int (s7.2.2 + (1 : Int32))), (3, .int v27), (0, .ref (ga 0)), (1, .int w), (2, .int v3.1), (4, .int v25)]) hx hb dX8_ask_202 hl (k := 5) rfl rfl (by decide) rfl (fun ls hl => ?_)
              refine lv_goto (tgt := 51) hx hb dX8_ask_205 (by decide) ?_
              exact hi28 _ (Option.some.inj h49).symm _ _ _ (lv_sub hl [2, 3, 4, 1, 5, 0] rfl) hP hD hS
            refine lv_icmp_ge (tgt := 200) hx hb dX8_ask_192 (by decide) (fun c26 => ?_) (fun c26 => ?_)
            · skip
              replace q48 := (if_pos c26).symm.trans q48
              refine lv_iload_n hx hb dX8_ask_200 rfl (lv_at hl 4 rfl) ?_
              obtain rfl := Option.some.inj q48
              exact J27 _ _ _ (lv_sub hl [1, 2, 3, 0, 5] rfl) hP hD hS
            · skip
              replace q48 := (if_neg c26).symm.trans q48
              refine lv_iload hx hb dX8_ask_195 (lv_at hl 6 rfl) ?_
              refine lv_goto (tgt := 201) hx hb dX8_ask_197 (by decide) ?_
              obtain rfl := Option.some.inj q48
              exact J27 _ _ _ (lv_sub hl [1, 2, 3, 0, 5] rfl) hP hD hS
          refine lv_icmp_ge (tgt := 185) hx hb dX8_ask_177 (by decide) (fun c24 => ?_) (fun c24 => ?_)
          · skip
            replace q46 := (if_pos c24).symm.trans q46
            refine lv_iload hx hb dX8_ask_185 (lv_at hl 4 rfl) ?_
            obtain rfl := Option.some.inj q46
            exact J25 _ _ _ (lv_sub hl [0, 1, 2, 3, 5, 6] rfl) hP hD hS
          · skip
            replace q46 := (if_neg c24).symm.trans q46
            refine lv_iload hx hb dX8_ask_180 (lv_at hl 5 rfl) ?_
            refine lv_goto (tgt := 187) hx hb dX8_ask_182 (by decide) ?_
            obtain rfl := Option.some.inj q46
            exact J25 _ _ _ (lv_sub hl [0, 1, 2, 3, 5, 6] rfl) hP hD hS
        refine whO_walk (I := fun s10 => ∀ (ls : Array Slot) (H : Heap) (locs : List Loc), lv_has ls 10 [(0, .ref (ga 0)), (1, .int w), (2, .int v3.1), (3, .int s7.1), (4, .int s7.2.1), (5, .int s7.2.2), (6, .int s10.1), (7, .int s10.2)] → va_P D vwCl (cO ca ga v3.2) H → va_D A (cO ca ga v3.2) → va_S A s.heap H locs → W p l e rmX8_ask s m ([.ref (ga 0), .int w] : List Value).toArray below meth c H locs 0 0 Z (F0 m 67 ls [])) ?_ _ _ w44 _ _ _ (lv_sub hl [2, 3, 4, 5, 6, 7, 1, 0] rfl) hP hD hS
        clear w44
        intro s10 o23 h50 hi23 ho23 ls H locs hl hP hD hS
        unfold mX8_ask_l67 at h50
        refine lv_iload hx hb dX8_ask_67 (lv_at hl 7 rfl) ?_
        refine lv_bipush (v := (6 : Int32)) hx hb dX8_ask_69 (by decide) ?_
        refine lv_icmp_ge (tgt := 174) hx hb dX8_ask_71 (by decide) (fun c11 => ?_) (fun c11 => ?_)
        · skip
          replace h50 := (if_pos c11).symm.trans h50
          have h51 := ho23 _ (Option.some.inj h50).symm
          subst h51
          exact AF23 _ _ _ (lv_sub hl [0, 1, 2, 3, 4, 5, 6] rfl) hP hD hS
        · skip
          replace h50 := (if_neg c11).symm.trans h50
          refine lv_iconst (v := (0 : Int32)) hx hb dX8_ask_74 (by decide) ?_
          refine lv_istore (lv' := [(8, .int (0 : Int32)), (0, .ref (ga 0)), (1, .int w), (2, .int v3.1), (3, .int s7.1), (4, .int s7.2.1), (5, .int s7.2.2), (6, .int s10.1), (7, .int s10.2)]) hx hb dX8_ask_75 hl (by decide) rfl (fun ls hl => ?_)
          refine lv_iconst (v := (0 : Int32)) hx hb dX8_ask_77 (by decide) ?_
          refine lv_istore (lv' := [(9, .int (0 : Int32)), (8, .int (0 : Int32)), (0, .ref (ga 0)), (1, .int w), (2, .int v3.1), (3, .int s7.1), (4, .int s7.2.1), (5, .int s7.2.2), (6, .int s10.1), (7, .int s10.2)]) hx hb dX8_ask_78 hl (by decide) rfl (fun ls hl => ?_)
          obtain ⟨e20, w52, h53⟩ := obn h50
          clear h50
          have AF20 : ∀ (ls : Array Slot) (H : Heap) (locs : List Loc), lv_has ls 10 [(0, .ref (ga 0)), (1, .int w), (2, .int v3.1), (3, .int s7.1), (4, .int s7.2.1), (5, .int s7.2.2), (6, .int s10.1), (7, .int s10.2), (8, .int e20.1)] → va_P D vwCl (cO ca ga v3.2) H → va_D A (cO ca ga v3.2) → va_S A s.heap H locs → W p l e rmX8_ask s m ([.ref (ga 0), .int w] : List Value).toArray below meth c H locs 0 0 Z (F0 m 152 ls []) := by
            intro ls H locs hl hP hD hS
            refine lv_iload hx hb dX8_ask_152 (lv_at hl 8 rfl) ?_
            refine lv_iload hx hb dX8_ask_154 (lv_at hl 6 rfl) ?_
            obtain ⟨v22, q54, h55⟩ := obn h53
            clear h53
            have J22 : ∀ (ls : Array Slot) (H : Heap) (locs : List Loc), lv_has ls 10 [(0, .ref (ga 0)), (1, .int w), (2, .int v3.1), (3, .int s7.1), (4, .int s7.2.1), (5, .int s7.2.2), (7, .int s10.2)] → va_P D vwCl (cO ca ga v3.2) H → va_D A (cO ca ga v3.2) → va_S A s.heap H locs → W p l e rmX8_ask s m ([.ref (ga 0), .int w] : List Value).toArray below meth c H locs 0 0 Z (F0 m 166 ls [.int v22]) := by
              intro ls H locs hl hP hD hS
              refine lv_istore (lv' := [(6, .int v22), (0, .ref (ga 0)), (1, .int w), (2, .int v3.1), (3, .int s7.1), (4, .int s7.2.1), (5, .int s7.2.2), (7, .int s10.2)]) hx hb dX8_ask_166 hl (by decide) rfl (fun ls hl => ?_)
              refine lv_iinc (v := (s10.2 + (1 : Int32))) (lv' := [(7, .int (s10.2 + (1 : Int32))), (6, .int v22), (0, .ref (ga 0)), (1, .int w), (2, .int v3.1), (3, .int s7.1), (4, .int s7.2.1), (5, .int s7.2.2)]) hx hb dX8_ask_168 hl (k := 7) rfl rfl (by decide) rfl (fun ls hl => ?_)
              refine lv_goto (tgt := 67) hx hb dX8_ask_171 (by decide) ?_
              exact hi23 _ (Option.some.inj h55).symm _ _ _ (lv_sub hl [2, 3, 4, 5, 6, 7, 1, 0] rfl) hP hD hS
            refine lv_icmp_le (tgt := 164) hx hb dX8_ask_156 (by decide) (fun c21 => ?_) (fun c21 => ?_)
            · skip
              replace q54 := (if_pos c21).symm.trans q54
              refine lv_iload hx hb dX8_ask_164 (lv_at hl 6 rfl) ?_
              obtain rfl := Option.some.inj q54
              exact J22 _ _ _ (lv_sub hl [0, 1, 2, 3, 4, 5, 7] rfl) hP hD hS
            · skip
              replace q54 := (if_neg c21).symm.trans q54
              refine lv_iload hx hb dX8_ask_159 (lv_at hl 8 rfl) ?_
              refine lv_goto (tgt := 166) hx hb dX8_ask_161 (by decide) ?_
              obtain rfl := Option.some.inj q54
              exact J22 _ _ _ (lv_sub hl [0, 1, 2, 3, 4, 5, 7] rfl) hP hD hS
          refine whO_walk (I := fun s12 => ∀ (ls : Array Slot) (H : Heap) (locs : List Loc), lv_has ls 10 [(0, .ref (ga 0)), (1, .int w), (2, .int v3.1), (3, .int s7.1), (4, .int s7.2.1), (5, .int s7.2.2), (6, .int s10.1), (7, .int s10.2), (8, .int s12.1), (9, .int s12.2)] → va_P D vwCl (cO ca ga v3.2) H → va_D A (cO ca ga v3.2) → va_S A s.heap H locs → W p l e rmX8_ask s m ([.ref (ga 0), .int w] : List Value).toArray below meth c H locs 0 0 Z (F0 m 80 ls [])) ?_ _ _ w52 _ _ _ (lv_sub hl [2, 3, 4, 5, 6, 7, 8, 9, 1, 0] rfl) hP hD hS
          clear w52
          intro s12 o20 h56 hi20 ho20 ls H locs hl hP hD hS
          unfold mX8_ask_l80 at h56
          refine lv_iload hx hb dX8_ask_80 (lv_at hl 9 rfl) ?_
          refine lv_bipush (v := (6 : Int32)) hx hb dX8_ask_82 (by decide) ?_
          refine lv_icmp_ge (tgt := 152) hx hb dX8_ask_84 (by decide) (fun c13 => ?_) (fun c13 => ?_)
          · skip
            replace h56 := (if_pos c13).symm.trans h56
            have h57 := ho20 _ (Option.some.inj h56).symm
            subst h57
            exact AF20 _ _ _ (lv_sub hl [0, 1, 2, 3, 4, 5, 6, 7, 8] rfl) hP hD hS
          · skip
            replace h56 := (if_neg c13).symm.trans h56
            refine lv_iload_n hx hb dX8_ask_87 rfl (lv_at hl 2 rfl) ?_
            refine lv_iload hx hb dX8_ask_88 (lv_at hl 7 rfl) ?_
            refine lv_ishr hx hb dX8_ask_90 ?_
            refine lv_iconst (v := (1 : Int32)) hx hb dX8_ask_91 (by decide) ?_
            refine lv_iand hx hb dX8_ask_92 ?_
            refine lv_iconst (v := (1 : Int32)) hx hb dX8_ask_93 (by decide) ?_
            refine lv_icmp_ne (tgt := 152) hx hb dX8_ask_94 (by decide) (fun c14 => ?_) (fun c14 => ?_)
            · skip
              replace h56 := (if_neg c14).symm.trans h56
              have h58 := ho20 _ (Option.some.inj h56).symm
              subst h58
              exact AF20 _ _ _ (lv_sub hl [0, 1, 2, 3, 4, 5, 6, 7, 8] rfl) hP hD hS
            · skip
              replace h56 := (if_pos c14).symm.trans h56
              refine lv_iload hx hb dX8_ask_97 (lv_at hl 8 rfl) ?_
              refine lv_iload_n hx hb dX8_ask_99 rfl (lv_at hl 2 rfl) ?_
              refine lv_iload hx hb dX8_ask_100 (lv_at hl 9 rfl) ?_
              refine lv_ishr hx hb dX8_ask_102 ?_
              refine lv_iconst (v := (1 : Int32)) hx hb dX8_ask_103 (by decide) ?_
              refine lv_iand hx hb dX8_ask_104 ?_
              refine lv_iconst (v := (1 : Int32)) hx hb dX8_ask_105 (by decide) ?_
              obtain ⟨v19, q59, h60⟩ := obn h56
              clear h56
              have J19 : ∀ (ls : Array Slot) (H : Heap) (locs : List Loc), lv_has ls 10 [(0, .ref (ga 0)), (1, .int w), (2, .int v3.1), (3, .int s7.1), (4, .int s7.2.1), (5, .int s7.2.2), (6, .int s10.1), (7, .int s10.2), (9, .int s12.2)] → va_P D vwCl (cO ca ga v3.2) H → va_D A (cO ca ga v3.2) → va_S A s.heap H locs → W p l e rmX8_ask s m ([.ref (ga 0), .int w] : List Value).toArray below meth c H locs 0 0 Z (F0 m 143 ls [.int v19, .int s12.1]) := by
                intro ls H locs hl hP hD hS
                refine lv_iadd hx hb dX8_ask_143 ?_
                refine lv_istore (lv' := [(8, .int (s12.1 + v19)), (0, .ref (ga 0)), (1, .int w), (2, .int v3.1), (3, .int s7.1), (4, .int s7.2.1), (5, .int s7.2.2), (6, .int s10.1), (7, .int s10.2), (9, .int s12.2)]) hx hb dX8_ask_144 hl (by decide) rfl (fun ls hl => ?_)
                refine lv_iinc (v := (s12.2 + (1 : Int32))) (lv' := [(9, .int (s12.2 + (1 : Int32))), (8, .int (s12.1 + v19)), (0, .ref (ga 0)), (1, .int w), (2, .int v3.1), (3, .int s7.1), (4, .int s7.2.1), (5, .int s7.2.2), (6, .int s10.1), (7, .int s10.2)]) hx hb dX8_ask_146 hl (k := 9) rfl rfl (by decide) rfl (fun ls hl => ?_)
                refine lv_goto (tgt := 80) hx hb dX8_ask_149 (by decide) ?_
                exact hi20 _ (Option.some.inj h60).symm _ _ _ (lv_sub hl [2, 3, 4, 5, 6, 7, 8, 9, 1, 0] rfl) hP hD hS
              refine lv_icmp_ne (tgt := 142) hx hb dX8_ask_106 (by decide) (fun c15 => ?_) (fun c15 => ?_)
              · skip
                replace q59 := (if_neg c15).symm.trans q59
                refine lv_iconst (v := (0 : Int32)) hx hb dX8_ask_142 (by decide) ?_
                obtain rfl := Option.some.inj q59
                exact J19 _ _ _ (lv_sub hl [0, 1, 2, 3, 4, 5, 6, 7, 9] rfl) hP hD hS
              · skip
                replace q59 := (if_pos c15).symm.trans q59
                refine lv_aload_n hx hb dX8_ask_109 rfl (lv_at hl 0 rfl) ?_
                refine xget (ref := "FriezeFolkModel") (C := RX8) (T := TX8) (N := 24) (ci := 8) (v := .ref (ga 19)) hx hb hts inX8 hown hK hP 0 rfl rfl 18 (by decide) k1 rfl rfl dX8_ask_110 ?_
                refine lv_bipush (v := (12 : Int32)) hx hb dX8_ask_113 (by decide) ?_
                refine lv_iload hx hb dX8_ask_115 (lv_at hl 7 rfl) ?_
                refine lv_imul hx hb dX8_ask_117 ?_
                refine lv_iload hx hb dX8_ask_118 (lv_at hl 5 rfl) ?_
                refine lv_iadd hx hb dX8_ask_120 ?_
                obtain ⟨v16, q16, h61⟩ := obn q59
                clear q59
                refine xald hx hb hK hP 9 rfl q16 dX8_ask_121 ?_
                refine lv_aload_n hx hb dX8_ask_122 rfl (lv_at hl 0 rfl) ?_
                refine xget (ref := "FriezeFolkModel") (C := RX8) (T := TX8) (N := 24) (ci := 8) (v := .ref (ga 19)) hx hb hts inX8 hown hK hP 0 rfl rfl 18 (by decide) k1 rfl rfl dX8_ask_123 ?_
                refine lv_bipush (v := (12 : Int32)) hx hb dX8_ask_126 (by decide) ?_
                refine lv_iload hx hb dX8_ask_128 (lv_at hl 9 rfl) ?_
                refine lv_imul hx hb dX8_ask_130 ?_
                refine lv_iload hx hb dX8_ask_131 (lv_at hl 5 rfl) ?_
                refine lv_iadd hx hb dX8_ask_133 ?_
                obtain ⟨v17, q17, h62⟩ := obn h61
                clear h61
                refine xald hx hb hK hP 9 rfl q17 dX8_ask_134 ?_
                refine lv_icmp_ne (tgt := 142) hx hb dX8_ask_135 (by decide) (fun c18 => ?_) (fun c18 => ?_)
                · skip
                  replace h62 := (if_neg c18).symm.trans h62
                  refine lv_iconst (v := (0 : Int32)) hx hb dX8_ask_142 (by decide) ?_
                  obtain rfl := Option.some.inj h62
                  exact J19 _ _ _ (lv_sub hl [0, 1, 2, 3, 4, 5, 6, 7, 9] rfl) hP hD hS
                · skip
                  replace h62 := (if_pos c18).symm.trans h62
                  refine lv_iconst (v := (1 : Int32)) hx hb dX8_ask_138 (by decide) ?_
                  refine lv_goto (tgt := 143) hx hb dX8_ask_139 (by decide) ?_
                  obtain rfl := Option.some.inj h62
                  exact J19 _ _ _ (lv_sub hl [0, 1, 2, 3, 4, 5, 6, 7, 9] rfl) hP hD hS
    refine whO_walk (I := fun s4 => ∀ (ls : Array Slot) (H : Heap) (locs : List Loc), lv_has ls 10 [(0, .ref (ga 0)), (1, .int w), (2, .int v3.1), (3, .int s4.1), (4, .int s4.2)] → va_P D vwCl (cO ca ga v3.2) H → va_D A (cO ca ga v3.2) → va_S A s.heap H locs → W p l e rmX8_ask s m ([.ref (ga 0), .int w] : List Value).toArray below meth c H locs 0 0 Z (F0 m 22 ls [])) ?_ _ _ w35 _ _ _ (lv_sub hl [3, 4, 2, 1, 0] rfl) hP hD hS
    clear w35
    intro s4 o6 h63 hi6 ho6 ls H locs hl hP hD hS
    unfold mX8_ask_l22 at h63
    refine lv_iload hx hb dX8_ask_22 (lv_at hl 4 rfl) ?_
    refine lv_bipush (v := (6 : Int32)) hx hb dX8_ask_24 (by decide) ?_
    refine lv_icmp_ge (tgt := 44) hx hb dX8_ask_26 (by decide) (fun c5 => ?_) (fun c5 => ?_)
    · skip
      replace h63 := (if_pos c5).symm.trans h63
      have h64 := ho6 _ (Option.some.inj h63).symm
      subst h64
      exact AF6 _ _ _ (lv_sub hl [0, 1, 2, 3] rfl) hP hD hS
    · skip
      replace h63 := (if_neg c5).symm.trans h63
      refine lv_iload_n hx hb dX8_ask_29 rfl (lv_at hl 3 rfl) ?_
      refine lv_iload_n hx hb dX8_ask_30 rfl (lv_at hl 2 rfl) ?_
      refine lv_iload hx hb dX8_ask_31 (lv_at hl 4 rfl) ?_
      refine lv_ishr hx hb dX8_ask_33 ?_
      refine lv_iconst (v := (1 : Int32)) hx hb dX8_ask_34 (by decide) ?_
      refine lv_iand hx hb dX8_ask_35 ?_
      refine lv_iadd hx hb dX8_ask_36 ?_
      refine lv_istore_n (lv' := [(3, .int (s4.1 + ((v3.1 >>> (s4.2 &&& 31)) &&& (1 : Int32)))), (0, .ref (ga 0)), (1, .int w), (2, .int v3.1), (4, .int s4.2)]) hx hb dX8_ask_37 rfl hl (by decide) rfl (fun ls hl => ?_)
      refine lv_iinc (v := (s4.2 + (1 : Int32))) (lv' := [(4, .int (s4.2 + (1 : Int32))), (3, .int (s4.1 + ((v3.1 >>> (s4.2 &&& 31)) &&& (1 : Int32)))), (0, .ref (ga 0)), (1, .int w), (2, .int v3.1)]) hx hb dX8_ask_38 hl (k := 4) rfl rfl (by decide) rfl (fun ls hl => ?_)
      refine lv_goto (tgt := 22) hx hb dX8_ask_41 (by decide) ?_
      exact hi6 _ (Option.some.inj h63).symm _ _ _ (lv_sub hl [2, 3, 4, 1, 0] rfl) hP hD hS
  · skip
    replace h33 := (if_pos c2).symm.trans h33
    refine lv_iconst (v := (-1 : Int32)) hx hb dX8_ask_10 (by decide) ?_
    obtain rfl := Option.some.inj h33
    exact hret _ _ _ _ (vp_nar_int _) hP hD hS dX8_ask_11
def mX8_drift_l44 (n : Int32) (s15 : Int32 × Int32 × Int32 × Int32 × GS) : Option ((Int32 × Int32 × Int32 × Int32 × GS) ⊕ (Int32 × Int32 × Int32 × Int32 × GS)) :=
  if n ≤ s15.2.2.2.1 then
    some (.inr (s15.1, s15.2.1, s15.2.2.1, s15.2.2.2.1, s15.2.2.2.2))
  else
    Option.bind (irm ((((s15.1 * (1103515245 : Int32)) + (12345 : Int32)) >>> ((16 : Int32) &&& 31)) &&& (32767 : Int32)) (6 : Int32)) fun v17 =>
    Option.bind (ast 240 (s15.2.2.2.2.1 0) (174 : Int32) v17) fun f18 =>
    Option.bind (idv ((((s15.1 * (1103515245 : Int32)) + (12345 : Int32)) >>> ((16 : Int32) &&& 31)) &&& (32767 : Int32)) (8 : Int32)) fun v19 =>
    Option.bind (irm v19 (12 : Int32)) fun v20 =>
    Option.bind (ast 240 ((sA s15.2.2.2.2 0 f18).1 0) (175 : Int32) v20) fun f21 =>
    Option.bind (mX8_yearOn (sA (sA s15.2.2.2.2 0 f18) 0 f21) (160 : Int32)) fun v22 =>
    Option.bind (mX8_frankOfAll v22 (160 : Int32)) fun v23 =>
    some (.inl (((s15.1 * (1103515245 : Int32)) + (12345 : Int32)), (s15.2.1 + v23), v23, (s15.2.2.2.1 + (1 : Int32)), v22))

def mX8_drift (g : GS) (x : Int32) (n : Int32) (w : Int32) : Option (Int32 × GS) :=
  Option.bind (mX8_in n.toInt64 (1 : Int64) (60 : Int64)) fun v1 =>
  if v1 = 0 then
    some ((-1 : Int32), g)
  else
    Option.bind (mX8_in w.toInt64 (0 : Int64) (1 : Int64)) fun v3 =>
    if v3 = 0 then
      some ((-1 : Int32), g)
    else
      Option.bind (mX8_copies g (0 : Int32) (160 : Int32)) fun v5 =>
      Option.bind (whO (mX8_drift_l44 n) FU (x, (0 : Int32), (0 : Int32), (0 : Int32), v5)) fun e24 =>
      if w = 0 then
        some (e24.2.1, e24.2.2.2.2)
      else
        some (e24.2.2.1, e24.2.2.2.2)
abbrev rmX8_drift : Room := { frames := 3, cells := 0, slots := 0, locals := 73 }
set_option maxHeartbeats 4000000 in
set_option maxRecDepth 100000 in
theorem k_X8_drift (l : Launch) (D : va_G) (ca : Nat → ClassId) (ga : Nat → Nat) (g : GS) (x : Int32) (n : Int32) (w : Int32) (o : Int32 × GS) (hm : mX8_drift g x n w = some o) : KI l yX8_drift wsX8_drift rmX8_drift D ca [.ref (ga 0), .int x, .int n, .int w] (cO ca ga g) (cO ca ga o.2) o.1 := by
  refine KI.of (cc := cX8_drift) (n := 9) (plainFor_of_name (by decide)) rfl (Nat.le_of_ble_eq_true rfl) ?_
  intro p e s m below meth c A Z hx hb hml hts hown hA hK hP hD hS hret ls hl
  have hown : s.vm.findClass RX8 = some m.cls := hown
  have hl : lv_has ls 9 [(0, .ref (ga 0)), (1, .int x), (2, .int n), (3, .int w)] := hl
  have inX8 : ∀ w ∈ wsX80, w ∈ wsX8_drift := by decide +kernel
  have k1 := hts (.constantLong RX8 174 (60 : Int64)) (by decide +kernel)
  have k2 := hts (.constant RX8 206 (1103515245 : Int32)) (by decide +kernel)
  have k3 := hts (.fieldLink RX8 7 "FriezeFolkModel" "state" "[I") (by decide +kernel)
  unfold mX8_drift at hm
  refine lv_iload_n hx hb dX8_drift_0 rfl (lv_at hl 2 rfl) ?_
  refine lv_i2l (v := n.toInt64) hx hb dX8_drift_1 rfl ?_
  refine lv_lconst (v := (1 : Int64)) hx hb dX8_drift_2 (by decide) ?_
  refine lv_ldc2 hx hb hown k1 dX8_drift_3 ?_
  obtain ⟨v1, q1, h26⟩ := obn hm
  clear hm
  refine xSi (As := [.long n.toInt64, .long (1 : Int64), .long (60 : Int64)]) ⟨hx, hb, hml, hown, hts⟩ (k_X8_in l D ca  n.toInt64 (1 : Int64) (60 : Int64) _ q1) (va_cwS 3 hts gX8_drift_X8_in rfl rfl rfl (by decide +kernel) ⟨Nat.le_of_ble_eq_true rfl, Nat.le_of_ble_eq_true rfl⟩) hK hA hP hD hS dX8_drift_6 rfl hl.1 [] [0, 1, 2, 3, 4, 5, 6, 7, 8, 9, 10, 11, 12, 13] [0, 1, 2, 3, 4, 5, 6, 7, 8, 9, 10, 11, 12, 13] rfl rfl (wr := ((cO ca ga g))) rfl rfl (by decide) (wn := (cO ca ga g)) rfl rfl rfl (Nat.le_of_ble_eq_true rfl) (fun H locs hP hD hS => ?_)
  refine lv_if_eq (tgt := 22) hx hb dX8_drift_9 (by decide) (fun c2 => ?_) (fun c2 => ?_)
  · skip
    replace h26 := (if_pos c2).symm.trans h26
    refine lv_iconst (v := (-1 : Int32)) hx hb dX8_drift_22 (by decide) ?_
    obtain rfl := Option.some.inj h26
    exact hret _ _ _ _ (vp_nar_int _) hP hD hS dX8_drift_23
  · skip
    replace h26 := (if_neg c2).symm.trans h26
    refine lv_iload_n hx hb dX8_drift_12 rfl (lv_at hl 3 rfl) ?_
    refine lv_i2l (v := w.toInt64) hx hb dX8_drift_13 rfl ?_
    refine lv_lconst (v := (0 : Int64)) hx hb dX8_drift_14 (by decide) ?_
    refine lv_lconst (v := (1 : Int64)) hx hb dX8_drift_15 (by decide) ?_
    obtain ⟨v3, q3, h27⟩ := obn h26
    clear h26
    refine xSi (As := [.long w.toInt64, .long (0 : Int64), .long (1 : Int64)]) ⟨hx, hb, hml, hown, hts⟩ (k_X8_in l D ca  w.toInt64 (0 : Int64) (1 : Int64) _ q3) (va_cwS 3 hts gX8_drift_X8_in rfl rfl rfl (by decide +kernel) ⟨Nat.le_of_ble_eq_true rfl, Nat.le_of_ble_eq_true rfl⟩) hK hA hP hD hS dX8_drift_16 rfl hl.1 [] [0, 1, 2, 3, 4, 5, 6, 7, 8, 9, 10, 11, 12, 13] [0, 1, 2, 3, 4, 5, 6, 7, 8, 9, 10, 11, 12, 13] rfl rfl (wr := ((cO ca ga g))) rfl rfl (by decide) (wn := (cO ca ga g)) rfl rfl rfl (Nat.le_of_ble_eq_true rfl) (fun H locs hP hD hS => ?_)
    refine lv_if_ne (tgt := 24) hx hb dX8_drift_19 (by decide) (fun c4 => ?_) (fun c4 => ?_)
    · skip
      replace h27 := (if_neg c4).symm.trans h27
      refine lv_aload_n hx hb dX8_drift_24 rfl (lv_at hl 0 rfl) ?_
      refine lv_iconst (v := (0 : Int32)) hx hb dX8_drift_25 (by decide) ?_
      refine lv_sipush (v := (160 : Int32)) hx hb dX8_drift_26 (by decide) ?_
      obtain ⟨v5, q5, h28⟩ := obn h27
      clear h27
      refine xVv (As := [.int (0 : Int32), .int (160 : Int32)]) (ci := 8) ⟨hx, hb, hml, hown, hts⟩ (k_X8_copies l D ca ga g (0 : Int32) (160 : Int32) _ q5) (cwV 2 hts gX8_drift_X8_copies rfl rfl rfl (by decide +kernel) ⟨Nat.le_of_ble_eq_true rfl, Nat.le_of_ble_eq_true rfl⟩) hK hA hP hD hS dX8_drift_29 rfl hl.1 [0, 1, 2, 3, 4, 5, 6, 7, 8, 9, 10, 11, 12, 13] [] [0, 1, 2, 3, 4, 5, 6, 7, 8, 9, 10, 11, 12, 13] rfl rfl (wr := []) rfl rfl (by decide) (wn := (cO ca ga v5)) rfl rfl rfl rfl rfl rfl (Nat.le_of_ble_eq_true rfl) (fun H locs hP hD hS => ?_)
      refine lv_iload_n hx hb dX8_drift_32 rfl (lv_at hl 1 rfl) ?_
      refine lv_istore (lv' := [(4, .int x), (0, .ref (ga 0)), (1, .int x), (2, .int n), (3, .int w)]) hx hb dX8_drift_33 hl (by decide) rfl (fun ls hl => ?_)
      refine lv_iconst (v := (0 : Int32)) hx hb dX8_drift_35 (by decide) ?_
      refine lv_istore (lv' := [(5, .int (0 : Int32)), (4, .int x), (0, .ref (ga 0)), (1, .int x), (2, .int n), (3, .int w)]) hx hb dX8_drift_36 hl (by decide) rfl (fun ls hl => ?_)
      refine lv_iconst (v := (0 : Int32)) hx hb dX8_drift_38 (by decide) ?_
      refine lv_istore (lv' := [(6, .int (0 : Int32)), (5, .int (0 : Int32)), (4, .int x), (0, .ref (ga 0)), (1, .int x), (2, .int n), (3, .int w)]) hx hb dX8_drift_39 hl (by decide) rfl (fun ls hl => ?_)
      refine lv_iconst (v := (0 : Int32)) hx hb dX8_drift_41 (by decide) ?_
      refine lv_istore (lv' := [(7, .int (0 : Int32)), (6, .int (0 : Int32)), (5, .int (0 : Int32)), (4, .int x), (0, .ref (ga 0)), (1, .int x), (2, .int n), (3, .int w)]) hx hb dX8_drift_42 hl (by decide) rfl (fun ls hl => ?_)
      obtain ⟨e24, w29, h30⟩ := obn h28
      clear h28
      have AF24 : ∀ (ls : Array Slot) (H : Heap) (locs : List Loc), lv_has ls 9 [(3, .int w), (5, .int e24.2.1), (6, .int e24.2.2.1)] → va_P D vwCl (cO ca ga e24.2.2.2.2) H → va_D A (cO ca ga e24.2.2.2.2) → va_S A s.heap H locs → W p l e rmX8_drift s m ([.ref (ga 0), .int x, .int n, .int w] : List Value).toArray below meth c H locs 0 0 Z (F0 m 130 ls []) := by
        intro ls H locs hl hP hD hS
        refine lv_iload_n hx hb dX8_drift_130 rfl (lv_at hl 0 rfl) ?_
        refine lv_if_ne (tgt := 139) hx hb dX8_drift_131 (by decide) (fun c25 => ?_) (fun c25 => ?_)
        · skip
          replace h30 := (if_neg c25).symm.trans h30
          refine lv_iload hx hb dX8_drift_139 (lv_at hl 2 rfl) ?_
          obtain rfl := Option.some.inj h30
          exact hret _ _ _ _ (vp_nar_int _) hP hD hS dX8_drift_141
        · skip
          replace h30 := (if_pos c25).symm.trans h30
          refine lv_iload hx hb dX8_drift_134 (lv_at hl 1 rfl) ?_
          refine lv_goto (tgt := 141) hx hb dX8_drift_136 (by decide) ?_
          obtain rfl := Option.some.inj h30
          exact hret _ _ _ _ (vp_nar_int _) hP hD hS dX8_drift_141
      refine whO_walk (I := fun s15 => ∀ (ls : Array Slot) (H : Heap) (locs : List Loc), lv_has ls 9 [(0, .ref (ga 0)), (2, .int n), (3, .int w), (4, .int s15.1), (5, .int s15.2.1), (6, .int s15.2.2.1), (7, .int s15.2.2.2.1)] → va_P D vwCl (cO ca ga s15.2.2.2.2) H → va_D A (cO ca ga s15.2.2.2.2) → va_S A s.heap H locs → W p l e rmX8_drift s m ([.ref (ga 0), .int x, .int n, .int w] : List Value).toArray below meth c H locs 0 0 Z (F0 m 44 ls [])) ?_ _ _ w29 _ _ _ (lv_sub hl [4, 6, 7, 3, 2, 1, 0] rfl) hP hD hS
      clear w29
      intro s15 o24 h31 hi24 ho24 ls H locs hl hP hD hS
      unfold mX8_drift_l44 at h31
      refine lv_iload hx hb dX8_drift_44 (lv_at hl 6 rfl) ?_
      refine lv_iload_n hx hb dX8_drift_46 rfl (lv_at hl 1 rfl) ?_
      refine lv_icmp_ge (tgt := 130) hx hb dX8_drift_47 (by decide) (fun c16 => ?_) (fun c16 => ?_)
      · skip
        replace h31 := (if_pos c16).symm.trans h31
        have h32 := ho24 _ (Option.some.inj h31).symm
        subst h32
        exact AF24 _ _ _ (lv_sub hl [2, 4, 5] rfl) hP hD hS
      · skip
        replace h31 := (if_neg c16).symm.trans h31
        refine lv_iload hx hb dX8_drift_50 (lv_at hl 3 rfl) ?_
        refine lv_ldc hx hb hown k2 dX8_drift_52 ?_
        refine lv_imul hx hb dX8_drift_54 ?_
        refine lv_sipush (v := (12345 : Int32)) hx hb dX8_drift_55 (by decide) ?_
        refine lv_iadd hx hb dX8_drift_58 ?_
        refine lv_istore (lv' := [(4, .int ((s15.1 * (1103515245 : Int32)) + (12345 : Int32))), (0, .ref (ga 0)), (2, .int n), (3, .int w), (5, .int s15.2.1), (6, .int s15.2.2.1), (7, .int s15.2.2.2.1)]) hx hb dX8_drift_59 hl (by decide) rfl (fun ls hl => ?_)
        refine lv_iload hx hb dX8_drift_61 (lv_at hl 0 rfl) ?_
        refine lv_bipush (v := (16 : Int32)) hx hb dX8_drift_63 (by decide) ?_
        refine lv_ishr hx hb dX8_drift_65 ?_
        refine lv_sipush (v := (32767 : Int32)) hx hb dX8_drift_66 (by decide) ?_
        refine lv_iand hx hb dX8_drift_69 ?_
        refine lv_istore (lv' := [(8, .int ((((s15.1 * (1103515245 : Int32)) + (12345 : Int32)) >>> ((16 : Int32) &&& 31)) &&& (32767 : Int32))), (4, .int ((s15.1 * (1103515245 : Int32)) + (12345 : Int32))), (0, .ref (ga 0)), (2, .int n), (3, .int w), (5, .int s15.2.1), (6, .int s15.2.2.1), (7, .int s15.2.2.2.1)]) hx hb dX8_drift_70 hl (by decide) rfl (fun ls hl => ?_)
        refine lv_aload_n hx hb dX8_drift_72 rfl (lv_at hl 2 rfl) ?_
        refine xget (ref := "FriezeFolkModel") (C := RX8) (T := TX8) (N := 24) (ci := 8) (v := .ref (ga 1)) hx hb hts inX8 hown hK hP 0 rfl rfl 0 (by decide) k3 rfl rfl dX8_drift_73 ?_
        refine lv_sipush (v := (174 : Int32)) hx hb dX8_drift_76 (by decide) ?_
        refine lv_iload hx hb dX8_drift_79 (lv_at hl 0 rfl) ?_
        refine lv_bipush (v := (6 : Int32)) hx hb dX8_drift_81 (by decide) ?_
        obtain ⟨v17, q17, h33⟩ := obn h31
        clear h31
        refine xirm hx hb q17 dX8_drift_83 ?_
        obtain ⟨f18, q18, h34⟩ := obn h33
        clear h33
        refine xast hx hb hK hP hD hS 1 rfl q18 dX8_drift_84 (wn := (cO ca ga (sA s15.2.2.2.2 0 f18))) rfl (fun H locs hP hD hS => ?_)
        refine lv_aload_n hx hb dX8_drift_85 rfl (lv_at hl 2 rfl) ?_
        refine xget (ref := "FriezeFolkModel") (C := RX8) (T := TX8) (N := 24) (ci := 8) (v := .ref (ga 1)) hx hb hts inX8 hown hK hP 0 rfl rfl 0 (by decide) k3 rfl rfl dX8_drift_86 ?_
        refine lv_sipush (v := (175 : Int32)) hx hb dX8_drift_89 (by decide) ?_
        refine lv_iload hx hb dX8_drift_92 (lv_at hl 0 rfl) ?_
        refine lv_bipush (v := (8 : Int32)) hx hb dX8_drift_94 (by decide) ?_
        obtain ⟨v19, q19, h35⟩ := obn h34
        clear h34
        refine xidv hx hb q19 dX8_drift_96 ?_
        refine lv_bipush (v := (12 : Int32)) hx hb dX8_drift_97 (by decide) ?_
        obtain ⟨v20, q20, h36⟩ := obn h35
        clear h35
        refine xirm hx hb q20 dX8_drift_99 ?_
        obtain ⟨f21, q21, h37⟩ := obn h36
        clear h36
        refine xast hx hb hK hP hD hS 1 rfl q21 dX8_drift_100 (wn := (cO ca ga (sA (sA s15.2.2.2.2 0 f18) 0 f21))) rfl (fun H locs hP hD hS => ?_)
        refine lv_aload_n hx hb dX8_drift_101 rfl (lv_at hl 2 rfl) ?_
        refine lv_sipush (v := (160 : Int32)) hx hb dX8_drift_102 (by decide) ?_
        obtain ⟨v22, q22, h38⟩ := obn h37
        clear h37
        refine xVv (As := [.int (160 : Int32)]) (ci := 8) ⟨hx, hb, hml, hown, hts⟩ (k_X8_yearOn l D ca ga (sA (sA s15.2.2.2.2 0 f18) 0 f21) (160 : Int32) _ q22) (cwV 1 hts gX8_drift_X8_yearOn rfl rfl rfl (by decide +kernel) ⟨Nat.le_of_ble_eq_true rfl, Nat.le_of_ble_eq_true rfl⟩) hK hA hP hD hS dX8_drift_105 rfl hl.1 [0, 1, 2, 3, 4, 5, 6, 7, 8, 9, 10, 11, 12, 13] [] [0, 1, 2, 3, 4, 5, 6, 7, 8, 9, 10, 11, 12, 13] rfl rfl (wr := []) rfl rfl (by decide) (wn := (cO ca ga v22)) rfl rfl rfl rfl rfl rfl (Nat.le_of_ble_eq_true rfl) (fun H locs hP hD hS => ?_)
        refine lv_aload_n hx hb dX8_drift_108 rfl (lv_at hl 2 rfl) ?_
        refine lv_sipush (v := (160 : Int32)) hx hb dX8_drift_109 (by decide) ?_
        obtain ⟨v23, q23, h39⟩ := obn h38
        clear h38
        refine xVi (As := [.int (160 : Int32)]) (ci := 8) ⟨hx, hb, hml, hown, hts⟩ (k_X8_frankOfAll l D ca ga v22 (160 : Int32) _ q23) (cwV 1 hts gX8_drift_X8_frankOfAll rfl rfl rfl (by decide +kernel) ⟨Nat.le_of_ble_eq_true rfl, Nat.le_of_ble_eq_true rfl⟩) hK hA hP hD hS dX8_drift_112 rfl hl.1 [0, 1, 2, 3, 4, 5, 6, 7, 8, 9, 10, 11, 12, 13] [] [0, 1, 2, 3, 4, 5, 6, 7, 8, 9, 10, 11, 12, 13] rfl rfl (wr := []) rfl rfl (by decide) (wn := (cO ca ga v22)) rfl rfl rfl rfl rfl rfl (Nat.le_of_ble_eq_true rfl) (fun H locs hP hD hS => ?_)
        refine lv_istore (lv' := [(6, .int v23), (8, .int ((((s15.1 * (1103515245 : Int32)) + (12345 : Int32)) >>> ((16 : Int32) &&& 31)) &&& (32767 : Int32))), (4, .int ((s15.1 * (1103515245 : Int32)) + (12345 : Int32))), (0, .ref (ga 0)), (2, .int n), (3, .int w), (5, .int s15.2.1), (7, .int s15.2.2.2.1)]) hx hb dX8_drift_115 hl (by decide) rfl (fun ls hl => ?_)
        refine lv_iload hx hb dX8_drift_117 (lv_at hl 6 rfl) ?_
        refine lv_iload hx hb dX8_drift_119 (lv_at hl 0 rfl) ?_
        refine lv_iadd hx hb dX8_drift_121 ?_
        refine lv_istore (lv' := [(5, .int (s15.2.1 + v23)), (6, .int v23), (8, .int ((((s15.1 * (1103515245 : Int32)) + (12345 : Int32)) >>> ((16 : Int32) &&& 31)) &&& (32767 : Int32))), (4, .int ((s15.1 * (1103515245 : Int32)) + (12345 : Int32))), (0, .ref (ga 0)), (2, .int n), (3, .int w), (7, .int s15.2.2.2.1)]) hx hb dX8_drift_122 hl (by decide) rfl (fun ls hl => ?_)
        refine lv_iinc (v := (s15.2.2.2.1 + (1 : Int32))) (lv' := [(7, .int (s15.2.2.2.1 + (1 : Int32))), (5, .int (s15.2.1 + v23)), (6, .int v23), (8, .int ((((s15.1 * (1103515245 : Int32)) + (12345 : Int32)) >>> ((16 : Int32) &&& 31)) &&& (32767 : Int32))), (4, .int ((s15.1 * (1103515245 : Int32)) + (12345 : Int32))), (0, .ref (ga 0)), (2, .int n), (3, .int w)]) hx hb dX8_drift_124 hl (k := 7) rfl rfl (by decide) rfl (fun ls hl => ?_)
        refine lv_goto (tgt := 44) hx hb dX8_drift_127 (by decide) ?_
        exact hi24 _ (Option.some.inj h39).symm _ _ _ (lv_sub hl [5, 6, 7, 4, 1, 2, 0] rfl) hP hD hS
    · skip
      replace h27 := (if_pos c4).symm.trans h27
      refine lv_iconst (v := (-1 : Int32)) hx hb dX8_drift_22 (by decide) ?_
      obtain rfl := Option.some.inj h27
      exact hret _ _ _ _ (vp_nar_int _) hP hD hS dX8_drift_23

def mX8_keep (g : GS) (r : Int32) : Option (Int32 × GS) :=
  Option.bind (mX8_in r.toInt64 (0 : Int64) (1 : Int64)) fun v1 =>
  if v1 = 0 then
    some ((-1 : Int32), g)
  else
    Option.bind (mX8_copies g (0 : Int32) ((40 : Int32) * (r + (1 : Int32)))) fun v3 =>
    Option.bind (ald 2 (v3.1 19) r) fun v4 =>
    Option.bind (
      if v4 = 0 then
        some (0 : Int32)
      else
        some (1 : Int32)) fun (v6 : Int32) =>
    Option.bind (ast 2 (v3.1 19) r (vp_nar .boolean (1 : Int32))) fun f7 =>
    some (v6, (sA v3 19 f7))
abbrev rmX8_keep : Room := { frames := 1, cells := 0, slots := 0, locals := 25 }
set_option maxHeartbeats 4000000 in
set_option maxRecDepth 100000 in
theorem k_X8_keep (l : Launch) (D : va_G) (ca : Nat → ClassId) (ga : Nat → Nat) (g : GS) (r : Int32) (o : Int32 × GS) (hm : mX8_keep g r = some o) : KI l yX8_keep wsX8_keep rmX8_keep D ca [.ref (ga 0), .int r] (cO ca ga g) (cO ca ga o.2) o.1 := by
  refine KI.of (cc := cX8_keep) (n := 3) (plainFor_of_name (by decide)) rfl (Nat.le_of_ble_eq_true rfl) ?_
  intro p e s m below meth c A Z hx hb hml hts hown hA hK hP hD hS hret ls hl
  have hown : s.vm.findClass RX8 = some m.cls := hown
  have hl : lv_has ls 3 [(0, .ref (ga 0)), (1, .int r)] := hl
  have inX8 : ∀ w ∈ wsX80, w ∈ wsX8_keep := by decide +kernel
  have k1 := hts (.fieldLink RX8 37 "FriezeFolkModel" "isKept" "[Z") (by decide +kernel)
  unfold mX8_keep at hm
  refine lv_iload_n hx hb dX8_keep_0 rfl (lv_at hl 1 rfl) ?_
  refine lv_i2l (v := r.toInt64) hx hb dX8_keep_1 rfl ?_
  refine lv_lconst (v := (0 : Int64)) hx hb dX8_keep_2 (by decide) ?_
  refine lv_lconst (v := (1 : Int64)) hx hb dX8_keep_3 (by decide) ?_
  obtain ⟨v1, q1, h8⟩ := obn hm
  clear hm
  refine xSi (As := [.long r.toInt64, .long (0 : Int64), .long (1 : Int64)]) ⟨hx, hb, hml, hown, hts⟩ (k_X8_in l D ca  r.toInt64 (0 : Int64) (1 : Int64) _ q1) (va_cwS 3 hts gX8_keep_X8_in rfl rfl rfl (by decide +kernel) ⟨Nat.le_of_ble_eq_true rfl, Nat.le_of_ble_eq_true rfl⟩) hK hA hP hD hS dX8_keep_4 rfl hl.1 [] [0, 1, 2, 3, 4, 5, 6, 7, 8, 9, 10, 11, 12, 13] [0, 1, 2, 3, 4, 5, 6, 7, 8, 9, 10, 11, 12, 13] rfl rfl (wr := ((cO ca ga g))) rfl rfl (by decide) (wn := (cO ca ga g)) rfl rfl rfl (Nat.le_of_ble_eq_true rfl) (fun H locs hP hD hS => ?_)
  refine lv_if_ne (tgt := 12) hx hb dX8_keep_7 (by decide) (fun c2 => ?_) (fun c2 => ?_)
  · skip
    replace h8 := (if_neg c2).symm.trans h8
    refine lv_aload_n hx hb dX8_keep_12 rfl (lv_at hl 0 rfl) ?_
    refine lv_iconst (v := (0 : Int32)) hx hb dX8_keep_13 (by decide) ?_
    refine lv_bipush (v := (40 : Int32)) hx hb dX8_keep_14 (by decide) ?_
    refine lv_iload_n hx hb dX8_keep_16 rfl (lv_at hl 1 rfl) ?_
    refine lv_iconst (v := (1 : Int32)) hx hb dX8_keep_17 (by decide) ?_
    refine lv_iadd hx hb dX8_keep_18 ?_
    refine lv_imul hx hb dX8_keep_19 ?_
    obtain ⟨v3, q3, h9⟩ := obn h8
    clear h8
    refine xVv (As := [.int (0 : Int32), .int ((40 : Int32) * (r + (1 : Int32)))]) (ci := 8) ⟨hx, hb, hml, hown, hts⟩ (k_X8_copies l D ca ga g (0 : Int32) ((40 : Int32) * (r + (1 : Int32))) _ q3) (cwV 2 hts gX8_keep_X8_copies rfl rfl rfl (by decide +kernel) ⟨Nat.le_of_ble_eq_true rfl, Nat.le_of_ble_eq_true rfl⟩) hK hA hP hD hS dX8_keep_20 rfl hl.1 [0, 1, 2, 3, 4, 5, 6, 7, 8, 9, 10, 11, 12, 13] [] [0, 1, 2, 3, 4, 5, 6, 7, 8, 9, 10, 11, 12, 13] rfl rfl (wr := []) rfl rfl (by decide) (wn := (cO ca ga v3)) rfl rfl rfl rfl rfl rfl (Nat.le_of_ble_eq_true rfl) (fun H locs hP hD hS => ?_)
    refine lv_aload_n hx hb dX8_keep_23 rfl (lv_at hl 0 rfl) ?_
    refine xget (ref := "FriezeFolkModel") (C := RX8) (T := TX8) (N := 24) (ci := 8) (v := .ref (ga 20)) hx hb hts inX8 hown hK hP 0 rfl rfl 19 (by decide) k1 rfl rfl dX8_keep_24 ?_
    refine lv_iload_n hx hb dX8_keep_27 rfl (lv_at hl 1 rfl) ?_
    obtain ⟨v4, q4, h10⟩ := obn h9
    clear h9
    refine xzald hx hb hK hP 10 rfl q4 dX8_keep_28 ?_
    obtain ⟨v6, q11, h12⟩ := obn h10
    clear h10
    have J6 : ∀ (ls : Array Slot) (H : Heap) (locs : List Loc), lv_has ls 3 [(0, .ref (ga 0)), (1, .int r)] → va_P D vwCl (cO ca ga v3) H → va_D A (cO ca ga v3) → va_S A s.heap H locs → W p l e rmX8_keep s m ([.ref (ga 0), .int r] : List Value).toArray below meth c H locs 0 0 Z (F0 m 37 ls [.int v6]) := by
      intro ls H locs hl hP hD hS
      refine lv_istore_n (lv' := [(2, .int v6), (0, .ref (ga 0)), (1, .int r)]) hx hb dX8_keep_37 rfl hl (by decide) rfl (fun ls hl => ?_)
      refine lv_aload_n hx hb dX8_keep_38 rfl (lv_at hl 1 rfl) ?_
      refine xget (ref := "FriezeFolkModel") (C := RX8) (T := TX8) (N := 24) (ci := 8) (v := .ref (ga 20)) hx hb hts inX8 hown hK hP 0 rfl rfl 19 (by decide) k1 rfl rfl dX8_keep_39 ?_
      refine lv_iload_n hx hb dX8_keep_42 rfl (lv_at hl 2 rfl) ?_
      refine lv_iconst (v := (1 : Int32)) hx hb dX8_keep_43 (by decide) ?_
      obtain ⟨f7, q7, h13⟩ := obn h12
      clear h12
      refine xzast hx hb hK hP hD hS 10 rfl q7 dX8_keep_44 (wn := (cO ca ga (sA v3 19 f7))) rfl (fun H locs hP hD hS => ?_)
      refine lv_iload_n hx hb dX8_keep_45 rfl (lv_at hl 0 rfl) ?_
      obtain rfl := Option.some.inj h13
      exact hret _ _ _ _ (vp_nar_int _) hP hD hS dX8_keep_46
    refine lv_if_eq (tgt := 36) hx hb dX8_keep_29 (by decide) (fun c5 => ?_) (fun c5 => ?_)
    · skip
      replace q11 := (if_pos c5).symm.trans q11
      refine lv_iconst (v := (0 : Int32)) hx hb dX8_keep_36 (by decide) ?_
      obtain rfl := Option.some.inj q11
      exact J6 _ _ _ (lv_sub hl [0, 1] rfl) hP hD hS
    · skip
      replace q11 := (if_neg c5).symm.trans q11
      refine lv_iconst (v := (1 : Int32)) hx hb dX8_keep_32 (by decide) ?_
      refine lv_goto (tgt := 37) hx hb dX8_keep_33 (by decide) ?_
      obtain rfl := Option.some.inj q11
      exact J6 _ _ _ (lv_sub hl [0, 1] rfl) hP hD hS
  · skip
    replace h8 := (if_pos c2).symm.trans h8
    refine lv_iconst (v := (-1 : Int32)) hx hb dX8_keep_10 (by decide) ?_
    obtain rfl := Option.some.inj h8
    exact hret _ _ _ _ (vp_nar_int _) hP hD hS dX8_keep_11

def mX8_back (g : GS) (r : Int32) : Option (Int32 × GS) :=
  Option.bind (mX8_in r.toInt64 (0 : Int64) (1 : Int64)) fun v1 =>
  if v1 = 0 then
    some ((-1 : Int32), g)
  else
    Option.bind (ald 2 (g.1 19) r) fun v3 =>
    if v3 = 0 then
      some ((-2 : Int32), g)
    else
      Option.bind (mX8_copies g ((40 : Int32) * (r + (1 : Int32))) (0 : Int32)) fun v5 =>
      Option.bind (ald 240 (v5.1 0) (18 : Int32)) fun v6 =>
      some (v6, v5)
abbrev rmX8_back : Room := { frames := 1, cells := 0, slots := 0, locals := 25 }
set_option maxHeartbeats 4000000 in
set_option maxRecDepth 100000 in
theorem k_X8_back (l : Launch) (D : va_G) (ca : Nat → ClassId) (ga : Nat → Nat) (g : GS) (r : Int32) (o : Int32 × GS) (hm : mX8_back g r = some o) : KI l yX8_back wsX8_back rmX8_back D ca [.ref (ga 0), .int r] (cO ca ga g) (cO ca ga o.2) o.1 := by
  refine KI.of (cc := cX8_back) (n := 2) (plainFor_of_name (by decide)) rfl (Nat.le_of_ble_eq_true rfl) ?_
  intro p e s m below meth c A Z hx hb hml hts hown hA hK hP hD hS hret ls hl
  have hown : s.vm.findClass RX8 = some m.cls := hown
  have hl : lv_has ls 2 [(0, .ref (ga 0)), (1, .int r)] := hl
  have inX8 : ∀ w ∈ wsX80, w ∈ wsX8_back := by decide +kernel
  have k1 := hts (.fieldLink RX8 37 "FriezeFolkModel" "isKept" "[Z") (by decide +kernel)
  have k2 := hts (.fieldLink RX8 7 "FriezeFolkModel" "state" "[I") (by decide +kernel)
  unfold mX8_back at hm
  refine lv_iload_n hx hb dX8_back_0 rfl (lv_at hl 1 rfl) ?_
  refine lv_i2l (v := r.toInt64) hx hb dX8_back_1 rfl ?_
  refine lv_lconst (v := (0 : Int64)) hx hb dX8_back_2 (by decide) ?_
  refine lv_lconst (v := (1 : Int64)) hx hb dX8_back_3 (by decide) ?_
  obtain ⟨v1, q1, h7⟩ := obn hm
  clear hm
  refine xSi (As := [.long r.toInt64, .long (0 : Int64), .long (1 : Int64)]) ⟨hx, hb, hml, hown, hts⟩ (k_X8_in l D ca  r.toInt64 (0 : Int64) (1 : Int64) _ q1) (va_cwS 3 hts gX8_back_X8_in rfl rfl rfl (by decide +kernel) ⟨Nat.le_of_ble_eq_true rfl, Nat.le_of_ble_eq_true rfl⟩) hK hA hP hD hS dX8_back_4 rfl hl.1 [] [0, 1, 2, 3, 4, 5, 6, 7, 8, 9, 10, 11, 12, 13] [0, 1, 2, 3, 4, 5, 6, 7, 8, 9, 10, 11, 12, 13] rfl rfl (wr := ((cO ca ga g))) rfl rfl (by decide) (wn := (cO ca ga g)) rfl rfl rfl (Nat.le_of_ble_eq_true rfl) (fun H locs hP hD hS => ?_)
  refine lv_if_ne (tgt := 12) hx hb dX8_back_7 (by decide) (fun c2 => ?_) (fun c2 => ?_)
  · skip
    replace h7 := (if_neg c2).symm.trans h7
    refine lv_aload_n hx hb dX8_back_12 rfl (lv_at hl 0 rfl) ?_
    refine xget (ref := "FriezeFolkModel") (C := RX8) (T := TX8) (N := 24) (ci := 8) (v := .ref (ga 20)) hx hb hts inX8 hown hK hP 0 rfl rfl 19 (by decide) k1 rfl rfl dX8_back_13 ?_
    refine lv_iload_n hx hb dX8_back_16 rfl (lv_at hl 1 rfl) ?_
    obtain ⟨v3, q3, h8⟩ := obn h7
    clear h7
    refine xzald hx hb hK hP 10 rfl q3 dX8_back_17 ?_
    refine lv_if_ne (tgt := 24) hx hb dX8_back_18 (by decide) (fun c4 => ?_) (fun c4 => ?_)
    · skip
      replace h8 := (if_neg c4).symm.trans h8
      refine lv_aload_n hx hb dX8_back_24 rfl (lv_at hl 0 rfl) ?_
      refine lv_bipush (v := (40 : Int32)) hx hb dX8_back_25 (by decide) ?_
      refine lv_iload_n hx hb dX8_back_27 rfl (lv_at hl 1 rfl) ?_
      refine lv_iconst (v := (1 : Int32)) hx hb dX8_back_28 (by decide) ?_
      refine lv_iadd hx hb dX8_back_29 ?_
      refine lv_imul hx hb dX8_back_30 ?_
      refine lv_iconst (v := (0 : Int32)) hx hb dX8_back_31 (by decide) ?_
      obtain ⟨v5, q5, h9⟩ := obn h8
      clear h8
      refine xVv (As := [.int ((40 : Int32) * (r + (1 : Int32))), .int (0 : Int32)]) (ci := 8) ⟨hx, hb, hml, hown, hts⟩ (k_X8_copies l D ca ga g ((40 : Int32) * (r + (1 : Int32))) (0 : Int32) _ q5) (cwV 2 hts gX8_back_X8_copies rfl rfl rfl (by decide +kernel) ⟨Nat.le_of_ble_eq_true rfl, Nat.le_of_ble_eq_true rfl⟩) hK hA hP hD hS dX8_back_32 rfl hl.1 [0, 1, 2, 3, 4, 5, 6, 7, 8, 9, 10, 11, 12, 13] [] [0, 1, 2, 3, 4, 5, 6, 7, 8, 9, 10, 11, 12, 13] rfl rfl (wr := []) rfl rfl (by decide) (wn := (cO ca ga v5)) rfl rfl rfl rfl rfl rfl (Nat.le_of_ble_eq_true rfl) (fun H locs hP hD hS => ?_)
      refine lv_aload_n hx hb dX8_back_35 rfl (lv_at hl 0 rfl) ?_
      refine xget (ref := "FriezeFolkModel") (C := RX8) (T := TX8) (N := 24) (ci := 8) (v := .ref (ga 1)) hx hb hts inX8 hown hK hP 0 rfl rfl 0 (by decide) k2 rfl rfl dX8_back_36 ?_
      refine lv_bipush (v := (18 : Int32)) hx hb dX8_back_39 (by decide) ?_
      obtain ⟨v6, q6, h10⟩ := obn h9
      clear h9
      refine xald hx hb hK hP 1 rfl q6 dX8_back_41 ?_
      obtain rfl := Option.some.inj h10
      exact hret _ _ _ _ (vp_nar_int _) hP hD hS dX8_back_42
    · skip
      replace h8 := (if_pos c4).symm.trans h8
      refine lv_bipush (v := (-2 : Int32)) hx hb dX8_back_21 (by decide) ?_
      obtain rfl := Option.some.inj h8
      exact hret _ _ _ _ (vp_nar_int _) hP hD hS dX8_back_23
  · skip
    replace h7 := (if_pos c2).symm.trans h7
    refine lv_iconst (v := (-1 : Int32)) hx hb dX8_back_10 (by decide) ?_
    obtain rfl := Option.some.inj h7
    exact hret _ _ _ _ (vp_nar_int _) hP hD hS dX8_back_11
def mX8_sheet_l56 (r : Int32) (s12 : Int32 × GS) : Option ((Int32 × GS) ⊕ (Int32 × GS)) :=
  if (40 : Int32) ≤ s12.1 then
    some (.inr (s12.1, s12.2))
  else
    Option.bind (ast 160 (s12.2.1 22) (((40 : Int32) * r) + s12.1) (0 : Int32)) fun f14 =>
    some (.inl ((s12.1 + (1 : Int32)), (sA s12.2 22 f14)))

def mX8_sheet (g : GS) (r : Int32) (i : Int32) (n : Int32) : Option (Int32 × GS) :=
  Option.bind (mX8_in r.toInt64 (0 : Int64) (3 : Int64)) fun v1 =>
  if v1 = 0 then
    some ((-1 : Int32), g)
  else
    Option.bind (mX8_in i.toInt64 (0 : Int64) (2 : Int64)) fun v3 =>
    if v3 = 0 then
      some ((-1 : Int32), g)
    else
      if n ≤ (40 : Int32) then
        if 0 ≤ n then
          Option.bind (ast 4 (g.1 20) r i) fun f7 =>
          Option.bind (ast 4 ((sA g 20 f7).1 21) r n) fun f8 =>
          Option.bind (whO (mX8_sheet_l56 r) FU ((0 : Int32), (sA (sA g 20 f7) 21 f8))) fun e15 =>
          some ((1 : Int32), e15.2)
        else
          some ((-14 : Int32), g)
      else
        some ((-1 : Int32), g)
abbrev rmX8_sheet : Room := { frames := 1, cells := 0, slots := 0, locals := 25 }
set_option maxHeartbeats 4000000 in
set_option maxRecDepth 100000 in
theorem k_X8_sheet (l : Launch) (D : va_G) (ca : Nat → ClassId) (ga : Nat → Nat) (g : GS) (r : Int32) (i : Int32) (n : Int32) (o : Int32 × GS) (hm : mX8_sheet g r i n = some o) : KI l yX8_sheet wsX8_sheet rmX8_sheet D ca [.ref (ga 0), .int r, .int i, .int n] (cO ca ga g) (cO ca ga o.2) o.1 := by
  refine KI.of (cc := cX8_sheet) (n := 5) (plainFor_of_name (by decide)) rfl (Nat.le_of_ble_eq_true rfl) ?_
  intro p e s m below meth c A Z hx hb hml hts hown hA hK hP hD hS hret ls hl
  have hown : s.vm.findClass RX8 = some m.cls := hown
  have hl : lv_has ls 5 [(0, .ref (ga 0)), (1, .int r), (2, .int i), (3, .int n)] := hl
  have inX8 : ∀ w ∈ wsX80, w ∈ wsX8_sheet := by decide +kernel
  have k1 := hts (.constantLong RX8 138 (3 : Int64)) (by decide +kernel)
  have k2 := hts (.constantLong RX8 143 (2 : Int64)) (by decide +kernel)
  have k3 := hts (.fieldLink RX8 41 "FriezeFolkModel" "lanes" "[I") (by decide +kernel)
  have k4 := hts (.fieldLink RX8 44 "FriezeFolkModel" "lengths" "[I") (by decide +kernel)
  have k5 := hts (.fieldLink RX8 47 "FriezeFolkModel" "cells" "[I") (by decide +kernel)
  unfold mX8_sheet at hm
  refine lv_iload_n hx hb dX8_sheet_0 rfl (lv_at hl 1 rfl) ?_
  refine lv_i2l (v := r.toInt64) hx hb dX8_sheet_1 rfl ?_
  refine lv_lconst (v := (0 : Int64)) hx hb dX8_sheet_2 (by decide) ?_
  refine lv_ldc2 hx hb hown k1 dX8_sheet_3 ?_
  obtain ⟨v1, q1, h16⟩ := obn hm
  clear hm
  refine xSi (As := [.long r.toInt64, .long (0 : Int64), .long (3 : Int64)]) ⟨hx, hb, hml, hown, hts⟩ (k_X8_in l D ca  r.toInt64 (0 : Int64) (3 : Int64) _ q1) (va_cwS 3 hts gX8_sheet_X8_in rfl rfl rfl (by decide +kernel) ⟨Nat.le_of_ble_eq_true rfl, Nat.le_of_ble_eq_true rfl⟩) hK hA hP hD hS dX8_sheet_6 rfl hl.1 [] [0, 1, 2, 3, 4, 5, 6, 7, 8, 9, 10, 11, 12, 13] [0, 1, 2, 3, 4, 5, 6, 7, 8, 9, 10, 11, 12, 13] rfl rfl (wr := ((cO ca ga g))) rfl rfl (by decide) (wn := (cO ca ga g)) rfl rfl rfl (Nat.le_of_ble_eq_true rfl) (fun H locs hP hD hS => ?_)
  refine lv_if_eq (tgt := 30) hx hb dX8_sheet_9 (by decide) (fun c2 => ?_) (fun c2 => ?_)
  · skip
    replace h16 := (if_pos c2).symm.trans h16
    refine lv_iconst (v := (-1 : Int32)) hx hb dX8_sheet_30 (by decide) ?_
    obtain rfl := Option.some.inj h16
    exact hret _ _ _ _ (vp_nar_int _) hP hD hS dX8_sheet_31
  · skip
    replace h16 := (if_neg c2).symm.trans h16
    refine lv_iload_n hx hb dX8_sheet_12 rfl (lv_at hl 2 rfl) ?_
    refine lv_i2l (v := i.toInt64) hx hb dX8_sheet_13 rfl ?_
    refine lv_lconst (v := (0 : Int64)) hx hb dX8_sheet_14 (by decide) ?_
    refine lv_ldc2 hx hb hown k2 dX8_sheet_15 ?_
    obtain ⟨v3, q3, h17⟩ := obn h16
    clear h16
    refine xSi (As := [.long i.toInt64, .long (0 : Int64), .long (2 : Int64)]) ⟨hx, hb, hml, hown, hts⟩ (k_X8_in l D ca  i.toInt64 (0 : Int64) (2 : Int64) _ q3) (va_cwS 3 hts gX8_sheet_X8_in rfl rfl rfl (by decide +kernel) ⟨Nat.le_of_ble_eq_true rfl, Nat.le_of_ble_eq_true rfl⟩) hK hA hP hD hS dX8_sheet_18 rfl hl.1 [] [0, 1, 2, 3, 4, 5, 6, 7, 8, 9, 10, 11, 12, 13] [0, 1, 2, 3, 4, 5, 6, 7, 8, 9, 10, 11, 12, 13] rfl rfl (wr := ((cO ca ga g))) rfl rfl (by decide) (wn := (cO ca ga g)) rfl rfl rfl (Nat.le_of_ble_eq_true rfl) (fun H locs hP hD hS => ?_)
    refine lv_if_eq (tgt := 30) hx hb dX8_sheet_21 (by decide) (fun c4 => ?_) (fun c4 => ?_)
    · skip
      replace h17 := (if_pos c4).symm.trans h17
      refine lv_iconst (v := (-1 : Int32)) hx hb dX8_sheet_30 (by decide) ?_
      obtain rfl := Option.some.inj h17
      exact hret _ _ _ _ (vp_nar_int _) hP hD hS dX8_sheet_31
    · skip
      replace h17 := (if_neg c4).symm.trans h17
      refine lv_iload_n hx hb dX8_sheet_24 rfl (lv_at hl 3 rfl) ?_
      refine lv_bipush (v := (40 : Int32)) hx hb dX8_sheet_25 (by decide) ?_
      refine lv_icmp_le (tgt := 32) hx hb dX8_sheet_27 (by decide) (fun c5 => ?_) (fun c5 => ?_)
      · skip
        replace h17 := (if_pos c5).symm.trans h17
        refine lv_iload_n hx hb dX8_sheet_32 rfl (lv_at hl 3 rfl) ?_
        refine lv_if_ge (tgt := 39) hx hb dX8_sheet_33 (by decide) (fun c6 => ?_) (fun c6 => ?_)
        · skip
          replace h17 := (if_pos c6).symm.trans h17
          refine lv_aload_n hx hb dX8_sheet_39 rfl (lv_at hl 0 rfl) ?_
          refine xget (ref := "FriezeFolkModel") (C := RX8) (T := TX8) (N := 24) (ci := 8) (v := .ref (ga 21)) hx hb hts inX8 hown hK hP 0 rfl rfl 20 (by decide) k3 rfl rfl dX8_sheet_40 ?_
          refine lv_iload_n hx hb dX8_sheet_43 rfl (lv_at hl 1 rfl) ?_
          refine lv_iload_n hx hb dX8_sheet_44 rfl (lv_at hl 2 rfl) ?_
          obtain ⟨f7, q7, h18⟩ := obn h17
          clear h17
          refine xast hx hb hK hP hD hS 11 rfl q7 dX8_sheet_45 (wn := (cO ca ga (sA g 20 f7))) rfl (fun H locs hP hD hS => ?_)
          refine lv_aload_n hx hb dX8_sheet_46 rfl (lv_at hl 0 rfl) ?_
          refine xget (ref := "FriezeFolkModel") (C := RX8) (T := TX8) (N := 24) (ci := 8) (v := .ref (ga 22)) hx hb hts inX8 hown hK hP 0 rfl rfl 21 (by decide) k4 rfl rfl dX8_sheet_47 ?_
          refine lv_iload_n hx hb dX8_sheet_50 rfl (lv_at hl 1 rfl) ?_
          refine lv_iload_n hx hb dX8_sheet_51 rfl (lv_at hl 3 rfl) ?_
          obtain ⟨f8, q8, h19⟩ := obn h18
          clear h18
          refine xast hx hb hK hP hD hS 12 rfl q8 dX8_sheet_52 (wn := (cO ca ga (sA (sA g 20 f7) 21 f8))) rfl (fun H locs hP hD hS => ?_)
          refine lv_iconst (v := (0 : Int32)) hx hb dX8_sheet_53 (by decide) ?_
          refine lv_istore (lv' := [(4, .int (0 : Int32)), (0, .ref (ga 0)), (1, .int r), (2, .int i), (3, .int n)]) hx hb dX8_sheet_54 hl (by decide) rfl (fun ls hl => ?_)
          obtain ⟨e15, w20, h21⟩ := obn h19
          clear h19
          have AF15 : ∀ (ls : Array Slot) (H : Heap) (locs : List Loc), lv_has ls 5 [] → va_P D vwCl (cO ca ga e15.2) H → va_D A (cO ca ga e15.2) → va_S A s.heap H locs → W p l e rmX8_sheet s m ([.ref (ga 0), .int r, .int i, .int n] : List Value).toArray below meth c H locs 0 0 Z (F0 m 82 ls []) := by
            intro ls H locs hl hP hD hS
            refine lv_iconst (v := (1 : Int32)) hx hb dX8_sheet_82 (by decide) ?_
            obtain rfl := Option.some.inj h21
            exact hret _ _ _ _ (vp_nar_int _) hP hD hS dX8_sheet_83
          refine whO_walk (I := fun s12 => ∀ (ls : Array Slot) (H : Heap) (locs : List Loc), lv_has ls 5 [(0, .ref (ga 0)), (1, .int r), (4, .int s12.1)] → va_P D vwCl (cO ca ga s12.2) H → va_D A (cO ca ga s12.2) → va_S A s.heap H locs → W p l e rmX8_sheet s m ([.ref (ga 0), .int r, .int i, .int n] : List Value).toArray below meth c H locs 0 0 Z (F0 m 56 ls [])) ?_ _ _ w20 _ _ _ (lv_sub hl [1, 2, 0] rfl) hP hD hS
          clear w20
          intro s12 o15 h22 hi15 ho15 ls H locs hl hP hD hS
          unfold mX8_sheet_l56 at h22
          refine lv_iload hx hb dX8_sheet_56 (lv_at hl 2 rfl) ?_
          refine lv_bipush (v := (40 : Int32)) hx hb dX8_sheet_58 (by decide) ?_
          refine lv_icmp_ge (tgt := 82) hx hb dX8_sheet_60 (by decide) (fun c13 => ?_) (fun c13 => ?_)
          · skip
            replace h22 := (if_pos c13).symm.trans h22
            have h23 := ho15 _ (Option.some.inj h22).symm
            subst h23
            exact AF15 _ _ _ (lv_sub hl [] rfl) hP hD hS
          · skip
            replace h22 := (if_neg c13).symm.trans h22
            refine lv_aload_n hx hb dX8_sheet_63 rfl (lv_at hl 0 rfl) ?_
            refine xget (ref := "FriezeFolkModel") (C := RX8) (T := TX8) (N := 24) (ci := 8) (v := .ref (ga 23)) hx hb hts inX8 hown hK hP 0 rfl rfl 22 (by decide) k5 rfl rfl dX8_sheet_64 ?_
            refine lv_bipush (v := (40 : Int32)) hx hb dX8_sheet_67 (by decide) ?_
            refine lv_iload_n hx hb dX8_sheet_69 rfl (lv_at hl 1 rfl) ?_
            refine lv_imul hx hb dX8_sheet_70 ?_
            refine lv_iload hx hb dX8_sheet_71 (lv_at hl 2 rfl) ?_
            refine lv_iadd hx hb dX8_sheet_73 ?_
            refine lv_iconst (v := (0 : Int32)) hx hb dX8_sheet_74 (by decide) ?_
            obtain ⟨f14, q14, h24⟩ := obn h22
            clear h22
            refine xast hx hb hK hP hD hS 13 rfl q14 dX8_sheet_75 (wn := (cO ca ga (sA s12.2 22 f14))) rfl (fun H locs hP hD hS => ?_)
            refine lv_iinc (v := (s12.1 + (1 : Int32))) (lv' := [(4, .int (s12.1 + (1 : Int32))), (0, .ref (ga 0)), (1, .int r)]) hx hb dX8_sheet_76 hl (k := 2) rfl rfl (by decide) rfl (fun ls hl => ?_)
            refine lv_goto (tgt := 56) hx hb dX8_sheet_79 (by decide) ?_
            exact hi15 _ (Option.some.inj h24).symm _ _ _ (lv_sub hl [1, 2, 0] rfl) hP hD hS
        · skip
          replace h17 := (if_neg c6).symm.trans h17
          refine lv_bipush (v := (-14 : Int32)) hx hb dX8_sheet_36 (by decide) ?_
          obtain rfl := Option.some.inj h17
          exact hret _ _ _ _ (vp_nar_int _) hP hD hS dX8_sheet_38
      · skip
        replace h17 := (if_neg c5).symm.trans h17
        refine lv_iconst (v := (-1 : Int32)) hx hb dX8_sheet_30 (by decide) ?_
        obtain rfl := Option.some.inj h17
        exact hret _ _ _ _ (vp_nar_int _) hP hD hS dX8_sheet_31

def mX8_lay (g : GS) (r : Int32) (i : Int32) (x : Int32) : Option (Int32 × GS) :=
  Option.bind (mX8_in r.toInt64 (0 : Int64) (3 : Int64)) fun v1 =>
  if v1 = 0 then
    some ((-1 : Int32), g)
  else
    Option.bind (ald 4 (g.1 20) r) fun v3 =>
    if v3 = (-4 : Int32) then
      some ((-11 : Int32), g)
    else
      Option.bind (ald 4 (g.1 21) r) fun v5 =>
      Option.bind (mX8_in i.toInt64 (0 : Int64) (v5 - (1 : Int32)).toInt64) fun v6 =>
      if v6 = 0 then
        some ((-12 : Int32), g)
      else
        Option.bind (ald 4 (g.1 20) r) fun v8 =>
        if v8 = 0 then
          Option.bind (ast 160 (g.1 22) (((40 : Int32) * r) + i) ((x <<< ((24 : Int32) &&& 31)) >>> ((24 : Int32) &&& 31))) fun f15 =>
          some ((1 : Int32), (sA g 22 f15))
        else
          Option.bind (ald 4 (g.1 20) r) fun v10 =>
          if v10 = (1 : Int32) then
            Option.bind (ast 160 (g.1 22) (((40 : Int32) * r) + i) ((x <<< ((16 : Int32) &&& 31)) >>> ((16 : Int32) &&& 31))) fun f14 =>
            some ((1 : Int32), (sA g 22 f14))
          else
            Option.bind (ast 160 (g.1 22) (((40 : Int32) * r) + i) x) fun f13 =>
            some ((1 : Int32), (sA g 22 f13))
abbrev rmX8_lay : Room := { frames := 1, cells := 0, slots := 0, locals := 25 }
set_option maxHeartbeats 4000000 in
set_option maxRecDepth 100000 in
theorem k_X8_lay (l : Launch) (D : va_G) (ca : Nat → ClassId) (ga : Nat → Nat) (g : GS) (r : Int32) (i : Int32) (x : Int32) (o : Int32 × GS) (hm : mX8_lay g r i x = some o) : KI l yX8_lay wsX8_lay rmX8_lay D ca [.ref (ga 0), .int r, .int i, .int x] (cO ca ga g) (cO ca ga o.2) o.1 := by
  refine KI.of (cc := cX8_lay) (n := 4) (plainFor_of_name (by decide)) rfl (Nat.le_of_ble_eq_true rfl) ?_
  intro p e s m below meth c A Z hx hb hml hts hown hA hK hP hD hS hret ls hl
  have hown : s.vm.findClass RX8 = some m.cls := hown
  have hl : lv_has ls 4 [(0, .ref (ga 0)), (1, .int r), (2, .int i), (3, .int x)] := hl
  have inX8 : ∀ w ∈ wsX80, w ∈ wsX8_lay := by decide +kernel
  have k1 := hts (.constantLong RX8 138 (3 : Int64)) (by decide +kernel)
  have k2 := hts (.fieldLink RX8 41 "FriezeFolkModel" "lanes" "[I") (by decide +kernel)
  have k3 := hts (.fieldLink RX8 44 "FriezeFolkModel" "lengths" "[I") (by decide +kernel)
  have k4 := hts (.fieldLink RX8 47 "FriezeFolkModel" "cells" "[I") (by decide +kernel)
  unfold mX8_lay at hm
  refine lv_iload_n hx hb dX8_lay_0 rfl (lv_at hl 1 rfl) ?_
  refine lv_i2l (v := r.toInt64) hx hb dX8_lay_1 rfl ?_
  refine lv_lconst (v := (0 : Int64)) hx hb dX8_lay_2 (by decide) ?_
  refine lv_ldc2 hx hb hown k1 dX8_lay_3 ?_
  obtain ⟨v1, q1, h16⟩ := obn hm
  clear hm
  refine xSi (As := [.long r.toInt64, .long (0 : Int64), .long (3 : Int64)]) ⟨hx, hb, hml, hown, hts⟩ (k_X8_in l D ca  r.toInt64 (0 : Int64) (3 : Int64) _ q1) (va_cwS 3 hts gX8_lay_X8_in rfl rfl rfl (by decide +kernel) ⟨Nat.le_of_ble_eq_true rfl, Nat.le_of_ble_eq_true rfl⟩) hK hA hP hD hS dX8_lay_6 rfl hl.1 [] [0, 1, 2, 3, 4, 5, 6, 7, 8, 9, 10, 11, 12, 13] [0, 1, 2, 3, 4, 5, 6, 7, 8, 9, 10, 11, 12, 13] rfl rfl (wr := ((cO ca ga g))) rfl rfl (by decide) (wn := (cO ca ga g)) rfl rfl rfl (Nat.le_of_ble_eq_true rfl) (fun H locs hP hD hS => ?_)
  refine lv_if_ne (tgt := 14) hx hb dX8_lay_9 (by decide) (fun c2 => ?_) (fun c2 => ?_)
  · skip
    replace h16 := (if_neg c2).symm.trans h16
    refine lv_aload_n hx hb dX8_lay_14 rfl (lv_at hl 0 rfl) ?_
    refine xget (ref := "FriezeFolkModel") (C := RX8) (T := TX8) (N := 24) (ci := 8) (v := .ref (ga 21)) hx hb hts inX8 hown hK hP 0 rfl rfl 20 (by decide) k2 rfl rfl dX8_lay_15 ?_
    refine lv_iload_n hx hb dX8_lay_18 rfl (lv_at hl 1 rfl) ?_
    obtain ⟨v3, q3, h17⟩ := obn h16
    clear h16
    refine xald hx hb hK hP 11 rfl q3 dX8_lay_19 ?_
    refine lv_bipush (v := (-4 : Int32)) hx hb dX8_lay_20 (by decide) ?_
    refine lv_icmp_ne (tgt := 28) hx hb dX8_lay_22 (by decide) (fun c4 => ?_) (fun c4 => ?_)
    · skip
      replace h17 := (if_neg c4).symm.trans h17
      refine lv_iload_n hx hb dX8_lay_28 rfl (lv_at hl 2 rfl) ?_
      refine lv_i2l (v := i.toInt64) hx hb dX8_lay_29 rfl ?_
      refine lv_lconst (v := (0 : Int64)) hx hb dX8_lay_30 (by decide) ?_
      refine lv_aload_n hx hb dX8_lay_31 rfl (lv_at hl 0 rfl) ?_
      refine xget (ref := "FriezeFolkModel") (C := RX8) (T := TX8) (N := 24) (ci := 8) (v := .ref (ga 22)) hx hb hts inX8 hown hK hP 0 rfl rfl 21 (by decide) k3 rfl rfl dX8_lay_32 ?_
      refine lv_iload_n hx hb dX8_lay_35 rfl (lv_at hl 1 rfl) ?_
      obtain ⟨v5, q5, h18⟩ := obn h17
      clear h17
      refine xald hx hb hK hP 12 rfl q5 dX8_lay_36 ?_
      refine lv_iconst (v := (1 : Int32)) hx hb dX8_lay_37 (by decide) ?_
      refine lv_isub hx hb dX8_lay_38 ?_
      refine lv_i2l (v := (v5 - (1 : Int32)).toInt64) hx hb dX8_lay_39 rfl ?_
      obtain ⟨v6, q6, h19⟩ := obn h18
      clear h18
      refine xSi (As := [.long i.toInt64, .long (0 : Int64), .long (v5 - (1 : Int32)).toInt64]) ⟨hx, hb, hml, hown, hts⟩ (k_X8_in l D ca  i.toInt64 (0 : Int64) (v5 - (1 : Int32)).toInt64 _ q6) (va_cwS 3 hts gX8_lay_X8_in rfl rfl rfl (by decide +kernel) ⟨Nat.le_of_ble_eq_true rfl, Nat.le_of_ble_eq_true rfl⟩) hK hA hP hD hS dX8_lay_40 rfl hl.1 [] [0, 1, 2, 3, 4, 5, 6, 7, 8, 9, 10, 11, 12, 13] [0, 1, 2, 3, 4, 5, 6, 7, 8, 9, 10, 11, 12, 13] rfl rfl (wr := ((cO ca ga g))) rfl rfl (by decide) (wn := (cO ca ga g)) rfl rfl rfl (Nat.le_of_ble_eq_true rfl) (fun H locs hP hD hS => ?_)
      refine lv_if_ne (tgt := 49) hx hb dX8_lay_43 (by decide) (fun c7 => ?_) (fun c7 => ?_)
      · skip
        replace h19 := (if_neg c7).symm.trans h19
        refine lv_aload_n hx hb dX8_lay_49 rfl (lv_at hl 0 rfl) ?_
        refine xget (ref := "FriezeFolkModel") (C := RX8) (T := TX8) (N := 24) (ci := 8) (v := .ref (ga 23)) hx hb hts inX8 hown hK hP 0 rfl rfl 22 (by decide) k4 rfl rfl dX8_lay_50 ?_
        refine lv_bipush (v := (40 : Int32)) hx hb dX8_lay_53 (by decide) ?_
        refine lv_iload_n hx hb dX8_lay_55 rfl (lv_at hl 1 rfl) ?_
        refine lv_imul hx hb dX8_lay_56 ?_
        refine lv_iload_n hx hb dX8_lay_57 rfl (lv_at hl 2 rfl) ?_
        refine lv_iadd hx hb dX8_lay_58 ?_
        refine lv_aload_n hx hb dX8_lay_59 rfl (lv_at hl 0 rfl) ?_
        refine xget (ref := "FriezeFolkModel") (C := RX8) (T := TX8) (N := 24) (ci := 8) (v := .ref (ga 21)) hx hb hts inX8 hown hK hP 0 rfl rfl 20 (by decide) k2 rfl rfl dX8_lay_60 ?_
        refine lv_iload_n hx hb dX8_lay_63 rfl (lv_at hl 1 rfl) ?_
        obtain ⟨v8, q8, h20⟩ := obn h19
        clear h19
        refine xald hx hb hK hP 11 rfl q8 dX8_lay_64 ?_
        refine lv_if_ne (tgt := 78) hx hb dX8_lay_65 (by decide) (fun c9 => ?_) (fun c9 => ?_)
        · skip
          replace h20 := (if_neg c9).symm.trans h20
          refine lv_aload_n hx hb dX8_lay_78 rfl (lv_at hl 0 rfl) ?_
          refine xget (ref := "FriezeFolkModel") (C := RX8) (T := TX8) (N := 24) (ci := 8) (v := .ref (ga 21)) hx hb hts inX8 hown hK hP 0 rfl rfl 20 (by decide) k2 rfl rfl dX8_lay_79 ?_
          refine lv_iload_n hx hb dX8_lay_82 rfl (lv_at hl 1 rfl) ?_
          obtain ⟨v10, q10, h21⟩ := obn h20
          clear h20
          refine xald hx hb hK hP 11 rfl q10 dX8_lay_83 ?_
          refine lv_iconst (v := (1 : Int32)) hx hb dX8_lay_84 (by decide) ?_
          refine lv_icmp_ne (tgt := 98) hx hb dX8_lay_85 (by decide) (fun c11 => ?_) (fun c11 => ?_)
          · skip
            replace h21 := (if_neg c11).symm.trans h21
            refine lv_iload_n hx hb dX8_lay_98 rfl (lv_at hl 3 rfl) ?_
            obtain ⟨f13, q13, h22⟩ := obn h21
            clear h21
            refine xast hx hb hK hP hD hS 13 rfl q13 dX8_lay_99 (wn := (cO ca ga (sA g 22 f13))) rfl (fun H locs hP hD hS => ?_)
            refine lv_iconst (v := (1 : Int32)) hx hb dX8_lay_100 (by decide) ?_
            obtain rfl := Option.some.inj h22
            exact hret _ _ _ _ (vp_nar_int _) hP hD hS dX8_lay_101
          · skip
            replace h21 := (if_pos c11).symm.trans h21
            refine lv_iload_n hx hb dX8_lay_88 rfl (lv_at hl 3 rfl) ?_
            refine lv_bipush (v := (16 : Int32)) hx hb dX8_lay_89 (by decide) ?_
            refine lv_ishl hx hb dX8_lay_91 ?_
            refine lv_bipush (v := (16 : Int32)) hx hb dX8_lay_92 (by decide) ?_
            refine lv_ishr hx hb dX8_lay_94 ?_
            refine lv_goto (tgt := 99) hx hb dX8_lay_95 (by decide) ?_
            obtain ⟨f14, q14, h23⟩ := obn h21
            clear h21
            refine xast hx hb hK hP hD hS 13 rfl q14 dX8_lay_99 (wn := (cO ca ga (sA g 22 f14))) rfl (fun H locs hP hD hS => ?_)
            refine lv_iconst (v := (1 : Int32)) hx hb dX8_lay_100 (by decide) ?_
            obtain rfl := Option.some.inj h23
            exact hret _ _ _ _ (vp_nar_int _) hP hD hS dX8_lay_101
        · skip
          replace h20 := (if_pos c9).symm.trans h20
          refine lv_iload_n hx hb dX8_lay_68 rfl (lv_at hl 3 rfl) ?_
          refine lv_bipush (v := (24 : Int32)) hx hb dX8_lay_69 (by decide) ?_
          refine lv_ishl hx hb dX8_lay_71 ?_
          refine lv_bipush (v := (24 : Int32)) hx hb dX8_lay_72 (by decide) ?_
          refine lv_ishr hx hb dX8_lay_74 ?_
          refine lv_goto (tgt := 99) hx hb dX8_lay_75 (by decide) ?_
          obtain ⟨f15, q15, h24⟩ := obn h20
          clear h20
          refine xast hx hb hK hP hD hS 13 rfl q15 dX8_lay_99 (wn := (cO ca ga (sA g 22 f15))) rfl (fun H locs hP hD hS => ?_)
          refine lv_iconst (v := (1 : Int32)) hx hb dX8_lay_100 (by decide) ?_
          obtain rfl := Option.some.inj h24
          exact hret _ _ _ _ (vp_nar_int _) hP hD hS dX8_lay_101
      · skip
        replace h19 := (if_pos c7).symm.trans h19
        refine lv_bipush (v := (-12 : Int32)) hx hb dX8_lay_46 (by decide) ?_
        obtain rfl := Option.some.inj h19
        exact hret _ _ _ _ (vp_nar_int _) hP hD hS dX8_lay_48
    · skip
      replace h17 := (if_pos c4).symm.trans h17
      refine lv_bipush (v := (-11 : Int32)) hx hb dX8_lay_25 (by decide) ?_
      obtain rfl := Option.some.inj h17
      exact hret _ _ _ _ (vp_nar_int _) hP hD hS dX8_lay_27
  · skip
    replace h16 := (if_pos c2).symm.trans h16
    refine lv_iconst (v := (-1 : Int32)) hx hb dX8_lay_12 (by decide) ?_
    obtain rfl := Option.some.inj h16
    exact hret _ _ _ _ (vp_nar_int _) hP hD hS dX8_lay_13
def mX8_read_l55 (r : Int32) (i : Int32) (j : Int32) (n : Int32) (s30 : Int32 × Int32 × Int32 × GS) : Option ((Int32 × Int32 × Int32 × GS) ⊕ ((Int32 × Int32 × Int32 × GS) ⊕ (Int32 × GS))) :=
  if ((2 : Int32) * n) ≤ s30.2.2.1 then
    some (.inr (.inl (s30.1, s30.2.1, s30.2.2.1, s30.2.2.2)))
  else
    if s30.1 = 0 then
      Option.bind (ald 4 (s30.2.2.2.1 20) r) fun v33 =>
      Option.bind (
        if v33 = (-4 : Int32) then
          some (1 : Int32)
        else
          Option.bind (ald 4 (s30.2.2.2.1 20) r) fun v35 =>
          if v35 = i then
            Option.bind (ald 4 (s30.2.2.2.1 21) r) fun v37 =>
            Option.bind (mX8_in (j.toInt64 + s30.2.2.1.toInt64) (0 : Int64) (v37 - (1 : Int32)).toInt64) fun v38 =>
            if v38 = 0 then
              some (2 : Int32)
            else
              some (0 : Int32)
          else
            some (3 : Int32)) fun (v40 : Int32) =>
      Option.bind (
        if v40 = 0 then
          Option.bind (irm s30.2.2.1 (2 : Int32)) fun v42 =>
          if v42 = (1 : Int32) then
            Option.bind (ald 160 (s30.2.2.2.1 22) (((((40 : Int32) * r) + j) + s30.2.2.1) - (1 : Int32))) fun v44 =>
            Option.bind (ald 160 (s30.2.2.2.1 22) ((((40 : Int32) * r) + j) + s30.2.2.1)) fun v45 =>
            Option.bind (mX8_prints s30.2.2.2 v44 v45) fun v46 =>
            if 0 ≤ v46.1 then
              some (.inl ((s30.2.1 + (1 : Int32)), v46.2))
            else
              Option.bind (mX8_copies v46.2 (120 : Int32) (0 : Int32)) fun v49 =>
              some (.inr (.inr (.inr (((-20 : Int32) - s30.2.1), v49))))
          else
            some (.inl (s30.2.1, s30.2.2.2))
        else
          some (.inl (s30.2.1, s30.2.2.2))) fun (v50 : (Int32 × GS) ⊕ ((Int32 × Int32 × Int32 × GS) ⊕ ((Int32 × Int32 × Int32 × GS) ⊕ (Int32 × GS)))) => esc v50 fun t51 =>
      some (.inl (v40, t51.1, (s30.2.2.1 + (1 : Int32)), t51.2))
    else
      some (.inr (.inl (s30.1, s30.2.1, s30.2.2.1, s30.2.2.2)))

def mX8_read (g : GS) (r : Int32) (i : Int32) (j : Int32) (n : Int32) : Option (Int32 × GS) :=
  Option.bind (mX8_in r.toInt64 (0 : Int64) (3 : Int64)) fun v1 =>
  if v1 = 0 then
    some ((-1 : Int32), g)
  else
    Option.bind (mX8_in i.toInt64 (0 : Int64) (2 : Int64)) fun v3 =>
    if v3 = 0 then
      some ((-1 : Int32), g)
    else
      Option.bind (mX8_in n.toInt64 (0 : Int64) (20 : Int64)) fun v5 =>
      if v5 = 0 then
        some ((-1 : Int32), g)
      else
        Option.bind (mX8_copies g (0 : Int32) (120 : Int32)) fun v7 =>
        Option.bind (whO (mX8_read_l55 r i j n) FU ((0 : Int32), (0 : Int32), (0 : Int32), v7)) fun e52 => esc e52 fun t53 =>
        some (t53.2.1, (sI t53.2.2.2 23 t53.1))
abbrev rmX8_read : Room := { frames := 2, cells := 0, slots := 0, locals := 48 }
set_option maxHeartbeats 4000000 in
set_option maxRecDepth 100000 in
theorem k_X8_read (l : Launch) (D : va_G) (ca : Nat → ClassId) (ga : Nat → Nat) (g : GS) (r : Int32) (i : Int32) (j : Int32) (n : Int32) (o : Int32 × GS) (hm : mX8_read g r i j n = some o) : KI l yX8_read wsX8_read rmX8_read D ca [.ref (ga 0), .int r, .int i, .int j, .int n] (cO ca ga g) (cO ca ga o.2) o.1 := by
  refine KI.of (cc := cX8_read) (n := 9) (plainFor_of_name (by decide)) rfl (Nat.le_of_ble_eq_true rfl) ?_
  intro p e s m below meth c A Z hx hb hml hts hown hA hK hP hD hS hret ls hl
  have hown : s.vm.findClass RX8 = some m.cls := hown
  have hl : lv_has ls 9 [(0, .ref (ga 0)), (1, .int r), (2, .int i), (3, .int j), (4, .int n)] := hl
  have inX8 : ∀ w ∈ wsX80, w ∈ wsX8_read := by decide +kernel
  have k1 := hts (.constantLong RX8 138 (3 : Int64)) (by decide +kernel)
  have k2 := hts (.constantLong RX8 143 (2 : Int64)) (by decide +kernel)
  have k3 := hts (.constantLong RX8 207 (20 : Int64)) (by decide +kernel)
  have k4 := hts (.fieldLink RX8 41 "FriezeFolkModel" "lanes" "[I") (by decide +kernel)
  have k5 := hts (.fieldLink RX8 44 "FriezeFolkModel" "lengths" "[I") (by decide +kernel)
  have k6 := hts (.fieldLink RX8 47 "FriezeFolkModel" "cells" "[I") (by decide +kernel)
  have k7 := hts (.fieldLink RX8 209 "FriezeFolkModel" "torn" "I") (by decide +kernel)
  unfold mX8_read at hm
  refine lv_iload_n hx hb dX8_read_0 rfl (lv_at hl 1 rfl) ?_
  refine lv_i2l (v := r.toInt64) hx hb dX8_read_1 rfl ?_
  refine lv_lconst (v := (0 : Int64)) hx hb dX8_read_2 (by decide) ?_
  refine lv_ldc2 hx hb hown k1 dX8_read_3 ?_
  obtain ⟨v1, q1, h54⟩ := obn hm
  clear hm
  refine xSi (As := [.long r.toInt64, .long (0 : Int64), .long (3 : Int64)]) ⟨hx, hb, hml, hown, hts⟩ (k_X8_in l D ca  r.toInt64 (0 : Int64) (3 : Int64) _ q1) (va_cwS 3 hts gX8_read_X8_in rfl rfl rfl (by decide +kernel) ⟨Nat.le_of_ble_eq_true rfl, Nat.le_of_ble_eq_true rfl⟩) hK hA hP hD hS dX8_read_6 rfl hl.1 [] [0, 1, 2, 3, 4, 5, 6, 7, 8, 9, 10, 11, 12, 13] [0, 1, 2, 3, 4, 5, 6, 7, 8, 9, 10, 11, 12, 13] rfl rfl (wr := ((cO ca ga g))) rfl rfl (by decide) (wn := (cO ca ga g)) rfl rfl rfl (Nat.le_of_ble_eq_true rfl) (fun H locs hP hD hS => ?_)
  refine lv_if_eq (tgt := 37) hx hb dX8_read_9 (by decide) (fun c2 => ?_) (fun c2 => ?_)
  · skip
    replace h54 := (if_pos c2).symm.trans h54
    refine lv_iconst (v := (-1 : Int32)) hx hb dX8_read_37 (by decide) ?_
    obtain rfl := Option.some.inj h54
    exact hret _ _ _ _ (vp_nar_int _) hP hD hS dX8_read_38
  · skip
    replace h54 := (if_neg c2).symm.trans h54
    refine lv_iload_n hx hb dX8_read_12 rfl (lv_at hl 2 rfl) ?_
    refine lv_i2l (v := i.toInt64) hx hb dX8_read_13 rfl ?_
    refine lv_lconst (v := (0 : Int64)) hx hb dX8_read_14 (by decide) ?_
    refine lv_ldc2 hx hb hown k2 dX8_read_15 ?_
    obtain ⟨v3, q3, h55⟩ := obn h54
    clear h54
    refine xSi (As := [.long i.toInt64, .long (0 : Int64), .long (2 : Int64)]) ⟨hx, hb, hml, hown, hts⟩ (k_X8_in l D ca  i.toInt64 (0 : Int64) (2 : Int64) _ q3) (va_cwS 3 hts gX8_read_X8_in rfl rfl rfl (by decide +kernel) ⟨Nat.le_of_ble_eq_true rfl, Nat.le_of_ble_eq_true rfl⟩) hK hA hP hD hS dX8_read_18 rfl hl.1 [] [0, 1, 2, 3, 4, 5, 6, 7, 8, 9, 10, 11, 12, 13] [0, 1, 2, 3, 4, 5, 6, 7, 8, 9, 10, 11, 12, 13] rfl rfl (wr := ((cO ca ga g))) rfl rfl (by decide) (wn := (cO ca ga g)) rfl rfl rfl (Nat.le_of_ble_eq_true rfl) (fun H locs hP hD hS => ?_)
    refine lv_if_eq (tgt := 37) hx hb dX8_read_21 (by decide) (fun c4 => ?_) (fun c4 => ?_)
    · skip
      replace h55 := (if_pos c4).symm.trans h55
      refine lv_iconst (v := (-1 : Int32)) hx hb dX8_read_37 (by decide) ?_
      obtain rfl := Option.some.inj h55
      exact hret _ _ _ _ (vp_nar_int _) hP hD hS dX8_read_38
    · skip
      replace h55 := (if_neg c4).symm.trans h55
      refine lv_iload hx hb dX8_read_24 (lv_at hl 4 rfl) ?_
      refine lv_i2l (v := n.toInt64) hx hb dX8_read_26 rfl ?_
      refine lv_lconst (v := (0 : Int64)) hx hb dX8_read_27 (by decide) ?_
      refine lv_ldc2 hx hb hown k3 dX8_read_28 ?_
      obtain ⟨v5, q5, h56⟩ := obn h55
      clear h55
      refine xSi (As := [.long n.toInt64, .long (0 : Int64), .long (20 : Int64)]) ⟨hx, hb, hml, hown, hts⟩ (k_X8_in l D ca  n.toInt64 (0 : Int64) (20 : Int64) _ q5) (va_cwS 3 hts gX8_read_X8_in rfl rfl rfl (by decide +kernel) ⟨Nat.le_of_ble_eq_true rfl, Nat.le_of_ble_eq_true rfl⟩) hK hA hP hD hS dX8_read_31 rfl hl.1 [] [0, 1, 2, 3, 4, 5, 6, 7, 8, 9, 10, 11, 12, 13] [0, 1, 2, 3, 4, 5, 6, 7, 8, 9, 10, 11, 12, 13] rfl rfl (wr := ((cO ca ga g))) rfl rfl (by decide) (wn := (cO ca ga g)) rfl rfl rfl (Nat.le_of_ble_eq_true rfl) (fun H locs hP hD hS => ?_)
      refine lv_if_ne (tgt := 39) hx hb dX8_read_34 (by decide) (fun c6 => ?_) (fun c6 => ?_)
      · skip
        replace h56 := (if_neg c6).symm.trans h56
        refine lv_aload_n hx hb dX8_read_39 rfl (lv_at hl 0 rfl) ?_
        refine lv_iconst (v := (0 : Int32)) hx hb dX8_read_40 (by decide) ?_
        refine lv_bipush (v := (120 : Int32)) hx hb dX8_read_41 (by decide) ?_
        obtain ⟨v7, q7, h57⟩ := obn h56
        clear h56
        refine xVv (As := [.int (0 : Int32), .int (120 : Int32)]) (ci := 8) ⟨hx, hb, hml, hown, hts⟩ (k_X8_copies l D ca ga g (0 : Int32) (120 : Int32) _ q7) (cwV 2 hts gX8_read_X8_copies rfl rfl rfl (by decide +kernel) ⟨Nat.le_of_ble_eq_true rfl, Nat.le_of_ble_eq_true rfl⟩) hK hA hP hD hS dX8_read_43 rfl hl.1 [0, 1, 2, 3, 4, 5, 6, 7, 8, 9, 10, 11, 12, 13] [] [0, 1, 2, 3, 4, 5, 6, 7, 8, 9, 10, 11, 12, 13] rfl rfl (wr := []) rfl rfl (by decide) (wn := (cO ca ga v7)) rfl rfl rfl rfl rfl rfl (Nat.le_of_ble_eq_true rfl) (fun H locs hP hD hS => ?_)
        refine lv_iconst (v := (0 : Int32)) hx hb dX8_read_46 (by decide) ?_
        refine lv_istore (lv' := [(5, .int (0 : Int32)), (0, .ref (ga 0)), (1, .int r), (2, .int i), (3, .int j), (4, .int n)]) hx hb dX8_read_47 hl (by decide) rfl (fun ls hl => ?_)
        refine lv_iconst (v := (0 : Int32)) hx hb dX8_read_49 (by decide) ?_
        refine lv_istore (lv' := [(6, .int (0 : Int32)), (5, .int (0 : Int32)), (0, .ref (ga 0)), (1, .int r), (2, .int i), (3, .int j), (4, .int n)]) hx hb dX8_read_50 hl (by decide) rfl (fun ls hl => ?_)
        refine lv_iconst (v := (0 : Int32)) hx hb dX8_read_52 (by decide) ?_
        refine lv_istore (lv' := [(7, .int (0 : Int32)), (6, .int (0 : Int32)), (5, .int (0 : Int32)), (0, .ref (ga 0)), (1, .int r), (2, .int i), (3, .int j), (4, .int n)]) hx hb dX8_read_53 hl (by decide) rfl (fun ls hl => ?_)
        obtain ⟨e52, w58, h59⟩ := obn h57
        clear h57
        have AF52 : ∀ t53, e52 = .inl t53 → ∀ (ls : Array Slot) (H : Heap) (locs : List Loc), lv_has ls 9 [(0, .ref (ga 0)), (5, .int t53.1), (6, .int t53.2.1)] → va_P D vwCl (cO ca ga t53.2.2.2) H → va_D A (cO ca ga t53.2.2.2) → va_S A s.heap H locs → W p l e rmX8_read s m ([.ref (ga 0), .int r, .int i, .int j, .int n] : List Value).toArray below meth c H locs 0 0 Z (F0 m 196 ls []) := by
          intro t53 ht ls H locs hl hP hD hS
          subst ht
          replace h59 := (esc_l _ _).symm.trans h59
          refine lv_aload_n hx hb dX8_read_196 rfl (lv_at hl 0 rfl) ?_
          refine lv_iload hx hb dX8_read_197 (lv_at hl 1 rfl) ?_
          refine xput (ref := "FriezeFolkModel") (C := RX8) (T := TX8) (N := 24) (ci := 8) (v := .int t53.1) (ty := .int) hx hb hts inX8 tyX8 tyX8_ok nmX8 hown hK hP hD hS 0 rfl rfl 23 (by decide) k7 rfl rfl (by decide +kernel) rfl rfl (Nat.le_of_ble_eq_true rfl) dX8_read_199 (wn := (cO ca ga (sI t53.2.2.2 23 t53.1))) rfl (fun H locs hP hD hS => ?_)
          refine lv_iload hx hb dX8_read_202 (lv_at hl 2 rfl) ?_
          obtain rfl := Option.some.inj h59
          exact hret _ _ _ _ (vp_nar_int _) hP hD hS dX8_read_204
        refine whO_walk (I := fun s30 => ∀ (ls : Array Slot) (H : Heap) (locs : List Loc), lv_has ls 9 [(0, .ref (ga 0)), (1, .int r), (2, .int i), (3, .int j), (4, .int n), (5, .int s30.1), (6, .int s30.2.1), (7, .int s30.2.2.1)] → va_P D vwCl (cO ca ga s30.2.2.2) H → va_D A (cO ca ga s30.2.2.2) → va_S A s.heap H locs → W p l e rmX8_read s m ([.ref (ga 0), .int r, .int i, .int j, .int n] : List Value).toArray below meth c H locs 0 0 Z (F0 m 55 ls [])) ?_ _ _ w58 _ _ _ (lv_sub hl [3, 4, 5, 6, 7, 2, 1, 0] rfl) hP hD hS
        clear w58
        intro s30 o52 h60 hi52 ho52 ls H locs hl hP hD hS
        unfold mX8_read_l55 at h60
        refine lv_iload hx hb dX8_read_55 (lv_at hl 7 rfl) ?_
        refine lv_iconst (v := (2 : Int32)) hx hb dX8_read_57 (by decide) ?_
        refine lv_iload hx hb dX8_read_58 (lv_at hl 4 rfl) ?_
        refine lv_imul hx hb dX8_read_60 ?_
        refine lv_icmp_ge (tgt := 196) hx hb dX8_read_61 (by decide) (fun c31 => ?_) (fun c31 => ?_)
        · skip
          replace h60 := (if_pos c31).symm.trans h60
          have h61 := ho52 _ (Option.some.inj h60).symm
          subst h61
          exact AF52 _ rfl _ _ _ (lv_sub hl [0, 5, 6] rfl) hP hD hS
        · skip
          replace h60 := (if_neg c31).symm.trans h60
          refine lv_iload hx hb dX8_read_64 (lv_at hl 5 rfl) ?_
          refine lv_if_ne (tgt := 196) hx hb dX8_read_66 (by decide) (fun c32 => ?_) (fun c32 => ?_)
          · skip
            replace h60 := (if_neg c32).symm.trans h60
            have h62 := ho52 _ (Option.some.inj h60).symm
            subst h62
            exact AF52 _ rfl _ _ _ (lv_sub hl [0, 5, 6] rfl) hP hD hS
          · skip
            replace h60 := (if_pos c32).symm.trans h60
            refine lv_aload_n hx hb dX8_read_69 rfl (lv_at hl 0 rfl) ?_
            refine xget (ref := "FriezeFolkModel") (C := RX8) (T := TX8) (N := 24) (ci := 8) (v := .ref (ga 21)) hx hb hts inX8 hown hK hP 0 rfl rfl 20 (by decide) k4 rfl rfl dX8_read_70 ?_
            refine lv_iload_n hx hb dX8_read_73 rfl (lv_at hl 1 rfl) ?_
            obtain ⟨v33, q33, h63⟩ := obn h60
            clear h60
            refine xald hx hb hK hP 11 rfl q33 dX8_read_74 ?_
            refine lv_bipush (v := (-4 : Int32)) hx hb dX8_read_75 (by decide) ?_
            obtain ⟨v40, q64, h65⟩ := obn h63
            clear h63
            have J40 : ∀ (ls : Array Slot) (H : Heap) (locs : List Loc), lv_has ls 9 [(0, .ref (ga 0)), (1, .int r), (2, .int i), (3, .int j), (4, .int n), (6, .int s30.2.1), (7, .int s30.2.2.1)] → va_P D vwCl (cO ca ga s30.2.2.2) H → va_D A (cO ca ga s30.2.2.2) → va_S A s.heap H locs → W p l e rmX8_read s m ([.ref (ga 0), .int r, .int i, .int j, .int n] : List Value).toArray below meth c H locs 0 0 Z (F0 m 125 ls [.int v40]) := by
              intro ls H locs hl hP hD hS
              refine lv_istore (lv' := [(5, .int v40), (0, .ref (ga 0)), (1, .int r), (2, .int i), (3, .int j), (4, .int n), (6, .int s30.2.1), (7, .int s30.2.2.1)]) hx hb dX8_read_125 hl (by decide) rfl (fun ls hl => ?_)
              refine lv_iload hx hb dX8_read_127 (lv_at hl 0 rfl) ?_
              obtain ⟨v50, q66, h67⟩ := obn h65
              clear h65
              have J50 : ∀ t51, v50 = .inl t51 → ∀ (ls : Array Slot) (H : Heap) (locs : List Loc), lv_has ls 9 [(0, .ref (ga 0)), (1, .int r), (2, .int i), (3, .int j), (4, .int n), (5, .int v40), (6, .int t51.1), (7, .int s30.2.2.1)] → va_P D vwCl (cO ca ga t51.2) H → va_D A (cO ca ga t51.2) → va_S A s.heap H locs → W p l e rmX8_read s m ([.ref (ga 0), .int r, .int i, .int j, .int n] : List Value).toArray below meth c H locs 0 0 Z (F0 m 190 ls []) := by
                intro t51 ht ls H locs hl hP hD hS
                subst ht
                replace h67 := (esc_l _ _).symm.trans h67
                refine lv_iinc (v := (s30.2.2.1 + (1 : Int32))) (lv' := [(7, .int (s30.2.2.1 + (1 : Int32))), (0, .ref (ga 0)), (1, .int r), (2, .int i), (3, .int j), (4, .int n), (5, .int v40), (6, .int t51.1)]) hx hb dX8_read_190 hl (k := 7) rfl rfl (by decide) rfl (fun ls hl => ?_)
                refine lv_goto (tgt := 55) hx hb dX8_read_193 (by decide) ?_
                exact hi52 _ (Option.some.inj h67).symm _ _ _ (lv_sub hl [1, 2, 3, 4, 5, 6, 7, 0] rfl) hP hD hS
              refine lv_if_ne (tgt := 190) hx hb dX8_read_129 (by decide) (fun c41 => ?_) (fun c41 => ?_)
              · skip
                replace q66 := (if_neg c41).symm.trans q66
                obtain rfl := Option.some.inj q66
                exact J50 _ rfl _ _ _ (lv_sub hl [1, 2, 3, 4, 5, 0, 6, 7] rfl) hP hD hS
              · skip
                replace q66 := (if_pos c41).symm.trans q66
                refine lv_iload hx hb dX8_read_132 (lv_at hl 7 rfl) ?_
                refine lv_iconst (v := (2 : Int32)) hx hb dX8_read_134 (by decide) ?_
                obtain ⟨v42, q42, h68⟩ := obn q66
                clear q66
                refine xirm hx hb q42 dX8_read_135 ?_
                refine lv_iconst (v := (1 : Int32)) hx hb dX8_read_136 (by decide) ?_
                refine lv_icmp_ne (tgt := 190) hx hb dX8_read_137 (by decide) (fun c43 => ?_) (fun c43 => ?_)
                · skip
                  replace h68 := (if_neg c43).symm.trans h68
                  obtain rfl := Option.some.inj h68
                  exact J50 _ rfl _ _ _ (lv_sub hl [1, 2, 3, 4, 5, 0, 6, 7] rfl) hP hD hS
                · skip
                  replace h68 := (if_pos c43).symm.trans h68
                  refine lv_bipush (v := (40 : Int32)) hx hb dX8_read_140 (by decide) ?_
                  refine lv_iload_n hx hb dX8_read_142 rfl (lv_at hl 2 rfl) ?_
                  refine lv_imul hx hb dX8_read_143 ?_
                  refine lv_iload_n hx hb dX8_read_144 rfl (lv_at hl 4 rfl) ?_
                  refine lv_iadd hx hb dX8_read_145 ?_
                  refine lv_iload hx hb dX8_read_146 (lv_at hl 7 rfl) ?_
                  refine lv_iadd hx hb dX8_read_148 ?_
                  refine lv_istore (lv' := [(8, .int ((((40 : Int32) * r) + j) + s30.2.2.1)), (5, .int v40), (0, .ref (ga 0)), (1, .int r), (2, .int i), (3, .int j), (4, .int n), (6, .int s30.2.1), (7, .int s30.2.2.1)]) hx hb dX8_read_149 hl (by decide) rfl (fun ls hl => ?_)
                  refine lv_aload_n hx hb dX8_read_151 rfl (lv_at hl 2 rfl) ?_
                  refine lv_aload_n hx hb dX8_read_152 rfl (lv_at hl 2 rfl) ?_
                  refine xget (ref := "FriezeFolkModel") (C := RX8) (T := TX8) (N := 24) (ci := 8) (v := .ref (ga 23)) hx hb hts inX8 hown hK hP 0 rfl rfl 22 (by decide) k6 rfl rfl dX8_read_153 ?_
                  refine lv_iload hx hb dX8_read_156 (lv_at hl 0 rfl) ?_
                  refine lv_iconst (v := (1 : Int32)) hx hb dX8_read_158 (by decide) ?_
                  refine lv_isub hx hb dX8_read_159 ?_
                  obtain ⟨v44, q44, h69⟩ := obn h68
                  clear h68
                  refine xald hx hb hK hP 13 rfl q44 dX8_read_160 ?_
                  refine lv_aload_n hx hb dX8_read_161 rfl (lv_at hl 2 rfl) ?_
                  refine xget (ref := "FriezeFolkModel") (C := RX8) (T := TX8) (N := 24) (ci := 8) (v := .ref (ga 23)) hx hb hts inX8 hown hK hP 0 rfl rfl 22 (by decide) k6 rfl rfl dX8_read_162 ?_
                  refine lv_iload hx hb dX8_read_165 (lv_at hl 0 rfl) ?_
                  obtain ⟨v45, q45, h70⟩ := obn h69
                  clear h69
                  refine xald hx hb hK hP 13 rfl q45 dX8_read_167 ?_
                  obtain ⟨v46, q46, h71⟩ := obn h70
                  clear h70
                  refine xVi (As := [.int v44, .int v45]) (ci := 8) ⟨hx, hb, hml, hown, hts⟩ (k_X8_prints l D ca ga s30.2.2.2 v44 v45 _ q46) (cwV 2 hts gX8_read_X8_prints rfl rfl rfl (by decide +kernel) ⟨Nat.le_of_ble_eq_true rfl, Nat.le_of_ble_eq_true rfl⟩) hK hA hP hD hS dX8_read_168 rfl hl.1 [0, 1, 2, 3, 4, 5, 6, 7, 8, 9, 10, 11, 12, 13] [] [0, 1, 2, 3, 4, 5, 6, 7, 8, 9, 10, 11, 12, 13] rfl rfl (wr := []) rfl rfl (by decide) (wn := (cO ca ga v46.2)) rfl rfl rfl rfl rfl rfl (Nat.le_of_ble_eq_true rfl) (fun H locs hP hD hS => ?_)
                  refine lv_if_ge (tgt := 187) hx hb dX8_read_171 (by decide) (fun c47 => ?_) (fun c47 => ?_)
                  · skip
                    replace h71 := (if_pos c47).symm.trans h71
                    refine lv_iinc (v := (s30.2.1 + (1 : Int32))) (lv' := [(6, .int (s30.2.1 + (1 : Int32))), (8, .int ((((40 : Int32) * r) + j) + s30.2.2.1)), (5, .int v40), (0, .ref (ga 0)), (1, .int r), (2, .int i), (3, .int j), (4, .int n), (7, .int s30.2.2.1)]) hx hb dX8_read_187 hl (k := 7) rfl rfl (by decide) rfl (fun ls hl => ?_)
                    obtain rfl := Option.some.inj h71
                    exact J50 _ rfl _ _ _ (lv_sub hl [3, 4, 5, 6, 7, 2, 0, 8] rfl) hP hD hS
                  · skip
                    replace h71 := (if_neg c47).symm.trans h71
                    refine lv_aload_n hx hb dX8_read_174 rfl (lv_at hl 2 rfl) ?_
                    refine lv_bipush (v := (120 : Int32)) hx hb dX8_read_175 (by decide) ?_
                    refine lv_iconst (v := (0 : Int32)) hx hb dX8_read_177 (by decide) ?_
                    obtain ⟨v49, q49, h72⟩ := obn h71
                    clear h71
                    refine xVv (As := [.int (120 : Int32), .int (0 : Int32)]) (ci := 8) ⟨hx, hb, hml, hown, hts⟩ (k_X8_copies l D ca ga v46.2 (120 : Int32) (0 : Int32) _ q49) (cwV 2 hts gX8_read_X8_copies rfl rfl rfl (by decide +kernel) ⟨Nat.le_of_ble_eq_true rfl, Nat.le_of_ble_eq_true rfl⟩) hK hA hP hD hS dX8_read_178 rfl hl.1 [0, 1, 2, 3, 4, 5, 6, 7, 8, 9, 10, 11, 12, 13] [] [0, 1, 2, 3, 4, 5, 6, 7, 8, 9, 10, 11, 12, 13] rfl rfl (wr := []) rfl rfl (by decide) (wn := (cO ca ga v49)) rfl rfl rfl rfl rfl rfl (Nat.le_of_ble_eq_true rfl) (fun H locs hP hD hS => ?_)
                    refine lv_bipush (v := (-20 : Int32)) hx hb dX8_read_181 (by decide) ?_
                    refine lv_iload hx hb dX8_read_183 (lv_at hl 7 rfl) ?_
                    refine lv_isub hx hb dX8_read_185 ?_
                    obtain rfl := Option.some.inj h72
                    replace h67 := (esc_r _ _).symm.trans h67
                    have h73 := ho52 _ (Option.some.inj h67).symm
                    subst h73
                    replace h59 := (esc_r _ _).symm.trans h59
                    obtain rfl := Option.some.inj h59
                    exact hret _ _ _ _ (vp_nar_int _) hP hD hS dX8_read_186
            refine lv_icmp_ne (tgt := 84) hx hb dX8_read_77 (by decide) (fun c34 => ?_) (fun c34 => ?_)
            · skip
              replace q64 := (if_neg c34).symm.trans q64
              refine lv_aload_n hx hb dX8_read_84 rfl (lv_at hl 0 rfl) ?_
              refine xget (ref := "FriezeFolkModel") (C := RX8) (T := TX8) (N := 24) (ci := 8) (v := .ref (ga 21)) hx hb hts inX8 hown hK hP 0 rfl rfl 20 (by decide) k4 rfl rfl dX8_read_85 ?_
              refine lv_iload_n hx hb dX8_read_88 rfl (lv_at hl 1 rfl) ?_
              obtain ⟨v35, q35, h74⟩ := obn q64
              clear q64
              refine xald hx hb hK hP 11 rfl q35 dX8_read_89 ?_
              refine lv_iload_n hx hb dX8_read_90 rfl (lv_at hl 2 rfl) ?_
              refine lv_icmp_eq (tgt := 98) hx hb dX8_read_91 (by decide) (fun c36 => ?_) (fun c36 => ?_)
              · skip
                replace h74 := (if_pos c36).symm.trans h74
                refine lv_iload_n hx hb dX8_read_98 rfl (lv_at hl 3 rfl) ?_
                refine lv_i2l (v := j.toInt64) hx hb dX8_read_99 rfl ?_
                refine lv_iload hx hb dX8_read_100 (lv_at hl 7 rfl) ?_
                refine lv_i2l (v := s30.2.2.1.toInt64) hx hb dX8_read_102 rfl ?_
                refine lv_ladd hx hb dX8_read_103 ?_
                refine lv_lconst (v := (0 : Int64)) hx hb dX8_read_104 (by decide) ?_
                refine lv_aload_n hx hb dX8_read_105 rfl (lv_at hl 0 rfl) ?_
                refine xget (ref := "FriezeFolkModel") (C := RX8) (T := TX8) (N := 24) (ci := 8) (v := .ref (ga 22)) hx hb hts inX8 hown hK hP 0 rfl rfl 21 (by decide) k5 rfl rfl dX8_read_106 ?_
                refine lv_iload_n hx hb dX8_read_109 rfl (lv_at hl 1 rfl) ?_
                obtain ⟨v37, q37, h75⟩ := obn h74
                clear h74
                refine xald hx hb hK hP 12 rfl q37 dX8_read_110 ?_
                refine lv_iconst (v := (1 : Int32)) hx hb dX8_read_111 (by decide) ?_
                refine lv_isub hx hb dX8_read_112 ?_
                refine lv_i2l (v := (v37 - (1 : Int32)).toInt64) hx hb dX8_read_113 rfl ?_
                obtain ⟨v38, q38, h76⟩ := obn h75
                clear h75
                refine xSi (As := [.long (j.toInt64 + s30.2.2.1.toInt64), .long (0 : Int64), .long (v37 - (1 : Int32)).toInt64]) ⟨hx, hb, hml, hown, hts⟩ (k_X8_in l D ca  (j.toInt64 + s30.2.2.1.toInt64) (0 : Int64) (v37 - (1 : Int32)).toInt64 _ q38) (va_cwS 3 hts gX8_read_X8_in rfl rfl rfl (by decide +kernel) ⟨Nat.le_of_ble_eq_true rfl, Nat.le_of_ble_eq_true rfl⟩) hK hA hP hD hS dX8_read_114 rfl hl.1 [] [0, 1, 2, 3, 4, 5, 6, 7, 8, 9, 10, 11, 12, 13] [0, 1, 2, 3, 4, 5, 6, 7, 8, 9, 10, 11, 12, 13] rfl rfl (wr := ((cO ca ga s30.2.2.2))) rfl rfl (by decide) (wn := (cO ca ga s30.2.2.2)) rfl rfl rfl (Nat.le_of_ble_eq_true rfl) (fun H locs hP hD hS => ?_)
                refine lv_if_ne (tgt := 124) hx hb dX8_read_117 (by decide) (fun c39 => ?_) (fun c39 => ?_)
                · skip
                  replace h76 := (if_neg c39).symm.trans h76
                  refine lv_iconst (v := (0 : Int32)) hx hb dX8_read_124 (by decide) ?_
                  obtain rfl := Option.some.inj h76
                  exact J40 _ _ _ (lv_sub hl [0, 1, 2, 3, 4, 6, 7] rfl) hP hD hS
                · skip
                  replace h76 := (if_pos c39).symm.trans h76
                  refine lv_iconst (v := (2 : Int32)) hx hb dX8_read_120 (by decide) ?_
                  refine lv_goto (tgt := 125) hx hb dX8_read_121 (by decide) ?_
                  obtain rfl := Option.some.inj h76
                  exact J40 _ _ _ (lv_sub hl [0, 1, 2, 3, 4, 6, 7] rfl) hP hD hS
              · skip
                replace h74 := (if_neg c36).symm.trans h74
                refine lv_iconst (v := (3 : Int32)) hx hb dX8_read_94 (by decide) ?_
                refine lv_goto (tgt := 125) hx hb dX8_read_95 (by decide) ?_
                obtain rfl := Option.some.inj h74
                exact J40 _ _ _ (lv_sub hl [0, 1, 2, 3, 4, 6, 7] rfl) hP hD hS
            · skip
              replace q64 := (if_pos c34).symm.trans q64
              refine lv_iconst (v := (1 : Int32)) hx hb dX8_read_80 (by decide) ?_
              refine lv_goto (tgt := 125) hx hb dX8_read_81 (by decide) ?_
              obtain rfl := Option.some.inj q64
              exact J40 _ _ _ (lv_sub hl [0, 1, 2, 3, 4, 6, 7] rfl) hP hD hS
      · skip
        replace h56 := (if_pos c6).symm.trans h56
        refine lv_iconst (v := (-1 : Int32)) hx hb dX8_read_37 (by decide) ?_
        obtain rfl := Option.some.inj h56
        exact hret _ _ _ _ (vp_nar_int _) hP hD hS dX8_read_38

def mX8_torn (g : GS) : Option (Int32) :=
  some (g.2 23)
abbrev rmX8_torn : Room := { frames := 0, cells := 0, slots := 0, locals := 0 }
set_option maxHeartbeats 4000000 in
set_option maxRecDepth 100000 in
theorem k_X8_torn (l : Launch) (D : va_G) (ca : Nat → ClassId) (ga : Nat → Nat) (g : GS) (o : Int32) (hm : mX8_torn g = some o) : KI l yX8_torn wsX8_torn rmX8_torn D ca [.ref (ga 0)] (cO ca ga g) (cO ca ga g) o := by
  refine KI.of (cc := cX8_torn) (n := 1) (plainFor_of_name (by decide)) rfl (Nat.le_of_ble_eq_true rfl) ?_
  intro p e s m below meth c A Z hx hb hml hts hown hA hK hP hD hS hret ls hl
  have hown : s.vm.findClass RX8 = some m.cls := hown
  have hl : lv_has ls 1 [(0, .ref (ga 0))] := hl
  have inX8 : ∀ w ∈ wsX80, w ∈ wsX8_torn := by decide +kernel
  have k1 := hts (.fieldLink RX8 209 "FriezeFolkModel" "torn" "I") (by decide +kernel)
  unfold mX8_torn at hm
  refine lv_aload_n hx hb dX8_torn_0 rfl (lv_at hl 0 rfl) ?_
  refine xget (ref := "FriezeFolkModel") (C := RX8) (T := TX8) (N := 24) (ci := 8) (v := .int (g.2 23)) hx hb hts inX8 hown hK hP 0 rfl rfl 23 (by decide) k1 rfl rfl dX8_torn_1 ?_
  obtain rfl := Option.some.inj hm
  exact hret _ _ _ _ (vp_nar_int _) hP hD hS dX8_torn_4
def mX8_count_l7 (g : GS) (s1 : Int32 × Int32) : Option ((Int32 × Int32) ⊕ (Int32 × Int32)) :=
  Option.bind (ald 240 (g.1 0) (12 : Int32)) fun v2 =>
  if v2 ≤ s1.2 then
    some (.inr (s1.1, s1.2))
  else
    Option.bind (ald 240 (g.1 0) ((6 : Int32) + s1.2)) fun v4 =>
    some (.inl ((s1.1 + v4), (s1.2 + (1 : Int32))))

def mX8_count_l41 (g : GS) (s6 : Int32 × Int32) : Option ((Int32 × Int32) ⊕ (Int32 × Int32)) :=
  Option.bind (mX8_longOn g (0 : Int32)) fun v7 =>
  if v7 ≤ s6.2 then
    some (.inr (s6.1, s6.2))
  else
    Option.bind (ald 240 (g.1 0) ((19 : Int32) + s6.2)) fun v9 =>
    some (.inl ((s6.1 + v9), (s6.2 + (1 : Int32))))

def mX8_count (g : GS) (w : Int32) : Option (Int32) :=
  Option.bind (whO (mX8_count_l7 g) FU ((0 : Int32), (0 : Int32))) fun e5 =>
  Option.bind (whO (mX8_count_l41 g) FU ((0 : Int32), (0 : Int32))) fun e10 =>
  if w = (0 : Int32) then
    some (g.2 17)
  else
  if w = (1 : Int32) then
    Option.bind (ald 2 (g.1 19) (0 : Int32)) fun v13 =>
    Option.bind (
      if v13 = 0 then
        some (0 : Int32)
      else
        some (1 : Int32)) fun (v15 : Int32) =>
    Option.bind (ald 2 (g.1 19) (1 : Int32)) fun v16 =>
    if v16 = 0 then
      some (v15 + (0 : Int32))
    else
      some (v15 + (1 : Int32))
  else
  if w = (2 : Int32) then
    some (g.2 4)
  else
  if w = (3 : Int32) then
    Option.bind (ald 4 (g.1 20) (0 : Int32)) fun v20 =>
    if v20 = (-4 : Int32) then
      some (-4 : Int32)
    else
      Option.bind (ald 4 (g.1 21) (0 : Int32)) fun v23 =>
      some v23
  else
  if w = (4 : Int32) then
    some e5.1
  else
  if w = (5 : Int32) then
    some e10.1
  else
    some (-1 : Int32)
abbrev rmX8_count : Room := { frames := 1, cells := 0, slots := 0, locals := 21 }
set_option maxHeartbeats 4000000 in
set_option maxRecDepth 100000 in
theorem k_X8_count (l : Launch) (D : va_G) (ca : Nat → ClassId) (ga : Nat → Nat) (g : GS) (w : Int32) (o : Int32) (hm : mX8_count g w = some o) : KI l yX8_count wsX8_count rmX8_count D ca [.ref (ga 0), .int w] (cO ca ga g) (cO ca ga g) o := by
  refine KI.of (cc := cX8_count) (n := 5) (plainFor_of_name (by decide)) rfl (Nat.le_of_ble_eq_true rfl) ?_
  intro p e s m below meth c A Z hx hb hml hts hown hA hK hP hD hS hret ls hl
  have hown : s.vm.findClass RX8 = some m.cls := hown
  have hl : lv_has ls 5 [(0, .ref (ga 0)), (1, .int w)] := hl
  have inX8 : ∀ w ∈ wsX80, w ∈ wsX8_count := by decide +kernel
  have k1 := hts (.fieldLink RX8 7 "FriezeFolkModel" "state" "[I") (by decide +kernel)
  have k2 := hts (.fieldLink RX8 119 "FriezeFolkModel" "seenMany" "I") (by decide +kernel)
  have k3 := hts (.fieldLink RX8 37 "FriezeFolkModel" "isKept" "[Z") (by decide +kernel)
  have k4 := hts (.fieldLink RX8 56 "FriezeFolkModel" "taped" "I") (by decide +kernel)
  have k5 := hts (.fieldLink RX8 41 "FriezeFolkModel" "lanes" "[I") (by decide +kernel)
  have k6 := hts (.fieldLink RX8 44 "FriezeFolkModel" "lengths" "[I") (by decide +kernel)
  unfold mX8_count at hm
  refine lv_iconst (v := (0 : Int32)) hx hb dX8_count_0 (by decide) ?_
  refine lv_istore_n (lv' := [(2, .int (0 : Int32)), (0, .ref (ga 0)), (1, .int w)]) hx hb dX8_count_1 rfl hl (by decide) rfl (fun ls hl => ?_)
  refine lv_iconst (v := (0 : Int32)) hx hb dX8_count_2 (by decide) ?_
  refine lv_istore_n (lv' := [(3, .int (0 : Int32)), (2, .int (0 : Int32)), (0, .ref (ga 0)), (1, .int w)]) hx hb dX8_count_3 rfl hl (by decide) rfl (fun ls hl => ?_)
  refine lv_iconst (v := (0 : Int32)) hx hb dX8_count_4 (by decide) ?_
  refine lv_istore (lv' := [(4, .int (0 : Int32)), (3, .int (0 : Int32)), (2, .int (0 : Int32)), (0, .ref (ga 0)), (1, .int w)]) hx hb dX8_count_5 hl (by decide) rfl (fun ls hl => ?_)
  obtain ⟨e5, w26, h27⟩ := obn hm
  clear hm
  have AF5 : ∀ (ls : Array Slot) (H : Heap) (locs : List Loc), lv_has ls 5 [(0, .ref (ga 0)), (1, .int w), (2, .int e5.1), (3, .int (0 : Int32))] → va_P D vwCl (cO ca ga g) H → va_D A (cO ca ga g) → va_S A s.heap H locs → W p l e rmX8_count s m ([.ref (ga 0), .int w] : List Value).toArray below meth c H locs 0 0 Z (F0 m 38 ls []) := by
    intro ls H locs hl hP hD hS
    refine lv_iconst (v := (0 : Int32)) hx hb dX8_count_38 (by decide) ?_
    refine lv_istore (lv' := [(4, .int (0 : Int32)), (0, .ref (ga 0)), (1, .int w), (2, .int e5.1), (3, .int (0 : Int32))]) hx hb dX8_count_39 hl (by decide) rfl (fun ls hl => ?_)
    obtain ⟨e10, w28, h29⟩ := obn h27
    clear h27
    have AF10 : ∀ (ls : Array Slot) (H : Heap) (locs : List Loc), lv_has ls 5 [(0, .ref (ga 0)), (1, .int w), (2, .int e5.1), (3, .int e10.1)] → va_P D vwCl (cO ca ga g) H → va_D A (cO ca ga g) → va_S A s.heap H locs → W p l e rmX8_count s m ([.ref (ga 0), .int w] : List Value).toArray below meth c H locs 0 0 Z (F0 m 70 ls []) := by
      intro ls H locs hl hP hD hS
      refine lv_iload_n hx hb dX8_count_70 rfl (lv_at hl 1 rfl) ?_
      by_cases c11 : w = (0 : Int32)
      · replace h29 := (if_pos c11).symm.trans h29
        refine lv_tableIn (tgt := 108) hx hb dX8_count_71 (by rw [c11]; decide) (by rw [c11]; decide) (by rw [c11] <;> rfl) (by decide) ?_
        refine lv_aload_n hx hb dX8_count_108 rfl (lv_at hl 0 rfl) ?_
        refine xget (ref := "FriezeFolkModel") (C := RX8) (T := TX8) (N := 24) (ci := 8) (v := .int (g.2 17)) hx hb hts inX8 hown hK hP 0 rfl rfl 17 (by decide) k2 rfl rfl dX8_count_109 ?_
        obtain rfl := Option.some.inj h29
        exact hret _ _ _ _ (vp_nar_int _) hP hD hS dX8_count_112
      replace h29 := (if_neg c11).symm.trans h29
      have ec11 : ¬ (w).toInt = 0 := fun z => c11 (Int32.toInt_inj.mp (z.trans (by decide)))
      by_cases c12 : w = (1 : Int32)
      · replace h29 := (if_pos c12).symm.trans h29
        refine lv_tableIn (tgt := 113) hx hb dX8_count_71 (by rw [c12]; decide) (by rw [c12]; decide) (by rw [c12] <;> rfl) (by decide) ?_
        refine lv_aload_n hx hb dX8_count_113 rfl (lv_at hl 0 rfl) ?_
        refine xget (ref := "FriezeFolkModel") (C := RX8) (T := TX8) (N := 24) (ci := 8) (v := .ref (ga 20)) hx hb hts inX8 hown hK hP 0 rfl rfl 19 (by decide) k3 rfl rfl dX8_count_114 ?_
        refine lv_iconst (v := (0 : Int32)) hx hb dX8_count_117 (by decide) ?_
        obtain ⟨v13, q13, h30⟩ := obn h29
        clear h29
        refine xzald hx hb hK hP 10 rfl q13 dX8_count_118 ?_
        obtain ⟨v15, q31, h32⟩ := obn h30
        clear h30
        have J15 : ∀ (ls : Array Slot) (H : Heap) (locs : List Loc), lv_has ls 5 [(0, .ref (ga 0))] → va_P D vwCl (cO ca ga g) H → va_D A (cO ca ga g) → va_S A s.heap H locs → W p l e rmX8_count s m ([.ref (ga 0), .int w] : List Value).toArray below meth c H locs 0 0 Z (F0 m 127 ls [.int v15]) := by
          intro ls H locs hl hP hD hS
          refine lv_aload_n hx hb dX8_count_127 rfl (lv_at hl 0 rfl) ?_
          refine xget (ref := "FriezeFolkModel") (C := RX8) (T := TX8) (N := 24) (ci := 8) (v := .ref (ga 20)) hx hb hts inX8 hown hK hP 0 rfl rfl 19 (by decide) k3 rfl rfl dX8_count_128 ?_
          refine lv_iconst (v := (1 : Int32)) hx hb dX8_count_131 (by decide) ?_
          obtain ⟨v16, q16, h33⟩ := obn h32
          clear h32
          refine xzald hx hb hK hP 10 rfl q16 dX8_count_132 ?_
          refine lv_if_eq (tgt := 140) hx hb dX8_count_133 (by decide) (fun c17 => ?_) (fun c17 => ?_)
          · skip
            replace h33 := (if_pos c17).symm.trans h33
            refine lv_iconst (v := (0 : Int32)) hx hb dX8_count_140 (by decide) ?_
            refine lv_iadd hx hb dX8_count_141 ?_
            obtain rfl := Option.some.inj h33
            exact hret _ _ _ _ (vp_nar_int _) hP hD hS dX8_count_142
          · skip
            replace h33 := (if_neg c17).symm.trans h33
            refine lv_iconst (v := (1 : Int32)) hx hb dX8_count_136 (by decide) ?_
            refine lv_goto (tgt := 141) hx hb dX8_count_137 (by decide) ?_
            refine lv_iadd hx hb dX8_count_141 ?_
            obtain rfl := Option.some.inj h33
            exact hret _ _ _ _ (vp_nar_int _) hP hD hS dX8_count_142
        refine lv_if_eq (tgt := 126) hx hb dX8_count_119 (by decide) (fun c14 => ?_) (fun c14 => ?_)
        · skip
          replace q31 := (if_pos c14).symm.trans q31
          refine lv_iconst (v := (0 : Int32)) hx hb dX8_count_126 (by decide) ?_
          obtain rfl := Option.some.inj q31
          exact J15 _ _ _ (lv_sub hl [0] rfl) hP hD hS
        · skip
          replace q31 := (if_neg c14).symm.trans q31
          refine lv_iconst (v := (1 : Int32)) hx hb dX8_count_122 (by decide) ?_
          refine lv_goto (tgt := 127) hx hb dX8_count_123 (by decide) ?_
          obtain rfl := Option.some.inj q31
          exact J15 _ _ _ (lv_sub hl [0] rfl) hP hD hS
      replace h29 := (if_neg c12).symm.trans h29
      have ec12 : ¬ (w).toInt = 1 := fun z => c12 (Int32.toInt_inj.mp (z.trans (by decide)))
      by_cases c18 : w = (2 : Int32)
      · replace h29 := (if_pos c18).symm.trans h29
        refine lv_tableIn (tgt := 143) hx hb dX8_count_71 (by rw [c18]; decide) (by rw [c18]; decide) (by rw [c18] <;> rfl) (by decide) ?_
        refine lv_aload_n hx hb dX8_count_143 rfl (lv_at hl 0 rfl) ?_
        refine xget (ref := "FriezeFolkModel") (C := RX8) (T := TX8) (N := 24) (ci := 8) (v := .int (g.2 4)) hx hb hts inX8 hown hK hP 0 rfl rfl 4 (by decide) k4 rfl rfl dX8_count_144 ?_
        obtain rfl := Option.some.inj h29
        exact hret _ _ _ _ (vp_nar_int _) hP hD hS dX8_count_147
      replace h29 := (if_neg c18).symm.trans h29
      have ec18 : ¬ (w).toInt = 2 := fun z => c18 (Int32.toInt_inj.mp (z.trans (by decide)))
      by_cases c19 : w = (3 : Int32)
      · replace h29 := (if_pos c19).symm.trans h29
        refine lv_tableIn (tgt := 148) hx hb dX8_count_71 (by rw [c19]; decide) (by rw [c19]; decide) (by rw [c19] <;> rfl) (by decide) ?_
        refine lv_aload_n hx hb dX8_count_148 rfl (lv_at hl 0 rfl) ?_
        refine xget (ref := "FriezeFolkModel") (C := RX8) (T := TX8) (N := 24) (ci := 8) (v := .ref (ga 21)) hx hb hts inX8 hown hK hP 0 rfl rfl 20 (by decide) k5 rfl rfl dX8_count_149 ?_
        refine lv_iconst (v := (0 : Int32)) hx hb dX8_count_152 (by decide) ?_
        obtain ⟨v20, q20, h34⟩ := obn h29
        clear h29
        refine xald hx hb hK hP 11 rfl q20 dX8_count_153 ?_
        refine lv_bipush (v := (-4 : Int32)) hx hb dX8_count_154 (by decide) ?_
        refine lv_icmp_ne (tgt := 164) hx hb dX8_count_156 (by decide) (fun c21 => ?_) (fun c21 => ?_)
        · skip
          replace h34 := (if_neg c21).symm.trans h34
          refine lv_aload_n hx hb dX8_count_164 rfl (lv_at hl 0 rfl) ?_
          refine xget (ref := "FriezeFolkModel") (C := RX8) (T := TX8) (N := 24) (ci := 8) (v := .ref (ga 22)) hx hb hts inX8 hown hK hP 0 rfl rfl 21 (by decide) k6 rfl rfl dX8_count_165 ?_
          refine lv_iconst (v := (0 : Int32)) hx hb dX8_count_168 (by decide) ?_
          obtain ⟨v23, q23, h35⟩ := obn h34
          clear h34
          refine xald hx hb hK hP 12 rfl q23 dX8_count_169 ?_
          obtain rfl := Option.some.inj h35
          exact hret _ _ _ _ (vp_nar_int _) hP hD hS dX8_count_170
        · skip
          replace h34 := (if_pos c21).symm.trans h34
          refine lv_bipush (v := (-4 : Int32)) hx hb dX8_count_159 (by decide) ?_
          refine lv_goto (tgt := 170) hx hb dX8_count_161 (by decide) ?_
          obtain rfl := Option.some.inj h34
          exact hret _ _ _ _ (vp_nar_int _) hP hD hS dX8_count_170
      replace h29 := (if_neg c19).symm.trans h29
      have ec19 : ¬ (w).toInt = 3 := fun z => c19 (Int32.toInt_inj.mp (z.trans (by decide)))
      by_cases c24 : w = (4 : Int32)
      · replace h29 := (if_pos c24).symm.trans h29
        refine lv_tableIn (tgt := 171) hx hb dX8_count_71 (by rw [c24]; decide) (by rw [c24]; decide) (by rw [c24] <;> rfl) (by decide) ?_
        refine lv_iload_n hx hb dX8_count_171 rfl (lv_at hl 2 rfl) ?_
        obtain rfl := Option.some.inj h29
        exact hret _ _ _ _ (vp_nar_int _) hP hD hS dX8_count_172
      replace h29 := (if_neg c24).symm.trans h29
      have ec24 : ¬ (w).toInt = 4 := fun z => c24 (Int32.toInt_inj.mp (z.trans (by decide)))
      by_cases c25 : w = (5 : Int32)
      · replace h29 := (if_pos c25).symm.trans h29
        refine lv_tableIn (tgt := 173) hx hb dX8_count_71 (by rw [c25]; decide) (by rw [c25]; decide) (by rw [c25] <;> rfl) (by decide) ?_
        refine lv_iload_n hx hb dX8_count_173 rfl (lv_at hl 3 rfl) ?_
        obtain rfl := Option.some.inj h29
        exact hret _ _ _ _ (vp_nar_int _) hP hD hS dX8_count_174
      replace h29 := (if_neg c25).symm.trans h29
      have ec25 : ¬ (w).toInt = 5 := fun z => c25 (Int32.toInt_inj.mp (z.trans (by decide)))
      refine lv_tableOut (tgt := 175) hx hb dX8_count_71 (by omega) (by decide) ?_
      refine lv_iconst (v := (-1 : Int32)) hx hb dX8_count_175 (by decide) ?_
      obtain rfl := Option.some.inj h29
      exact hret _ _ _ _ (vp_nar_int _) hP hD hS dX8_count_176
    refine whO_walk (I := fun s6 => ∀ (ls : Array Slot) (H : Heap) (locs : List Loc), lv_has ls 5 [(0, .ref (ga 0)), (1, .int w), (2, .int e5.1), (3, .int s6.1), (4, .int s6.2)] → va_P D vwCl (cO ca ga g) H → va_D A (cO ca ga g) → va_S A s.heap H locs → W p l e rmX8_count s m ([.ref (ga 0), .int w] : List Value).toArray below meth c H locs 0 0 Z (F0 m 41 ls [])) ?_ _ _ w28 _ _ _ (lv_sub hl [1, 2, 3, 4, 0] rfl) hP hD hS
    clear w28
    intro s6 o10 h36 hi10 ho10 ls H locs hl hP hD hS
    unfold mX8_count_l41 at h36
    refine lv_iload hx hb dX8_count_41 (lv_at hl 4 rfl) ?_
    refine lv_aload_n hx hb dX8_count_43 rfl (lv_at hl 0 rfl) ?_
    refine lv_iconst (v := (0 : Int32)) hx hb dX8_count_44 (by decide) ?_
    obtain ⟨v7, q7, h37⟩ := obn h36
    clear h36
    refine xVi (As := [.int (0 : Int32)]) (ci := 8) ⟨hx, hb, hml, hown, hts⟩ (k_X8_longOn l D ca ga g (0 : Int32) _ q7) (cwV 1 hts gX8_count_X8_longOn rfl rfl rfl (by decide +kernel) ⟨Nat.le_of_ble_eq_true rfl, Nat.le_of_ble_eq_true rfl⟩) hK hA hP hD hS dX8_count_45 rfl hl.1 [0, 1, 2, 3, 4, 5, 6, 7, 8, 9, 10, 11, 12, 13] [] [0, 1, 2, 3, 4, 5, 6, 7, 8, 9, 10, 11, 12, 13] rfl rfl (wr := []) rfl rfl (by decide) (wn := (cO ca ga g)) rfl rfl rfl rfl rfl rfl (Nat.le_of_ble_eq_true rfl) (fun H locs hP hD hS => ?_)
    refine lv_icmp_ge (tgt := 70) hx hb dX8_count_48 (by decide) (fun c8 => ?_) (fun c8 => ?_)
    · skip
      replace h37 := (if_pos c8).symm.trans h37
      have h38 := ho10 _ (Option.some.inj h37).symm
      subst h38
      exact AF10 _ _ _ (lv_sub hl [0, 1, 2, 3] rfl) hP hD hS
    · skip
      replace h37 := (if_neg c8).symm.trans h37
      refine lv_iload_n hx hb dX8_count_51 rfl (lv_at hl 3 rfl) ?_
      refine lv_aload_n hx hb dX8_count_52 rfl (lv_at hl 0 rfl) ?_
      refine xget (ref := "FriezeFolkModel") (C := RX8) (T := TX8) (N := 24) (ci := 8) (v := .ref (ga 1)) hx hb hts inX8 hown hK hP 0 rfl rfl 0 (by decide) k1 rfl rfl dX8_count_53 ?_
      refine lv_bipush (v := (19 : Int32)) hx hb dX8_count_56 (by decide) ?_
      refine lv_iload hx hb dX8_count_58 (lv_at hl 4 rfl) ?_
      refine lv_iadd hx hb dX8_count_60 ?_
      obtain ⟨v9, q9, h39⟩ := obn h37
      clear h37
      refine xald hx hb hK hP 1 rfl q9 dX8_count_61 ?_
      refine lv_iadd hx hb dX8_count_62 ?_
      refine lv_istore_n (lv' := [(3, .int (s6.1 + v9)), (0, .ref (ga 0)), (1, .int w), (2, .int e5.1), (4, .int s6.2)]) hx hb dX8_count_63 rfl hl (by decide) rfl (fun ls hl => ?_)
      refine lv_iinc (v := (s6.2 + (1 : Int32))) (lv' := [(4, .int (s6.2 + (1 : Int32))), (3, .int (s6.1 + v9)), (0, .ref (ga 0)), (1, .int w), (2, .int e5.1)]) hx hb dX8_count_64 hl (k := 4) rfl rfl (by decide) rfl (fun ls hl => ?_)
      refine lv_goto (tgt := 41) hx hb dX8_count_67 (by decide) ?_
      exact hi10 _ (Option.some.inj h39).symm _ _ _ (lv_sub hl [2, 3, 4, 1, 0] rfl) hP hD hS
  refine whO_walk (I := fun s1 => ∀ (ls : Array Slot) (H : Heap) (locs : List Loc), lv_has ls 5 [(0, .ref (ga 0)), (1, .int w), (2, .int s1.1), (3, .int (0 : Int32)), (4, .int s1.2)] → va_P D vwCl (cO ca ga g) H → va_D A (cO ca ga g) → va_S A s.heap H locs → W p l e rmX8_count s m ([.ref (ga 0), .int w] : List Value).toArray below meth c H locs 0 0 Z (F0 m 7 ls [])) ?_ _ _ w26 _ _ _ (lv_sub hl [3, 4, 2, 1, 0] rfl) hP hD hS
  clear w26
  intro s1 o5 h40 hi5 ho5 ls H locs hl hP hD hS
  unfold mX8_count_l7 at h40
  refine lv_iload hx hb dX8_count_7 (lv_at hl 4 rfl) ?_
  refine lv_aload_n hx hb dX8_count_9 rfl (lv_at hl 0 rfl) ?_
  refine xget (ref := "FriezeFolkModel") (C := RX8) (T := TX8) (N := 24) (ci := 8) (v := .ref (ga 1)) hx hb hts inX8 hown hK hP 0 rfl rfl 0 (by decide) k1 rfl rfl dX8_count_10 ?_
  refine lv_bipush (v := (12 : Int32)) hx hb dX8_count_13 (by decide) ?_
  obtain ⟨v2, q2, h41⟩ := obn h40
  clear h40
  refine xald hx hb hK hP 1 rfl q2 dX8_count_15 ?_
  refine lv_icmp_ge (tgt := 38) hx hb dX8_count_16 (by decide) (fun c3 => ?_) (fun c3 => ?_)
  · skip
    replace h41 := (if_pos c3).symm.trans h41
    have h42 := ho5 _ (Option.some.inj h41).symm
    subst h42
    exact AF5 _ _ _ (lv_sub hl [0, 1, 2, 3] rfl) hP hD hS
  · skip
    replace h41 := (if_neg c3).symm.trans h41
    refine lv_iload_n hx hb dX8_count_19 rfl (lv_at hl 2 rfl) ?_
    refine lv_aload_n hx hb dX8_count_20 rfl (lv_at hl 0 rfl) ?_
    refine xget (ref := "FriezeFolkModel") (C := RX8) (T := TX8) (N := 24) (ci := 8) (v := .ref (ga 1)) hx hb hts inX8 hown hK hP 0 rfl rfl 0 (by decide) k1 rfl rfl dX8_count_21 ?_
    refine lv_bipush (v := (6 : Int32)) hx hb dX8_count_24 (by decide) ?_
    refine lv_iload hx hb dX8_count_26 (lv_at hl 4 rfl) ?_
    refine lv_iadd hx hb dX8_count_28 ?_
    obtain ⟨v4, q4, h43⟩ := obn h41
    clear h41
    refine xald hx hb hK hP 1 rfl q4 dX8_count_29 ?_
    refine lv_iadd hx hb dX8_count_30 ?_
    refine lv_istore_n (lv' := [(2, .int (s1.1 + v4)), (0, .ref (ga 0)), (1, .int w), (3, .int (0 : Int32)), (4, .int s1.2)]) hx hb dX8_count_31 rfl hl (by decide) rfl (fun ls hl => ?_)
    refine lv_iinc (v := (s1.2 + (1 : Int32))) (lv' := [(4, .int (s1.2 + (1 : Int32))), (2, .int (s1.1 + v4)), (0, .ref (ga 0)), (1, .int w), (3, .int (0 : Int32))]) hx hb dX8_count_32 hl (k := 4) rfl rfl (by decide) rfl (fun ls hl => ?_)
    refine lv_goto (tgt := 7) hx hb dX8_count_35 (by decide) ?_
    exact hi5 _ (Option.some.inj h43).symm _ _ _ (lv_sub hl [2, 3, 1, 4, 0] rfl) hP hD hS
