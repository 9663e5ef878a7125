
def mX7_isNoPair (w : Int32) : Option (Int32) :=
  if w = 0 then
    some (0 : Int32)
  else
    if w = (1 : Int32) then
      some (0 : Int32)
    else
      some (1 : Int32)
abbrev rmX7_isNoPair : Room := { frames := 0, cells := 0, slots := 0, locals := 0 }
set_option maxHeartbeats 4000000 in
set_option maxRecDepth 100000 in
theorem k_X7_isNoPair (l : Launch) (D : va_G) (ca : Nat → ClassId)   (w : Int32) (o : Int32) (hm : mX7_isNoPair w = some o) : KI l yX7_isNoPair wsX7_isNoPair rmX7_isNoPair D ca [.int w] ([] : va_W) ([] : va_W) o := by
  refine KI.of (cc := cX7_isNoPair) (n := 1) (plainFor_of_name (by decide)) rfl (Nat.le_of_ble_eq_true rfl) ?_
  intro p e s m below meth c A Z hx hb hml hts hown hA hK hP hD hS hret ls hl
  have hown : s.vm.findClass RX7 = some m.cls := hown
  have hl : lv_has ls 1 [(0, .int w)] := hl
  unfold mX7_isNoPair at hm
  refine lv_iload_n hx hb dX7_isNoPair_0 rfl (lv_at hl 0 rfl) ?_
  refine lv_if_eq (tgt := 13) hx hb dX7_isNoPair_1 (by decide) (fun c1 => ?_) (fun c1 => ?_)
  · skip
    replace hm := (if_pos c1).symm.trans hm
    refine lv_iconst (v := (0 : Int32)) hx hb dX7_isNoPair_13 (by decide) ?_
    obtain rfl := Option.some.inj hm
    exact hret _ _ _ _ nar0 hP hD hS dX7_isNoPair_14
  · skip
    replace hm := (if_neg c1).symm.trans hm
    refine lv_iload_n hx hb dX7_isNoPair_4 rfl (lv_at hl 0 rfl) ?_
    refine lv_iconst (v := (1 : Int32)) hx hb dX7_isNoPair_5 (by decide) ?_
    refine lv_icmp_eq (tgt := 13) hx hb dX7_isNoPair_6 (by decide) (fun c2 => ?_) (fun c2 => ?_)
    · skip
      replace hm := (if_pos c2).symm.trans hm
      refine lv_iconst (v := (0 : Int32)) hx hb dX7_isNoPair_13 (by decide) ?_
      obtain rfl := Option.some.inj hm
      exact hret _ _ _ _ nar0 hP hD hS dX7_isNoPair_14
    · skip
      replace hm := (if_neg c2).symm.trans hm
      refine lv_iconst (v := (1 : Int32)) hx hb dX7_isNoPair_9 (by decide) ?_
      refine lv_goto (tgt := 14) hx hb dX7_isNoPair_10 (by decide) ?_
      obtain rfl := Option.some.inj hm
      exact hret _ _ _ _ nar1 hP hD hS dX7_isNoPair_14
def mX7_inLowestTerms_l9 (s1 : Int64 × Int64 × Int32) : Option ((Int64 × Int64 × Int32) ⊕ (Int64 × Int64 × Int32)) :=
  if (100 : Int32) ≤ s1.2.2 then
    some (.inr (s1.1, s1.2.1, s1.2.2))
  else
    if s1.2.1 = (0 : Int64) then
      some (.inr (s1.1, s1.2.1, s1.2.2))
    else
      Option.bind (lrm s1.1 s1.2.1) fun v4 =>
      some (.inl (s1.2.1, v4, (s1.2.2 + (1 : Int32))))

def mX7_inLowestTerms (x : Int64) (y : Int64) (w : Int32) : Option (Int64) :=
  Option.bind (whO (mX7_inLowestTerms_l9) FU (x, y, (0 : Int32))) fun e5 =>
  if (1 : Int64) ≤ e5.1 then
    if w = 0 then
      Option.bind (ldv x e5.1) fun v10 =>
      some v10
    else
      Option.bind (ldv y e5.1) fun v9 =>
      some v9
  else
    some (-1 : Int64)
abbrev rmX7_inLowestTerms : Room := { frames := 0, cells := 0, slots := 0, locals := 0 }
set_option maxHeartbeats 4000000 in
set_option maxRecDepth 100000 in
theorem k_X7_inLowestTerms (l : Launch) (D : va_G) (ca : Nat → ClassId)   (x : Int64) (y : Int64) (w : Int32) (o : Int64) (hm : mX7_inLowestTerms x y w = some o) : KL l yX7_inLowestTerms wsX7_inLowestTerms rmX7_inLowestTerms D ca [.long x, .long y, .int w] ([] : va_W) ([] : va_W) o := by
  refine KL.of (cc := cX7_inLowestTerms) (n := 12) (plainFor_of_name (by decide)) rfl (Nat.le_of_ble_eq_true rfl) ?_
  intro p e s m below meth c A Z hx hb hml hts hown hA hK hP hD hS hret ls hl
  have hown : s.vm.findClass RX7 = some m.cls := hown
  have hl : lv_has ls 12 [(0, .long x), (2, .long y), (4, .int w)] := hl
  have k1 := hts (.constantLong RX7 209 (-1 : Int64)) (by decide +kernel)
  unfold mX7_inLowestTerms at hm
  refine lv_lload_n hx hb dX7_inLowestTerms_0 rfl (lv_at hl 0 rfl) ?_
  refine lv_lstore (lv' := [(5, .long x), (0, .long x), (2, .long y), (4, .int w)]) hx hb dX7_inLowestTerms_1 hl (by decide) rfl (fun ls hl => ?_)
  refine lv_lload_n hx hb dX7_inLowestTerms_3 rfl (lv_at hl 2 rfl) ?_
  refine lv_lstore (lv' := [(7, .long y), (5, .long x), (0, .long x), (2, .long y), (4, .int w)]) hx hb dX7_inLowestTerms_4 hl (by decide) rfl (fun ls hl => ?_)
  refine lv_iconst (v := (0 : Int32)) hx hb dX7_inLowestTerms_6 (by decide) ?_
  refine lv_istore (lv' := [(9, .int (0 : Int32)), (7, .long y), (5, .long x), (0, .long x), (2, .long y), (4, .int w)]) hx hb dX7_inLowestTerms_7 hl (by decide) rfl (fun ls hl => ?_)
  obtain ⟨e5, w11, h12⟩ := obn hm
  clear hm
  have AF5 : ∀ (ls : Array Slot) (H : Heap) (locs : List Loc), lv_has ls 12 [(0, .long x), (2, .long y), (4, .int w), (5, .long e5.1)] → va_P D vwCl ([] : va_W) H → va_D A ([] : va_W) → va_S A s.heap H locs → W p l e rmX7_inLowestTerms s m ([.long x, .long y, .int w] : List Value).toArray below meth c H locs 0 0 Z (F0 m 44 ls []) := by
    intro ls H locs hl hP hD hS
    refine lv_lload hx hb dX7_inLowestTerms_44 (lv_at hl 3 rfl) ?_
    refine lv_lconst (v := (1 : Int64)) hx hb dX7_inLowestTerms_46 (by decide) ?_
    refine W.lcmp hx hb dX7_inLowestTerms_47 ?_
    refine lv_if_ge (tgt := 55) hx hb dX7_inLowestTerms_48 (by decide) (fun c6 => ?_) (fun c6 => ?_)
    · have c6 : (1 : Int64) ≤ e5.1 := (lg_cmp_ge _ _).mp c6
      replace h12 := (if_pos c6).symm.trans h12
      refine lv_iload hx hb dX7_inLowestTerms_55 (lv_at hl 2 rfl) ?_
      refine lv_if_ne (tgt := 67) hx hb dX7_inLowestTerms_57 (by decide) (fun c7 => ?_) (fun c7 => ?_)
      · skip
        replace h12 := (if_neg c7).symm.trans h12
        refine lv_lload_n hx hb dX7_inLowestTerms_67 rfl (lv_at hl 1 rfl) ?_
        refine lv_lload hx hb dX7_inLowestTerms_68 (lv_at hl 3 rfl) ?_
        obtain ⟨v9, q9, h13⟩ := obn h12
        clear h12
        refine xldv hx hb q9 dX7_inLowestTerms_70 ?_
        obtain rfl := Option.some.inj h13
        exact hret _ _ _ _ hP hD hS dX7_inLowestTerms_71
      · skip
        replace h12 := (if_pos c7).symm.trans h12
        refine lv_lload_n hx hb dX7_inLowestTerms_60 rfl (lv_at hl 0 rfl) ?_
        refine lv_lload hx hb dX7_inLowestTerms_61 (lv_at hl 3 rfl) ?_
        obtain ⟨v10, q10, h14⟩ := obn h12
        clear h12
        refine xldv hx hb q10 dX7_inLowestTerms_63 ?_
        refine lv_goto (tgt := 71) hx hb dX7_inLowestTerms_64 (by decide) ?_
        obtain rfl := Option.some.inj h14
        exact hret _ _ _ _ hP hD hS dX7_inLowestTerms_71
    · have c6 : ¬ ((1 : Int64) ≤ e5.1) := fun z => c6 ((lg_cmp_ge _ _).mpr z)
      replace h12 := (if_neg c6).symm.trans h12
      refine lv_ldc2 hx hb hown k1 dX7_inLowestTerms_51 ?_
      obtain rfl := Option.some.inj h12
      exact hret _ _ _ _ hP hD hS dX7_inLowestTerms_54
  refine whO_walk (I := fun s1 => ∀ (ls : Array Slot) (H : Heap) (locs : List Loc), lv_has ls 12 [(0, .long x), (2, .long y), (4, .int w), (5, .long s1.1), (7, .long s1.2.1), (9, .int s1.2.2)] → va_P D vwCl ([] : va_W) H → va_D A ([] : va_W) → va_S A s.heap H locs → W p l e rmX7_inLowestTerms s m ([.long x, .long y, .int w] : List Value).toArray below meth c H locs 0 0 Z (F0 m 9 ls [])) ?_ _ _ w11 _ _ _ (lv_sub hl [3, 4, 5, 2, 1, 0] rfl) hP hD hS
  clear w11
  intro s1 o5 h15 hi5 ho5 ls H locs hl hP hD hS
  unfold mX7_inLowestTerms_l9 at h15
  refine lv_iload hx hb dX7_inLowestTerms_9 (lv_at hl 5 rfl) ?_
  refine lv_bipush (v := (100 : Int32)) hx hb dX7_inLowestTerms_11 (by decide) ?_
  refine lv_icmp_ge (tgt := 44) hx hb dX7_inLowestTerms_13 (by decide) (fun c2 => ?_) (fun c2 => ?_)
  · skip
    replace h15 := (if_pos c2).symm.trans h15
    have h16 := ho5 _ (Option.some.inj h15).symm
    subst h16
    exact AF5 _ _ _ (lv_sub hl [0, 1, 2, 3] rfl) hP hD hS
  · skip
    replace h15 := (if_neg c2).symm.trans h15
    refine lv_lload hx hb dX7_inLowestTerms_16 (lv_at hl 4 rfl) ?_
    refine lv_lconst (v := (0 : Int64)) hx hb dX7_inLowestTerms_18 (by decide) ?_
    refine W.lcmp hx hb dX7_inLowestTerms_19 ?_
    refine lv_if_eq (tgt := 44) hx hb dX7_inLowestTerms_20 (by decide) (fun c3 => ?_) (fun c3 => ?_)
    · have c3 : s1.2.1 = (0 : Int64) := (lg_cmp_eq _ _).mp c3
      replace h15 := (if_pos c3).symm.trans h15
      have h17 := ho5 _ (Option.some.inj h15).symm
      subst h17
      exact AF5 _ _ _ (lv_sub hl [0, 1, 2, 3] rfl) hP hD hS
    · have c3 : ¬ (s1.2.1 = (0 : Int64)) := fun z => c3 ((lg_cmp_eq _ _).mpr z)
      replace h15 := (if_neg c3).symm.trans h15
      refine lv_lload hx hb dX7_inLowestTerms_23 (lv_at hl 3 rfl) ?_
      refine lv_lload hx hb dX7_inLowestTerms_25 (lv_at hl 4 rfl) ?_
      obtain ⟨v4, q4, h18⟩ := obn h15
      clear h15
      refine xlrm hx hb q4 dX7_inLowestTerms_27 ?_
      refine lv_lstore (lv' := [(10, .long v4), (0, .long x), (2, .long y), (4, .int w), (5, .long s1.1), (7, .long s1.2.1), (9, .int s1.2.2)]) hx hb dX7_inLowestTerms_28 hl (by decide) rfl (fun ls hl => ?_)
      refine lv_lload hx hb dX7_inLowestTerms_30 (lv_at hl 5 rfl) ?_
      refine lv_lstore (lv' := [(5, .long s1.2.1), (10, .long v4), (0, .long x), (2, .long y), (4, .int w), (7, .long s1.2.1), (9, .int s1.2.2)]) hx hb dX7_inLowestTerms_32 hl (by decide) rfl (fun ls hl => ?_)
      refine lv_lload hx hb dX7_inLowestTerms_34 (lv_at hl 1 rfl) ?_
      refine lv_lstore (lv' := [(7, .long v4), (5, .long s1.2.1), (10, .long v4), (0, .long x), (2, .long y), (4, .int w), (9, .int s1.2.2)]) hx hb dX7_inLowestTerms_36 hl (by decide) rfl (fun ls hl => ?_)
      refine lv_iinc (v := (s1.2.2 + (1 : Int32))) (lv' := [(9, .int (s1.2.2 + (1 : Int32))), (7, .long v4), (5, .long s1.2.1), (10, .long v4), (0, .long x), (2, .long y), (4, .int w)]) hx hb dX7_inLowestTerms_38 hl (k := 6) rfl rfl (by decide) rfl (fun ls hl => ?_)
      refine lv_goto (tgt := 9) hx hb dX7_inLowestTerms_41 (by decide) ?_
      exact hi5 _ (Option.some.inj h18).symm _ _ _ (lv_sub hl [4, 5, 6, 2, 1, 0] rfl) hP hD hS

def mX7_end (rd : GS) (n : Int32) : Option (Int32 × GS) :=
  if n < 0 then
    some ((-1 : Int32), rd)
  else
    if n ≤ (rd.2 2) then
      some ((rd.2 2), (sI rd 2 n))
    else
      some ((-1 : Int32), rd)
abbrev rmX7_end : Room := { frames := 0, cells := 0, slots := 0, locals := 0 }
set_option maxHeartbeats 4000000 in
set_option maxRecDepth 100000 in
theorem k_X7_end (l : Launch) (D : va_G) (ca : Nat → ClassId) (ffa : Nat) (r0 r1 r2 r4 r5 r6 r7 : Nat) (rdh : Nat) (rda : Nat → Nat) (ff : Int32) (rd : GS) (n : Int32) (o : Int32 × GS) (hm : mX7_end rd n = some o) : KI l yX7_end wsX7_end rmX7_end D ca [.ref ffa, .int n] ((cF ffa r0 r1 r2 (rda 0) r4 r5 r6 r7 ff) ++ (cR ca rdh rda rd)) ((cF ffa r0 r1 r2 (rda 0) r4 r5 r6 r7 ff) ++ (cR ca rdh rda o.2)) o.1 := by
  refine KI.of (cc := cX7_end) (n := 3) (plainFor_of_name (by decide)) rfl (Nat.le_of_ble_eq_true rfl) ?_
  intro p e s m below meth c A Z hx hb hml hts hown hA hK hP hD hS hret ls hl
  have hown : s.vm.findClass RX7 = some m.cls := hown
  have hl : lv_has ls 3 [(0, .ref ffa), (1, .int n)] := hl
  have inX5 : ∀ w ∈ wsX50, w ∈ wsX7_end := by decide +kernel
  have inX7 : ∀ w ∈ wsX70, w ∈ wsX7_end := by decide +kernel
  have k1 := hts (.fieldLink RX7 29 "FriezeFolk" "reader" "LFriezeFolk$Reader;") (by decide +kernel)
  have k2 := hts (.fieldLink RX7 69 "FriezeFolk$Reader" "size" "I") (by decide +kernel)
  unfold mX7_end at hm
  refine lv_iload_n hx hb dX7_end_0 rfl (lv_at hl 1 rfl) ?_
  refine lv_if_lt (tgt := 15) hx hb dX7_end_1 (by decide) (fun c1 => ?_) (fun c1 => ?_)
  · skip
    replace hm := (if_pos c1).symm.trans hm
    refine lv_iconst (v := (-1 : Int32)) hx hb dX7_end_15 (by decide) ?_
    obtain rfl := Option.some.inj hm
    exact hret _ _ _ _ (vp_nar_int _) hP hD hS dX7_end_16
  · skip
    replace hm := (if_neg c1).symm.trans hm
    refine lv_iload_n hx hb dX7_end_4 rfl (lv_at hl 1 rfl) ?_
    refine lv_aload_n hx hb dX7_end_5 rfl (lv_at hl 0 rfl) ?_
    refine xget (ref := "FriezeFolk") (C := RX7) (T := TX7) (N := 9) (ci := 7) (v := .ref (rda 0)) hx hb hts inX7 hown hK hP 0 rfl rfl 3 (by decide) k1 rfl rfl dX7_end_6 ?_
    refine xget (ref := "FriezeFolk$Reader") (C := RX5) (T := TX5) (N := 10) (ci := 5) (v := .int (rd.2 2)) hx hb hts inX5 hown hK hP 1 rfl rfl 2 (by decide) k2 rfl rfl dX7_end_9 ?_
    refine lv_icmp_le (tgt := 17) hx hb dX7_end_12 (by decide) (fun c2 => ?_) (fun c2 => ?_)
    · skip
      replace hm := (if_pos c2).symm.trans hm
      refine lv_aload_n hx hb dX7_end_17 rfl (lv_at hl 0 rfl) ?_
      refine xget (ref := "FriezeFolk") (C := RX7) (T := TX7) (N := 9) (ci := 7) (v := .ref (rda 0)) hx hb hts inX7 hown hK hP 0 rfl rfl 3 (by decide) k1 rfl rfl dX7_end_18 ?_
      refine xget (ref := "FriezeFolk$Reader") (C := RX5) (T := TX5) (N := 10) (ci := 5) (v := .int (rd.2 2)) hx hb hts inX5 hown hK hP 1 rfl rfl 2 (by decide) k2 rfl rfl dX7_end_21 ?_
      refine lv_istore_n (lv' := [(2, .int (rd.2 2)), (0, .ref ffa), (1, .int n)]) hx hb dX7_end_24 rfl hl (by decide) rfl (fun ls hl => ?_)
      refine lv_aload_n hx hb dX7_end_25 rfl (lv_at hl 1 rfl) ?_
      refine xget (ref := "FriezeFolk") (C := RX7) (T := TX7) (N := 9) (ci := 7) (v := .ref (rda 0)) hx hb hts inX7 hown hK hP 0 rfl rfl 3 (by decide) k1 rfl rfl dX7_end_26 ?_
      refine lv_iload_n hx hb dX7_end_29 rfl (lv_at hl 2 rfl) ?_
      refine xput (ref := "FriezeFolk$Reader") (C := RX5) (T := TX5) (N := 10) (ci := 5) (v := .int n) (ty := .int) hx hb hts inX5 tyX5 tyX5_ok nmX5 hown hK hP hD hS 1 rfl rfl 2 (by decide) k2 rfl rfl (by decide +kernel) rfl rfl (Nat.le_of_ble_eq_true rfl) dX7_end_30 (wn := ((cF ffa r0 r1 r2 (rda 0) r4 r5 r6 r7 ff) ++ (cR ca rdh rda (sI rd 2 n)))) rfl (fun H locs hP hD hS => ?_)
      refine lv_iload_n hx hb dX7_end_33 rfl (lv_at hl 0 rfl) ?_
      obtain rfl := Option.some.inj hm
      exact hret _ _ _ _ (vp_nar_int _) hP hD hS dX7_end_34
    · skip
      replace hm := (if_neg c2).symm.trans hm
      refine lv_iconst (v := (-1 : Int32)) hx hb dX7_end_15 (by decide) ?_
      obtain rfl := Option.some.inj hm
      exact hret _ _ _ _ (vp_nar_int _) hP hD hS dX7_end_16

def mX7_fault (rd : GS) : Option (Int32) :=
  some (rd.2 3)
abbrev rmX7_fault : Room := { frames := 0, cells := 0, slots := 0, locals := 0 }
set_option maxHeartbeats 4000000 in
set_option maxRecDepth 100000 in
theorem k_X7_fault (l : Launch) (D : va_G) (ca : Nat → ClassId) (ffa : Nat) (r0 r1 r2 r4 r5 r6 r7 : Nat) (rdh : Nat) (rda : Nat → Nat) (ff : Int32) (rd : GS) (o : Int32) (hm : mX7_fault rd = some o) : KI l yX7_fault wsX7_fault rmX7_fault D ca [.ref ffa] ((cF ffa r0 r1 r2 (rda 0) r4 r5 r6 r7 ff) ++ (cR ca rdh rda rd)) ((cF ffa r0 r1 r2 (rda 0) r4 r5 r6 r7 ff) ++ (cR ca rdh rda rd)) o := by
  refine KI.of (cc := cX7_fault) (n := 1) (plainFor_of_name (by decide)) rfl (Nat.le_of_ble_eq_true rfl) ?_
  intro p e s m below meth c A Z hx hb hml hts hown hA hK hP hD hS hret ls hl
  have hown : s.vm.findClass RX7 = some m.cls := hown
  have hl : lv_has ls 1 [(0, .ref ffa)] := hl
  have inX5 : ∀ w ∈ wsX50, w ∈ wsX7_fault := by decide +kernel
  have inX7 : ∀ w ∈ wsX70, w ∈ wsX7_fault := by decide +kernel
  have k1 := hts (.fieldLink RX7 29 "FriezeFolk" "reader" "LFriezeFolk$Reader;") (by decide +kernel)
  have k2 := hts (.fieldLink RX7 76 "FriezeFolk$Reader" "fault" "I") (by decide +kernel)
  unfold mX7_fault at hm
  refine lv_aload_n hx hb dX7_fault_0 rfl (lv_at hl 0 rfl) ?_
  refine xget (ref := "FriezeFolk") (C := RX7) (T := TX7) (N := 9) (ci := 7) (v := .ref (rda 0)) hx hb hts inX7 hown hK hP 0 rfl rfl 3 (by decide) k1 rfl rfl dX7_fault_1 ?_
  refine xget (ref := "FriezeFolk$Reader") (C := RX5) (T := TX5) (N := 10) (ci := 5) (v := .int (rd.2 3)) hx hb hts inX5 hown hK hP 1 rfl rfl 3 (by decide) k2 rfl rfl dX7_fault_4 ?_
  obtain rfl := Option.some.inj hm
  exact hret _ _ _ _ (vp_nar_int _) hP hD hS dX7_fault_7

def mX7_rule (h : GS) (n : Int32) : Option (Int32) :=
  if n = (0 : Int32) then
    some (h.2 5)
  else
  if n = (1 : Int32) then
    some (h.2 6)
  else
  if n = (2 : Int32) then
    some (h.2 7)
  else
  if n = (3 : Int32) then
    some (h.2 8)
  else
  if n = (4 : Int32) then
    some (h.2 9)
  else
  if n = (5 : Int32) then
    some (h.2 10)
  else
  if n = (6 : Int32) then
    some (h.2 11)
  else
  if n = (7 : Int32) then
    Option.bind (mX0_frankOfAll h) fun v18 =>
    some v18
  else
  if n = (8 : Int32) then
    some (h.2 12)
  else
    some (-1 : Int32)
abbrev rmX7_rule : Room := { frames := 5, cells := 0, slots := 0, locals := 111 }
set_option maxHeartbeats 4000000 in
set_option maxRecDepth 100000 in
theorem k_X7_rule (l : Launch) (D : va_G) (ca : Nat → ClassId) (ffa : Nat) (r1 r2 r3 r4 r5 r6 r7 : Nat) (ha : Nat → Nat) (ff : Int32) (h : GS) (n : Int32) (o : Int32) (hm : mX7_rule h n = some o) : KI l yX7_rule wsX7_rule rmX7_rule D ca [.ref ffa, .int n] ((cF ffa (ha 0) r1 r2 r3 r4 r5 r6 r7 ff) ++ (cH ca ha h)) ((cF ffa (ha 0) r1 r2 r3 r4 r5 r6 r7 ff) ++ (cH ca ha h)) o := by
  refine KI.of (cc := cX7_rule) (n := 2) (plainFor_of_name (by decide)) rfl (Nat.le_of_ble_eq_true rfl) ?_
  intro p e s m below meth c A Z hx hb hml hts hown hA hK hP hD hS hret ls hl
  have hown : s.vm.findClass RX7 = some m.cls := hown
  have hl : lv_has ls 2 [(0, .ref ffa), (1, .int n)] := hl
  have inX0 : ∀ w ∈ wsX00, w ∈ wsX7_rule := by decide +kernel
  have inX7 : ∀ w ∈ wsX70, w ∈ wsX7_rule := by decide +kernel
  have k1 := hts (.fieldLink RX7 10 "FriezeFolk" "hall" "LFriezeFolk$Hall;") (by decide +kernel)
  have k2 := hts (.fieldLink RX7 93 "FriezeFolk$Hall" "blocks" "I") (by decide +kernel)
  have k3 := hts (.fieldLink RX7 96 "FriezeFolk$Hall" "wide" "I") (by decide +kernel)
  have k4 := hts (.fieldLink RX7 99 "FriezeFolk$Hall" "shift" "I") (by decide +kernel)
  have k5 := hts (.fieldLink RX7 102 "FriezeFolk$Hall" "window" "I") (by decide +kernel)
  have k6 := hts (.fieldLink RX7 105 "FriezeFolk$Hall" "reach" "I") (by decide +kernel)
  have k7 := hts (.fieldLink RX7 108 "FriezeFolk$Hall" "upside" "I") (by decide +kernel)
  have k8 := hts (.fieldLink RX7 111 "FriezeFolk$Hall" "year" "I") (by decide +kernel)
  have k9 := hts (.fieldLink RX7 117 "FriezeFolk$Hall" "rolls" "I") (by decide +kernel)
  unfold mX7_rule at hm
  refine lv_iload_n hx hb dX7_rule_0 rfl (lv_at hl 1 rfl) ?_
  by_cases c10 : n = (0 : Int32)
  · replace hm := (if_pos c10).symm.trans hm
    refine lv_tableIn (tgt := 52) hx hb dX7_rule_1 (by rw [c10]; decide) (by rw [c10]; decide) (by rw [c10] <;> rfl) (by decide) ?_
    refine lv_aload_n hx hb dX7_rule_52 rfl (lv_at hl 0 rfl) ?_
    refine xget (ref := "FriezeFolk") (C := RX7) (T := TX7) (N := 9) (ci := 7) (v := .ref (ha 0)) hx hb hts inX7 hown hK hP 0 rfl rfl 0 (by decide) k1 rfl rfl dX7_rule_53 ?_
    refine xget (ref := "FriezeFolk$Hall") (C := RX0) (T := TX0) (N := 13) (ci := 0) (v := .int (h.2 5)) hx hb hts inX0 hown hK hP 1 rfl rfl 5 (by decide) k2 rfl rfl dX7_rule_56 ?_
    obtain rfl := Option.some.inj hm
    exact hret _ _ _ _ (vp_nar_int _) hP hD hS dX7_rule_59
  replace hm := (if_neg c10).symm.trans hm
  have ec10 : ¬ (n).toInt = 0 := fun z => c10 (Int32.toInt_inj.mp (z.trans (by decide)))
  by_cases c11 : n = (1 : Int32)
  · replace hm := (if_pos c11).symm.trans hm
    refine lv_tableIn (tgt := 60) hx hb dX7_rule_1 (by rw [c11]; decide) (by rw [c11]; decide) (by rw [c11] <;> rfl) (by decide) ?_
    refine lv_aload_n hx hb dX7_rule_60 rfl (lv_at hl 0 rfl) ?_
    refine xget (ref := "FriezeFolk") (C := RX7) (T := TX7) (N := 9) (ci := 7) (v := .ref (ha 0)) hx hb hts inX7 hown hK hP 0 rfl rfl 0 (by decide) k1 rfl rfl dX7_rule_61 ?_
    refine xget (ref := "FriezeFolk$Hall") (C := RX0) (T := TX0) (N := 13) (ci := 0) (v := .int (h.2 6)) hx hb hts inX0 hown hK hP 1 rfl rfl 6 (by decide) k3 rfl rfl dX7_rule_64 ?_
    obtain rfl := Option.some.inj hm
    exact hret _ _ _ _ (vp_nar_int _) hP hD hS dX7_rule_67
  replace hm := (if_neg c11).symm.trans hm
  have ec11 : ¬ (n).toInt = 1 := fun z => c11 (Int32.toInt_inj.mp (z.trans (by decide)))
  by_cases c12 : n = (2 : Int32)
  · replace hm := (if_pos c12).symm.trans hm
    refine lv_tableIn (tgt := 68) hx hb dX7_rule_1 (by rw [c12]; decide) (by rw [c12]; decide) (by rw [c12] <;> rfl) (by decide) ?_
    refine lv_aload_n hx hb dX7_rule_68 rfl (lv_at hl 0 rfl) ?_
    refine xget (ref := "FriezeFolk") (C := RX7) (T := TX7) (N := 9) (ci := 7) (v := .ref (ha 0)) hx hb hts inX7 hown hK hP 0 rfl rfl 0 (by decide) k1 rfl rfl dX7_rule_69 ?_
    refine xget (ref := "FriezeFolk$Hall") (C := RX0) (T := TX0) (N := 13) (ci := 0) (v := .int (h.2 7)) hx hb hts inX0 hown hK hP 1 rfl rfl 7 (by decide) k4 rfl rfl dX7_rule_72 ?_
    obtain rfl := Option.some.inj hm
    exact hret _ _ _ _ (vp_nar_int _) hP hD hS dX7_rule_75
  replace hm := (if_neg c12).symm.trans hm
  have ec12 : ¬ (n).toInt = 2 := fun z => c12 (Int32.toInt_inj.mp (z.trans (by decide)))
  by_cases c13 : n = (3 : Int32)
  · replace hm := (if_pos c13).symm.trans hm
    refine lv_tableIn (tgt := 76) hx hb dX7_rule_1 (by rw [c13]; decide) (by rw [c13]; decide) (by rw [c13] <;> rfl) (by decide) ?_
    refine lv_aload_n hx hb dX7_rule_76 rfl (lv_at hl 0 rfl) ?_
    refine xget (ref := "FriezeFolk") (C := RX7) (T := TX7) (N := 9) (ci := 7) (v := .ref (ha 0)) hx hb hts inX7 hown hK hP 0 rfl rfl 0 (by decide) k1 rfl rfl dX7_rule_77 ?_
    refine xget (ref := "FriezeFolk$Hall") (C := RX0) (T := TX0) (N := 13) (ci := 0) (v := .int (h.2 8)) hx hb hts inX0 hown hK hP 1 rfl rfl 8 (by decide) k5 rfl rfl dX7_rule_80 ?_
    obtain rfl := Option.some.inj hm
    exact hret _ _ _ _ (vp_nar_int _) hP hD hS dX7_rule_83
  replace hm := (if_neg c13).symm.trans hm
  have ec13 : ¬ (n).toInt = 3 := fun z => c13 (Int32.toInt_inj.mp (z.trans (by decide)))
  by_cases c14 : n = (4 : Int32)
  · replace hm := (if_pos c14).symm.trans hm
    refine lv_tableIn (tgt := 84) hx hb dX7_rule_1 (by rw [c14]; decide) (by rw [c14]; decide) (by rw [c14] <;> rfl) (by decide) ?_
    refine lv_aload_n hx hb dX7_rule_84 rfl (lv_at hl 0 rfl) ?_
    refine xget (ref := "FriezeFolk") (C := RX7) (T := TX7) (N := 9) (ci := 7) (v := .ref (ha 0)) hx hb hts inX7 hown hK hP 0 rfl rfl 0 (by decide) k1 rfl rfl dX7_rule_85 ?_
    refine xget (ref := "FriezeFolk$Hall") (C := RX0) (T := TX0) (N := 13) (ci := 0) (v := .int (h.2 9)) hx hb hts inX0 hown hK hP 1 rfl rfl 9 (by decide) k6 rfl rfl dX7_rule_88 ?_
    obtain rfl := Option.some.inj hm
    exact hret _ _ _ _ (vp_nar_int _) hP hD hS dX7_rule_91
  replace hm := (if_neg c14).symm.trans hm
  have ec14 : ¬ (n).toInt = 4 := fun z => c14 (Int32.toInt_inj.mp (z.trans (by decide)))
  by_cases c15 : n = (5 : Int32)
  · replace hm := (if_pos c15).symm.trans hm
    refine lv_tableIn (tgt := 92) hx hb dX7_rule_1 (by rw [c15]; decide) (by rw [c15]; decide) (by rw [c15] <;> rfl) (by decide) ?_
    refine lv_aload_n hx hb dX7_rule_92 rfl (lv_at hl 0 rfl) ?_
    refine xget (ref := "FriezeFolk") (C := RX7) (T := TX7) (N := 9) (ci := 7) (v := .ref (ha 0)) hx hb hts inX7 hown hK hP 0 rfl rfl 0 (by decide) k1 rfl rfl dX7_rule_93 ?_
    refine xget (ref := "FriezeFolk$Hall") (C := RX0) (T := TX0) (N := 13) (ci := 0) (v := .int (h.2 10)) hx hb hts inX0 hown hK hP 1 rfl rfl 10 (by decide) k7 rfl rfl dX7_rule_96 ?_
    obtain rfl := Option.some.inj hm
    exact hret _ _ _ _ (vp_nar_int _) hP hD hS dX7_rule_99
  replace hm := (if_neg c15).symm.trans hm
  have ec15 : ¬ (n).toInt = 5 := fun z => c15 (Int32.toInt_inj.mp (z.trans (by decide)))
  by_cases c16 : n = (6 : Int32)
  · replace hm := (if_pos c16).symm.trans hm
    refine lv_tableIn (tgt := 100) hx hb dX7_rule_1 (by rw [c16]; decide) (by rw [c16]; decide) (by rw [c16] <;> rfl) (by decide) ?_
    refine lv_aload_n hx hb dX7_rule_100 rfl (lv_at hl 0 rfl) ?_
    refine xget (ref := "FriezeFolk") (C := RX7) (T := TX7) (N := 9) (ci := 7) (v := .ref (ha 0)) hx hb hts inX7 hown hK hP 0 rfl rfl 0 (by decide) k1 rfl rfl dX7_rule_101 ?_
    refine xget (ref := "FriezeFolk$Hall") (C := RX0) (T := TX0) (N := 13) (ci := 0) (v := .int (h.2 11)) hx hb hts inX0 hown hK hP 1 rfl rfl 11 (by decide) k8 rfl rfl dX7_rule_104 ?_
    obtain rfl := Option.some.inj hm
    exact hret _ _ _ _ (vp_nar_int _) hP hD hS dX7_rule_107
  replace hm := (if_neg c16).symm.trans hm
  have ec16 : ¬ (n).toInt = 6 := fun z => c16 (Int32.toInt_inj.mp (z.trans (by decide)))
  by_cases c17 : n = (7 : Int32)
  · replace hm := (if_pos c17).symm.trans hm
    refine lv_tableIn (tgt := 108) hx hb dX7_rule_1 (by rw [c17]; decide) (by rw [c17]; decide) (by rw [c17] <;> rfl) (by decide) ?_
    refine lv_aload_n hx hb dX7_rule_108 rfl (lv_at hl 0 rfl) ?_
    refine xget (ref := "FriezeFolk") (C := RX7) (T := TX7) (N := 9) (ci := 7) (v := .ref (ha 0)) hx hb hts inX7 hown hK hP 0 rfl rfl 0 (by decide) k1 rfl rfl dX7_rule_109 ?_
    obtain ⟨v18, q18, h20⟩ := obn hm
    clear hm
    refine xVi (As := []) (ci := 0) ⟨hx, hb, hml, hown, hts⟩ (k_X0_frankOfAll l D ca ha h _ q18) (cwV 0 hts gX7_rule_X0_frankOfAll rfl rfl rfl (by decide +kernel) ⟨Nat.le_of_ble_eq_true rfl, Nat.le_of_ble_eq_true rfl⟩) hK hA hP hD hS dX7_rule_112 rfl hl.1 [1, 2, 3, 4, 5, 6] [0] [0, 1, 2, 3, 4, 5, 6] rfl rfl (wr := ((cF ffa (ha 0) r1 r2 r3 r4 r5 r6 r7 ff))) rfl rfl (by decide) (wn := ((cF ffa (ha 0) r1 r2 r3 r4 r5 r6 r7 ff) ++ (cH ca ha h))) rfl rfl rfl rfl rfl rfl (Nat.le_of_ble_eq_true rfl) (fun H locs hP hD hS => ?_)
    obtain rfl := Option.some.inj h20
    exact hret _ _ _ _ (vp_nar_int _) hP hD hS dX7_rule_115
  replace hm := (if_neg c17).symm.trans hm
  have ec17 : ¬ (n).toInt = 7 := fun z => c17 (Int32.toInt_inj.mp (z.trans (by decide)))
  by_cases c19 : n = (8 : Int32)
  · replace hm := (if_pos c19).symm.trans hm
    refine lv_tableIn (tgt := 116) hx hb dX7_rule_1 (by rw [c19]; decide) (by rw [c19]; decide) (by rw [c19] <;> rfl) (by decide) ?_
    refine lv_aload_n hx hb dX7_rule_116 rfl (lv_at hl 0 rfl) ?_
    refine xget (ref := "FriezeFolk") (C := RX7) (T := TX7) (N := 9) (ci := 7) (v := .ref (ha 0)) hx hb hts inX7 hown hK hP 0 rfl rfl 0 (by decide) k1 rfl rfl dX7_rule_117 ?_
    refine xget (ref := "FriezeFolk$Hall") (C := RX0) (T := TX0) (N := 13) (ci := 0) (v := .int (h.2 12)) hx hb hts inX0 hown hK hP 1 rfl rfl 12 (by decide) k9 rfl rfl dX7_rule_120 ?_
    obtain rfl := Option.some.inj hm
    exact hret _ _ _ _ (vp_nar_int _) hP hD hS dX7_rule_123
  replace hm := (if_neg c19).symm.trans hm
  have ec19 : ¬ (n).toInt = 8 := fun z => c19 (Int32.toInt_inj.mp (z.trans (by decide)))
  refine lv_tableOut (tgt := 124) hx hb dX7_rule_1 (by omega) (by decide) ?_
  refine lv_iconst (v := (-1 : Int32)) hx hb dX7_rule_124 (by decide) ?_
  obtain rfl := Option.some.inj hm
  exact hret _ _ _ _ (vp_nar_int _) hP hD hS dX7_rule_125

def mX7_block (h : GS) (j : Int32) (n : Int32) : Option (Int32) :=
  Option.bind (mX0_hasBlock h j) fun v1 =>
  if v1 = 0 then
    some (-1 : Int32)
  else
    if n = (0 : Int32) then
      Option.bind (ald 6 (h.1 0) j) fun v4 =>
      some v4
    else
    if n = (1 : Int32) then
      Option.bind (ald 6 (h.1 1) j) fun v6 =>
      some v6
    else
    if n = (2 : Int32) then
      Option.bind (mX0_placesOf h j) fun v8 =>
      some v8
    else
    if n = (3 : Int32) then
      Option.bind (mX0_placesOf h j) fun v10 =>
      Option.bind (mX0_frankOf h v10) fun v11 =>
      some v11
    else
      some (-1 : Int32)
abbrev rmX7_block : Room := { frames := 4, cells := 0, slots := 0, locals := 90 }
set_option maxHeartbeats 4000000 in
set_option maxRecDepth 100000 in
theorem k_X7_block (l : Launch) (D : va_G) (ca : Nat → ClassId) (ffa : Nat) (r1 r2 r3 r4 r5 r6 r7 : Nat) (ha : Nat → Nat) (ff : Int32) (h : GS) (j : Int32) (n : Int32) (o : Int32) (hm : mX7_block h j n = some o) : KI l yX7_block wsX7_block rmX7_block D ca [.ref ffa, .int j, .int n] ((cF ffa (ha 0) r1 r2 r3 r4 r5 r6 r7 ff) ++ (cH ca ha h)) ((cF ffa (ha 0) r1 r2 r3 r4 r5 r6 r7 ff) ++ (cH ca ha h)) o := by
  refine KI.of (cc := cX7_block) (n := 3) (plainFor_of_name (by decide)) rfl (Nat.le_of_ble_eq_true rfl) ?_
  intro p e s m below meth c A Z hx hb hml hts hown hA hK hP hD hS hret ls hl
  have hown : s.vm.findClass RX7 = some m.cls := hown
  have hl : lv_has ls 3 [(0, .ref ffa), (1, .int j), (2, .int n)] := hl
  have inX0 : ∀ w ∈ wsX00, w ∈ wsX7_block := by decide +kernel
  have inX7 : ∀ w ∈ wsX70, w ∈ wsX7_block := by decide +kernel
  have k1 := hts (.fieldLink RX7 10 "FriezeFolk" "hall" "LFriezeFolk$Hall;") (by decide +kernel)
  have k2 := hts (.fieldLink RX7 123 "FriezeFolk$Hall" "kind" "[I") (by decide +kernel)
  have k3 := hts (.fieldLink RX7 127 "FriezeFolk$Hall" "warmth" "[I") (by decide +kernel)
  unfold mX7_block at hm
  refine lv_aload_n hx hb dX7_block_0 rfl (lv_at hl 0 rfl) ?_
  refine xget (ref := "FriezeFolk") (C := RX7) (T := TX7) (N := 9) (ci := 7) (v := .ref (ha 0)) hx hb hts inX7 hown hK hP 0 rfl rfl 0 (by decide) k1 rfl rfl dX7_block_1 ?_
  refine lv_iload_n hx hb dX7_block_4 rfl (lv_at hl 1 rfl) ?_
  obtain ⟨v1, q1, h12⟩ := obn hm
  clear hm
  refine xVi (As := [.int j]) (ci := 0) ⟨hx, hb, hml, hown, hts⟩ (k_X0_hasBlock l D ca ha h j _ q1) (cwV 1 hts gX7_block_X0_hasBlock rfl rfl rfl (by decide +kernel) ⟨Nat.le_of_ble_eq_true rfl, Nat.le_of_ble_eq_true rfl⟩) hK hA hP hD hS dX7_block_5 rfl hl.1 [1, 2, 3, 4, 5, 6] [0] [0, 1, 2, 3, 4, 5, 6] rfl rfl (wr := ((cF ffa (ha 0) r1 r2 r3 r4 r5 r6 r7 ff))) rfl rfl (by decide) (wn := ((cF ffa (ha 0) r1 r2 r3 r4 r5 r6 r7 ff) ++ (cH ca ha h))) rfl rfl rfl rfl rfl rfl (Nat.le_of_ble_eq_true rfl) (fun H locs hP hD hS => ?_)
  refine lv_if_ne (tgt := 13) hx hb dX7_block_8 (by decide) (fun c2 => ?_) (fun c2 => ?_)
  · skip
    replace h12 := (if_neg c2).symm.trans h12
    refine lv_iload_n hx hb dX7_block_13 rfl (lv_at hl 2 rfl) ?_
    by_cases c3 : n = (0 : Int32)
    · replace h12 := (if_pos c3).symm.trans h12
      refine lv_tableIn (tgt := 44) hx hb dX7_block_14 (by rw [c3]; decide) (by rw [c3]; decide) (by rw [c3] <;> rfl) (by decide) ?_
      refine lv_aload_n hx hb dX7_block_44 rfl (lv_at hl 0 rfl) ?_
      refine xget (ref := "FriezeFolk") (C := RX7) (T := TX7) (N := 9) (ci := 7) (v := .ref (ha 0)) hx hb hts inX7 hown hK hP 0 rfl rfl 0 (by decide) k1 rfl rfl dX7_block_45 ?_
      refine xget (ref := "FriezeFolk$Hall") (C := RX0) (T := TX0) (N := 13) (ci := 0) (v := .ref (ha 1)) hx hb hts inX0 hown hK hP 1 rfl rfl 0 (by decide) k2 rfl rfl dX7_block_48 ?_
      refine lv_iload_n hx hb dX7_block_51 rfl (lv_at hl 1 rfl) ?_
      obtain ⟨v4, q4, h13⟩ := obn h12
      clear h12
      refine xald hx hb hK hP 2 rfl q4 dX7_block_52 ?_
      obtain rfl := Option.some.inj h13
      exact hret _ _ _ _ (vp_nar_int _) hP hD hS dX7_block_53
    replace h12 := (if_neg c3).symm.trans h12
    have ec3 : ¬ (n).toInt = 0 := fun z => c3 (Int32.toInt_inj.mp (z.trans (by decide)))
    by_cases c5 : n = (1 : Int32)
    · replace h12 := (if_pos c5).symm.trans h12
      refine lv_tableIn (tgt := 54) hx hb dX7_block_14 (by rw [c5]; decide) (by rw [c5]; decide) (by rw [c5] <;> rfl) (by decide) ?_
      refine lv_aload_n hx hb dX7_block_54 rfl (lv_at hl 0 rfl) ?_
      refine xget (ref := "FriezeFolk") (C := RX7) (T := TX7) (N := 9) (ci := 7) (v := .ref (ha 0)) hx hb hts inX7 hown hK hP 0 rfl rfl 0 (by decide) k1 rfl rfl dX7_block_55 ?_
      refine xget (ref := "FriezeFolk$Hall") (C := RX0) (T := TX0) (N := 13) (ci := 0) (v := .ref (ha 2)) hx hb hts inX0 hown hK hP 1 rfl rfl 1 (by decide) k3 rfl rfl dX7_block_58 ?_
      refine lv_iload_n hx hb dX7_block_61 rfl (lv_at hl 1 rfl) ?_
      obtain ⟨v6, q6, h14⟩ := obn h12
      clear h12
      refine xald hx hb hK hP 3 rfl q6 dX7_block_62 ?_
      obtain rfl := Option.some.inj h14
      exact hret _ _ _ _ (vp_nar_int _) hP hD hS dX7_block_63
    replace h12 := (if_neg c5).symm.trans h12
    have ec5 : ¬ (n).toInt = 1 := fun z => c5 (Int32.toInt_inj.mp (z.trans (by decide)))
    by_cases c7 : n = (2 : Int32)
    · replace h12 := (if_pos c7).symm.trans h12
      refine lv_tableIn (tgt := 64) hx hb dX7_block_14 (by rw [c7]; decide) (by rw [c7]; decide) (by rw [c7] <;> rfl) (by decide) ?_
      refine lv_aload_n hx hb dX7_block_64 rfl (lv_at hl 0 rfl) ?_
      refine xget (ref := "FriezeFolk") (C := RX7) (T := TX7) (N := 9) (ci := 7) (v := .ref (ha 0)) hx hb hts inX7 hown hK hP 0 rfl rfl 0 (by decide) k1 rfl rfl dX7_block_65 ?_
      refine lv_iload_n hx hb dX7_block_68 rfl (lv_at hl 1 rfl) ?_
      obtain ⟨v8, q8, h15⟩ := obn h12
      clear h12
      refine xVi (As := [.int j]) (ci := 0) ⟨hx, hb, hml, hown, hts⟩ (k_X0_placesOf l D ca ha h j _ q8) (cwV 1 hts gX7_block_X0_placesOf rfl rfl rfl (by decide +kernel) ⟨Nat.le_of_ble_eq_true rfl, Nat.le_of_ble_eq_true rfl⟩) hK hA hP hD hS dX7_block_69 rfl hl.1 [1, 2, 3, 4, 5, 6] [0] [0, 1, 2, 3, 4, 5, 6] rfl rfl (wr := ((cF ffa (ha 0) r1 r2 r3 r4 r5 r6 r7 ff))) rfl rfl (by decide) (wn := ((cF ffa (ha 0) r1 r2 r3 r4 r5 r6 r7 ff) ++ (cH ca ha h))) rfl rfl rfl rfl rfl rfl (Nat.le_of_ble_eq_true rfl) (fun H locs hP hD hS => ?_)
      obtain rfl := Option.some.inj h15
      exact hret _ _ _ _ (vp_nar_int _) hP hD hS dX7_block_72
    replace h12 := (if_neg c7).symm.trans h12
    have ec7 : ¬ (n).toInt = 2 := fun z => c7 (Int32.toInt_inj.mp (z.trans (by decide)))
    by_cases c9 : n = (3 : Int32)
    · replace h12 := (if_pos c9).symm.trans h12
      refine lv_tableIn (tgt := 73) hx hb dX7_block_14 (by rw [c9]; decide) (by rw [c9]; decide) (by rw [c9] <;> rfl) (by decide) ?_
      refine lv_aload_n hx hb dX7_block_73 rfl (lv_at hl 0 rfl) ?_
      refine xget (ref := "FriezeFolk") (C := RX7) (T := TX7) (N := 9) (ci := 7) (v := .ref (ha 0)) hx hb hts inX7 hown hK hP 0 rfl rfl 0 (by decide) k1 rfl rfl dX7_block_74 ?_
      refine lv_aload_n hx hb dX7_block_77 rfl (lv_at hl 0 rfl) ?_
      refine xget (ref := "FriezeFolk") (C := RX7) (T := TX7) (N := 9) (ci := 7) (v := .ref (ha 0)) hx hb hts inX7 hown hK hP 0 rfl rfl 0 (by decide) k1 rfl rfl dX7_block_78 ?_
      refine lv_iload_n hx hb dX7_block_81 rfl (lv_at hl 1 rfl) ?_
      obtain ⟨v10, q10, h16⟩ := obn h12
      clear h12
      refine xVi (As := [.int j]) (ci := 0) ⟨hx, hb, hml, hown, hts⟩ (k_X0_placesOf l D ca ha h j _ q10) (cwV 1 hts gX7_block_X0_placesOf rfl rfl rfl (by decide +kernel) ⟨Nat.le_of_ble_eq_true rfl, Nat.le_of_ble_eq_true rfl⟩) hK hA hP hD hS dX7_block_82 rfl hl.1 [1, 2, 3, 4, 5, 6] [0] [0, 1, 2, 3, 4, 5, 6] rfl rfl (wr := ((cF ffa (ha 0) r1 r2 r3 r4 r5 r6 r7 ff))) rfl rfl (by decide) (wn := ((cF ffa (ha 0) r1 r2 r3 r4 r5 r6 r7 ff) ++ (cH ca ha h))) rfl rfl rfl rfl rfl rfl (Nat.le_of_ble_eq_true rfl) (fun H locs hP hD hS => ?_)
      obtain ⟨v11, q11, h17⟩ := obn h16
      clear h16
      refine xVi (As := [.int v10]) (ci := 0) ⟨hx, hb, hml, hown, hts⟩ (k_X0_frankOf l D ca ha h v10 _ q11) (cwV 1 hts gX7_block_X0_frankOf rfl rfl rfl (by decide +kernel) ⟨Nat.le_of_ble_eq_true rfl, Nat.le_of_ble_eq_true rfl⟩) hK hA hP hD hS dX7_block_85 rfl hl.1 [1, 2, 3, 4, 5, 6] [0] [0, 1, 2, 3, 4, 5, 6] rfl rfl (wr := ((cF ffa (ha 0) r1 r2 r3 r4 r5 r6 r7 ff))) rfl rfl (by decide) (wn := ((cF ffa (ha 0) r1 r2 r3 r4 r5 r6 r7 ff) ++ (cH ca ha h))) rfl rfl rfl rfl rfl rfl (Nat.le_of_ble_eq_true rfl) (fun H locs hP hD hS => ?_)
      obtain rfl := Option.some.inj h17
      exact hret _ _ _ _ (vp_nar_int _) hP hD hS dX7_block_88
    replace h12 := (if_neg c9).symm.trans h12
    have ec9 : ¬ (n).toInt = 3 := fun z => c9 (Int32.toInt_inj.mp (z.trans (by decide)))
    refine lv_tableOut (tgt := 89) hx hb dX7_block_14 (by omega) (by decide) ?_
    refine lv_iconst (v := (-1 : Int32)) hx hb dX7_block_89 (by decide) ?_
    obtain rfl := Option.some.inj h12
    exact hret _ _ _ _ (vp_nar_int _) hP hD hS dX7_block_90
  · skip
    replace h12 := (if_pos c2).symm.trans h12
    refine lv_iconst (v := (-1 : Int32)) hx hb dX7_block_11 (by decide) ?_
    obtain rfl := Option.some.inj h12
    exact hret _ _ _ _ (vp_nar_int _) hP hD hS dX7_block_12

def mX7_place (h : GS) (i : Int32) (n : Int32) : Option (Int32) :=
  Option.bind (mX0_hasPlace h i) fun v1 =>
  if v1 = 0 then
    some (-1 : Int32)
  else
    if n = (0 : Int32) then
      Option.bind (mX0_whoAt h i) fun v4 =>
      some v4
    else
    if n = (1 : Int32) then
      Option.bind (ald 12 (h.1 2) i) fun v6 =>
      some v6
    else
    if n = (2 : Int32) then
      Option.bind (mX0_frankAt h i) fun v8 =>
      some v8
    else
      some (-1 : Int32)
abbrev rmX7_place : Room := { frames := 3, cells := 0, slots := 0, locals := 67 }
set_option maxHeartbeats 4000000 in
set_option maxRecDepth 100000 in
theorem k_X7_place (l : Launch) (D : va_G) (ca : Nat → ClassId) (ffa : Nat) (r1 r2 r3 r4 r5 r6 r7 : Nat) (ha : Nat → Nat) (ff : Int32) (h : GS) (i : Int32) (n : Int32) (o : Int32) (hm : mX7_place h i n = some o) : KI l yX7_place wsX7_place rmX7_place D ca [.ref ffa, .int i, .int n] ((cF ffa (ha 0) r1 r2 r3 r4 r5 r6 r7 ff) ++ (cH ca ha h)) ((cF ffa (ha 0) r1 r2 r3 r4 r5 r6 r7 ff) ++ (cH ca ha h)) o := by
  refine KI.of (cc := cX7_place) (n := 3) (plainFor_of_name (by decide)) rfl (Nat.le_of_ble_eq_true rfl) ?_
  intro p e s m below meth c A Z hx hb hml hts hown hA hK hP hD hS hret ls hl
  have hown : s.vm.findClass RX7 = some m.cls := hown
  have hl : lv_has ls 3 [(0, .ref ffa), (1, .int i), (2, .int n)] := hl
  have inX0 : ∀ w ∈ wsX00, w ∈ wsX7_place := by decide +kernel
  have inX7 : ∀ w ∈ wsX70, w ∈ wsX7_place := by decide +kernel
  have k1 := hts (.fieldLink RX7 10 "FriezeFolk" "hall" "LFriezeFolk$Hall;") (by decide +kernel)
  have k2 := hts (.fieldLink RX7 143 "FriezeFolk$Hall" "fade" "[I") (by decide +kernel)
  unfold mX7_place at hm
  refine lv_aload_n hx hb dX7_place_0 rfl (lv_at hl 0 rfl) ?_
  refine xget (ref := "FriezeFolk") (C := RX7) (T := TX7) (N := 9) (ci := 7) (v := .ref (ha 0)) hx hb hts inX7 hown hK hP 0 rfl rfl 0 (by decide) k1 rfl rfl dX7_place_1 ?_
  refine lv_iload_n hx hb dX7_place_4 rfl (lv_at hl 1 rfl) ?_
  obtain ⟨v1, q1, h9⟩ := obn hm
  clear hm
  refine xVi (As := [.int i]) (ci := 0) ⟨hx, hb, hml, hown, hts⟩ (k_X0_hasPlace l D ca ha h i _ q1) (cwV 1 hts gX7_place_X0_hasPlace rfl rfl rfl (by decide +kernel) ⟨Nat.le_of_ble_eq_true rfl, Nat.le_of_ble_eq_true rfl⟩) hK hA hP hD hS dX7_place_5 rfl hl.1 [1, 2, 3, 4, 5, 6] [0] [0, 1, 2, 3, 4, 5, 6] rfl rfl (wr := ((cF ffa (ha 0) r1 r2 r3 r4 r5 r6 r7 ff))) rfl rfl (by decide) (wn := ((cF ffa (ha 0) r1 r2 r3 r4 r5 r6 r7 ff) ++ (cH ca ha h))) rfl rfl rfl rfl rfl rfl (Nat.le_of_ble_eq_true rfl) (fun H locs hP hD hS => ?_)
  refine lv_if_ne (tgt := 13) hx hb dX7_place_8 (by decide) (fun c2 => ?_) (fun c2 => ?_)
  · skip
    replace h9 := (if_neg c2).symm.trans h9
    refine lv_iload_n hx hb dX7_place_13 rfl (lv_at hl 2 rfl) ?_
    by_cases c3 : n = (0 : Int32)
    · replace h9 := (if_pos c3).symm.trans h9
      refine lv_tableIn (tgt := 40) hx hb dX7_place_14 (by rw [c3]; decide) (by rw [c3]; decide) (by rw [c3] <;> rfl) (by decide) ?_
      refine lv_aload_n hx hb dX7_place_40 rfl (lv_at hl 0 rfl) ?_
      refine xget (ref := "FriezeFolk") (C := RX7) (T := TX7) (N := 9) (ci := 7) (v := .ref (ha 0)) hx hb hts inX7 hown hK hP 0 rfl rfl 0 (by decide) k1 rfl rfl dX7_place_41 ?_
      refine lv_iload_n hx hb dX7_place_44 rfl (lv_at hl 1 rfl) ?_
      obtain ⟨v4, q4, h10⟩ := obn h9
      clear h9
      refine xVi (As := [.int i]) (ci := 0) ⟨hx, hb, hml, hown, hts⟩ (k_X0_whoAt l D ca ha h i _ q4) (cwV 1 hts gX7_place_X0_whoAt rfl rfl rfl (by decide +kernel) ⟨Nat.le_of_ble_eq_true rfl, Nat.le_of_ble_eq_true rfl⟩) hK hA hP hD hS dX7_place_45 rfl hl.1 [1, 2, 3, 4, 5, 6] [0] [0, 1, 2, 3, 4, 5, 6] rfl rfl (wr := ((cF ffa (ha 0) r1 r2 r3 r4 r5 r6 r7 ff))) rfl rfl (by decide) (wn := ((cF ffa (ha 0) r1 r2 r3 r4 r5 r6 r7 ff) ++ (cH ca ha h))) rfl rfl rfl rfl rfl rfl (Nat.le_of_ble_eq_true rfl) (fun H locs hP hD hS => ?_)
      obtain rfl := Option.some.inj h10
      exact hret _ _ _ _ (vp_nar_int _) hP hD hS dX7_place_48
    replace h9 := (if_neg c3).symm.trans h9
    have ec3 : ¬ (n).toInt = 0 := fun z => c3 (Int32.toInt_inj.mp (z.trans (by decide)))
    by_cases c5 : n = (1 : Int32)
    · replace h9 := (if_pos c5).symm.trans h9
      refine lv_tableIn (tgt := 49) hx hb dX7_place_14 (by rw [c5]; decide) (by rw [c5]; decide) (by rw [c5] <;> rfl) (by decide) ?_
      refine lv_aload_n hx hb dX7_place_49 rfl (lv_at hl 0 rfl) ?_
      refine xget (ref := "FriezeFolk") (C := RX7) (T := TX7) (N := 9) (ci := 7) (v := .ref (ha 0)) hx hb hts inX7 hown hK hP 0 rfl rfl 0 (by decide) k1 rfl rfl dX7_place_50 ?_
      refine xget (ref := "FriezeFolk$Hall") (C := RX0) (T := TX0) (N := 13) (ci := 0) (v := .ref (ha 3)) hx hb hts inX0 hown hK hP 1 rfl rfl 2 (by decide) k2 rfl rfl dX7_place_53 ?_
      refine lv_iload_n hx hb dX7_place_56 rfl (lv_at hl 1 rfl) ?_
      obtain ⟨v6, q6, h11⟩ := obn h9
      clear h9
      refine xald hx hb hK hP 4 rfl q6 dX7_place_57 ?_
      obtain rfl := Option.some.inj h11
      exact hret _ _ _ _ (vp_nar_int _) hP hD hS dX7_place_58
    replace h9 := (if_neg c5).symm.trans h9
    have ec5 : ¬ (n).toInt = 1 := fun z => c5 (Int32.toInt_inj.mp (z.trans (by decide)))
    by_cases c7 : n = (2 : Int32)
    · replace h9 := (if_pos c7).symm.trans h9
      refine lv_tableIn (tgt := 59) hx hb dX7_place_14 (by rw [c7]; decide) (by rw [c7]; decide) (by rw [c7] <;> rfl) (by decide) ?_
      refine lv_aload_n hx hb dX7_place_59 rfl (lv_at hl 0 rfl) ?_
      refine xget (ref := "FriezeFolk") (C := RX7) (T := TX7) (N := 9) (ci := 7) (v := .ref (ha 0)) hx hb hts inX7 hown hK hP 0 rfl rfl 0 (by decide) k1 rfl rfl dX7_place_60 ?_
      refine lv_iload_n hx hb dX7_place_63 rfl (lv_at hl 1 rfl) ?_
      obtain ⟨v8, q8, h12⟩ := obn h9
      clear h9
      refine xVi (As := [.int i]) (ci := 0) ⟨hx, hb, hml, hown, hts⟩ (k_X0_frankAt l D ca ha h i _ q8) (cwV 1 hts gX7_place_X0_frankAt rfl rfl rfl (by decide +kernel) ⟨Nat.le_of_ble_eq_true rfl, Nat.le_of_ble_eq_true rfl⟩) hK hA hP hD hS dX7_place_64 rfl hl.1 [1, 2, 3, 4, 5, 6] [0] [0, 1, 2, 3, 4, 5, 6] rfl rfl (wr := ((cF ffa (ha 0) r1 r2 r3 r4 r5 r6 r7 ff))) rfl rfl (by decide) (wn := ((cF ffa (ha 0) r1 r2 r3 r4 r5 r6 r7 ff) ++ (cH ca ha h))) rfl rfl rfl rfl rfl rfl (Nat.le_of_ble_eq_true rfl) (fun H locs hP hD hS => ?_)
      obtain rfl := Option.some.inj h12
      exact hret _ _ _ _ (vp_nar_int _) hP hD hS dX7_place_67
    replace h9 := (if_neg c7).symm.trans h9
    have ec7 : ¬ (n).toInt = 2 := fun z => c7 (Int32.toInt_inj.mp (z.trans (by decide)))
    refine lv_tableOut (tgt := 68) hx hb dX7_place_14 (by omega) (by decide) ?_
    refine lv_iconst (v := (-1 : Int32)) hx hb dX7_place_68 (by decide) ?_
    obtain rfl := Option.some.inj h9
    exact hret _ _ _ _ (vp_nar_int _) hP hD hS dX7_place_69
  · skip
    replace h9 := (if_pos c2).symm.trans h9
    refine lv_iconst (v := (-1 : Int32)) hx hb dX7_place_11 (by decide) ?_
    obtain rfl := Option.some.inj h9
    exact hret _ _ _ _ (vp_nar_int _) hP hD hS dX7_place_12

def mX7_roll (h : GS) (r : Int32) (n : Int32) : Option (Int32) :=
  Option.bind (mX0_hasRoll h r) fun v1 =>
  if v1 = 0 then
    some (-1 : Int32)
  else
    if n = (0 : Int32) then
      Option.bind (ald 4 (h.1 3) r) fun v4 =>
      some v4
    else
    if n = (1 : Int32) then
      Option.bind (ald 4 (h.1 4) r) fun v6 =>
      some v6
    else
      some (-1 : Int32)
abbrev rmX7_roll : Room := { frames := 1, cells := 0, slots := 0, locals := 21 }
set_option maxHeartbeats 4000000 in
set_option maxRecDepth 100000 in
theorem k_X7_roll (l : Launch) (D : va_G) (ca : Nat → ClassId) (ffa : Nat) (r1 r2 r3 r4 r5 r6 r7 : Nat) (ha : Nat → Nat) (ff : Int32) (h : GS) (r : Int32) (n : Int32) (o : Int32) (hm : mX7_roll h r n = some o) : KI l yX7_roll wsX7_roll rmX7_roll D ca [.ref ffa, .int r, .int n] ((cF ffa (ha 0) r1 r2 r3 r4 r5 r6 r7 ff) ++ (cH ca ha h)) ((cF ffa (ha 0) r1 r2 r3 r4 r5 r6 r7 ff) ++ (cH ca ha h)) o := by
  refine KI.of (cc := cX7_roll) (n := 3) (plainFor_of_name (by decide)) rfl (Nat.le_of_ble_eq_true rfl) ?_
  intro p e s m below meth c A Z hx hb hml hts hown hA hK hP hD hS hret ls hl
  have hown : s.vm.findClass RX7 = some m.cls := hown
  have hl : lv_has ls 3 [(0, .ref ffa), (1, .int r), (2, .int n)] := hl
  have inX0 : ∀ w ∈ wsX00, w ∈ wsX7_roll := by decide +kernel
  have inX7 : ∀ w ∈ wsX70, w ∈ wsX7_roll := by decide +kernel
  have k1 := hts (.fieldLink RX7 10 "FriezeFolk" "hall" "LFriezeFolk$Hall;") (by decide +kernel)
  have k2 := hts (.fieldLink RX7 152 "FriezeFolk$Hall" "length" "[I") (by decide +kernel)
  have k3 := hts (.fieldLink RX7 155 "FriezeFolk$Hall" "price" "[I") (by decide +kernel)
  unfold mX7_roll at hm
  refine lv_aload_n hx hb dX7_roll_0 rfl (lv_at hl 0 rfl) ?_
  refine xget (ref := "FriezeFolk") (C := RX7) (T := TX7) (N := 9) (ci := 7) (v := .ref (ha 0)) hx hb hts inX7 hown hK hP 0 rfl rfl 0 (by decide) k1 rfl rfl dX7_roll_1 ?_
  refine lv_iload_n hx hb dX7_roll_4 rfl (lv_at hl 1 rfl) ?_
  obtain ⟨v1, q1, h7⟩ := obn hm
  clear hm
  refine xVi (As := [.int r]) (ci := 0) ⟨hx, hb, hml, hown, hts⟩ (k_X0_hasRoll l D ca ha h r _ q1) (cwV 1 hts gX7_roll_X0_hasRoll rfl rfl rfl (by decide +kernel) ⟨Nat.le_of_ble_eq_true rfl, Nat.le_of_ble_eq_true rfl⟩) hK hA hP hD hS dX7_roll_5 rfl hl.1 [1, 2, 3, 4, 5, 6] [0] [0, 1, 2, 3, 4, 5, 6] rfl rfl (wr := ((cF ffa (ha 0) r1 r2 r3 r4 r5 r6 r7 ff))) rfl rfl (by decide) (wn := ((cF ffa (ha 0) r1 r2 r3 r4 r5 r6 r7 ff) ++ (cH ca ha h))) rfl rfl rfl rfl rfl rfl (Nat.le_of_ble_eq_true rfl) (fun H locs hP hD hS => ?_)
  refine lv_if_ne (tgt := 13) hx hb dX7_roll_8 (by decide) (fun c2 => ?_) (fun c2 => ?_)
  · skip
    replace h7 := (if_neg c2).symm.trans h7
    refine lv_iload_n hx hb dX7_roll_13 rfl (lv_at hl 2 rfl) ?_
    by_cases c3 : n = (0 : Int32)
    · replace h7 := (if_pos c3).symm.trans h7
      refine lv_lookup (tgt := 40) hx hb dX7_roll_14 (by decide) (by rw [c3] <;> rfl) (by decide) ?_
      refine lv_aload_n hx hb dX7_roll_40 rfl (lv_at hl 0 rfl) ?_
      refine xget (ref := "FriezeFolk") (C := RX7) (T := TX7) (N := 9) (ci := 7) (v := .ref (ha 0)) hx hb hts inX7 hown hK hP 0 rfl rfl 0 (by decide) k1 rfl rfl dX7_roll_41 ?_
      refine xget (ref := "FriezeFolk$Hall") (C := RX0) (T := TX0) (N := 13) (ci := 0) (v := .ref (ha 4)) hx hb hts inX0 hown hK hP 1 rfl rfl 3 (by decide) k2 rfl rfl dX7_roll_44 ?_
      refine lv_iload_n hx hb dX7_roll_47 rfl (lv_at hl 1 rfl) ?_
      obtain ⟨v4, q4, h8⟩ := obn h7
      clear h7
      refine xald hx hb hK hP 5 rfl q4 dX7_roll_48 ?_
      obtain rfl := Option.some.inj h8
      exact hret _ _ _ _ (vp_nar_int _) hP hD hS dX7_roll_49
    replace h7 := (if_neg c3).symm.trans h7
    have ec3 : ¬ (n).toInt = 0 := fun z => c3 (Int32.toInt_inj.mp (z.trans (by decide)))
    by_cases c5 : n = (1 : Int32)
    · replace h7 := (if_pos c5).symm.trans h7
      refine lv_lookup (tgt := 50) hx hb dX7_roll_14 (by decide) (by rw [c5] <;> rfl) (by decide) ?_
      refine lv_aload_n hx hb dX7_roll_50 rfl (lv_at hl 0 rfl) ?_
      refine xget (ref := "FriezeFolk") (C := RX7) (T := TX7) (N := 9) (ci := 7) (v := .ref (ha 0)) hx hb hts inX7 hown hK hP 0 rfl rfl 0 (by decide) k1 rfl rfl dX7_roll_51 ?_
      refine xget (ref := "FriezeFolk$Hall") (C := RX0) (T := TX0) (N := 13) (ci := 0) (v := .ref (ha 5)) hx hb hts inX0 hown hK hP 1 rfl rfl 4 (by decide) k3 rfl rfl dX7_roll_54 ?_
      refine lv_iload_n hx hb dX7_roll_57 rfl (lv_at hl 1 rfl) ?_
      obtain ⟨v6, q6, h9⟩ := obn h7
      clear h7
      refine xald hx hb hK hP 6 rfl q6 dX7_roll_58 ?_
      obtain rfl := Option.some.inj h9
      exact hret _ _ _ _ (vp_nar_int _) hP hD hS dX7_roll_59
    replace h7 := (if_neg c5).symm.trans h7
    have ec5 : ¬ (n).toInt = 1 := fun z => c5 (Int32.toInt_inj.mp (z.trans (by decide)))
    refine lv_lookup (tgt := 60) hx hb dX7_roll_14 (by decide) (lk_out2 ec3 ec5) (by decide) ?_
    refine lv_iconst (v := (-1 : Int32)) hx hb dX7_roll_60 (by decide) ?_
    obtain rfl := Option.some.inj h7
    exact hret _ _ _ _ (vp_nar_int _) hP hD hS dX7_roll_61
  · skip
    replace h7 := (if_pos c2).symm.trans h7
    refine lv_iconst (v := (-1 : Int32)) hx hb dX7_roll_11 (by decide) ?_
    obtain rfl := Option.some.inj h7
    exact hret _ _ _ _ (vp_nar_int _) hP hD hS dX7_roll_12

def mX7_alter (h : GS) (j : Int32) (n : Int32) (x : Int32) : Option (Int32 × GS) :=
  Option.bind (mX0_hasBlock h j) fun v1 =>
  if v1 = 0 then
    some ((-1 : Int32), h)
  else
    if 0 ≤ x then
      if n = 0 then
        if (4 : Int32) ≤ x then
          if n = (1 : Int32) then
            if (10 : Int32) ≤ x then
              some ((-1 : Int32), h)
            else
              Option.bind (ald 6 (h.1 1) j) fun v12 =>
              Option.bind (ast 6 (h.1 1) j x) fun f13 =>
              some (v12, (sA h 1 f13))
          else
            some ((-1 : Int32), h)
        else
          Option.bind (ald 6 (h.1 0) j) fun v14 =>
          Option.bind (ast 6 (h.1 0) j x) fun f15 =>
          some (v14, (sA h 0 f15))
      else
        if n = (1 : Int32) then
          if (10 : Int32) ≤ x then
            some ((-1 : Int32), h)
          else
            Option.bind (ald 6 (h.1 1) j) fun v7 =>
            Option.bind (ast 6 (h.1 1) j x) fun f8 =>
            some (v7, (sA h 1 f8))
        else
          some ((-1 : Int32), h)
    else
      some ((-1 : Int32), h)
abbrev rmX7_alter : Room := { frames := 1, cells := 0, slots := 0, locals := 21 }
set_option maxHeartbeats 4000000 in
set_option maxRecDepth 100000 in
theorem k_X7_alter (l : Launch) (D : va_G) (ca : Nat → ClassId) (ffa : Nat) (r1 r2 r3 r4 r5 r6 r7 : Nat) (ha : Nat → Nat) (ff : Int32) (h : GS) (j : Int32) (n : Int32) (x : Int32) (o : Int32 × GS) (hm : mX7_alter h j n x = some o) : KI l yX7_alter wsX7_alter rmX7_alter D ca [.ref ffa, .int j, .int n, .int x] ((cF ffa (ha 0) r1 r2 r3 r4 r5 r6 r7 ff) ++ (cH ca ha h)) ((cF ffa (ha 0) r1 r2 r3 r4 r5 r6 r7 ff) ++ (cH ca ha o.2)) o.1 := by
  refine KI.of (cc := cX7_alter) (n := 5) (plainFor_of_name (by decide)) rfl (Nat.le_of_ble_eq_true rfl) ?_
  intro p e s m below meth c A Z hx hb hml hts hown hA hK hP hD hS hret ls hl
  have hown : s.vm.findClass RX7 = some m.cls := hown
  have hl : lv_has ls 5 [(0, .ref ffa), (1, .int j), (2, .int n), (3, .int x)] := hl
  have inX0 : ∀ w ∈ wsX00, w ∈ wsX7_alter := by decide +kernel
  have inX7 : ∀ w ∈ wsX70, w ∈ wsX7_alter := by decide +kernel
  have k1 := hts (.fieldLink RX7 10 "FriezeFolk" "hall" "LFriezeFolk$Hall;") (by decide +kernel)
  have k2 := hts (.fieldLink RX7 127 "FriezeFolk$Hall" "warmth" "[I") (by decide +kernel)
  have k3 := hts (.fieldLink RX7 123 "FriezeFolk$Hall" "kind" "[I") (by decide +kernel)
  unfold mX7_alter at hm
  refine lv_aload_n hx hb dX7_alter_0 rfl (lv_at hl 0 rfl) ?_
  refine xget (ref := "FriezeFolk") (C := RX7) (T := TX7) (N := 9) (ci := 7) (v := .ref (ha 0)) hx hb hts inX7 hown hK hP 0 rfl rfl 0 (by decide) k1 rfl rfl dX7_alter_1 ?_
  refine lv_iload_n hx hb dX7_alter_4 rfl (lv_at hl 1 rfl) ?_
  obtain ⟨v1, q1, h16⟩ := obn hm
  clear hm
  refine xVi (As := [.int j]) (ci := 0) ⟨hx, hb, hml, hown, hts⟩ (k_X0_hasBlock l D ca ha h j _ q1) (cwV 1 hts gX7_alter_X0_hasBlock rfl rfl rfl (by decide +kernel) ⟨Nat.le_of_ble_eq_true rfl, Nat.le_of_ble_eq_true rfl⟩) hK hA hP hD hS dX7_alter_5 rfl hl.1 [1, 2, 3, 4, 5, 6] [0] [0, 1, 2, 3, 4, 5, 6] rfl rfl (wr := ((cF ffa (ha 0) r1 r2 r3 r4 r5 r6 r7 ff))) rfl rfl (by decide) (wn := ((cF ffa (ha 0) r1 r2 r3 r4 r5 r6 r7 ff) ++ (cH ca ha h))) rfl rfl rfl rfl rfl rfl (Nat.le_of_ble_eq_true rfl) (fun H locs hP hD hS => ?_)
  refine lv_if_eq (tgt := 15) hx hb dX7_alter_8 (by decide) (fun c2 => ?_) (fun c2 => ?_)
  · skip
    replace h16 := (if_pos c2).symm.trans h16
    refine lv_iconst (v := (-1 : Int32)) hx hb dX7_alter_15 (by decide) ?_
    obtain rfl := Option.some.inj h16
    exact hret _ _ _ _ (vp_nar_int _) hP hD hS dX7_alter_16
  · skip
    replace h16 := (if_neg c2).symm.trans h16
    refine lv_iload_n hx hb dX7_alter_11 rfl (lv_at hl 3 rfl) ?_
    refine lv_if_ge (tgt := 17) hx hb dX7_alter_12 (by decide) (fun c3 => ?_) (fun c3 => ?_)
    · skip
      replace h16 := (if_pos c3).symm.trans h16
      refine lv_iload_n hx hb dX7_alter_17 rfl (lv_at hl 2 rfl) ?_
      refine lv_if_ne (tgt := 50) hx hb dX7_alter_18 (by decide) (fun c4 => ?_) (fun c4 => ?_)
      · skip
        replace h16 := (if_neg c4).symm.trans h16
        refine lv_iload_n hx hb dX7_alter_50 rfl (lv_at hl 2 rfl) ?_
        refine lv_iconst (v := (1 : Int32)) hx hb dX7_alter_51 (by decide) ?_
        refine lv_icmp_ne (tgt := 85) hx hb dX7_alter_52 (by decide) (fun c5 => ?_) (fun c5 => ?_)
        · skip
          replace h16 := (if_neg c5).symm.trans h16
          refine lv_iconst (v := (-1 : Int32)) hx hb dX7_alter_85 (by decide) ?_
          obtain rfl := Option.some.inj h16
          exact hret _ _ _ _ (vp_nar_int _) hP hD hS dX7_alter_86
        · skip
          replace h16 := (if_pos c5).symm.trans h16
          refine lv_iload_n hx hb dX7_alter_55 rfl (lv_at hl 3 rfl) ?_
          refine lv_bipush (v := (10 : Int32)) hx hb dX7_alter_56 (by decide) ?_
          refine lv_icmp_ge (tgt := 85) hx hb dX7_alter_58 (by decide) (fun c6 => ?_) (fun c6 => ?_)
          · skip
            replace h16 := (if_pos c6).symm.trans h16
            refine lv_iconst (v := (-1 : Int32)) hx hb dX7_alter_85 (by decide) ?_
            obtain rfl := Option.some.inj h16
            exact hret _ _ _ _ (vp_nar_int _) hP hD hS dX7_alter_86
          · skip
            replace h16 := (if_neg c6).symm.trans h16
            refine lv_aload_n hx hb dX7_alter_61 rfl (lv_at hl 0 rfl) ?_
            refine xget (ref := "FriezeFolk") (C := RX7) (T := TX7) (N := 9) (ci := 7) (v := .ref (ha 0)) hx hb hts inX7 hown hK hP 0 rfl rfl 0 (by decide) k1 rfl rfl dX7_alter_62 ?_
            refine xget (ref := "FriezeFolk$Hall") (C := RX0) (T := TX0) (N := 13) (ci := 0) (v := .ref (ha 2)) hx hb hts inX0 hown hK hP 1 rfl rfl 1 (by decide) k2 rfl rfl dX7_alter_65 ?_
            refine lv_iload_n hx hb dX7_alter_68 rfl (lv_at hl 1 rfl) ?_
            obtain ⟨v7, q7, h17⟩ := obn h16
            clear h16
            refine xald hx hb hK hP 3 rfl q7 dX7_alter_69 ?_
            refine lv_istore (lv' := [(4, .int v7), (0, .ref ffa), (1, .int j), (2, .int n), (3, .int x)]) hx hb dX7_alter_70 hl (by decide) rfl (fun ls hl => ?_)
            refine lv_aload_n hx hb dX7_alter_72 rfl (lv_at hl 1 rfl) ?_
            refine xget (ref := "FriezeFolk") (C := RX7) (T := TX7) (N := 9) (ci := 7) (v := .ref (ha 0)) hx hb hts inX7 hown hK hP 0 rfl rfl 0 (by decide) k1 rfl rfl dX7_alter_73 ?_
            refine xget (ref := "FriezeFolk$Hall") (C := RX0) (T := TX0) (N := 13) (ci := 0) (v := .ref (ha 2)) hx hb hts inX0 hown hK hP 1 rfl rfl 1 (by decide) k2 rfl rfl dX7_alter_76 ?_
            refine lv_iload_n hx hb dX7_alter_79 rfl (lv_at hl 2 rfl) ?_
            refine lv_iload_n hx hb dX7_alter_80 rfl (lv_at hl 4 rfl) ?_
            obtain ⟨f8, q8, h18⟩ := obn h17
            clear h17
            refine xast hx hb hK hP hD hS 3 rfl q8 dX7_alter_81 (wn := ((cF ffa (ha 0) r1 r2 r3 r4 r5 r6 r7 ff) ++ (cH ca ha (sA h 1 f8)))) rfl (fun H locs hP hD hS => ?_)
            refine lv_iload hx hb dX7_alter_82 (lv_at hl 0 rfl) ?_
            obtain rfl := Option.some.inj h18
            exact hret _ _ _ _ (vp_nar_int _) hP hD hS dX7_alter_84
      · skip
        replace h16 := (if_pos c4).symm.trans h16
        refine lv_iload_n hx hb dX7_alter_21 rfl (lv_at hl 3 rfl) ?_
        refine lv_iconst (v := (4 : Int32)) hx hb dX7_alter_22 (by decide) ?_
        refine lv_icmp_ge (tgt := 50) hx hb dX7_alter_23 (by decide) (fun c9 => ?_) (fun c9 => ?_)
        · skip
          replace h16 := (if_pos c9).symm.trans h16
          refine lv_iload_n hx hb dX7_alter_50 rfl (lv_at hl 2 rfl) ?_
          refine lv_iconst (v := (1 : Int32)) hx hb dX7_alter_51 (by decide) ?_
          refine lv_icmp_ne (tgt := 85) hx hb dX7_alter_52 (by decide) (fun c10 => ?_) (fun c10 => ?_)
          · skip
            replace h16 := (if_neg c10).symm.trans h16
            refine lv_iconst (v := (-1 : Int32)) hx hb dX7_alter_85 (by decide) ?_
            obtain rfl := Option.some.inj h16
            exact hret _ _ _ _ (vp_nar_int _) hP hD hS dX7_alter_86
          · skip
            replace h16 := (if_pos c10).symm.trans h16
            refine lv_iload_n hx hb dX7_alter_55 rfl (lv_at hl 3 rfl) ?_
            refine lv_bipush (v := (10 : Int32)) hx hb dX7_alter_56 (by decide) ?_
            refine lv_icmp_ge (tgt := 85) hx hb dX7_alter_58 (by decide) (fun c11 => ?_) (fun c11 => ?_)
            · skip
              replace h16 := (if_pos c11).symm.trans h16
              refine lv_iconst (v := (-1 : Int32)) hx hb dX7_alter_85 (by decide) ?_
              obtain rfl := Option.some.inj h16
              exact hret _ _ _ _ (vp_nar_int _) hP hD hS dX7_alter_86
            · skip
              replace h16 := (if_neg c11).symm.trans h16
              refine lv_aload_n hx hb dX7_alter_61 rfl (lv_at hl 0 rfl) ?_
              refine xget (ref := "FriezeFolk") (C := RX7) (T := TX7) (N := 9) (ci := 7) (v := .ref (ha 0)) hx hb hts inX7 hown hK hP 0 rfl rfl 0 (by decide) k1 rfl rfl dX7_alter_62 ?_
              refine xget (ref := "FriezeFolk$Hall") (C := RX0) (T := TX0) (N := 13) (ci := 0) (v := .ref (ha 2)) hx hb hts inX0 hown hK hP 1 rfl rfl 1 (by decide) k2 rfl rfl dX7_alter_65 ?_
              refine lv_iload_n hx hb dX7_alter_68 rfl (lv_at hl 1 rfl) ?_
              obtain ⟨v12, q12, h19⟩ := obn h16
              clear h16
              refine xald hx hb hK hP 3 rfl q12 dX7_alter_69 ?_
              refine lv_istore (lv' := [(4, .int v12), (0, .ref ffa), (1, .int j), (2, .int n), (3, .int x)]) hx hb dX7_alter_70 hl (by decide) rfl (fun ls hl => ?_)
              refine lv_aload_n hx hb dX7_alter_72 rfl (lv_at hl 1 rfl) ?_
              refine xget (ref := "FriezeFolk") (C := RX7) (T := TX7) (N := 9) (ci := 7) (v := .ref (ha 0)) hx hb hts inX7 hown hK hP 0 rfl rfl 0 (by decide) k1 rfl rfl dX7_alter_73 ?_
              refine xget (ref := "FriezeFolk$Hall") (C := RX0) (T := TX0) (N := 13) (ci := 0) (v := .ref (ha 2)) hx hb hts inX0 hown hK hP 1 rfl rfl 1 (by decide) k2 rfl rfl dX7_alter_76 ?_
              refine lv_iload_n hx hb dX7_alter_79 rfl (lv_at hl 2 rfl) ?_
              refine lv_iload_n hx hb dX7_alter_80 rfl (lv_at hl 4 rfl) ?_
              obtain ⟨f13, q13, h20⟩ := obn h19
              clear h19
              refine xast hx hb hK hP hD hS 3 rfl q13 dX7_alter_81 (wn := ((cF ffa (ha 0) r1 r2 r3 r4 r5 r6 r7 ff) ++ (cH ca ha (sA h 1 f13)))) rfl (fun H locs hP hD hS => ?_)
              refine lv_iload hx hb dX7_alter_82 (lv_at hl 0 rfl) ?_
              obtain rfl := Option.some.inj h20
              exact hret _ _ _ _ (vp_nar_int _) hP hD hS dX7_alter_84
        · skip
          replace h16 := (if_neg c9).symm.trans h16
          refine lv_aload_n hx hb dX7_alter_26 rfl (lv_at hl 0 rfl) ?_
          refine xget (ref := "FriezeFolk") (C := RX7) (T := TX7) (N := 9) (ci := 7) (v := .ref (ha 0)) hx hb hts inX7 hown hK hP 0 rfl rfl 0 (by decide) k1 rfl rfl dX7_alter_27 ?_
          refine xget (ref := "FriezeFolk$Hall") (C := RX0) (T := TX0) (N := 13) (ci := 0) (v := .ref (ha 1)) hx hb hts inX0 hown hK hP 1 rfl rfl 0 (by decide) k3 rfl rfl dX7_alter_30 ?_
          refine lv_iload_n hx hb dX7_alter_33 rfl (lv_at hl 1 rfl) ?_
          obtain ⟨v14, q14, h21⟩ := obn h16
          clear h16
          refine xald hx hb hK hP 2 rfl q14 dX7_alter_34 ?_
          refine lv_istore (lv' := [(4, .int v14), (0, .ref ffa), (1, .int j), (2, .int n), (3, .int x)]) hx hb dX7_alter_35 hl (by decide) rfl (fun ls hl => ?_)
          refine lv_aload_n hx hb dX7_alter_37 rfl (lv_at hl 1 rfl) ?_
          refine xget (ref := "FriezeFolk") (C := RX7) (T := TX7) (N := 9) (ci := 7) (v := .ref (ha 0)) hx hb hts inX7 hown hK hP 0 rfl rfl 0 (by decide) k1 rfl rfl dX7_alter_38 ?_
          refine xget (ref := "FriezeFolk$Hall") (C := RX0) (T := TX0) (N := 13) (ci := 0) (v := .ref (ha 1)) hx hb hts inX0 hown hK hP 1 rfl rfl 0 (by decide) k3 rfl rfl dX7_alter_41 ?_
          refine lv_iload_n hx hb dX7_alter_44 rfl (lv_at hl 2 rfl) ?_
          refine lv_iload_n hx hb dX7_alter_45 rfl (lv_at hl 4 rfl) ?_
          obtain ⟨f15, q15, h22⟩ := obn h21
          clear h21
          refine xast hx hb hK hP hD hS 2 rfl q15 dX7_alter_46 (wn := ((cF ffa (ha 0) r1 r2 r3 r4 r5 r6 r7 ff) ++ (cH ca ha (sA h 0 f15)))) rfl (fun H locs hP hD hS => ?_)
          refine lv_iload hx hb dX7_alter_47 (lv_at hl 0 rfl) ?_
          obtain rfl := Option.some.inj h22
          exact hret _ _ _ _ (vp_nar_int _) hP hD hS dX7_alter_49
    · skip
      replace h16 := (if_neg c3).symm.trans h16
      refine lv_iconst (v := (-1 : Int32)) hx hb dX7_alter_15 (by decide) ?_
      obtain rfl := Option.some.inj h16
      exact hret _ _ _ _ (vp_nar_int _) hP hD hS dX7_alter_16

def mX7_set (h : GS) (n : Int32) (x : Int32) : Option (Int32 × GS) :=
  if n = 0 then
    if x < (1 : Int32) then
      if n = (1 : Int32) then
        if x < 0 then
          if n = (2 : Int32) then
            if x < 0 then
              if n = (3 : Int32) then
                if x < 0 then
                  some ((-1 : Int32), h)
                else
                  if (12 : Int32) ≤ x then
                    some ((-1 : Int32), h)
                  else
                    some ((h.2 9), (sI h 9 x))
              else
                some ((-1 : Int32), h)
            else
              if (12 : Int32) ≤ x then
                if n = (3 : Int32) then
                  if x < 0 then
                    some ((-1 : Int32), h)
                  else
                    if (12 : Int32) ≤ x then
                      some ((-1 : Int32), h)
                    else
                      some ((h.2 9), (sI h 9 x))
                else
                  some ((-1 : Int32), h)
              else
                some ((h.2 8), (sI h 8 x))
          else
            if n = (3 : Int32) then
              if x < 0 then
                some ((-1 : Int32), h)
              else
                if (12 : Int32) ≤ x then
                  some ((-1 : Int32), h)
                else
                  some ((h.2 9), (sI h 9 x))
            else
              some ((-1 : Int32), h)
        else
          if (6 : Int32) ≤ x then
            if n = (2 : Int32) then
              if x < 0 then
                if n = (3 : Int32) then
                  if x < 0 then
                    some ((-1 : Int32), h)
                  else
                    if (12 : Int32) ≤ x then
                      some ((-1 : Int32), h)
                    else
                      some ((h.2 9), (sI h 9 x))
                else
                  some ((-1 : Int32), h)
              else
                if (12 : Int32) ≤ x then
                  if n = (3 : Int32) then
                    if x < 0 then
                      some ((-1 : Int32), h)
                    else
                      if (12 : Int32) ≤ x then
                        some ((-1 : Int32), h)
                      else
                        some ((h.2 9), (sI h 9 x))
                  else
                    some ((-1 : Int32), h)
                else
                  some ((h.2 8), (sI h 8 x))
            else
              if n = (3 : Int32) then
                if x < 0 then
                  some ((-1 : Int32), h)
                else
                  if (12 : Int32) ≤ x then
                    some ((-1 : Int32), h)
                  else
                    some ((h.2 9), (sI h 9 x))
              else
                some ((-1 : Int32), h)
          else
            some ((h.2 7), (sI h 7 x))
      else
        if n = (2 : Int32) then
          if x < 0 then
            if n = (3 : Int32) then
              if x < 0 then
                some ((-1 : Int32), h)
              else
                if (12 : Int32) ≤ x then
                  some ((-1 : Int32), h)
                else
                  some ((h.2 9), (sI h 9 x))
            else
              some ((-1 : Int32), h)
          else
            if (12 : Int32) ≤ x then
              if n = (3 : Int32) then
                if x < 0 then
                  some ((-1 : Int32), h)
                else
                  if (12 : Int32) ≤ x then
                    some ((-1 : Int32), h)
                  else
                    some ((h.2 9), (sI h 9 x))
              else
                some ((-1 : Int32), h)
            else
              some ((h.2 8), (sI h 8 x))
        else
          if n = (3 : Int32) then
            if x < 0 then
              some ((-1 : Int32), h)
            else
              if (12 : Int32) ≤ x then
                some ((-1 : Int32), h)
              else
                some ((h.2 9), (sI h 9 x))
          else
            some ((-1 : Int32), h)
    else
      if (12 : Int32) < x then
        if n = (1 : Int32) then
          if x < 0 then
            if n = (2 : Int32) then
              if x < 0 then
                if n = (3 : Int32) then
                  if x < 0 then
                    some ((-1 : Int32), h)
                  else
                    if (12 : Int32) ≤ x then
                      some ((-1 : Int32), h)
                    else
                      some ((h.2 9), (sI h 9 x))
                else
                  some ((-1 : Int32), h)
              else
                if (12 : Int32) ≤ x then
                  if n = (3 : Int32) then
                    if x < 0 then
                      some ((-1 : Int32), h)
                    else
                      if (12 : Int32) ≤ x then
                        some ((-1 : Int32), h)
                      else
                        some ((h.2 9), (sI h 9 x))
                  else
                    some ((-1 : Int32), h)
                else
                  some ((h.2 8), (sI h 8 x))
            else
              if n = (3 : Int32) then
                if x < 0 then
                  some ((-1 : Int32), h)
                else
                  if (12 : Int32) ≤ x then
                    some ((-1 : Int32), h)
                  else
                    some ((h.2 9), (sI h 9 x))
              else
                some ((-1 : Int32), h)
          else
            if (6 : Int32) ≤ x then
              if n = (2 : Int32) then
                if x < 0 then
                  if n = (3 : Int32) then
                    if x < 0 then
                      some ((-1 : Int32), h)
                    else
                      if (12 : Int32) ≤ x then
                        some ((-1 : Int32), h)
                      else
                        some ((h.2 9), (sI h 9 x))
                  else
                    some ((-1 : Int32), h)
                else
                  if (12 : Int32) ≤ x then
                    if n = (3 : Int32) then
                      if x < 0 then
                        some ((-1 : Int32), h)
                      else
                        if (12 : Int32) ≤ x then
                          some ((-1 : Int32), h)
                        else
                          some ((h.2 9), (sI h 9 x))
                    else
                      some ((-1 : Int32), h)
                  else
                    some ((h.2 8), (sI h 8 x))
              else
                if n = (3 : Int32) then
                  if x < 0 then
                    some ((-1 : Int32), h)
                  else
                    if (12 : Int32) ≤ x then
                      some ((-1 : Int32), h)
                    else
                      some ((h.2 9), (sI h 9 x))
                else
                  some ((-1 : Int32), h)
            else
              some ((h.2 7), (sI h 7 x))
        else
          if n = (2 : Int32) then
            if x < 0 then
              if n = (3 : Int32) then
                if x < 0 then
                  some ((-1 : Int32), h)
                else
                  if (12 : Int32) ≤ x then
                    some ((-1 : Int32), h)
                  else
                    some ((h.2 9), (sI h 9 x))
              else
                some ((-1 : Int32), h)
            else
              if (12 : Int32) ≤ x then
                if n = (3 : Int32) then
                  if x < 0 then
                    some ((-1 : Int32), h)
                  else
                    if (12 : Int32) ≤ x then
                      some ((-1 : Int32), h)
                    else
                      some ((h.2 9), (sI h 9 x))
                else
                  some ((-1 : Int32), h)
              else
                some ((h.2 8), (sI h 8 x))
          else
            if n = (3 : Int32) then
              if x < 0 then
                some ((-1 : Int32), h)
              else
                if (12 : Int32) ≤ x then
                  some ((-1 : Int32), h)
                else
                  some ((h.2 9), (sI h 9 x))
            else
              some ((-1 : Int32), h)
      else
        some ((h.2 6), (sI h 6 x))
  else
    if n = (1 : Int32) then
      if x < 0 then
        if n = (2 : Int32) then
          if x < 0 then
            if n = (3 : Int32) then
              if x < 0 then
                some ((-1 : Int32), h)
              else
                if (12 : Int32) ≤ x then
                  some ((-1 : Int32), h)
                else
                  some ((h.2 9), (sI h 9 x))
            else
              some ((-1 : Int32), h)
          else
            if (12 : Int32) ≤ x then
              if n = (3 : Int32) then
                if x < 0 then
                  some ((-1 : Int32), h)
                else
                  if (12 : Int32) ≤ x then
                    some ((-1 : Int32), h)
                  else
                    some ((h.2 9), (sI h 9 x))
              else
                some ((-1 : Int32), h)
            else
              some ((h.2 8), (sI h 8 x))
        else
          if n = (3 : Int32) then
            if x < 0 then
              some ((-1 : Int32), h)
            else
              if (12 : Int32) ≤ x then
                some ((-1 : Int32), h)
              else
                some ((h.2 9), (sI h 9 x))
          else
            some ((-1 : Int32), h)
      else
        if (6 : Int32) ≤ x then
          if n = (2 : Int32) then
            if x < 0 then
              if n = (3 : Int32) then
                if x < 0 then
                  some ((-1 : Int32), h)
                else
                  if (12 : Int32) ≤ x then
                    some ((-1 : Int32), h)
                  else
                    some ((h.2 9), (sI h 9 x))
              else
                some ((-1 : Int32), h)
            else
              if (12 : Int32) ≤ x then
                if n = (3 : Int32) then
                  if x < 0 then
                    some ((-1 : Int32), h)
                  else
                    if (12 : Int32) ≤ x then
                      some ((-1 : Int32), h)
                    else
                      some ((h.2 9), (sI h 9 x))
                else
                  some ((-1 : Int32), h)
              else
                some ((h.2 8), (sI h 8 x))
          else
            if n = (3 : Int32) then
              if x < 0 then
                some ((-1 : Int32), h)
              else
                if (12 : Int32) ≤ x then
                  some ((-1 : Int32), h)
                else
                  some ((h.2 9), (sI h 9 x))
            else
              some ((-1 : Int32), h)
        else
          some ((h.2 7), (sI h 7 x))
    else
      if n = (2 : Int32) then
        if x < 0 then
          if n = (3 : Int32) then
            if x < 0 then
              some ((-1 : Int32), h)
            else
              if (12 : Int32) ≤ x then
                some ((-1 : Int32), h)
              else
                some ((h.2 9), (sI h 9 x))
          else
            some ((-1 : Int32), h)
        else
          if (12 : Int32) ≤ x then
            if n = (3 : Int32) then
              if x < 0 then
                some ((-1 : Int32), h)
              else
                if (12 : Int32) ≤ x then
                  some ((-1 : Int32), h)
                else
                  some ((h.2 9), (sI h 9 x))
            else
              some ((-1 : Int32), h)
          else
            some ((h.2 8), (sI h 8 x))
      else
        if n = (3 : Int32) then
          if x < 0 then
            some ((-1 : Int32), h)
          else
            if (12 : Int32) ≤ x then
              some ((-1 : Int32), h)
            else
              some ((h.2 9), (sI h 9 x))
        else
          some ((-1 : Int32), h)
abbrev rmX7_set : Room := { frames := 0, cells := 0, slots := 0, locals := 0 }
set_option maxHeartbeats 4000000 in
set_option maxRecDepth 100000 in
theorem k_X7_set (l : Launch) (D : va_G) (ca : Nat → ClassId) (ffa : Nat) (r1 r2 r3 r4 r5 r6 r7 : Nat) (ha : Nat → Nat) (ff : Int32) (h : GS) (n : Int32) (x : Int32) (o : Int32 × GS) (hm : mX7_set h n x = some o) : KI l yX7_set wsX7_set rmX7_set D ca [.ref ffa, .int n, .int x] ((cF ffa (ha 0) r1 r2 r3 r4 r5 r6 r7 ff) ++ (cH ca ha h)) ((cF ffa (ha 0) r1 r2 r3 r4 r5 r6 r7 ff) ++ (cH ca ha o.2)) o.1 := by
  refine KI.of (cc := cX7_set) (n := 4) (plainFor_of_name (by decide)) rfl (Nat.le_of_ble_eq_true rfl) ?_
  intro p e s m below meth c A Z hx hb hml hts hown hA hK hP hD hS hret ls hl
  have hown : s.vm.findClass RX7 = some m.cls := hown
  have hl : lv_has ls 4 [(0, .ref ffa), (1, .int n), (2, .int x)] := hl
  have inX0 : ∀ w ∈ wsX00, w ∈ wsX7_set := by decide +kernel
  have inX7 : ∀ w ∈ wsX70, w ∈ wsX7_set := by decide +kernel
  have k1 := hts (.fieldLink RX7 10 "FriezeFolk" "hall" "LFriezeFolk$Hall;") (by decide +kernel)
  have k2 := hts (.fieldLink RX7 105 "FriezeFolk$Hall" "reach" "I") (by decide +kernel)
  have k3 := hts (.fieldLink RX7 102 "FriezeFolk$Hall" "window" "I") (by decide +kernel)
  have k4 := hts (.fieldLink RX7 99 "FriezeFolk$Hall" "shift" "I") (by decide +kernel)
  have k5 := hts (.fieldLink RX7 96 "FriezeFolk$Hall" "wide" "I") (by decide +kernel)
  unfold mX7_set at hm
  refine lv_iconst (v := (-1 : Int32)) hx hb dX7_set_0 (by decide) ?_
  refine lv_istore_n (lv' := [(3, .int (-1 : Int32)), (0, .ref ffa), (1, .int n), (2, .int x)]) hx hb dX7_set_1 rfl hl (by decide) rfl (fun ls hl => ?_)
  refine lv_iload_n hx hb dX7_set_2 rfl (lv_at hl 2 rfl) ?_
  refine lv_if_ne (tgt := 36) hx hb dX7_set_3 (by decide) (fun c1 => ?_) (fun c1 => ?_)
  · skip
    replace hm := (if_neg c1).symm.trans hm
    refine lv_iload_n hx hb dX7_set_36 rfl (lv_at hl 2 rfl) ?_
    refine lv_iconst (v := (1 : Int32)) hx hb dX7_set_37 (by decide) ?_
    refine lv_icmp_ne (tgt := 70) hx hb dX7_set_38 (by decide) (fun c2 => ?_) (fun c2 => ?_)
    · skip
      replace hm := (if_neg c2).symm.trans hm
      refine lv_iload_n hx hb dX7_set_70 rfl (lv_at hl 2 rfl) ?_
      refine lv_iconst (v := (2 : Int32)) hx hb dX7_set_71 (by decide) ?_
      refine lv_icmp_ne (tgt := 104) hx hb dX7_set_72 (by decide) (fun c3 => ?_) (fun c3 => ?_)
      · skip
        replace hm := (if_neg c3).symm.trans hm
        refine lv_iload_n hx hb dX7_set_104 rfl (lv_at hl 2 rfl) ?_
        refine lv_iconst (v := (3 : Int32)) hx hb dX7_set_105 (by decide) ?_
        refine lv_icmp_ne (tgt := 135) hx hb dX7_set_106 (by decide) (fun c4 => ?_) (fun c4 => ?_)
        · skip
          replace hm := (if_neg c4).symm.trans hm
          refine lv_iload_n hx hb dX7_set_135 rfl (lv_at hl 0 rfl) ?_
          obtain rfl := Option.some.inj hm
          exact hret _ _ _ _ (vp_nar_int _) hP hD hS dX7_set_136
        · skip
          replace hm := (if_pos c4).symm.trans hm
          refine lv_iload_n hx hb dX7_set_109 rfl (lv_at hl 3 rfl) ?_
          refine lv_if_lt (tgt := 135) hx hb dX7_set_110 (by decide) (fun c5 => ?_) (fun c5 => ?_)
          · skip
            replace hm := (if_pos c5).symm.trans hm
            refine lv_iload_n hx hb dX7_set_135 rfl (lv_at hl 0 rfl) ?_
            obtain rfl := Option.some.inj hm
            exact hret _ _ _ _ (vp_nar_int _) hP hD hS dX7_set_136
          · skip
            replace hm := (if_neg c5).symm.trans hm
            refine lv_iload_n hx hb dX7_set_113 rfl (lv_at hl 3 rfl) ?_
            refine lv_bipush (v := (12 : Int32)) hx hb dX7_set_114 (by decide) ?_
            refine lv_icmp_ge (tgt := 135) hx hb dX7_set_116 (by decide) (fun c6 => ?_) (fun c6 => ?_)
            · skip
              replace hm := (if_pos c6).symm.trans hm
              refine lv_iload_n hx hb dX7_set_135 rfl (lv_at hl 0 rfl) ?_
              obtain rfl := Option.some.inj hm
              exact hret _ _ _ _ (vp_nar_int _) hP hD hS dX7_set_136
            · skip
              replace hm := (if_neg c6).symm.trans hm
              refine lv_aload_n hx hb dX7_set_119 rfl (lv_at hl 1 rfl) ?_
              refine xget (ref := "FriezeFolk") (C := RX7) (T := TX7) (N := 9) (ci := 7) (v := .ref (ha 0)) hx hb hts inX7 hown hK hP 0 rfl rfl 0 (by decide) k1 rfl rfl dX7_set_120 ?_
              refine xget (ref := "FriezeFolk$Hall") (C := RX0) (T := TX0) (N := 13) (ci := 0) (v := .int (h.2 9)) hx hb hts inX0 hown hK hP 1 rfl rfl 9 (by decide) k2 rfl rfl dX7_set_123 ?_
              refine lv_istore_n (lv' := [(3, .int (h.2 9)), (0, .ref ffa), (1, .int n), (2, .int x)]) hx hb dX7_set_126 rfl hl (by decide) rfl (fun ls hl => ?_)
              refine lv_aload_n hx hb dX7_set_127 rfl (lv_at hl 1 rfl) ?_
              refine xget (ref := "FriezeFolk") (C := RX7) (T := TX7) (N := 9) (ci := 7) (v := .ref (ha 0)) hx hb hts inX7 hown hK hP 0 rfl rfl 0 (by decide) k1 rfl rfl dX7_set_128 ?_
              refine lv_iload_n hx hb dX7_set_131 rfl (lv_at hl 3 rfl) ?_
              refine xput (ref := "FriezeFolk$Hall") (C := RX0) (T := TX0) (N := 13) (ci := 0) (v := .int x) (ty := .int) hx hb hts inX0 tyX0 tyX0_ok nmX0 hown hK hP hD hS 1 rfl rfl 9 (by decide) k2 rfl rfl (by decide +kernel) rfl rfl (Nat.le_of_ble_eq_true rfl) dX7_set_132 (wn := ((cF ffa (ha 0) r1 r2 r3 r4 r5 r6 r7 ff) ++ (cH ca ha (sI h 9 x)))) rfl (fun H locs hP hD hS => ?_)
              refine lv_iload_n hx hb dX7_set_135 rfl (lv_at hl 0 rfl) ?_
              obtain rfl := Option.some.inj hm
              exact hret _ _ _ _ (vp_nar_int _) hP hD hS dX7_set_136
      · skip
        replace hm := (if_pos c3).symm.trans hm
        refine lv_iload_n hx hb dX7_set_75 rfl (lv_at hl 3 rfl) ?_
        refine lv_if_lt (tgt := 104) hx hb dX7_set_76 (by decide) (fun c7 => ?_) (fun c7 => ?_)
        · skip
          replace hm := (if_pos c7).symm.trans hm
          refine lv_iload_n hx hb dX7_set_104 rfl (lv_at hl 2 rfl) ?_
          refine lv_iconst (v := (3 : Int32)) hx hb dX7_set_105 (by decide) ?_
          refine lv_icmp_ne (tgt := 135) hx hb dX7_set_106 (by decide) (fun c8 => ?_) (fun c8 => ?_)
          · skip
            replace hm := (if_neg c8).symm.trans hm
            refine lv_iload_n hx hb dX7_set_135 rfl (lv_at hl 0 rfl) ?_
            obtain rfl := Option.some.inj hm
            exact hret _ _ _ _ (vp_nar_int _) hP hD hS dX7_set_136
          · skip
            replace hm := (if_pos c8).symm.trans hm
            refine lv_iload_n hx hb dX7_set_109 rfl (lv_at hl 3 rfl) ?_
            refine lv_if_lt (tgt := 135) hx hb dX7_set_110 (by decide) (fun c9 => ?_) (fun c9 => ?_)
            · skip
              replace hm := (if_pos c9).symm.trans hm
              refine lv_iload_n hx hb dX7_set_135 rfl (lv_at hl 0 rfl) ?_
              obtain rfl := Option.some.inj hm
              exact hret _ _ _ _ (vp_nar_int _) hP hD hS dX7_set_136
            · skip
              replace hm := (if_neg c9).symm.trans hm
              refine lv_iload_n hx hb dX7_set_113 rfl (lv_at hl 3 rfl) ?_
              refine lv_bipush (v := (12 : Int32)) hx hb dX7_set_114 (by decide) ?_
              refine lv_icmp_ge (tgt := 135) hx hb dX7_set_116 (by decide) (fun c10 => ?_) (fun c10 => ?_)
              · skip
                replace hm := (if_pos c10).symm.trans hm
                refine lv_iload_n hx hb dX7_set_135 rfl (lv_at hl 0 rfl) ?_
                obtain rfl := Option.some.inj hm
                exact hret _ _ _ _ (vp_nar_int _) hP hD hS dX7_set_136
              · skip
                replace hm := (if_neg c10).symm.trans hm
                refine lv_aload_n hx hb dX7_set_119 rfl (lv_at hl 1 rfl) ?_
                refine xget (ref := "FriezeFolk") (C := RX7) (T := TX7) (N := 9) (ci := 7) (v := .ref (ha 0)) hx hb hts inX7 hown hK hP 0 rfl rfl 0 (by decide) k1 rfl rfl dX7_set_120 ?_
                refine xget (ref := "FriezeFolk$Hall") (C := RX0) (T := TX0) (N := 13) (ci := 0) (v := .int (h.2 9)) hx hb hts inX0 hown hK hP 1 rfl rfl 9 (by decide) k2 rfl rfl dX7_set_123 ?_
                refine lv_istore_n (lv' := [(3, .int (h.2 9)), (0, .ref ffa), (1, .int n), (2, .int x)]) hx hb dX7_set_126 rfl hl (by decide) rfl (fun ls hl => ?_)
                refine lv_aload_n hx hb dX7_set_127 rfl (lv_at hl 1 rfl) ?_
                refine xget (ref := "FriezeFolk") (C := RX7) (T := TX7) (N := 9) (ci := 7) (v := .ref (ha 0)) hx hb hts inX7 hown hK hP 0 rfl rfl 0 (by decide) k1 rfl rfl dX7_set_128 ?_
                refine lv_iload_n hx hb dX7_set_131 rfl (lv_at hl 3 rfl) ?_
                refine xput (ref := "FriezeFolk$Hall") (C := RX0) (T := TX0) (N := 13) (ci := 0) (v := .int x) (ty := .int) hx hb hts inX0 tyX0 tyX0_ok nmX0 hown hK hP hD hS 1 rfl rfl 9 (by decide) k2 rfl rfl (by decide +kernel) rfl rfl (Nat.le_of_ble_eq_true rfl) dX7_set_132 (wn := ((cF ffa (ha 0) r1 r2 r3 r4 r5 r6 r7 ff) ++ (cH ca ha (sI h 9 x)))) rfl (fun H locs hP hD hS => ?_)
                refine lv_iload_n hx hb dX7_set_135 rfl (lv_at hl 0 rfl) ?_
                obtain rfl := Option.some.inj hm
                exact hret _ _ _ _ (vp_nar_int _) hP hD hS dX7_set_136
        · skip
          replace hm := (if_neg c7).symm.trans hm
          refine lv_iload_n hx hb dX7_set_79 rfl (lv_at hl 3 rfl) ?_
          refine lv_bipush (v := (12 : Int32)) hx hb dX7_set_80 (by decide) ?_
          refine lv_icmp_ge (tgt := 104) hx hb dX7_set_82 (by decide) (fun c11 => ?_) (fun c11 => ?_)
          · skip
            replace hm := (if_pos c11).symm.trans hm
            refine lv_iload_n hx hb dX7_set_104 rfl (lv_at hl 2 rfl) ?_
            refine lv_iconst (v := (3 : Int32)) hx hb dX7_set_105 (by decide) ?_
            refine lv_icmp_ne (tgt := 135) hx hb dX7_set_106 (by decide) (fun c12 => ?_) (fun c12 => ?_)
            · skip
              replace hm := (if_neg c12).symm.trans hm
              refine lv_iload_n hx hb dX7_set_135 rfl (lv_at hl 0 rfl) ?_
              obtain rfl := Option.some.inj hm
              exact hret _ _ _ _ (vp_nar_int _) hP hD hS dX7_set_136
            · skip
              replace hm := (if_pos c12).symm.trans hm
              refine lv_iload_n hx hb dX7_set_109 rfl (lv_at hl 3 rfl) ?_
              refine lv_if_lt (tgt := 135) hx hb dX7_set_110 (by decide) (fun c13 => ?_) (fun c13 => ?_)
              · skip
                replace hm := (if_pos c13).symm.trans hm
                refine lv_iload_n hx hb dX7_set_135 rfl (lv_at hl 0 rfl) ?_
                obtain rfl := Option.some.inj hm
                exact hret _ _ _ _ (vp_nar_int _) hP hD hS dX7_set_136
              · skip
                replace hm := (if_neg c13).symm.trans hm
                refine lv_iload_n hx hb dX7_set_113 rfl (lv_at hl 3 rfl) ?_
                refine lv_bipush (v := (12 : Int32)) hx hb dX7_set_114 (by decide) ?_
                refine lv_icmp_ge (tgt := 135) hx hb dX7_set_116 (by decide) (fun c14 => ?_) (fun c14 => ?_)
                · skip
                  replace hm := (if_pos c14).symm.trans hm
                  refine lv_iload_n hx hb dX7_set_135 rfl (lv_at hl 0 rfl) ?_
                  obtain rfl := Option.some.inj hm
                  exact hret _ _ _ _ (vp_nar_int _) hP hD hS dX7_set_136
                · skip
                  replace hm := (if_neg c14).symm.trans hm
                  refine lv_aload_n hx hb dX7_set_119 rfl (lv_at hl 1 rfl) ?_
                  refine xget (ref := "FriezeFolk") (C := RX7) (T := TX7) (N := 9) (ci := 7) (v := .ref (ha 0)) hx hb hts inX7 hown hK hP 0 rfl rfl 0 (by decide) k1 rfl rfl dX7_set_120 ?_
                  refine xget (ref := "FriezeFolk$Hall") (C := RX0) (T := TX0) (N := 13) (ci := 0) (v := .int (h.2 9)) hx hb hts inX0 hown hK hP 1 rfl rfl 9 (by decide) k2 rfl rfl dX7_set_123 ?_
                  refine lv_istore_n (lv' := [(3, .int (h.2 9)), (0, .ref ffa), (1, .int n), (2, .int x)]) hx hb dX7_set_126 rfl hl (by decide) rfl (fun ls hl => ?_)
                  refine lv_aload_n hx hb dX7_set_127 rfl (lv_at hl 1 rfl) ?_
                  refine xget (ref := "FriezeFolk") (C := RX7) (T := TX7) (N := 9) (ci := 7) (v := .ref (ha 0)) hx hb hts inX7 hown hK hP 0 rfl rfl 0 (by decide) k1 rfl rfl dX7_set_128 ?_
                  refine lv_iload_n hx hb dX7_set_131 rfl (lv_at hl 3 rfl) ?_
                  refine xput (ref := "FriezeFolk$Hall") (C := RX0) (T := TX0) (N := 13) (ci := 0) (v := .int x) (ty := .int) hx hb hts inX0 tyX0 tyX0_ok nmX0 hown hK hP hD hS 1 rfl rfl 9 (by decide) k2 rfl rfl (by decide +kernel) rfl rfl (Nat.le_of_ble_eq_true rfl) dX7_set_132 (wn := ((cF ffa (ha 0) r1 r2 r3 r4 r5 r6 r7 ff) ++ (cH ca ha (sI h 9 x)))) rfl (fun H locs hP hD hS => ?_)
                  refine lv_iload_n hx hb dX7_set_135 rfl (lv_at hl 0 rfl) ?_
                  obtain rfl := Option.some.inj hm
                  exact hret _ _ _ _ (vp_nar_int _) hP hD hS dX7_set_136
          · skip
            replace hm := (if_neg c11).symm.trans hm
            refine lv_aload_n hx hb dX7_set_85 rfl (lv_at hl 1 rfl) ?_
            refine xget (ref := "FriezeFolk") (C := RX7) (T := TX7) (N := 9) (ci := 7) (v := .ref (ha 0)) hx hb hts inX7 hown hK hP 0 rfl rfl 0 (by decide) k1 rfl rfl dX7_set_86 ?_
            refine xget (ref := "FriezeFolk$Hall") (C := RX0) (T := TX0) (N := 13) (ci := 0) (v := .int (h.2 8)) hx hb hts inX0 hown hK hP 1 rfl rfl 8 (by decide) k3 rfl rfl dX7_set_89 ?_
            refine lv_istore_n (lv' := [(3, .int (h.2 8)), (0, .ref ffa), (1, .int n), (2, .int x)]) hx hb dX7_set_92 rfl hl (by decide) rfl (fun ls hl => ?_)
            refine lv_aload_n hx hb dX7_set_93 rfl (lv_at hl 1 rfl) ?_
            refine xget (ref := "FriezeFolk") (C := RX7) (T := TX7) (N := 9) (ci := 7) (v := .ref (ha 0)) hx hb hts inX7 hown hK hP 0 rfl rfl 0 (by decide) k1 rfl rfl dX7_set_94 ?_
            refine lv_iload_n hx hb dX7_set_97 rfl (lv_at hl 3 rfl) ?_
            refine xput (ref := "FriezeFolk$Hall") (C := RX0) (T := TX0) (N := 13) (ci := 0) (v := .int x) (ty := .int) hx hb hts inX0 tyX0 tyX0_ok nmX0 hown hK hP hD hS 1 rfl rfl 8 (by decide) k3 rfl rfl (by decide +kernel) rfl rfl (Nat.le_of_ble_eq_true rfl) dX7_set_98 (wn := ((cF ffa (ha 0) r1 r2 r3 r4 r5 r6 r7 ff) ++ (cH ca ha (sI h 8 x)))) rfl (fun H locs hP hD hS => ?_)
            refine lv_goto (tgt := 135) hx hb dX7_set_101 (by decide) ?_
            refine lv_iload_n hx hb dX7_set_135 rfl (lv_at hl 0 rfl) ?_
            obtain rfl := Option.some.inj hm
            exact hret _ _ _ _ (vp_nar_int _) hP hD hS dX7_set_136
    · skip
      replace hm := (if_pos c2).symm.trans hm
      refine lv_iload_n hx hb dX7_set_41 rfl (lv_at hl 3 rfl) ?_
      refine lv_if_lt (tgt := 70) hx hb dX7_set_42 (by decide) (fun c15 => ?_) (fun c15 => ?_)
      · skip
        replace hm := (if_pos c15).symm.trans hm
        refine lv_iload_n hx hb dX7_set_70 rfl (lv_at hl 2 rfl) ?_
        refine lv_iconst (v := (2 : Int32)) hx hb dX7_set_71 (by decide) ?_
        refine lv_icmp_ne (tgt := 104) hx hb dX7_set_72 (by decide) (fun c16 => ?_) (fun c16 => ?_)
        · skip
          replace hm := (if_neg c16).symm.trans hm
          refine lv_iload_n hx hb dX7_set_104 rfl (lv_at hl 2 rfl) ?_
          refine lv_iconst (v := (3 : Int32)) hx hb dX7_set_105 (by decide) ?_
          refine lv_icmp_ne (tgt := 135) hx hb dX7_set_106 (by decide) (fun c17 => ?_) (fun c17 => ?_)
          · skip
            replace hm := (if_neg c17).symm.trans hm
            refine lv_iload_n hx hb dX7_set_135 rfl (lv_at hl 0 rfl) ?_
            obtain rfl := Option.some.inj hm
            exact hret _ _ _ _ (vp_nar_int _) hP hD hS dX7_set_136
          · skip
            replace hm := (if_pos c17).symm.trans hm
            refine lv_iload_n hx hb dX7_set_109 rfl (lv_at hl 3 rfl) ?_
            refine lv_if_lt (tgt := 135) hx hb dX7_set_110 (by decide) (fun c18 => ?_) (fun c18 => ?_)
            · skip
              replace hm := (if_pos c18).symm.trans hm
              refine lv_iload_n hx hb dX7_set_135 rfl (lv_at hl 0 rfl) ?_
              obtain rfl := Option.some.inj hm
              exact hret _ _ _ _ (vp_nar_int _) hP hD hS dX7_set_136
            · skip
              replace hm := (if_neg c18).symm.trans hm
              refine lv_iload_n hx hb dX7_set_113 rfl (lv_at hl 3 rfl) ?_
              refine lv_bipush (v := (12 : Int32)) hx hb dX7_set_114 (by decide) ?_
              refine lv_icmp_ge (tgt := 135) hx hb dX7_set_116 (by decide) (fun c19 => ?_) (fun c19 => ?_)
              · skip
                replace hm := (if_pos c19).symm.trans hm
                refine lv_iload_n hx hb dX7_set_135 rfl (lv_at hl 0 rfl) ?_
                obtain rfl := Option.some.inj hm
                exact hret _ _ _ _ (vp_nar_int _) hP hD hS dX7_set_136
              · skip
                replace hm := (if_neg c19).symm.trans hm
                refine lv_aload_n hx hb dX7_set_119 rfl (lv_at hl 1 rfl) ?_
                refine xget (ref := "FriezeFolk") (C := RX7) (T := TX7) (N := 9) (ci := 7) (v := .ref (ha 0)) hx hb hts inX7 hown hK hP 0 rfl rfl 0 (by decide) k1 rfl rfl dX7_set_120 ?_
                refine xget (ref := "FriezeFolk$Hall") (C := RX0) (T := TX0) (N := 13) (ci := 0) (v := .int (h.2 9)) hx hb hts inX0 hown hK hP 1 rfl rfl 9 (by decide) k2 rfl rfl dX7_set_123 ?_
                refine lv_istore_n (lv' := [(3, .int (h.2 9)), (0, .ref ffa), (1, .int n), (2, .int x)]) hx hb dX7_set_126 rfl hl (by decide) rfl (fun ls hl => ?_)
                refine lv_aload_n hx hb dX7_set_127 rfl (lv_at hl 1 rfl) ?_
                refine xget (ref := "FriezeFolk") (C := RX7) (T := TX7) (N := 9) (ci := 7) (v := .ref (ha 0)) hx hb hts inX7 hown hK hP 0 rfl rfl 0 (by decide) k1 rfl rfl dX7_set_128 ?_
                refine lv_iload_n hx hb dX7_set_131 rfl (lv_at hl 3 rfl) ?_
                refine xput (ref := "FriezeFolk$Hall") (C := RX0) (T := TX0) (N := 13) (ci := 0) (v := .int x) (ty := .int) hx hb hts inX0 tyX0 tyX0_ok nmX0 hown hK hP hD hS 1 rfl rfl 9 (by decide) k2 rfl rfl (by decide +kernel) rfl rfl (Nat.le_of_ble_eq_true rfl) dX7_set_132 (wn := ((cF ffa (ha 0) r1 r2 r3 r4 r5 r6 r7 ff) ++ (cH ca ha (sI h 9 x)))) rfl (fun H locs hP hD hS => ?_)
                refine lv_iload_n hx hb dX7_set_135 rfl (lv_at hl 0 rfl) ?_
                obtain rfl := Option.some.inj hm
                exact hret _ _ _ _ (vp_nar_int _) hP hD hS dX7_set_136
        · skip
          replace hm := (if_pos c16).symm.trans hm
          refine lv_iload_n hx hb dX7_set_75 rfl (lv_at hl 3 rfl) ?_
          refine lv_if_lt (tgt := 104) hx hb dX7_set_76 (by decide) (fun c20 => ?_) (fun c20 => ?_)
          · skip
            replace hm := (if_pos c20).symm.trans hm
            refine lv_iload_n hx hb dX7_set_104 rfl (lv_at hl 2 rfl) ?_
            refine lv_iconst (v := (3 : Int32)) hx hb dX7_set_105 (by decide) ?_
            refine lv_icmp_ne (tgt := 135) hx hb dX7_set_106 (by decide) (fun c21 => ?_) (fun c21 => ?_)
            · skip
              replace hm := (if_neg c21).symm.trans hm
              refine lv_iload_n hx hb dX7_set_135 rfl (lv_at hl 0 rfl) ?_
              obtain rfl := Option.some.inj hm
              exact hret _ _ _ _ (vp_nar_int _) hP hD hS dX7_set_136
            · skip
              replace hm := (if_pos c21).symm.trans hm
              refine lv_iload_n hx hb dX7_set_109 rfl (lv_at hl 3 rfl) ?_
              refine lv_if_lt (tgt := 135) hx hb dX7_set_110 (by decide) (fun c22 => ?_) (fun c22 => ?_)
              · skip
                replace hm := (if_pos c22).symm.trans hm
                refine lv_iload_n hx hb dX7_set_135 rfl (lv_at hl 0 rfl) ?_
                obtain rfl := Option.some.inj hm
                exact hret _ _ _ _ (vp_nar_int _) hP hD hS dX7_set_136
              · skip
                replace hm := (if_neg c22).symm.trans hm
                refine lv_iload_n hx hb dX7_set_113 rfl (lv_at hl 3 rfl) ?_
                refine lv_bipush (v := (12 : Int32)) hx hb dX7_set_114 (by decide) ?_
                refine lv_icmp_ge (tgt := 135) hx hb dX7_set_116 (by decide) (fun c23 => ?_) (fun c23 => ?_)
                · skip
                  replace hm := (if_pos c23).symm.trans hm
                  refine lv_iload_n hx hb dX7_set_135 rfl (lv_at hl 0 rfl) ?_
                  obtain rfl := Option.some.inj hm
                  exact hret _ _ _ _ (vp_nar_int _) hP hD hS dX7_set_136
                · skip
                  replace hm := (if_neg c23).symm.trans hm
                  refine lv_aload_n hx hb dX7_set_119 rfl (lv_at hl 1 rfl) ?_
                  refine xget (ref := "FriezeFolk") (C := RX7) (T := TX7) (N := 9) (ci := 7) (v := .ref (ha 0)) hx hb hts inX7 hown hK hP 0 rfl rfl 0 (by decide) k1 rfl rfl dX7_set_120 ?_
                  refine xget (ref := "FriezeFolk$Hall") (C := RX0) (T := TX0) (N := 13) (ci := 0) (v := .int (h.2 9)) hx hb hts inX0 hown hK hP 1 rfl rfl 9 (by decide) k2 rfl rfl dX7_set_123 ?_
                  refine lv_istore_n (lv' := [(3, .int (h.2 9)), (0, .ref ffa), (1, .int n), (2, .int x)]) hx hb dX7_set_126 rfl hl (by decide) rfl (fun ls hl => ?_)
                  refine lv_aload_n hx hb dX7_set_127 rfl (lv_at hl 1 rfl) ?_
                  refine xget (ref := "FriezeFolk") (C := RX7) (T := TX7) (N := 9) (ci := 7) (v := .ref (ha 0)) hx hb hts inX7 hown hK hP 0 rfl rfl 0 (by decide) k1 rfl rfl dX7_set_128 ?_
                  refine lv_iload_n hx hb dX7_set_131 rfl (lv_at hl 3 rfl) ?_
                  refine xput (ref := "FriezeFolk$Hall") (C := RX0) (T := TX0) (N := 13) (ci := 0) (v := .int x) (ty := .int) hx hb hts inX0 tyX0 tyX0_ok nmX0 hown hK hP hD hS 1 rfl rfl 9 (by decide) k2 rfl rfl (by decide +kernel) rfl rfl (Nat.le_of_ble_eq_true rfl) dX7_set_132 (wn := ((cF ffa (ha 0) r1 r2 r3 r4 r5 r6 r7 ff) ++ (cH ca ha (sI h 9 x)))) rfl (fun H locs hP hD hS => ?_)
                  refine lv_iload_n hx hb dX7_set_135 rfl (lv_at hl 0 rfl) ?_
                  obtain rfl := Option.some.inj hm
                  exact hret _ _ _ _ (vp_nar_int _) hP hD hS dX7_set_136
          · skip
            replace hm := (if_neg c20).symm.trans hm
            refine lv_iload_n hx hb dX7_set_79 rfl (lv_at hl 3 rfl) ?_
            refine lv_bipush (v := (12 : Int32)) hx hb dX7_set_80 (by decide) ?_
            refine lv_icmp_ge (tgt := 104) hx hb dX7_set_82 (by decide) (fun c24 => ?_) (fun c24 => ?_)
            · skip
              replace hm := (if_pos c24).symm.trans hm
              refine lv_iload_n hx hb dX7_set_104 rfl (lv_at hl 2 rfl) ?_
              refine lv_iconst (v := (3 : Int32)) hx hb dX7_set_105 (by decide) ?_
              refine lv_icmp_ne (tgt := 135) hx hb dX7_set_106 (by decide) (fun c25 => ?_) (fun c25 => ?_)
              · skip
                replace hm := (if_neg c25).symm.trans hm
                refine lv_iload_n hx hb dX7_set_135 rfl (lv_at hl 0 rfl) ?_
                obtain rfl := Option.some.inj hm
                exact hret _ _ _ _ (vp_nar_int _) hP hD hS dX7_set_136
              · skip
                replace hm := (if_pos c25).symm.trans hm
                refine lv_iload_n hx hb dX7_set_109 rfl (lv_at hl 3 rfl) ?_
                refine lv_if_lt (tgt := 135) hx hb dX7_set_110 (by decide) (fun c26 => ?_) (fun c26 => ?_)
                · skip
                  replace hm := (if_pos c26).symm.trans hm
                  refine lv_iload_n hx hb dX7_set_135 rfl (lv_at hl 0 rfl) ?_
                  obtain rfl := Option.some.inj hm
                  exact hret _ _ _ _ (vp_nar_int _) hP hD hS dX7_set_136
                · skip
                  replace hm := (if_neg c26).symm.trans hm
                  refine lv_iload_n hx hb dX7_set_113 rfl (lv_at hl 3 rfl) ?_
                  refine lv_bipush (v := (12 : Int32)) hx hb dX7_set_114 (by decide) ?_
                  refine lv_icmp_ge (tgt := 135) hx hb dX7_set_116 (by decide) (fun c27 => ?_) (fun c27 => ?_)
                  · skip
                    replace hm := (if_pos c27).symm.trans hm
                    refine lv_iload_n hx hb dX7_set_135 rfl (lv_at hl 0 rfl) ?_
                    obtain rfl := Option.some.inj hm
                    exact hret _ _ _ _ (vp_nar_int _) hP hD hS dX7_set_136
                  · skip
                    replace hm := (if_neg c27).symm.trans hm
                    refine lv_aload_n hx hb dX7_set_119 rfl (lv_at hl 1 rfl) ?_
                    refine xget (ref := "FriezeFolk") (C := RX7) (T := TX7) (N := 9) (ci := 7) (v := .ref (ha 0)) hx hb hts inX7 hown hK hP 0 rfl rfl 0 (by decide) k1 rfl rfl dX7_set_120 ?_
                    refine xget (ref := "FriezeFolk$Hall") (C := RX0) (T := TX0) (N := 13) (ci := 0) (v := .int (h.2 9)) hx hb hts inX0 hown hK hP 1 rfl rfl 9 (by decide) k2 rfl rfl dX7_set_123 ?_
                    refine lv_istore_n (lv' := [(3, .int (h.2 9)), (0, .ref ffa), (1, .int n), (2, .int x)]) hx hb dX7_set_126 rfl hl (by decide) rfl (fun ls hl => ?_)
                    refine lv_aload_n hx hb dX7_set_127 rfl (lv_at hl 1 rfl) ?_
                    refine xget (ref := "FriezeFolk") (C := RX7) (T := TX7) (N := 9) (ci := 7) (v := .ref (ha 0)) hx hb hts inX7 hown hK hP 0 rfl rfl 0 (by decide) k1 rfl rfl dX7_set_128 ?_
                    refine lv_iload_n hx hb dX7_set_131 rfl (lv_at hl 3 rfl) ?_
                    refine xput (ref := "FriezeFolk$Hall") (C := RX0) (T := TX0) (N := 13) (ci := 0) (v := .int x) (ty := .int) hx hb hts inX0 tyX0 tyX0_ok nmX0 hown hK hP hD hS 1 rfl rfl 9 (by decide) k2 rfl rfl (by decide +kernel) rfl rfl (Nat.le_of_ble_eq_true rfl) dX7_set_132 (wn := ((cF ffa (ha 0) r1 r2 r3 r4 r5 r6 r7 ff) ++ (cH ca ha (sI h 9 x)))) rfl (fun H locs hP hD hS => ?_)
                    refine lv_iload_n hx hb dX7_set_135 rfl (lv_at hl 0 rfl) ?_
                    obtain rfl := Option.some.inj hm
                    exact hret _ _ _ _ (vp_nar_int _) hP hD hS dX7_set_136
            · skip
              replace hm := (if_neg c24).symm.trans hm
              refine lv_aload_n hx hb dX7_set_85 rfl (lv_at hl 1 rfl) ?_
              refine xget (ref := "FriezeFolk") (C := RX7) (T := TX7) (N := 9) (ci := 7) (v := .ref (ha 0)) hx hb hts inX7 hown hK hP 0 rfl rfl 0 (by decide) k1 rfl rfl dX7_set_86 ?_
              refine xget (ref := "FriezeFolk$Hall") (C := RX0) (T := TX0) (N := 13) (ci := 0) (v := .int (h.2 8)) hx hb hts inX0 hown hK hP 1 rfl rfl 8 (by decide) k3 rfl rfl dX7_set_89 ?_
              refine lv_istore_n (lv' := [(3, .int (h.2 8)), (0, .ref ffa), (1, .int n), (2, .int x)]) hx hb dX7_set_92 rfl hl (by decide) rfl (fun ls hl => ?_)
              refine lv_aload_n hx hb dX7_set_93 rfl (lv_at hl 1 rfl) ?_
              refine xget (ref := "FriezeFolk") (C := RX7) (T := TX7) (N := 9) (ci := 7) (v := .ref (ha 0)) hx hb hts inX7 hown hK hP 0 rfl rfl 0 (by decide) k1 rfl rfl dX7_set_94 ?_
              refine lv_iload_n hx hb dX7_set_97 rfl (lv_at hl 3 rfl) ?_
              refine xput (ref := "FriezeFolk$Hall") (C := RX0) (T := TX0) (N := 13) (ci := 0) (v := .int x) (ty := .int) hx hb hts inX0 tyX0 tyX0_ok nmX0 hown hK hP hD hS 1 rfl rfl 8 (by decide) k3 rfl rfl (by decide +kernel) rfl rfl (Nat.le_of_ble_eq_true rfl) dX7_set_98 (wn := ((cF ffa (ha 0) r1 r2 r3 r4 r5 r6 r7 ff) ++ (cH ca ha (sI h 8 x)))) rfl (fun H locs hP hD hS => ?_)
              refine lv_goto (tgt := 135) hx hb dX7_set_101 (by decide) ?_
              refine lv_iload_n hx hb dX7_set_135 rfl (lv_at hl 0 rfl) ?_
              obtain rfl := Option.some.inj hm
              exact hret _ _ _ _ (vp_nar_int _) hP hD hS dX7_set_136
      · skip
        replace hm := (if_neg c15).symm.trans hm
        refine lv_iload_n hx hb dX7_set_45 rfl (lv_at hl 3 rfl) ?_
        refine lv_bipush (v := (6 : Int32)) hx hb dX7_set_46 (by decide) ?_
        refine lv_icmp_ge (tgt := 70) hx hb dX7_set_48 (by decide) (fun c28 => ?_) (fun c28 => ?_)
        · skip
          replace hm := (if_pos c28).symm.trans hm
          refine lv_iload_n hx hb dX7_set_70 rfl (lv_at hl 2 rfl) ?_
          refine lv_iconst (v := (2 : Int32)) hx hb dX7_set_71 (by decide) ?_
          refine lv_icmp_ne (tgt := 104) hx hb dX7_set_72 (by decide) (fun c29 => ?_) (fun c29 => ?_)
          · skip
            replace hm := (if_neg c29).symm.trans hm
            refine lv_iload_n hx hb dX7_set_104 rfl (lv_at hl 2 rfl) ?_
            refine lv_iconst (v := (3 : Int32)) hx hb dX7_set_105 (by decide) ?_
            refine lv_icmp_ne (tgt := 135) hx hb dX7_set_106 (by decide) (fun c30 => ?_) (fun c30 => ?_)
            · skip
              replace hm := (if_neg c30).symm.trans hm
              refine lv_iload_n hx hb dX7_set_135 rfl (lv_at hl 0 rfl) ?_
              obtain rfl := Option.some.inj hm
              exact hret _ _ _ _ (vp_nar_int _) hP hD hS dX7_set_136
            · skip
              replace hm := (if_pos c30).symm.trans hm
              refine lv_iload_n hx hb dX7_set_109 rfl (lv_at hl 3 rfl) ?_
              refine lv_if_lt (tgt := 135) hx hb dX7_set_110 (by decide) (fun c31 => ?_) (fun c31 => ?_)
              · skip
                replace hm := (if_pos c31).symm.trans hm
                refine lv_iload_n hx hb dX7_set_135 rfl (lv_at hl 0 rfl) ?_
                obtain rfl := Option.some.inj hm
                exact hret _ _ _ _ (vp_nar_int _) hP hD hS dX7_set_136
              · skip
                replace hm := (if_neg c31).symm.trans hm
                refine lv_iload_n hx hb dX7_set_113 rfl (lv_at hl 3 rfl) ?_
                refine lv_bipush (v := (12 : Int32)) hx hb dX7_set_114 (by decide) ?_
                refine lv_icmp_ge (tgt := 135) hx hb dX7_set_116 (by decide) (fun c32 => ?_) (fun c32 => ?_)
                · skip
                  replace hm := (if_pos c32).symm.trans hm
                  refine lv_iload_n hx hb dX7_set_135 rfl (lv_at hl 0 rfl) ?_
                  obtain rfl := Option.some.inj hm
                  exact hret _ _ _ _ (vp_nar_int _) hP hD hS dX7_set_136
                · skip
                  replace hm := (if_neg c32).symm.trans hm
                  refine lv_aload_n hx hb dX7_set_119 rfl (lv_at hl 1 rfl) ?_
                  refine xget (ref := "FriezeFolk") (C := RX7) (T := TX7) (N := 9) (ci := 7) (v := .ref (ha 0)) hx hb hts inX7 hown hK hP 0 rfl rfl 0 (by decide) k1 rfl rfl dX7_set_120 ?_
                  refine xget (ref := "FriezeFolk$Hall") (C := RX0) (T := TX0) (N := 13) (ci := 0) (v := .int (h.2 9)) hx hb hts inX0 hown hK hP 1 rfl rfl 9 (by decide) k2 rfl rfl dX7_set_123 ?_
                  refine lv_istore_n (lv' := [(3, .int (h.2 9)), (0, .ref ffa), (1, .int n), (2, .int x)]) hx hb dX7_set_126 rfl hl (by decide) rfl (fun ls hl => ?_)
                  refine lv_aload_n hx hb dX7_set_127 rfl (lv_at hl 1 rfl) ?_
                  refine xget (ref := "FriezeFolk") (C := RX7) (T := TX7) (N := 9) (ci := 7) (v := .ref (ha 0)) hx hb hts inX7 hown hK hP 0 rfl rfl 0 (by decide) k1 rfl rfl dX7_set_128 ?_
                  refine lv_iload_n hx hb dX7_set_131 rfl (lv_at hl 3 rfl) ?_
                  refine xput (ref := "FriezeFolk$Hall") (C := RX0) (T := TX0) (N := 13) (ci := 0) (v := .int x) (ty := .int) hx hb hts inX0 tyX0 tyX0_ok nmX0 hown hK hP hD hS 1 rfl rfl 9 (by decide) k2 rfl rfl (by decide +kernel) rfl rfl (Nat.le_of_ble_eq_true rfl) dX7_set_132 (wn := ((cF ffa (ha 0) r1 r2 r3 r4 r5 r6 r7 ff) ++ (cH ca ha (sI h 9 x)))) rfl (fun H locs hP hD hS => ?_)
                  refine lv_iload_n hx hb dX7_set_135 rfl (lv_at hl 0 rfl) ?_
                  obtain rfl := Option.some.inj hm
                  exact hret _ _ _ _ (vp_nar_int _) hP hD hS dX7_set_136
          · skip
            replace hm := (if_pos c29).symm.trans hm
            refine lv_iload_n hx hb dX7_set_75 rfl (lv_at hl 3 rfl) ?_
            refine lv_if_lt (tgt := 104) hx hb dX7_set_76 (by decide) (fun c33 => ?_) (fun c33 => ?_)
            · skip
              replace hm := (if_pos c33).symm.trans hm
              refine lv_iload_n hx hb dX7_set_104 rfl (lv_at hl 2 rfl) ?_
              refine lv_iconst (v := (3 : Int32)) hx hb dX7_set_105 (by decide) ?_
              refine lv_icmp_ne (tgt := 135) hx hb dX7_set_106 (by decide) (fun c34 => ?_) (fun c34 => ?_)
              · skip
                replace hm := (if_neg c34).symm.trans hm
                refine lv_iload_n hx hb dX7_set_135 rfl (lv_at hl 0 rfl) ?_
                obtain rfl := Option.some.inj hm
                exact hret _ _ _ _ (vp_nar_int _) hP hD hS dX7_set_136
              · skip
                replace hm := (if_pos c34).symm.trans hm
                refine lv_iload_n hx hb dX7_set_109 rfl (lv_at hl 3 rfl) ?_
                refine lv_if_lt (tgt := 135) hx hb dX7_set_110 (by decide) (fun c35 => ?_) (fun c35 => ?_)
                · skip
                  replace hm := (if_pos c35).symm.trans hm
                  refine lv_iload_n hx hb dX7_set_135 rfl (lv_at hl 0 rfl) ?_
                  obtain rfl := Option.some.inj hm
                  exact hret _ _ _ _ (vp_nar_int _) hP hD hS dX7_set_136
                · skip
                  replace hm := (if_neg c35).symm.trans hm
                  refine lv_iload_n hx hb dX7_set_113 rfl (lv_at hl 3 rfl) ?_
                  refine lv_bipush (v := (12 : Int32)) hx hb dX7_set_114 (by decide) ?_
                  refine lv_icmp_ge (tgt := 135) hx hb dX7_set_116 (by decide) (fun c36 => ?_) (fun c36 => ?_)
                  · skip
                    replace hm := (if_pos c36).symm.trans hm
                    refine lv_iload_n hx hb dX7_set_135 rfl (lv_at hl 0 rfl) ?_
                    obtain rfl := Option.some.inj hm
                    exact hret _ _ _ _ (vp_nar_int _) hP hD hS dX7_set_136
                  · skip
                    replace hm := (if_neg c36).symm.trans hm
                    refine lv_aload_n hx hb dX7_set_119 rfl (lv_at hl 1 rfl) ?_
                    refine xget (ref := "FriezeFolk") (C := RX7) (T := TX7) (N := 9) (ci := 7) (v := .ref (ha 0)) hx hb hts inX7 hown hK hP 0 rfl rfl 0 (by decide) k1 rfl rfl dX7_set_120 ?_
                    refine xget (ref := "FriezeFolk$Hall") (C := RX0) (T := TX0) (N := 13) (ci := 0) (v := .int (h.2 9)) hx hb hts inX0 hown hK hP 1 rfl rfl 9 (by decide) k2 rfl rfl dX7_set_123 ?_
                    refine lv_istore_n (lv' := [(3, .int (h.2 9)), (0, .ref ffa), (1, .int n), (2, .int x)]) hx hb dX7_set_126 rfl hl (by decide) rfl (fun ls hl => ?_)
                    refine lv_aload_n hx hb dX7_set_127 rfl (lv_at hl 1 rfl) ?_
                    refine xget (ref := "FriezeFolk") (C := RX7) (T := TX7) (N := 9) (ci := 7) (v := .ref (ha 0)) hx hb hts inX7 hown hK hP 0 rfl rfl 0 (by decide) k1 rfl rfl dX7_set_128 ?_
                    refine lv_iload_n hx hb dX7_set_131 rfl (lv_at hl 3 rfl) ?_
                    refine xput (ref := "FriezeFolk$Hall") (C := RX0) (T := TX0) (N := 13) (ci := 0) (v := .int x) (ty := .int) hx hb hts inX0 tyX0 tyX0_ok nmX0 hown hK hP hD hS 1 rfl rfl 9 (by decide) k2 rfl rfl (by decide +kernel) rfl rfl (Nat.le_of_ble_eq_true rfl) dX7_set_132 (wn := ((cF ffa (ha 0) r1 r2 r3 r4 r5 r6 r7 ff) ++ (cH ca ha (sI h 9 x)))) rfl (fun H locs hP hD hS => ?_)
                    refine lv_iload_n hx hb dX7_set_135 rfl (lv_at hl 0 rfl) ?_
                    obtain rfl := Option.some.inj hm
                    exact hret _ _ _ _ (vp_nar_int _) hP hD hS dX7_set_136
            · skip
              replace hm := (if_neg c33).symm.trans hm
              refine lv_iload_n hx hb dX7_set_79 rfl (lv_at hl 3 rfl) ?_
              refine lv_bipush (v := (12 : Int32)) hx hb dX7_set_80 (by decide) ?_
              refine lv_icmp_ge (tgt := 104) hx hb dX7_set_82 (by decide) (fun c37 => ?_) (fun c37 => ?_)
              · skip
                replace hm := (if_pos c37).symm.trans hm
                refine lv_iload_n hx hb dX7_set_104 rfl (lv_at hl 2 rfl) ?_
                refine lv_iconst (v := (3 : Int32)) hx hb dX7_set_105 (by decide) ?_
                refine lv_icmp_ne (tgt := 135) hx hb dX7_set_106 (by decide) (fun c38 => ?_) (fun c38 => ?_)
                · skip
                  replace hm := (if_neg c38).symm.trans hm
                  refine lv_iload_n hx hb dX7_set_135 rfl (lv_at hl 0 rfl) ?_
                  obtain rfl := Option.some.inj hm
                  exact hret _ _ _ _ (vp_nar_int _) hP hD hS dX7_set_136
                · skip
                  replace hm := (if_pos c38).symm.trans hm
                  refine lv_iload_n hx hb dX7_set_109 rfl (lv_at hl 3 rfl) ?_
                  refine lv_if_lt (tgt := 135) hx hb dX7_set_110 (by decide) (fun c39 => ?_) (fun c39 => ?_)
                  · skip
                    replace hm := (if_pos c39).symm.trans hm
                    refine lv_iload_n hx hb dX7_set_135 rfl (lv_at hl 0 rfl) ?_
                    obtain rfl := Option.some.inj hm
                    exact hret _ _ _ _ (vp_nar_int _) hP hD hS dX7_set_136
                  · skip
                    replace hm := (if_neg c39).symm.trans hm
                    refine lv_iload_n hx hb dX7_set_113 rfl (lv_at hl 3 rfl) ?_
                    refine lv_bipush (v := (12 : Int32)) hx hb dX7_set_114 (by decide) ?_
                    refine lv_icmp_ge (tgt := 135) hx hb dX7_set_116 (by decide) (fun c40 => ?_) (fun c40 => ?_)
                    · skip
                      replace hm := (if_pos c40).symm.trans hm
                      refine lv_iload_n hx hb dX7_set_135 rfl (lv_at hl 0 rfl) ?_
                      obtain rfl := Option.some.inj hm
                      exact hret _ _ _ _ (vp_nar_int _) hP hD hS dX7_set_136
                    · skip
                      replace hm := (if_neg c40).symm.trans hm
                      refine lv_aload_n hx hb dX7_set_119 rfl (lv_at hl 1 rfl) ?_
                      refine xget (ref := "FriezeFolk") (C := RX7) (T := TX7) (N := 9) (ci := 7) (v := .ref (ha 0)) hx hb hts inX7 hown hK hP 0 rfl rfl 0 (by decide) k1 rfl rfl dX7_set_120 ?_
                      refine xget (ref := "FriezeFolk$Hall") (C := RX0) (T := TX0) (N := 13) (ci := 0) (v := .int (h.2 9)) hx hb hts inX0 hown hK hP 1 rfl rfl 9 (by decide) k2 rfl rfl dX7_set_123 ?_
                      refine lv_istore_n (lv' := [(3, .int (h.2 9)), (0, .ref ffa), (1, .int n), (2, .int x)]) hx hb dX7_set_126 rfl hl (by decide) rfl (fun ls hl => ?_)
                      refine lv_aload_n hx hb dX7_set_127 rfl (lv_at hl 1 rfl) ?_
                      refine xget (ref := "FriezeFolk") (C := RX7) (T := TX7) (N := 9) (ci := 7) (v := .ref (ha 0)) hx hb hts inX7 hown hK hP 0 rfl rfl 0 (by decide) k1 rfl rfl dX7_set_128 ?_
                      refine lv_iload_n hx hb dX7_set_131 rfl (lv_at hl 3 rfl) ?_
                      refine xput (ref := "FriezeFolk$Hall") (C := RX0) (T := TX0) (N := 13) (ci := 0) (v := .int x) (ty := .int) hx hb hts inX0 tyX0 tyX0_ok nmX0 hown hK hP hD hS 1 rfl rfl 9 (by decide) k2 rfl rfl (by decide +kernel) rfl rfl (Nat.le_of_ble_eq_true rfl) dX7_set_132 (wn := ((cF ffa (ha 0) r1 r2 r3 r4 r5 r6 r7 ff) ++ (cH ca ha (sI h 9 x)))) rfl (fun H locs hP hD hS => ?_)
                      refine lv_iload_n hx hb dX7_set_135 rfl (lv_at hl 0 rfl) ?_
                      obtain rfl := Option.some.inj hm
                      exact hret _ _ _ _ (vp_nar_int _) hP hD hS dX7_set_136
              · skip
                replace hm := (if_neg c37).symm.trans hm
                refine lv_aload_n hx hb dX7_set_85 rfl (lv_at hl 1 rfl) ?_
                refine xget (ref := "FriezeFolk") (C := RX7) (T := TX7) (N := 9) (ci := 7) (v := .ref (ha 0)) hx hb hts inX7 hown hK hP 0 rfl rfl 0 (by decide) k1 rfl rfl dX7_set_86 ?_
                refine xget (ref := "FriezeFolk$Hall") (C := RX0) (T := TX0) (N := 13) (ci := 0) (v := .int (h.2 8)) hx hb hts inX0 hown hK hP 1 rfl rfl 8 (by decide) k3 rfl rfl dX7_set_89 ?_
                refine lv_istore_n (lv' := [(3, .int (h.2 8)), (0, .ref ffa), (1, .int n), (2, .int x)]) hx hb dX7_set_92 rfl hl (by decide) rfl (fun ls hl => ?_)
                refine lv_aload_n hx hb dX7_set_93 rfl (lv_at hl 1 rfl) ?_
                refine xget (ref := "FriezeFolk") (C := RX7) (T := TX7) (N := 9) (ci := 7) (v := .ref (ha 0)) hx hb hts inX7 hown hK hP 0 rfl rfl 0 (by decide) k1 rfl rfl dX7_set_94 ?_
                refine lv_iload_n hx hb dX7_set_97 rfl (lv_at hl 3 rfl) ?_
                refine xput (ref := "FriezeFolk$Hall") (C := RX0) (T := TX0) (N := 13) (ci := 0) (v := .int x) (ty := .int) hx hb hts inX0 tyX0 tyX0_ok nmX0 hown hK hP hD hS 1 rfl rfl 8 (by decide) k3 rfl rfl (by decide +kernel) rfl rfl (Nat.le_of_ble_eq_true rfl) dX7_set_98 (wn := ((cF ffa (ha 0) r1 r2 r3 r4 r5 r6 r7 ff) ++ (cH ca ha (sI h 8 x)))) rfl (fun H locs hP hD hS => ?_)
                refine lv_goto (tgt := 135) hx hb dX7_set_101 (by decide) ?_
                refine lv_iload_n hx hb dX7_set_135 rfl (lv_at hl 0 rfl) ?_
                obtain rfl := Option.some.inj hm
                exact hret _ _ _ _ (vp_nar_int _) hP hD hS dX7_set_136
        · skip
          replace hm := (if_neg c28).symm.trans hm
          refine lv_aload_n hx hb dX7_set_51 rfl (lv_at hl 1 rfl) ?_
          refine xget (ref := "FriezeFolk") (C := RX7) (T := TX7) (N := 9) (ci := 7) (v := .ref (ha 0)) hx hb hts inX7 hown hK hP 0 rfl rfl 0 (by decide) k1 rfl rfl dX7_set_52 ?_
          refine xget (ref := "FriezeFolk$Hall") (C := RX0) (T := TX0) (N := 13) (ci := 0) (v := .int (h.2 7)) hx hb hts inX0 hown hK hP 1 rfl rfl 7 (by decide) k4 rfl rfl dX7_set_55 ?_
          refine lv_istore_n (lv' := [(3, .int (h.2 7)), (0, .ref ffa), (1, .int n), (2, .int x)]) hx hb dX7_set_58 rfl hl (by decide) rfl (fun ls hl => ?_)
          refine lv_aload_n hx hb dX7_set_59 rfl (lv_at hl 1 rfl) ?_
          refine xget (ref := "FriezeFolk") (C := RX7) (T := TX7) (N := 9) (ci := 7) (v := .ref (ha 0)) hx hb hts inX7 hown hK hP 0 rfl rfl 0 (by decide) k1 rfl rfl dX7_set_60 ?_
          refine lv_iload_n hx hb dX7_set_63 rfl (lv_at hl 3 rfl) ?_
          refine xput (ref := "FriezeFolk$Hall") (C := RX0) (T := TX0) (N := 13) (ci := 0) (v := .int x) (ty := .int) hx hb hts inX0 tyX0 tyX0_ok nmX0 hown hK hP hD hS 1 rfl rfl 7 (by decide) k4 rfl rfl (by decide +kernel) rfl rfl (Nat.le_of_ble_eq_true rfl) dX7_set_64 (wn := ((cF ffa (ha 0) r1 r2 r3 r4 r5 r6 r7 ff) ++ (cH ca ha (sI h 7 x)))) rfl (fun H locs hP hD hS => ?_)
          refine lv_goto (tgt := 135) hx hb dX7_set_67 (by decide) ?_
          refine lv_iload_n hx hb dX7_set_135 rfl (lv_at hl 0 rfl) ?_
          obtain rfl := Option.some.inj hm
          exact hret _ _ _ _ (vp_nar_int _) hP hD hS dX7_set_136
  · skip
    replace hm := (if_pos c1).symm.trans hm
    refine lv_iload_n hx hb dX7_set_6 rfl (lv_at hl 3 rfl) ?_
    refine lv_iconst (v := (1 : Int32)) hx hb dX7_set_7 (by decide) ?_
    refine lv_icmp_lt (tgt := 36) hx hb dX7_set_8 (by decide) (fun c41 => ?_) (fun c41 => ?_)
    · skip
      replace hm := (if_pos c41).symm.trans hm
      refine lv_iload_n hx hb dX7_set_36 rfl (lv_at hl 2 rfl) ?_
      refine lv_iconst (v := (1 : Int32)) hx hb dX7_set_37 (by decide) ?_
      refine lv_icmp_ne (tgt := 70) hx hb dX7_set_38 (by decide) (fun c42 => ?_) (fun c42 => ?_)
      · skip
        replace hm := (if_neg c42).symm.trans hm
        refine lv_iload_n hx hb dX7_set_70 rfl (lv_at hl 2 rfl) ?_
        refine lv_iconst (v := (2 : Int32)) hx hb dX7_set_71 (by decide) ?_
        refine lv_icmp_ne (tgt := 104) hx hb dX7_set_72 (by decide) (fun c43 => ?_) (fun c43 => ?_)
        · skip
          replace hm := (if_neg c43).symm.trans hm
          refine lv_iload_n hx hb dX7_set_104 rfl (lv_at hl 2 rfl) ?_
          refine lv_iconst (v := (3 : Int32)) hx hb dX7_set_105 (by decide) ?_
          refine lv_icmp_ne (tgt := 135) hx hb dX7_set_106 (by decide) (fun c44 => ?_) (fun c44 => ?_)
          · skip
            replace hm := (if_neg c44).symm.trans hm
            refine lv_iload_n hx hb dX7_set_135 rfl (lv_at hl 0 rfl) ?_
            obtain rfl := Option.some.inj hm
            exact hret _ _ _ _ (vp_nar_int _) hP hD hS dX7_set_136
          · skip
            replace hm := (if_pos c44).symm.trans hm
            refine lv_iload_n hx hb dX7_set_109 rfl (lv_at hl 3 rfl) ?_
            refine lv_if_lt (tgt := 135) hx hb dX7_set_110 (by decide) (fun c45 => ?_) (fun c45 => ?_)
            · skip
              replace hm := (if_pos c45).symm.trans hm
              refine lv_iload_n hx hb dX7_set_135 rfl (lv_at hl 0 rfl) ?_
              obtain rfl := Option.some.inj hm
              exact hret _ _ _ _ (vp_nar_int _) hP hD hS dX7_set_136
            · skip
              replace hm := (if_neg c45).symm.trans hm
              refine lv_iload_n hx hb dX7_set_113 rfl (lv_at hl 3 rfl) ?_
              refine lv_bipush (v := (12 : Int32)) hx hb dX7_set_114 (by decide) ?_
              refine lv_icmp_ge (tgt := 135) hx hb dX7_set_116 (by decide) (fun c46 => ?_) (fun c46 => ?_)
              · skip
                replace hm := (if_pos c46).symm.trans hm
                refine lv_iload_n hx hb dX7_set_135 rfl (lv_at hl 0 rfl) ?_
                obtain rfl := Option.some.inj hm
                exact hret _ _ _ _ (vp_nar_int _) hP hD hS dX7_set_136
              · skip
                replace hm := (if_neg c46).symm.trans hm
                refine lv_aload_n hx hb dX7_set_119 rfl (lv_at hl 1 rfl) ?_
                refine xget (ref := "FriezeFolk") (C := RX7) (T := TX7) (N := 9) (ci := 7) (v := .ref (ha 0)) hx hb hts inX7 hown hK hP 0 rfl rfl 0 (by decide) k1 rfl rfl dX7_set_120 ?_
                refine xget (ref := "FriezeFolk$Hall") (C := RX0) (T := TX0) (N := 13) (ci := 0) (v := .int (h.2 9)) hx hb hts inX0 hown hK hP 1 rfl rfl 9 (by decide) k2 rfl rfl dX7_set_123 ?_
                refine lv_istore_n (lv' := [(3, .int (h.2 9)), (0, .ref ffa), (1, .int n), (2, .int x)]) hx hb dX7_set_126 rfl hl (by decide) rfl (fun ls hl => ?_)
                refine lv_aload_n hx hb dX7_set_127 rfl (lv_at hl 1 rfl) ?_
                refine xget (ref := "FriezeFolk") (C := RX7) (T := TX7) (N := 9) (ci := 7) (v := .ref (ha 0)) hx hb hts inX7 hown hK hP 0 rfl rfl 0 (by decide) k1 rfl rfl dX7_set_128 ?_
                refine lv_iload_n hx hb dX7_set_131 rfl (lv_at hl 3 rfl) ?_
                refine xput (ref := "FriezeFolk$Hall") (C := RX0) (T := TX0) (N := 13) (ci := 0) (v := .int x) (ty := .int) hx hb hts inX0 tyX0 tyX0_ok nmX0 hown hK hP hD hS 1 rfl rfl 9 (by decide) k2 rfl rfl (by decide +kernel) rfl rfl (Nat.le_of_ble_eq_true rfl) dX7_set_132 (wn := ((cF ffa (ha 0) r1 r2 r3 r4 r5 r6 r7 ff) ++ (cH ca ha (sI h 9 x)))) rfl (fun H locs hP hD hS => ?_)
                refine lv_iload_n hx hb dX7_set_135 rfl (lv_at hl 0 rfl) ?_
                obtain rfl := Option.some.inj hm
                exact hret _ _ _ _ (vp_nar_int _) hP hD hS dX7_set_136
        · skip
          replace hm := (if_pos c43).symm.trans hm
          refine lv_iload_n hx hb dX7_set_75 rfl (lv_at hl 3 rfl) ?_
          refine lv_if_lt (tgt := 104) hx hb dX7_set_76 (by decide) (fun c47 => ?_) (fun c47 => ?_)
          · skip
            replace hm := (if_pos c47).symm.trans hm
            refine lv_iload_n hx hb dX7_set_104 rfl (lv_at hl 2 rfl) ?_
            refine lv_iconst (v := (3 : Int32)) hx hb dX7_set_105 (by decide) ?_
            refine lv_icmp_ne (tgt := 135) hx hb dX7_set_106 (by decide) (fun c48 => ?_) (fun c48 => ?_)
            · skip
              replace hm := (if_neg c48).symm.trans hm
              refine lv_iload_n hx hb dX7_set_135 rfl (lv_at hl 0 rfl) ?_
              obtain rfl := Option.some.inj hm
              exact hret _ _ _ _ (vp_nar_int _) hP hD hS dX7_set_136
            · skip
              replace hm := (if_pos c48).symm.trans hm
              refine lv_iload_n hx hb dX7_set_109 rfl (lv_at hl 3 rfl) ?_
              refine lv_if_lt (tgt := 135) hx hb dX7_set_110 (by decide) (fun c49 => ?_) (fun c49 => ?_)
              · skip
                replace hm := (if_pos c49).symm.trans hm
                refine lv_iload_n hx hb dX7_set_135 rfl (lv_at hl 0 rfl) ?_
                obtain rfl := Option.some.inj hm
                exact hret _ _ _ _ (vp_nar_int _) hP hD hS dX7_set_136
              · skip
                replace hm := (if_neg c49).symm.trans hm
                refine lv_iload_n hx hb dX7_set_113 rfl (lv_at hl 3 rfl) ?_
                refine lv_bipush (v := (12 : Int32)) hx hb dX7_set_114 (by decide) ?_
                refine lv_icmp_ge (tgt := 135) hx hb dX7_set_116 (by decide) (fun c50 => ?_) (fun c50 => ?_)
                · skip
                  replace hm := (if_pos c50).symm.trans hm
                  refine lv_iload_n hx hb dX7_set_135 rfl (lv_at hl 0 rfl) ?_
                  obtain rfl := Option.some.inj hm
                  exact hret _ _ _ _ (vp_nar_int _) hP hD hS dX7_set_136
                · skip
                  replace hm := (if_neg c50).symm.trans hm
                  refine lv_aload_n hx hb dX7_set_119 rfl (lv_at hl 1 rfl) ?_
                  refine xget (ref := "FriezeFolk") (C := RX7) (T := TX7) (N := 9) (ci := 7) (v := .ref (ha 0)) hx hb hts inX7 hown hK hP 0 rfl rfl 0 (by decide) k1 rfl rfl dX7_set_120 ?_
                  refine xget (ref := "FriezeFolk$Hall") (C := RX0) (T := TX0) (N := 13) (ci := 0) (v := .int (h.2 9)) hx hb hts inX0 hown hK hP 1 rfl rfl 9 (by decide) k2 rfl rfl dX7_set_123 ?_
                  refine lv_istore_n (lv' := [(3, .int (h.2 9)), (0, .ref ffa), (1, .int n), (2, .int x)]) hx hb dX7_set_126 rfl hl (by decide) rfl (fun ls hl => ?_)
                  refine lv_aload_n hx hb dX7_set_127 rfl (lv_at hl 1 rfl) ?_
                  refine xget (ref := "FriezeFolk") (C := RX7) (T := TX7) (N := 9) (ci := 7) (v := .ref (ha 0)) hx hb hts inX7 hown hK hP 0 rfl rfl 0 (by decide) k1 rfl rfl dX7_set_128 ?_
                  refine lv_iload_n hx hb dX7_set_131 rfl (lv_at hl 3 rfl) ?_
                  refine xput (ref := "FriezeFolk$Hall") (C := RX0) (T := TX0) (N := 13) (ci := 0) (v := .int x) (ty := .int) hx hb hts inX0 tyX0 tyX0_ok nmX0 hown hK hP hD hS 1 rfl rfl 9 (by decide) k2 rfl rfl (by decide +kernel) rfl rfl (Nat.le_of_ble_eq_true rfl) dX7_set_132 (wn := ((cF ffa (ha 0) r1 r2 r3 r4 r5 r6 r7 ff) ++ (cH ca ha (sI h 9 x)))) rfl (fun H locs hP hD hS => ?_)
                  refine lv_iload_n hx hb dX7_set_135 rfl (lv_at hl 0 rfl) ?_
                  obtain rfl := Option.some.inj hm
                  exact hret _ _ _ _ (vp_nar_int _) hP hD hS dX7_set_136
          · skip
            replace hm := (if_neg c47).symm.trans hm
            refine lv_iload_n hx hb dX7_set_79 rfl (lv_at hl 3 rfl) ?_
            refine lv_bipush (v := (12 : Int32)) hx hb dX7_set_80 (by decide) ?_
            refine lv_icmp_ge (tgt := 104) hx hb dX7_set_82 (by decide) (fun c51 => ?_) (fun c51 => ?_)
            · skip
              replace hm := (if_pos c51).symm.trans hm
              refine lv_iload_n hx hb dX7_set_104 rfl (lv_at hl 2 rfl) ?_
              refine lv_iconst (v := (3 : Int32)) hx hb dX7_set_105 (by decide) ?_
              refine lv_icmp_ne (tgt := 135) hx hb dX7_set_106 (by decide) (fun c52 => ?_) (fun c52 => ?_)
              · skip
                replace hm := (if_neg c52).symm.trans hm
                refine lv_iload_n hx hb dX7_set_135 rfl (lv_at hl 0 rfl) ?_
                obtain rfl := Option.some.inj hm
                exact hret _ _ _ _ (vp_nar_int _) hP hD hS dX7_set_136
              · skip
                replace hm := (if_pos c52).symm.trans hm
                refine lv_iload_n hx hb dX7_set_109 rfl (lv_at hl 3 rfl) ?_
                refine lv_if_lt (tgt := 135) hx hb dX7_set_110 (by decide) (fun c53 => ?_) (fun c53 => ?_)
                · skip
                  replace hm := (if_pos c53).symm.trans hm
                  refine lv_iload_n hx hb dX7_set_135 rfl (lv_at hl 0 rfl) ?_
                  obtain rfl := Option.some.inj hm
                  exact hret _ _ _ _ (vp_nar_int _) hP hD hS dX7_set_136
                · skip
                  replace hm := (if_neg c53).symm.trans hm
                  refine lv_iload_n hx hb dX7_set_113 rfl (lv_at hl 3 rfl) ?_
                  refine lv_bipush (v := (12 : Int32)) hx hb dX7_set_114 (by decide) ?_
                  refine lv_icmp_ge (tgt := 135) hx hb dX7_set_116 (by decide) (fun c54 => ?_) (fun c54 => ?_)
                  · skip
                    replace hm := (if_pos c54).symm.trans hm
                    refine lv_iload_n hx hb dX7_set_135 rfl (lv_at hl 0 rfl) ?_
                    obtain rfl := Option.some.inj hm
                    exact hret _ _ _ _ (vp_nar_int _) hP hD hS dX7_set_136
                  · skip
                    replace hm := (if_neg c54).symm.trans hm
                    refine lv_aload_n hx hb dX7_set_119 rfl (lv_at hl 1 rfl) ?_
                    refine xget (ref := "FriezeFolk") (C := RX7) (T := TX7) (N := 9) (ci := 7) (v := .ref (ha 0)) hx hb hts inX7 hown hK hP 0 rfl rfl 0 (by decide) k1 rfl rfl dX7_set_120 ?_
                    refine xget (ref := "FriezeFolk$Hall") (C := RX0) (T := TX0) (N := 13) (ci := 0) (v := .int (h.2 9)) hx hb hts inX0 hown hK hP 1 rfl rfl 9 (by decide) k2 rfl rfl dX7_set_123 ?_
                    refine lv_istore_n (lv' := [(3, .int (h.2 9)), (0, .ref ffa), (1, .int n), (2, .int x)]) hx hb dX7_set_126 rfl hl (by decide) rfl (fun ls hl => ?_)
                    refine lv_aload_n hx hb dX7_set_127 rfl (lv_at hl 1 rfl) ?_
                    refine xget (ref := "FriezeFolk") (C := RX7) (T := TX7) (N := 9) (ci := 7) (v := .ref (ha 0)) hx hb hts inX7 hown hK hP 0 rfl rfl 0 (by decide) k1 rfl rfl dX7_set_128 ?_
                    refine lv_iload_n hx hb dX7_set_131 rfl (lv_at hl 3 rfl) ?_
                    refine xput (ref := "FriezeFolk$Hall") (C := RX0) (T := TX0) (N := 13) (ci := 0) (v := .int x) (ty := .int) hx hb hts inX0 tyX0 tyX0_ok nmX0 hown hK hP hD hS 1 rfl rfl 9 (by decide) k2 rfl rfl (by decide +kernel) rfl rfl (Nat.le_of_ble_eq_true rfl) dX7_set_132 (wn := ((cF ffa (ha 0) r1 r2 r3 r4 r5 r6 r7 ff) ++ (cH ca ha (sI h 9 x)))) rfl (fun H locs hP hD hS => ?_)
                    refine lv_iload_n hx hb dX7_set_135 rfl (lv_at hl 0 rfl) ?_
                    obtain rfl := Option.some.inj hm
                    exact hret _ _ _ _ (vp_nar_int _) hP hD hS dX7_set_136
            · skip
              replace hm := (if_neg c51).symm.trans hm
              refine lv_aload_n hx hb dX7_set_85 rfl (lv_at hl 1 rfl) ?_
              refine xget (ref := "FriezeFolk") (C := RX7) (T := TX7) (N := 9) (ci := 7) (v := .ref (ha 0)) hx hb hts inX7 hown hK hP 0 rfl rfl 0 (by decide) k1 rfl rfl dX7_set_86 ?_
              refine xget (ref := "FriezeFolk$Hall") (C := RX0) (T := TX0) (N := 13) (ci := 0) (v := .int (h.2 8)) hx hb hts inX0 hown hK hP 1 rfl rfl 8 (by decide) k3 rfl rfl dX7_set_89 ?_
              refine lv_istore_n (lv' := [(3, .int (h.2 8)), (0, .ref ffa), (1, .int n), (2, .int x)]) hx hb dX7_set_92 rfl hl (by decide) rfl (fun ls hl => ?_)
              refine lv_aload_n hx hb dX7_set_93 rfl (lv_at hl 1 rfl) ?_
              refine xget (ref := "FriezeFolk") (C := RX7) (T := TX7) (N := 9) (ci := 7) (v := .ref (ha 0)) hx hb hts inX7 hown hK hP 0 rfl rfl 0 (by decide) k1 rfl rfl dX7_set_94 ?_
              refine lv_iload_n hx hb dX7_set_97 rfl (lv_at hl 3 rfl) ?_
              refine xput (ref := "FriezeFolk$Hall") (C := RX0) (T := TX0) (N := 13) (ci := 0) (v := .int x) (ty := .int) hx hb hts inX0 tyX0 tyX0_ok nmX0 hown hK hP hD hS 1 rfl rfl 8 (by decide) k3 rfl rfl (by decide +kernel) rfl rfl (Nat.le_of_ble_eq_true rfl) dX7_set_98 (wn := ((cF ffa (ha 0) r1 r2 r3 r4 r5 r6 r7 ff) ++ (cH ca ha (sI h 8 x)))) rfl (fun H locs hP hD hS => ?_)
              refine lv_goto (tgt := 135) hx hb dX7_set_101 (by decide) ?_
              refine lv_iload_n hx hb dX7_set_135 rfl (lv_at hl 0 rfl) ?_
              obtain rfl := Option.some.inj hm
              exact hret _ _ _ _ (vp_nar_int _) hP hD hS dX7_set_136
      · skip
        replace hm := (if_pos c42).symm.trans hm
        refine lv_iload_n hx hb dX7_set_41 rfl (lv_at hl 3 rfl) ?_
        refine lv_if_lt (tgt := 70) hx hb dX7_set_42 (by decide) (fun c55 => ?_) (fun c55 => ?_)
        · skip
          replace hm := (if_pos c55).symm.trans hm
          refine lv_iload_n hx hb dX7_set_70 rfl (lv_at hl 2 rfl) ?_
          refine lv_iconst (v := (2 : Int32)) hx hb dX7_set_71 (by decide) ?_
          refine lv_icmp_ne (tgt := 104) hx hb dX7_set_72 (by decide) (fun c56 => ?_) (fun c56 => ?_)
          · skip
            replace hm := (if_neg c56).symm.trans hm
            refine lv_iload_n hx hb dX7_set_104 rfl (lv_at hl 2 rfl) ?_
            refine lv_iconst (v := (3 : Int32)) hx hb dX7_set_105 (by decide) ?_
            refine lv_icmp_ne (tgt := 135) hx hb dX7_set_106 (by decide) (fun c57 => ?_) (fun c57 => ?_)
            · skip
              replace hm := (if_neg c57).symm.trans hm
              refine lv_iload_n hx hb dX7_set_135 rfl (lv_at hl 0 rfl) ?_
              obtain rfl := Option.some.inj hm
              exact hret _ _ _ _ (vp_nar_int _) hP hD hS dX7_set_136
            · skip
              replace hm := (if_pos c57).symm.trans hm
              refine lv_iload_n hx hb dX7_set_109 rfl (lv_at hl 3 rfl) ?_
              refine lv_if_lt (tgt := 135) hx hb dX7_set_110 (by decide) (fun c58 => ?_) (fun c58 => ?_)
              · skip
                replace hm := (if_pos c58).symm.trans hm
                refine lv_iload_n hx hb dX7_set_135 rfl (lv_at hl 0 rfl) ?_
                obtain rfl := Option.some.inj hm
                exact hret _ _ _ _ (vp_nar_int _) hP hD hS dX7_set_136
              · skip
                replace hm := (if_neg c58).symm.trans hm
                refine lv_iload_n hx hb dX7_set_113 rfl (lv_at hl 3 rfl) ?_
                refine lv_bipush (v := (12 : Int32)) hx hb dX7_set_114 (by decide) ?_
                refine lv_icmp_ge (tgt := 135) hx hb dX7_set_116 (by decide) (fun c59 => ?_) (fun c59 => ?_)
                · skip
                  replace hm := (if_pos c59).symm.trans hm
                  refine lv_iload_n hx hb dX7_set_135 rfl (lv_at hl 0 rfl) ?_
                  obtain rfl := Option.some.inj hm
                  exact hret _ _ _ _ (vp_nar_int _) hP hD hS dX7_set_136
                · skip
                  replace hm := (if_neg c59).symm.trans hm
                  refine lv_aload_n hx hb dX7_set_119 rfl (lv_at hl 1 rfl) ?_
                  refine xget (ref := "FriezeFolk") (C := RX7) (T := TX7) (N := 9) (ci := 7) (v := .ref (ha 0)) hx hb hts inX7 hown hK hP 0 rfl rfl 0 (by decide) k1 rfl rfl dX7_set_120 ?_
                  refine xget (ref := "FriezeFolk$Hall") (C := RX0) (T := TX0) (N := 13) (ci := 0) (v := .int (h.2 9)) hx hb hts inX0 hown hK hP 1 rfl rfl 9 (by decide) k2 rfl rfl dX7_set_123 ?_
                  refine lv_istore_n (lv' := [(3, .int (h.2 9)), (0, .ref ffa), (1, .int n), (2, .int x)]) hx hb dX7_set_126 rfl hl (by decide) rfl (fun ls hl => ?_)
                  refine lv_aload_n hx hb dX7_set_127 rfl (lv_at hl 1 rfl) ?_
                  refine xget (ref := "FriezeFolk") (C := RX7) (T := TX7) (N := 9) (ci := 7) (v := .ref (ha 0)) hx hb hts inX7 hown hK hP 0 rfl rfl 0 (by decide) k1 rfl rfl dX7_set_128 ?_
                  refine lv_iload_n hx hb dX7_set_131 rfl (lv_at hl 3 rfl) ?_
                  refine xput (ref := "FriezeFolk$Hall") (C := RX0) (T := TX0) (N := 13) (ci := 0) (v := .int x) (ty := .int) hx hb hts inX0 tyX0 tyX0_ok nmX0 hown hK hP hD hS 1 rfl rfl 9 (by decide) k2 rfl rfl (by decide +kernel) rfl rfl (Nat.le_of_ble_eq_true rfl) dX7_set_132 (wn := ((cF ffa (ha 0) r1 r2 r3 r4 r5 r6 r7 ff) ++ (cH ca ha (sI h 9 x)))) rfl (fun H locs hP hD hS => ?_)
                  refine lv_iload_n hx hb dX7_set_135 rfl (lv_at hl 0 rfl) ?_
                  obtain rfl := Option.some.inj hm
                  exact hret _ _ _ _ (vp_nar_int _) hP hD hS dX7_set_136
          · skip
            replace hm := (if_pos c56).symm.trans hm
            refine lv_iload_n hx hb dX7_set_75 rfl (lv_at hl 3 rfl) ?_
            refine lv_if_lt (tgt := 104) hx hb dX7_set_76 (by decide) (fun c60 => ?_) (fun c60 => ?_)
            · skip
              replace hm := (if_pos c60).symm.trans hm
              refine lv_iload_n hx hb dX7_set_104 rfl (lv_at hl 2 rfl) ?_
              refine lv_iconst (v := (3 : Int32)) hx hb dX7_set_105 (by decide) ?_
              refine lv_icmp_ne (tgt := 135) hx hb dX7_set_106 (by decide) (fun c61 => ?_) (fun c61 => ?_)
              · skip
                replace hm := (if_neg c61).symm.trans hm
                refine lv_iload_n hx hb dX7_set_135 rfl (lv_at hl 0 rfl) ?_
                obtain rfl := Option.some.inj hm
                exact hret _ _ _ _ (vp_nar_int _) hP hD hS dX7_set_136
              · skip
                replace hm := (if_pos c61).symm.trans hm
                refine lv_iload_n hx hb dX7_set_109 rfl (lv_at hl 3 rfl) ?_
                refine lv_if_lt (tgt := 135) hx hb dX7_set_110 (by decide) (fun c62 => ?_) (fun c62 => ?_)
                · skip
                  replace hm := (if_pos c62).symm.trans hm
                  refine lv_iload_n hx hb dX7_set_135 rfl (lv_at hl 0 rfl) ?_
                  obtain rfl := Option.some.inj hm
                  exact hret _ _ _ _ (vp_nar_int _) hP hD hS dX7_set_136
                · skip
                  replace hm := (if_neg c62).symm.trans hm
                  refine lv_iload_n hx hb dX7_set_113 rfl (lv_at hl 3 rfl) ?_
                  refine lv_bipush (v := (12 : Int32)) hx hb dX7_set_114 (by decide) ?_
                  refine lv_icmp_ge (tgt := 135) hx hb dX7_set_116 (by decide) (fun c63 => ?_) (fun c63 => ?_)
                  · skip
                    replace hm := (if_pos c63).symm.trans hm
                    refine lv_iload_n hx hb dX7_set_135 rfl (lv_at hl 0 rfl) ?_
                    obtain rfl := Option.some.inj hm
                    exact hret _ _ _ _ (vp_nar_int _) hP hD hS dX7_set_136
                  · skip
                    replace hm := (if_neg c63).symm.trans hm
                    refine lv_aload_n hx hb dX7_set_119 rfl (lv_at hl 1 rfl) ?_
                    refine xget (ref := "FriezeFolk") (C := RX7) (T := TX7) (N := 9) (ci := 7) (v := .ref (ha 0)) hx hb hts inX7 hown hK hP 0 rfl rfl 0 (by decide) k1 rfl rfl dX7_set_120 ?_
                    refine xget (ref := "FriezeFolk$Hall") (C := RX0) (T := TX0) (N := 13) (ci := 0) (v := .int (h.2 9)) hx hb hts inX0 hown hK hP 1 rfl rfl 9 (by decide) k2 rfl rfl dX7_set_123 ?_
                    refine lv_istore_n (lv' := [(3, .int (h.2 9)), (0, .ref ffa), (1, .int n), (2, .int x)]) hx hb dX7_set_126 rfl hl (by decide) rfl (fun ls hl => ?_)
                    refine lv_aload_n hx hb dX7_set_127 rfl (lv_at hl 1 rfl) ?_
                    refine xget (ref := "FriezeFolk") (C := RX7) (T := TX7) (N := 9) (ci := 7) (v := .ref (ha 0)) hx hb hts inX7 hown hK hP 0 rfl rfl 0 (by decide) k1 rfl rfl dX7_set_128 ?_
                    refine lv_iload_n hx hb dX7_set_131 rfl (lv_at hl 3 rfl) ?_
                    refine xput (ref := "FriezeFolk$Hall") (C := RX0) (T := TX0) (N := 13) (ci := 0) (v := .int x) (ty := .int) hx hb hts inX0 tyX0 tyX0_ok nmX0 hown hK hP hD hS 1 rfl rfl 9 (by decide) k2 rfl rfl (by decide +kernel) rfl rfl (Nat.le_of_ble_eq_true rfl) dX7_set_132 (wn := ((cF ffa (ha 0) r1 r2 r3 r4 r5 r6 r7 ff) ++ (cH ca ha (sI h 9 x)))) rfl (fun H locs hP hD hS => ?_)
                    refine lv_iload_n hx hb dX7_set_135 rfl (lv_at hl 0 rfl) ?_
                    obtain rfl := Option.some.inj hm
                    exact hret _ _ _ _ (vp_nar_int _) hP hD hS dX7_set_136
            · skip
              replace hm := (if_neg c60).symm.trans hm
              refine lv_iload_n hx hb dX7_set_79 rfl (lv_at hl 3 rfl) ?_
              refine lv_bipush (v := (12 : Int32)) hx hb dX7_set_80 (by decide) ?_
              refine lv_icmp_ge (tgt := 104) hx hb dX7_set_82 (by decide) (fun c64 => ?_) (fun c64 => ?_)
              · skip
                replace hm := (if_pos c64).symm.trans hm
                refine lv_iload_n hx hb dX7_set_104 rfl (lv_at hl 2 rfl) ?_
                refine lv_iconst (v := (3 : Int32)) hx hb dX7_set_105 (by decide) ?_
                refine lv_icmp_ne (tgt := 135) hx hb dX7_set_106 (by decide) (fun c65 => ?_) (fun c65 => ?_)
                · skip
                  replace hm := (if_neg c65).symm.trans hm
                  refine lv_iload_n hx hb dX7_set_135 rfl (lv_at hl 0 rfl) ?_
                  obtain rfl := Option.some.inj hm
                  exact hret _ _ _ _ (vp_nar_int _) hP hD hS dX7_set_136
                · skip
                  replace hm := (if_pos c65).symm.trans hm
                  refine lv_iload_n hx hb dX7_set_109 rfl (lv_at hl 3 rfl) ?_
                  refine lv_if_lt (tgt := 135) hx hb dX7_set_110 (by decide) (fun c66 => ?_) (fun c66 => ?_)
                  · skip
                    replace hm := (if_pos c66).symm.trans hm
                    refine lv_iload_n hx hb dX7_set_135 rfl (lv_at hl 0 rfl) ?_
                    obtain rfl := Option.some.inj hm
                    exact hret _ _ _ _ (vp_nar_int _) hP hD hS dX7_set_136
                  · skip
                    replace hm := (if_neg c66).symm.trans hm
                    refine lv_iload_n hx hb dX7_set_113 rfl (lv_at hl 3 rfl) ?_
                    refine lv_bipush (v := (12 : Int32)) hx hb dX7_set_114 (by decide) ?_
                    refine lv_icmp_ge (tgt := 135) hx hb dX7_set_116 (by decide) (fun c67 => ?_) (fun c67 => ?_)
                    · skip
                      replace hm := (if_pos c67).symm.trans hm
                      refine lv_iload_n hx hb dX7_set_135 rfl (lv_at hl 0 rfl) ?_
                      obtain rfl := Option.some.inj hm
                      exact hret _ _ _ _ (vp_nar_int _) hP hD hS dX7_set_136
                    · skip
                      replace hm := (if_neg c67).symm.trans hm
                      refine lv_aload_n hx hb dX7_set_119 rfl (lv_at hl 1 rfl) ?_
                      refine xget (ref := "FriezeFolk") (C := RX7) (T := TX7) (N := 9) (ci := 7) (v := .ref (ha 0)) hx hb hts inX7 hown hK hP 0 rfl rfl 0 (by decide) k1 rfl rfl dX7_set_120 ?_
                      refine xget (ref := "FriezeFolk$Hall") (C := RX0) (T := TX0) (N := 13) (ci := 0) (v := .int (h.2 9)) hx hb hts inX0 hown hK hP 1 rfl rfl 9 (by decide) k2 rfl rfl dX7_set_123 ?_
                      refine lv_istore_n (lv' := [(3, .int (h.2 9)), (0, .ref ffa), (1, .int n), (2, .int x)]) hx hb dX7_set_126 rfl hl (by decide) rfl (fun ls hl => ?_)
                      refine lv_aload_n hx hb dX7_set_127 rfl (lv_at hl 1 rfl) ?_
                      refine xget (ref := "FriezeFolk") (C := RX7) (T := TX7) (N := 9) (ci := 7) (v := .ref (ha 0)) hx hb hts inX7 hown hK hP 0 rfl rfl 0 (by decide) k1 rfl rfl dX7_set_128 ?_
                      refine lv_iload_n hx hb dX7_set_131 rfl (lv_at hl 3 rfl) ?_
                      refine xput (ref := "FriezeFolk$Hall") (C := RX0) (T := TX0) (N := 13) (ci := 0) (v := .int x) (ty := .int) hx hb hts inX0 tyX0 tyX0_ok nmX0 hown hK hP hD hS 1 rfl rfl 9 (by decide) k2 rfl rfl (by decide +kernel) rfl rfl (Nat.le_of_ble_eq_true rfl) dX7_set_132 (wn := ((cF ffa (ha 0) r1 r2 r3 r4 r5 r6 r7 ff) ++ (cH ca ha (sI h 9 x)))) rfl (fun H locs hP hD hS => ?_)
                      refine lv_iload_n hx hb dX7_set_135 rfl (lv_at hl 0 rfl) ?_
                      obtain rfl := Option.some.inj hm
                      exact hret _ _ _ _ (vp_nar_int _) hP hD hS dX7_set_136
              · skip
                replace hm := (if_neg c64).symm.trans hm
                refine lv_aload_n hx hb dX7_set_85 rfl (lv_at hl 1 rfl) ?_
                refine xget (ref := "FriezeFolk") (C := RX7) (T := TX7) (N := 9) (ci := 7) (v := .ref (ha 0)) hx hb hts inX7 hown hK hP 0 rfl rfl 0 (by decide) k1 rfl rfl dX7_set_86 ?_
                refine xget (ref := "FriezeFolk$Hall") (C := RX0) (T := TX0) (N := 13) (ci := 0) (v := .int (h.2 8)) hx hb hts inX0 hown hK hP 1 rfl rfl 8 (by decide) k3 rfl rfl dX7_set_89 ?_
                refine lv_istore_n (lv' := [(3, .int (h.2 8)), (0, .ref ffa), (1, .int n), (2, .int x)]) hx hb dX7_set_92 rfl hl (by decide) rfl (fun ls hl => ?_)
                refine lv_aload_n hx hb dX7_set_93 rfl (lv_at hl 1 rfl) ?_
                refine xget (ref := "FriezeFolk") (C := RX7) (T := TX7) (N := 9) (ci := 7) (v := .ref (ha 0)) hx hb hts inX7 hown hK hP 0 rfl rfl 0 (by decide) k1 rfl rfl dX7_set_94 ?_
                refine lv_iload_n hx hb dX7_set_97 rfl (lv_at hl 3 rfl) ?_
                refine xput (ref := "FriezeFolk$Hall") (C := RX0) (T := TX0) (N := 13) (ci := 0) (v := .int x) (ty := .int) hx hb hts inX0 tyX0 tyX0_ok nmX0 hown hK hP hD hS 1 rfl rfl 8 (by decide) k3 rfl rfl (by decide +kernel) rfl rfl (Nat.le_of_ble_eq_true rfl) dX7_set_98 (wn := ((cF ffa (ha 0) r1 r2 r3 r4 r5 r6 r7 ff) ++ (cH ca ha (sI h 8 x)))) rfl (fun H locs hP hD hS => ?_)
                refine lv_goto (tgt := 135) hx hb dX7_set_101 (by decide) ?_
                refine lv_iload_n hx hb dX7_set_135 rfl (lv_at hl 0 rfl) ?_
                obtain rfl := Option.some.inj hm
                exact hret _ _ _ _ (vp_nar_int _) hP hD hS dX7_set_136
        · skip
          replace hm := (if_neg c55).symm.trans hm
          refine lv_iload_n hx hb dX7_set_45 rfl (lv_at hl 3 rfl) ?_
          refine lv_bipush (v := (6 : Int32)) hx hb dX7_set_46 (by decide) ?_
          refine lv_icmp_ge (tgt := 70) hx hb dX7_set_48 (by decide) (fun c68 => ?_) (fun c68 => ?_)
          · skip
            replace hm := (if_pos c68).symm.trans hm
            refine lv_iload_n hx hb dX7_set_70 rfl (lv_at hl 2 rfl) ?_
            refine lv_iconst (v := (2 : Int32)) hx hb dX7_set_71 (by decide) ?_
            refine lv_icmp_ne (tgt := 104) hx hb dX7_set_72 (by decide) (fun c69 => ?_) (fun c69 => ?_)
            · skip
              replace hm := (if_neg c69).symm.trans hm
              refine lv_iload_n hx hb dX7_set_104 rfl (lv_at hl 2 rfl) ?_
              refine lv_iconst (v := (3 : Int32)) hx hb dX7_set_105 (by decide) ?_
              refine lv_icmp_ne (tgt := 135) hx hb dX7_set_106 (by decide) (fun c70 => ?_) (fun c70 => ?_)
              · skip
                replace hm := (if_neg c70).symm.trans hm
                refine lv_iload_n hx hb dX7_set_135 rfl (lv_at hl 0 rfl) ?_
                obtain rfl := Option.some.inj hm
                exact hret _ _ _ _ (vp_nar_int _) hP hD hS dX7_set_136
              · skip
                replace hm := (if_pos c70).symm.trans hm
                refine lv_iload_n hx hb dX7_set_109 rfl (lv_at hl 3 rfl) ?_
                refine lv_if_lt (tgt := 135) hx hb dX7_set_110 (by decide) (fun c71 => ?_) (fun c71 => ?_)
                · skip
                  replace hm := (if_pos c71).symm.trans hm
                  refine lv_iload_n hx hb dX7_set_135 rfl (lv_at hl 0 rfl) ?_
                  obtain rfl := Option.some.inj hm
                  exact hret _ _ _ _ (vp_nar_int _) hP hD hS dX7_set_136
                · skip
                  replace hm := (if_neg c71).symm.trans hm
                  refine lv_iload_n hx hb dX7_set_113 rfl (lv_at hl 3 rfl) ?_
                  refine lv_bipush (v := (12 : Int32)) hx hb dX7_set_114 (by decide) ?_
                  refine lv_icmp_ge (tgt := 135) hx hb dX7_set_116 (by decide) (fun c72 => ?_) (fun c72 => ?_)
                  · skip
                    replace hm := (if_pos c72).symm.trans hm
                    refine lv_iload_n hx hb dX7_set_135 rfl (lv_at hl 0 rfl) ?_
                    obtain rfl := Option.some.inj hm
                    exact hret _ _ _ _ (vp_nar_int _) hP hD hS dX7_set_136
                  · skip
                    replace hm := (if_neg c72).symm.trans hm
                    refine lv_aload_n hx hb dX7_set_119 rfl (lv_at hl 1 rfl) ?_
                    refine xget (ref := "FriezeFolk") (C := RX7) (T := TX7) (N := 9) (ci := 7) (v := .ref (ha 0)) hx hb hts inX7 hown hK hP 0 rfl rfl 0 (by decide) k1 rfl rfl dX7_set_120 ?_
                    refine xget (ref := "FriezeFolk$Hall") (C := RX0) (T := TX0) (N := 13) (ci := 0) (v := .int (h.2 9)) hx hb hts inX0 hown hK hP 1 rfl rfl 9 (by decide) k2 rfl rfl dX7_set_123 ?_
                    refine lv_istore_n (lv' := [(3, .int (h.2 9)), (0, .ref ffa), (1, .int n), (2, .int x)]) hx hb dX7_set_126 rfl hl (by decide) rfl (fun ls hl => ?_)
                    refine lv_aload_n hx hb dX7_set_127 rfl (lv_at hl 1 rfl) ?_
                    refine xget (ref := "FriezeFolk") (C := RX7) (T := TX7) (N := 9) (ci := 7) (v := .ref (ha 0)) hx hb hts inX7 hown hK hP 0 rfl rfl 0 (by decide) k1 rfl rfl dX7_set_128 ?_
                    refine lv_iload_n hx hb dX7_set_131 rfl (lv_at hl 3 rfl) ?_
                    refine xput (ref := "FriezeFolk$Hall") (C := RX0) (T := TX0) (N := 13) (ci := 0) (v := .int x) (ty := .int) hx hb hts inX0 tyX0 tyX0_ok nmX0 hown hK hP hD hS 1 rfl rfl 9 (by decide) k2 rfl rfl (by decide +kernel) rfl rfl (Nat.le_of_ble_eq_true rfl) dX7_set_132 (wn := ((cF ffa (ha 0) r1 r2 r3 r4 r5 r6 r7 ff) ++ (cH ca ha (sI h 9 x)))) rfl (fun H locs hP hD hS => ?_)
                    refine lv_iload_n hx hb dX7_set_135 rfl (lv_at hl 0 rfl) ?_
                    obtain rfl := Option.some.inj hm
                    exact hret _ _ _ _ (vp_nar_int _) hP hD hS dX7_set_136
            · skip
              replace hm := (if_pos c69).symm.trans hm
              refine lv_iload_n hx hb dX7_set_75 rfl (lv_at hl 3 rfl) ?_
              refine lv_if_lt (tgt := 104) hx hb dX7_set_76 (by decide) (fun c73 => ?_) (fun c73 => ?_)
              · skip
                replace hm := (if_pos c73).symm.trans hm
                refine lv_iload_n hx hb dX7_set_104 rfl (lv_at hl 2 rfl) ?_
                refine lv_iconst (v := (3 : Int32)) hx hb dX7_set_105 (by decide) ?_
                refine lv_icmp_ne (tgt := 135) hx hb dX7_set_106 (by decide) (fun c74 => ?_) (fun c74 => ?_)
                · skip
                  replace hm := (if_neg c74).symm.trans hm
                  refine lv_iload_n hx hb dX7_set_135 rfl (lv_at hl 0 rfl) ?_
                  obtain rfl := Option.some.inj hm
                  exact hret _ _ _ _ (vp_nar_int _) hP hD hS dX7_set_136
                · skip
                  replace hm := (if_pos c74).symm.trans hm
                  refine lv_iload_n hx hb dX7_set_109 rfl (lv_at hl 3 rfl) ?_
                  refine lv_if_lt (tgt := 135) hx hb dX7_set_110 (by decide) (fun c75 => ?_) (fun c75 => ?_)
                  · skip
                    replace hm := (if_pos c75).symm.trans hm
                    refine lv_iload_n hx hb dX7_set_135 rfl (lv_at hl 0 rfl) ?_
                    obtain rfl := Option.some.inj hm
                    exact hret _ _ _ _ (vp_nar_int _) hP hD hS dX7_set_136
                  · skip
                    replace hm := (if_neg c75).symm.trans hm
                    refine lv_iload_n hx hb dX7_set_113 rfl (lv_at hl 3 rfl) ?_
                    refine lv_bipush (v := (12 : Int32)) hx hb dX7_set_114 (by decide) ?_
                    refine lv_icmp_ge (tgt := 135) hx hb dX7_set_116 (by decide) (fun c76 => ?_) (fun c76 => ?_)
                    · skip
                      replace hm := (if_pos c76).symm.trans hm
                      refine lv_iload_n hx hb dX7_set_135 rfl (lv_at hl 0 rfl) ?_
                      obtain rfl := Option.some.inj hm
                      exact hret _ _ _ _ (vp_nar_int _) hP hD hS dX7_set_136
                    · skip
                      replace hm := (if_neg c76).symm.trans hm
                      refine lv_aload_n hx hb dX7_set_119 rfl (lv_at hl 1 rfl) ?_
                      refine xget (ref := "FriezeFolk") (C := RX7) (T := TX7) (N := 9) (ci := 7) (v := .ref (ha 0)) hx hb hts inX7 hown hK hP 0 rfl rfl 0 (by decide) k1 rfl rfl dX7_set_120 ?_
                      refine xget (ref := "FriezeFolk$Hall") (C := RX0) (T := TX0) (N := 13) (ci := 0) (v := .int (h.2 9)) hx hb hts inX0 hown hK hP 1 rfl rfl 9 (by decide) k2 rfl rfl dX7_set_123 ?_
                      refine lv_istore_n (lv' := [(3, .int (h.2 9)), (0, .ref ffa), (1, .int n), (2, .int x)]) hx hb dX7_set_126 rfl hl (by decide) rfl (fun ls hl => ?_)
                      refine lv_aload_n hx hb dX7_set_127 rfl (lv_at hl 1 rfl) ?_
                      refine xget (ref := "FriezeFolk") (C := RX7) (T := TX7) (N := 9) (ci := 7) (v := .ref (ha 0)) hx hb hts inX7 hown hK hP 0 rfl rfl 0 (by decide) k1 rfl rfl dX7_set_128 ?_
                      refine lv_iload_n hx hb dX7_set_131 rfl (lv_at hl 3 rfl) ?_
                      refine xput (ref := "FriezeFolk$Hall") (C := RX0) (T := TX0) (N := 13) (ci := 0) (v := .int x) (ty := .int) hx hb hts inX0 tyX0 tyX0_ok nmX0 hown hK hP hD hS 1 rfl rfl 9 (by decide) k2 rfl rfl (by decide +kernel) rfl rfl (Nat.le_of_ble_eq_true rfl) dX7_set_132 (wn := ((cF ffa (ha 0) r1 r2 r3 r4 r5 r6 r7 ff) ++ (cH ca ha (sI h 9 x)))) rfl (fun H locs hP hD hS => ?_)
                      refine lv_iload_n hx hb dX7_set_135 rfl (lv_at hl 0 rfl) ?_
                      obtain rfl := Option.some.inj hm
                      exact hret _ _ _ _ (vp_nar_int _) hP hD hS dX7_set_136
              · skip
                replace hm := (if_neg c73).symm.trans hm
                refine lv_iload_n hx hb dX7_set_79 rfl (lv_at hl 3 rfl) ?_
                refine lv_bipush (v := (12 : Int32)) hx hb dX7_set_80 (by decide) ?_
                refine lv_icmp_ge (tgt := 104) hx hb dX7_set_82 (by decide) (fun c77 => ?_) (fun c77 => ?_)
                · skip
                  replace hm := (if_pos c77).symm.trans hm
                  refine lv_iload_n hx hb dX7_set_104 rfl (lv_at hl 2 rfl) ?_
                  refine lv_iconst (v := (3 : Int32)) hx hb dX7_set_105 (by decide) ?_
                  refine lv_icmp_ne (tgt := 135) hx hb dX7_set_106 (by decide) (fun c78 => ?_) (fun c78 => ?_)
                  · skip
                    replace hm := (if_neg c78).symm.trans hm
                    refine lv_iload_n hx hb dX7_set_135 rfl (lv_at hl 0 rfl) ?_
                    obtain rfl := Option.some.inj hm
                    exact hret _ _ _ _ (vp_nar_int _) hP hD hS dX7_set_136
                  · skip
                    replace hm := (if_pos c78).symm.trans hm
                    refine lv_iload_n hx hb dX7_set_109 rfl (lv_at hl 3 rfl) ?_
                    refine lv_if_lt (tgt := 135) hx hb dX7_set_110 (by decide) (fun c79 => ?_) (fun c79 => ?_)
                    · skip
                      replace hm := (if_pos c79).symm.trans hm
                      refine lv_iload_n hx hb dX7_set_135 rfl (lv_at hl 0 rfl) ?_
                      obtain rfl := Option.some.inj hm
                      exact hret _ _ _ _ (vp_nar_int _) hP hD hS dX7_set_136
                    · skip
                      replace hm := (if_neg c79).symm.trans hm
                      refine lv_iload_n hx hb dX7_set_113 rfl (lv_at hl 3 rfl) ?_
                      refine lv_bipush (v := (12 : Int32)) hx hb dX7_set_114 (by decide) ?_
                      refine lv_icmp_ge (tgt := 135) hx hb dX7_set_116 (by decide) (fun c80 => ?_) (fun c80 => ?_)
                      · skip
                        replace hm := (if_pos c80).symm.trans hm
                        refine lv_iload_n hx hb dX7_set_135 rfl (lv_at hl 0 rfl) ?_
                        obtain rfl := Option.some.inj hm
                        exact hret _ _ _ _ (vp_nar_int _) hP hD hS dX7_set_136
                      · skip
                        replace hm := (if_neg c80).symm.trans hm
                        refine lv_aload_n hx hb dX7_set_119 rfl (lv_at hl 1 rfl) ?_
                        refine xget (ref := "FriezeFolk") (C := RX7) (T := TX7) (N := 9) (ci := 7) (v := .ref (ha 0)) hx hb hts inX7 hown hK hP 0 rfl rfl 0 (by decide) k1 rfl rfl dX7_set_120 ?_
                        refine xget (ref := "FriezeFolk$Hall") (C := RX0) (T := TX0) (N := 13) (ci := 0) (v := .int (h.2 9)) hx hb hts inX0 hown hK hP 1 rfl rfl 9 (by decide) k2 rfl rfl dX7_set_123 ?_
                        refine lv_istore_n (lv' := [(3, .int (h.2 9)), (0, .ref ffa), (1, .int n), (2, .int x)]) hx hb dX7_set_126 rfl hl (by decide) rfl (fun ls hl => ?_)
                        refine lv_aload_n hx hb dX7_set_127 rfl (lv_at hl 1 rfl) ?_
                        refine xget (ref := "FriezeFolk") (C := RX7) (T := TX7) (N := 9) (ci := 7) (v := .ref (ha 0)) hx hb hts inX7 hown hK hP 0 rfl rfl 0 (by decide) k1 rfl rfl dX7_set_128 ?_
                        refine lv_iload_n hx hb dX7_set_131 rfl (lv_at hl 3 rfl) ?_
                        refine xput (ref := "FriezeFolk$Hall") (C := RX0) (T := TX0) (N := 13) (ci := 0) (v := .int x) (ty := .int) hx hb hts inX0 tyX0 tyX0_ok nmX0 hown hK hP hD hS 1 rfl rfl 9 (by decide) k2 rfl rfl (by decide +kernel) rfl rfl (Nat.le_of_ble_eq_true rfl) dX7_set_132 (wn := ((cF ffa (ha 0) r1 r2 r3 r4 r5 r6 r7 ff) ++ (cH ca ha (sI h 9 x)))) rfl (fun H locs hP hD hS => ?_)
                        refine lv_iload_n hx hb dX7_set_135 rfl (lv_at hl 0 rfl) ?_
                        obtain rfl := Option.some.inj hm
                        exact hret _ _ _ _ (vp_nar_int _) hP hD hS dX7_set_136
                · skip
                  replace hm := (if_neg c77).symm.trans hm
                  refine lv_aload_n hx hb dX7_set_85 rfl (lv_at hl 1 rfl) ?_
                  refine xget (ref := "FriezeFolk") (C := RX7) (T := TX7) (N := 9) (ci := 7) (v := .ref (ha 0)) hx hb hts inX7 hown hK hP 0 rfl rfl 0 (by decide) k1 rfl rfl dX7_set_86 ?_
                  refine xget (ref := "FriezeFolk$Hall") (C := RX0) (T := TX0) (N := 13) (ci := 0) (v := .int (h.2 8)) hx hb hts inX0 hown hK hP 1 rfl rfl 8 (by decide) k3 rfl rfl dX7_set_89 ?_
                  refine lv_istore_n (lv' := [(3, .int (h.2 8)), (0, .ref ffa), (1, .int n), (2, .int x)]) hx hb dX7_set_92 rfl hl (by decide) rfl (fun ls hl => ?_)
                  refine lv_aload_n hx hb dX7_set_93 rfl (lv_at hl 1 rfl) ?_
                  refine xget (ref := "FriezeFolk") (C := RX7) (T := TX7) (N := 9) (ci := 7) (v := .ref (ha 0)) hx hb hts inX7 hown hK hP 0 rfl rfl 0 (by decide) k1 rfl rfl dX7_set_94 ?_
                  refine lv_iload_n hx hb dX7_set_97 rfl (lv_at hl 3 rfl) ?_
                  refine xput (ref := "FriezeFolk$Hall") (C := RX0) (T := TX0) (N := 13) (ci := 0) (v := .int x) (ty := .int) hx hb hts inX0 tyX0 tyX0_ok nmX0 hown hK hP hD hS 1 rfl rfl 8 (by decide) k3 rfl rfl (by decide +kernel) rfl rfl (Nat.le_of_ble_eq_true rfl) dX7_set_98 (wn := ((cF ffa (ha 0) r1 r2 r3 r4 r5 r6 r7 ff) ++ (cH ca ha (sI h 8 x)))) rfl (fun H locs hP hD hS => ?_)
                  refine lv_goto (tgt := 135) hx hb dX7_set_101 (by decide) ?_
                  refine lv_iload_n hx hb dX7_set_135 rfl (lv_at hl 0 rfl) ?_
                  obtain rfl := Option.some.inj hm
                  exact hret _ _ _ _ (vp_nar_int _) hP hD hS dX7_set_136
          · skip
            replace hm := (if_neg c68).symm.trans hm
            refine lv_aload_n hx hb dX7_set_51 rfl (lv_at hl 1 rfl) ?_
            refine xget (ref := "FriezeFolk") (C := RX7) (T := TX7) (N := 9) (ci := 7) (v := .ref (ha 0)) hx hb hts inX7 hown hK hP 0 rfl rfl 0 (by decide) k1 rfl rfl dX7_set_52 ?_
            refine xget (ref := "FriezeFolk$Hall") (C := RX0) (T := TX0) (N := 13) (ci := 0) (v := .int (h.2 7)) hx hb hts inX0 hown hK hP 1 rfl rfl 7 (by decide) k4 rfl rfl dX7_set_55 ?_
            refine lv_istore_n (lv' := [(3, .int (h.2 7)), (0, .ref ffa), (1, .int n), (2, .int x)]) hx hb dX7_set_58 rfl hl (by decide) rfl (fun ls hl => ?_)
            refine lv_aload_n hx hb dX7_set_59 rfl (lv_at hl 1 rfl) ?_
            refine xget (ref := "FriezeFolk") (C := RX7) (T := TX7) (N := 9) (ci := 7) (v := .ref (ha 0)) hx hb hts inX7 hown hK hP 0 rfl rfl 0 (by decide) k1 rfl rfl dX7_set_60 ?_
            refine lv_iload_n hx hb dX7_set_63 rfl (lv_at hl 3 rfl) ?_
            refine xput (ref := "FriezeFolk$Hall") (C := RX0) (T := TX0) (N := 13) (ci := 0) (v := .int x) (ty := .int) hx hb hts inX0 tyX0 tyX0_ok nmX0 hown hK hP hD hS 1 rfl rfl 7 (by decide) k4 rfl rfl (by decide +kernel) rfl rfl (Nat.le_of_ble_eq_true rfl) dX7_set_64 (wn := ((cF ffa (ha 0) r1 r2 r3 r4 r5 r6 r7 ff) ++ (cH ca ha (sI h 7 x)))) rfl (fun H locs hP hD hS => ?_)
            refine lv_goto (tgt := 135) hx hb dX7_set_67 (by decide) ?_
            refine lv_iload_n hx hb dX7_set_135 rfl (lv_at hl 0 rfl) ?_
            obtain rfl := Option.some.inj hm
            exact hret _ _ _ _ (vp_nar_int _) hP hD hS dX7_set_136
    · skip
      replace hm := (if_neg c41).symm.trans hm
      refine lv_iload_n hx hb dX7_set_11 rfl (lv_at hl 3 rfl) ?_
      refine lv_bipush (v := (12 : Int32)) hx hb dX7_set_12 (by decide) ?_
      refine lv_icmp_gt (tgt := 36) hx hb dX7_set_14 (by decide) (fun c81 => ?_) (fun c81 => ?_)
      · skip
        replace hm := (if_pos c81).symm.trans hm
        refine lv_iload_n hx hb dX7_set_36 rfl (lv_at hl 2 rfl) ?_
        refine lv_iconst (v := (1 : Int32)) hx hb dX7_set_37 (by decide) ?_
        refine lv_icmp_ne (tgt := 70) hx hb dX7_set_38 (by decide) (fun c82 => ?_) (fun c82 => ?_)
        · skip
          replace hm := (if_neg c82).symm.trans hm
          refine lv_iload_n hx hb dX7_set_70 rfl (lv_at hl 2 rfl) ?_
          refine lv_iconst (v := (2 : Int32)) hx hb dX7_set_71 (by decide) ?_
          refine lv_icmp_ne (tgt := 104) hx hb dX7_set_72 (by decide) (fun c83 => ?_) (fun c83 => ?_)
          · skip
            replace hm := (if_neg c83).symm.trans hm
            refine lv_iload_n hx hb dX7_set_104 rfl (lv_at hl 2 rfl) ?_
            refine lv_iconst (v := (3 : Int32)) hx hb dX7_set_105 (by decide) ?_
            refine lv_icmp_ne (tgt := 135) hx hb dX7_set_106 (by decide) (fun c84 => ?_) (fun c84 => ?_)
            · skip
              replace hm := (if_neg c84).symm.trans hm
              refine lv_iload_n hx hb dX7_set_135 rfl (lv_at hl 0 rfl) ?_
              obtain rfl := Option.some.inj hm
              exact hret _ _ _ _ (vp_nar_int _) hP hD hS dX7_set_136
            · skip
              replace hm := (if_pos c84).symm.trans hm
              refine lv_iload_n hx hb dX7_set_109 rfl (lv_at hl 3 rfl) ?_
              refine lv_if_lt (tgt := 135) hx hb dX7_set_110 (by decide) (fun c85 => ?_) (fun c85 => ?_)
              · skip
                replace hm := (if_pos c85).symm.trans hm
                refine lv_iload_n hx hb dX7_set_135 rfl (lv_at hl 0 rfl) ?_
                obtain rfl := Option.some.inj hm
                exact hret _ _ _ _ (vp_nar_int _) hP hD hS dX7_set_136
              · skip
                replace hm := (if_neg c85).symm.trans hm
                refine lv_iload_n hx hb dX7_set_113 rfl (lv_at hl 3 rfl) ?_
                refine lv_bipush (v := (12 : Int32)) hx hb dX7_set_114 (by decide) ?_
                refine lv_icmp_ge (tgt := 135) hx hb dX7_set_116 (by decide) (fun c86 => ?_) (fun c86 => ?_)
                · skip
                  replace hm := (if_pos c86).symm.trans hm
                  refine lv_iload_n hx hb dX7_set_135 rfl (lv_at hl 0 rfl) ?_
                  obtain rfl := Option.some.inj hm
                  exact hret _ _ _ _ (vp_nar_int _) hP hD hS dX7_set_136
                · skip
                  replace hm := (if_neg c86).symm.trans hm
                  refine lv_aload_n hx hb dX7_set_119 rfl (lv_at hl 1 rfl) ?_
                  refine xget (ref := "FriezeFolk") (C := RX7) (T := TX7) (N := 9) (ci := 7) (v := .ref (ha 0)) hx hb hts inX7 hown hK hP 0 rfl rfl 0 (by decide) k1 rfl rfl dX7_set_120 ?_
                  refine xget (ref := "FriezeFolk$Hall") (C := RX0) (T := TX0) (N := 13) (ci := 0) (v := .int (h.2 9)) hx hb hts inX0 hown hK hP 1 rfl rfl 9 (by decide) k2 rfl rfl dX7_set_123 ?_
                  refine lv_istore_n (lv' := [(3, .int (h.2 9)), (0, .ref ffa), (1, .int n), (2, .int x)]) hx hb dX7_set_126 rfl hl (by decide) rfl (fun ls hl => ?_)
                  refine lv_aload_n hx hb dX7_set_127 rfl (lv_at hl 1 rfl) ?_
                  refine xget (ref := "FriezeFolk") (C := RX7) (T := TX7) (N := 9) (ci := 7) (v := .ref (ha 0)) hx hb hts inX7 hown hK hP 0 rfl rfl 0 (by decide) k1 rfl rfl dX7_set_128 ?_
                  refine lv_iload_n hx hb dX7_set_131 rfl (lv_at hl 3 rfl) ?_
                  refine xput (ref := "FriezeFolk$Hall") (C := RX0) (T := TX0) (N := 13) (ci := 0) (v := .int x) (ty := .int) hx hb hts inX0 tyX0 tyX0_ok nmX0 hown hK hP hD hS 1 rfl rfl 9 (by decide) k2 rfl rfl (by decide +kernel) rfl rfl (Nat.le_of_ble_eq_true rfl) dX7_set_132 (wn := ((cF ffa (ha 0) r1 r2 r3 r4 r5 r6 r7 ff) ++ (cH ca ha (sI h 9 x)))) rfl (fun H locs hP hD hS => ?_)
                  refine lv_iload_n hx hb dX7_set_135 rfl (lv_at hl 0 rfl) ?_
                  obtain rfl := Option.some.inj hm
                  exact hret _ _ _ _ (vp_nar_int _) hP hD hS dX7_set_136
          · skip
            replace hm := (if_pos c83).symm.trans hm
            refine lv_iload_n hx hb dX7_set_75 rfl (lv_at hl 3 rfl) ?_
            refine lv_if_lt (tgt := 104) hx hb dX7_set_76 (by decide) (fun c87 => ?_) (fun c87 => ?_)
            · skip
              replace hm := (if_pos c87).symm.trans hm
              refine lv_iload_n hx hb dX7_set_104 rfl (lv_at hl 2 rfl) ?_
              refine lv_iconst (v := (3 : Int32)) hx hb dX7_set_105 (by decide) ?_
              refine lv_icmp_ne (tgt := 135) hx hb dX7_set_106 (by decide) (fun c88 => ?_) (fun c88 => ?_)
              · skip
                replace hm := (if_neg c88).symm.trans hm
                refine lv_iload_n hx hb dX7_set_135 rfl (lv_at hl 0 rfl) ?_
                obtain rfl := Option.some.inj hm
                exact hret _ _ _ _ (vp_nar_int _) hP hD hS dX7_set_136
              · skip
                replace hm := (if_pos c88).symm.trans hm
                refine lv_iload_n hx hb dX7_set_109 rfl (lv_at hl 3 rfl) ?_
                refine lv_if_lt (tgt := 135) hx hb dX7_set_110 (by decide) (fun c89 => ?_) (fun c89 => ?_)
                · skip
                  replace hm := (if_pos c89).symm.trans hm
                  refine lv_iload_n hx hb dX7_set_135 rfl (lv_at hl 0 rfl) ?_
                  obtain rfl := Option.some.inj hm
                  exact hret _ _ _ _ (vp_nar_int _) hP hD hS dX7_set_136
                · skip
                  replace hm := (if_neg c89).symm.trans hm
                  refine lv_iload_n hx hb dX7_set_113 rfl (lv_at hl 3 rfl) ?_
                  refine lv_bipush (v := (12 : Int32)) hx hb dX7_set_114 (by decide) ?_
                  refine lv_icmp_ge (tgt := 135) hx hb dX7_set_116 (by decide) (fun c90 => ?_) (fun c90 => ?_)
                  · skip
                    replace hm := (if_pos c90).symm.trans hm
                    refine lv_iload_n hx hb dX7_set_135 rfl (lv_at hl 0 rfl) ?_
                    obtain rfl := Option.some.inj hm
                    exact hret _ _ _ _ (vp_nar_int _) hP hD hS dX7_set_136
                  · skip
                    replace hm := (if_neg c90).symm.trans hm
                    refine lv_aload_n hx hb dX7_set_119 rfl (lv_at hl 1 rfl) ?_
                    refine xget (ref := "FriezeFolk") (C := RX7) (T := TX7) (N := 9) (ci := 7) (v := .ref (ha 0)) hx hb hts inX7 hown hK hP 0 rfl rfl 0 (by decide) k1 rfl rfl dX7_set_120 ?_
                    refine xget (ref := "FriezeFolk$Hall") (C := RX0) (T := TX0) (N := 13) (ci := 0) (v := .int (h.2 9)) hx hb hts inX0 hown hK hP 1 rfl rfl 9 (by decide) k2 rfl rfl dX7_set_123 ?_
                    refine lv_istore_n (lv' := [(3, .int (h.2 9)), (0, .ref ffa), (1, .int n), (2, .int x)]) hx hb dX7_set_126 rfl hl (by decide) rfl (fun ls hl => ?_)
                    refine lv_aload_n hx hb dX7_set_127 rfl (lv_at hl 1 rfl) ?_
                    refine xget (ref := "FriezeFolk") (C := RX7) (T := TX7) (N := 9) (ci := 7) (v := .ref (ha 0)) hx hb hts inX7 hown hK hP 0 rfl rfl 0 (by decide) k1 rfl rfl dX7_set_128 ?_
                    refine lv_iload_n hx hb dX7_set_131 rfl (lv_at hl 3 rfl) ?_
                    refine xput (ref := "FriezeFolk$Hall") (C := RX0) (T := TX0) (N := 13) (ci := 0) (v := .int x) (ty := .int) hx hb hts inX0 tyX0 tyX0_ok nmX0 hown hK hP hD hS 1 rfl rfl 9 (by decide) k2 rfl rfl (by decide +kernel) rfl rfl (Nat.le_of_ble_eq_true rfl) dX7_set_132 (wn := ((cF ffa (ha 0) r1 r2 r3 r4 r5 r6 r7 ff) ++ (cH ca ha (sI h 9 x)))) rfl (fun H locs hP hD hS => ?_)
                    refine lv_iload_n hx hb dX7_set_135 rfl (lv_at hl 0 rfl) ?_
                    obtain rfl := Option.some.inj hm
                    exact hret _ _ _ _ (vp_nar_int _) hP hD hS dX7_set_136
            · skip
              replace hm := (if_neg c87).symm.trans hm
              refine lv_iload_n hx hb dX7_set_79 rfl (lv_at hl 3 rfl) ?_
              refine lv_bipush (v := (12 : Int32)) hx hb dX7_set_80 (by decide) ?_
              refine lv_icmp_ge (tgt := 104) hx hb dX7_set_82 (by decide) (fun c91 => ?_) (fun c91 => ?_)
              · skip
                replace hm := (if_pos c91).symm.trans hm
                refine lv_iload_n hx hb dX7_set_104 rfl (lv_at hl 2 rfl) ?_
                refine lv_iconst (v := (3 : Int32)) hx hb dX7_set_105 (by decide) ?_
                refine lv_icmp_ne (tgt := 135) hx hb dX7_set_106 (by decide) (fun c92 => ?_) (fun c92 => ?_)
                · skip
                  replace hm := (if_neg c92).symm.trans hm
                  refine lv_iload_n hx hb dX7_set_135 rfl (lv_at hl 0 rfl) ?_
                  obtain rfl := Option.some.inj hm
                  exact hret _ _ _ _ (vp_nar_int _) hP hD hS dX7_set_136
                · skip
                  replace hm := (if_pos c92).symm.trans hm
                  refine lv_iload_n hx hb dX7_set_109 rfl (lv_at hl 3 rfl) ?_
                  refine lv_if_lt (tgt := 135) hx hb dX7_set_110 (by decide) (fun c93 => ?_) (fun c93 => ?_)
                  · skip
                    replace hm := (if_pos c93).symm.trans hm
                    refine lv_iload_n hx hb dX7_set_135 rfl (lv_at hl 0 rfl) ?_
                    obtain rfl := Option.some.inj hm
                    exact hret _ _ _ _ (vp_nar_int _) hP hD hS dX7_set_136
                  · skip
                    replace hm := (if_neg c93).symm.trans hm
                    refine lv_iload_n hx hb dX7_set_113 rfl (lv_at hl 3 rfl) ?_
                    refine lv_bipush (v := (12 : Int32)) hx hb dX7_set_114 (by decide) ?_
                    refine lv_icmp_ge (tgt := 135) hx hb dX7_set_116 (by decide) (fun c94 => ?_) (fun c94 => ?_)
                    · skip
                      replace hm := (if_pos c94).symm.trans hm
                      refine lv_iload_n hx hb dX7_set_135 rfl (lv_at hl 0 rfl) ?_
                      obtain rfl := Option.some.inj hm
                      exact hret _ _ _ _ (vp_nar_int _) hP hD hS dX7_set_136
                    · skip
                      replace hm := (if_neg c94).symm.trans hm
                      refine lv_aload_n hx hb dX7_set_119 rfl (lv_at hl 1 rfl) ?_
                      refine xget (ref := "FriezeFolk") (C := RX7) (T := TX7) (N := 9) (ci := 7) (v := .ref (ha 0)) hx hb hts inX7 hown hK hP 0 rfl rfl 0 (by decide) k1 rfl rfl dX7_set_120 ?_
                      refine xget (ref := "FriezeFolk$Hall") (C := RX0) (T := TX0) (N := 13) (ci := 0) (v := .int (h.2 9)) hx hb hts inX0 hown hK hP 1 rfl rfl 9 (by decide) k2 rfl rfl dX7_set_123 ?_
                      refine lv_istore_n (lv' := [(3, .int (h.2 9)), (0, .ref ffa), (1, .int n), (2, .int x)]) hx hb dX7_set_126 rfl hl (by decide) rfl (fun ls hl => ?_)
                      refine lv_aload_n hx hb dX7_set_127 rfl (lv_at hl 1 rfl) ?_
                      refine xget (ref := "FriezeFolk") (C := RX7) (T := TX7) (N := 9) (ci := 7) (v := .ref (ha 0)) hx hb hts inX7 hown hK hP 0 rfl rfl 0 (by decide) k1 rfl rfl dX7_set_128 ?_
                      refine lv_iload_n hx hb dX7_set_131 rfl (lv_at hl 3 rfl) ?_
                      refine xput (ref := "FriezeFolk$Hall") (C := RX0) (T := TX0) (N := 13) (ci := 0) (v := .int x) (ty := .int) hx hb hts inX0 tyX0 tyX0_ok nmX0 hown hK hP hD hS 1 rfl rfl 9 (by decide) k2 rfl rfl (by decide +kernel) rfl rfl (Nat.le_of_ble_eq_true rfl) dX7_set_132 (wn := ((cF ffa (ha 0) r1 r2 r3 r4 r5 r6 r7 ff) ++ (cH ca ha (sI h 9 x)))) rfl (fun H locs hP hD hS => ?_)
                      refine lv_iload_n hx hb dX7_set_135 rfl (lv_at hl 0 rfl) ?_
                      obtain rfl := Option.some.inj hm
                      exact hret _ _ _ _ (vp_nar_int _) hP hD hS dX7_set_136
              · skip
                replace hm := (if_neg c91).symm.trans hm
                refine lv_aload_n hx hb dX7_set_85 rfl (lv_at hl 1 rfl) ?_
                refine xget (ref := "FriezeFolk") (C := RX7) (T := TX7) (N := 9) (ci := 7) (v := .ref (ha 0)) hx hb hts inX7 hown hK hP 0 rfl rfl 0 (by decide) k1 rfl rfl dX7_set_86 ?_
                refine xget (ref := "FriezeFolk$Hall") (C := RX0) (T := TX0) (N := 13) (ci := 0) (v := .int (h.2 8)) hx hb hts inX0 hown hK hP 1 rfl rfl 8 (by decide) k3 rfl rfl dX7_set_89 ?_
                refine lv_istore_n (lv' := [(3, .int (h.2 8)), (0, .ref ffa), (1, .int n), (2, .int x)]) hx hb dX7_set_92 rfl hl (by decide) rfl (fun ls hl => ?_)
                refine lv_aload_n hx hb dX7_set_93 rfl (lv_at hl 1 rfl) ?_
                refine xget (ref := "FriezeFolk") (C := RX7) (T := TX7) (N := 9) (ci := 7) (v := .ref (ha 0)) hx hb hts inX7 hown hK hP 0 rfl rfl 0 (by decide) k1 rfl rfl dX7_set_94 ?_
                refine lv_iload_n hx hb dX7_set_97 rfl (lv_at hl 3 rfl) ?_
                refine xput (ref := "FriezeFolk$Hall") (C := RX0) (T := TX0) (N := 13) (ci := 0) (v := .int x) (ty := .int) hx hb hts inX0 tyX0 tyX0_ok nmX0 hown hK hP hD hS 1 rfl rfl 8 (by decide) k3 rfl rfl (by decide +kernel) rfl rfl (Nat.le_of_ble_eq_true rfl) dX7_set_98 (wn := ((cF ffa (ha 0) r1 r2 r3 r4 r5 r6 r7 ff) ++ (cH ca ha (sI h 8 x)))) rfl (fun H locs hP hD hS => ?_)
                refine lv_goto (tgt := 135) hx hb dX7_set_101 (by decide) ?_
                refine lv_iload_n hx hb dX7_set_135 rfl (lv_at hl 0 rfl) ?_
                obtain rfl := Option.some.inj hm
                exact hret _ _ _ _ (vp_nar_int _) hP hD hS dX7_set_136
        · skip
          replace hm := (if_pos c82).symm.trans hm
          refine lv_iload_n hx hb dX7_set_41 rfl (lv_at hl 3 rfl) ?_
          refine lv_if_lt (tgt := 70) hx hb dX7_set_42 (by decide) (fun c95 => ?_) (fun c95 => ?_)
          · skip
            replace hm := (if_pos c95).symm.trans hm
            refine lv_iload_n hx hb dX7_set_70 rfl (lv_at hl 2 rfl) ?_
            refine lv_iconst (v := (2 : Int32)) hx hb dX7_set_71 (by decide) ?_
            refine lv_icmp_ne (tgt := 104) hx hb dX7_set_72 (by decide) (fun c96 => ?_) (fun c96 => ?_)
            · skip
              replace hm := (if_neg c96).symm.trans hm
              refine lv_iload_n hx hb dX7_set_104 rfl (lv_at hl 2 rfl) ?_
              refine lv_iconst (v := (3 : Int32)) hx hb dX7_set_105 (by decide) ?_
              refine lv_icmp_ne (tgt := 135) hx hb dX7_set_106 (by decide) (fun c97 => ?_) (fun c97 => ?_)
              · skip
                replace hm := (if_neg c97).symm.trans hm
                refine lv_iload_n hx hb dX7_set_135 rfl (lv_at hl 0 rfl) ?_
                obtain rfl := Option.some.inj hm
                exact hret _ _ _ _ (vp_nar_int _) hP hD hS dX7_set_136
              · skip
                replace hm := (if_pos c97).symm.trans hm
                refine lv_iload_n hx hb dX7_set_109 rfl (lv_at hl 3 rfl) ?_
                refine lv_if_lt (tgt := 135) hx hb dX7_set_110 (by decide) (fun c98 => ?_) (fun c98 => ?_)
                · skip
                  replace hm := (if_pos c98).symm.trans hm
                  refine lv_iload_n hx hb dX7_set_135 rfl (lv_at hl 0 rfl) ?_
                  obtain rfl := Option.some.inj hm
                  exact hret _ _ _ _ (vp_nar_int _) hP hD hS dX7_set_136
                · skip
                  replace hm := (if_neg c98).symm.trans hm
                  refine lv_iload_n hx hb dX7_set_113 rfl (lv_at hl 3 rfl) ?_
                  refine lv_bipush (v := (12 : Int32)) hx hb dX7_set_114 (by decide) ?_
                  refine lv_icmp_ge (tgt := 135) hx hb dX7_set_116 (by decide) (fun c99 => ?_) (fun c99 => ?_)
                  · skip
                    replace hm := (if_pos c99).symm.trans hm
                    refine lv_iload_n hx hb dX7_set_135 rfl (lv_at hl 0 rfl) ?_
                    obtain rfl := Option.some.inj hm
                    exact hret _ _ _ _ (vp_nar_int _) hP hD hS dX7_set_136
                  · skip
                    replace hm := (if_neg c99).symm.trans hm
                    refine lv_aload_n hx hb dX7_set_119 rfl (lv_at hl 1 rfl) ?_
                    refine xget (ref := "FriezeFolk") (C := RX7) (T := TX7) (N := 9) (ci := 7) (v := .ref (ha 0)) hx hb hts inX7 hown hK hP 0 rfl rfl 0 (by decide) k1 rfl rfl dX7_set_120 ?_
                    refine xget (ref := "FriezeFolk$Hall") (C := RX0) (T := TX0) (N := 13) (ci := 0) (v := .int (h.2 9)) hx hb hts inX0 hown hK hP 1 rfl rfl 9 (by decide) k2 rfl rfl dX7_set_123 ?_
                    refine lv_istore_n (lv' := [(3, .int (h.2 9)), (0, .ref ffa), (1, .int n), (2, .int x)]) hx hb dX7_set_126 rfl hl (by decide) rfl (fun ls hl => ?_)
                    refine lv_aload_n hx hb dX7_set_127 rfl (lv_at hl 1 rfl) ?_
                    refine xget (ref := "FriezeFolk") (C := RX7) (T := TX7) (N := 9) (ci := 7) (v := .ref (ha 0)) hx hb hts inX7 hown hK hP 0 rfl rfl 0 (by decide) k1 rfl rfl dX7_set_128 ?_
                    refine lv_iload_n hx hb dX7_set_131 rfl (lv_at hl 3 rfl) ?_
                    refine xput (ref := "FriezeFolk$Hall") (C := RX0) (T := TX0) (N := 13) (ci := 0) (v := .int x) (ty := .int) hx hb hts inX0 tyX0 tyX0_ok nmX0 hown hK hP hD hS 1 rfl rfl 9 (by decide) k2 rfl rfl (by decide +kernel) rfl rfl (Nat.le_of_ble_eq_true rfl) dX7_set_132 (wn := ((cF ffa (ha 0) r1 r2 r3 r4 r5 r6 r7 ff) ++ (cH ca ha (sI h 9 x)))) rfl (fun H locs hP hD hS => ?_)
                    refine lv_iload_n hx hb dX7_set_135 rfl (lv_at hl 0 rfl) ?_
                    obtain rfl := Option.some.inj hm
                    exact hret _ _ _ _ (vp_nar_int _) hP hD hS dX7_set_136
            · skip
              replace hm := (if_pos c96).symm.trans hm
              refine lv_iload_n hx hb dX7_set_75 rfl (lv_at hl 3 rfl) ?_
              refine lv_if_lt (tgt := 104) hx hb dX7_set_76 (by decide) (fun c100 => ?_) (fun c100 => ?_)
              · skip
                replace hm := (if_pos c100).symm.trans hm
                refine lv_iload_n hx hb dX7_set_104 rfl (lv_at hl 2 rfl) ?_
                refine lv_iconst (v := (3 : Int32)) hx hb dX7_set_105 (by decide) ?_
                refine lv_icmp_ne (tgt := 135) hx hb dX7_set_106 (by decide) (fun c101 => ?_) (fun c101 => ?_)
                · skip
                  replace hm := (if_neg c101).symm.trans hm
                  refine lv_iload_n hx hb dX7_set_135 rfl (lv_at hl 0 rfl) ?_
                  obtain rfl := Option.some.inj hm
                  exact hret _ _ _ _ (vp_nar_int _) hP hD hS dX7_set_136
                · skip
                  replace hm := (if_pos c101).symm.trans hm
                  refine lv_iload_n hx hb dX7_set_109 rfl (lv_at hl 3 rfl) ?_
                  refine lv_if_lt (tgt := 135) hx hb dX7_set_110 (by decide) (fun c102 => ?_) (fun c102 => ?_)
                  · skip
                    replace hm := (if_pos c102).symm.trans hm
                    refine lv_iload_n hx hb dX7_set_135 rfl (lv_at hl 0 rfl) ?_
                    obtain rfl := Option.some.inj hm
                    exact hret _ _ _ _ (vp_nar_int _) hP hD hS dX7_set_136
                  · skip
                    replace hm := (if_neg c102).symm.trans hm
                    refine lv_iload_n hx hb dX7_set_113 rfl (lv_at hl 3 rfl) ?_
                    refine lv_bipush (v := (12 : Int32)) hx hb dX7_set_114 (by decide) ?_
                    refine lv_icmp_ge (tgt := 135) hx hb dX7_set_116 (by decide) (fun c103 => ?_) (fun c103 => ?_)
                    · skip
                      replace hm := (if_pos c103).symm.trans hm
                      refine lv_iload_n hx hb dX7_set_135 rfl (lv_at hl 0 rfl) ?_
                      obtain rfl := Option.some.inj hm
                      exact hret _ _ _ _ (vp_nar_int _) hP hD hS dX7_set_136
                    · skip
                      replace hm := (if_neg c103).symm.trans hm
                      refine lv_aload_n hx hb dX7_set_119 rfl (lv_at hl 1 rfl) ?_
                      refine xget (ref := "FriezeFolk") (C := RX7) (T := TX7) (N := 9) (ci := 7) (v := .ref (ha 0)) hx hb hts inX7 hown hK hP 0 rfl rfl 0 (by decide) k1 rfl rfl dX7_set_120 ?_
                      refine xget (ref := "FriezeFolk$Hall") (C := RX0) (T := TX0) (N := 13) (ci := 0) (v := .int (h.2 9)) hx hb hts inX0 hown hK hP 1 rfl rfl 9 (by decide) k2 rfl rfl dX7_set_123 ?_
                      refine lv_istore_n (lv' := [(3, .int (h.2 9)), (0, .ref ffa), (1, .int n), (2, .int x)]) hx hb dX7_set_126 rfl hl (by decide) rfl (fun ls hl => ?_)
                      refine lv_aload_n hx hb dX7_set_127 rfl (lv_at hl 1 rfl) ?_
                      refine xget (ref := "FriezeFolk") (C := RX7) (T := TX7) (N := 9) (ci := 7) (v := .ref (ha 0)) hx hb hts inX7 hown hK hP 0 rfl rfl 0 (by decide) k1 rfl rfl dX7_set_128 ?_
                      refine lv_iload_n hx hb dX7_set_131 rfl (lv_at hl 3 rfl) ?_
                      refine xput (ref := "FriezeFolk$Hall") (C := RX0) (T := TX0) (N := 13) (ci := 0) (v := .int x) (ty := .int) hx hb hts inX0 tyX0 tyX0_ok nmX0 hown hK hP hD hS 1 rfl rfl 9 (by decide) k2 rfl rfl (by decide +kernel) rfl rfl (Nat.le_of_ble_eq_true rfl) dX7_set_132 (wn := ((cF ffa (ha 0) r1 r2 r3 r4 r5 r6 r7 ff) ++ (cH ca ha (sI h 9 x)))) rfl (fun H locs hP hD hS => ?_)
                      refine lv_iload_n hx hb dX7_set_135 rfl (lv_at hl 0 rfl) ?_
                      obtain rfl := Option.some.inj hm
                      exact hret _ _ _ _ (vp_nar_int _) hP hD hS dX7_set_136
              · skip
                replace hm := (if_neg c100).symm.trans hm
                refine lv_iload_n hx hb dX7_set_79 rfl (lv_at hl 3 rfl) ?_
                refine lv_bipush (v := (12 : Int32)) hx hb dX7_set_80 (by decide) ?_
                refine lv_icmp_ge (tgt := 104) hx hb dX7_set_82 (by decide) (fun c104 => ?_) (fun c104 => ?_)
                · skip
                  replace hm := (if_pos c104).symm.trans hm
                  refine lv_iload_n hx hb dX7_set_104 rfl (lv_at hl 2 rfl) ?_
                  refine lv_iconst (v := (3 : Int32)) hx hb dX7_set_105 (by decide) ?_
                  refine lv_icmp_ne (tgt := 135) hx hb dX7_set_106 (by decide) (fun c105 => ?_) (fun c105 => ?_)
                  · skip
                    replace hm := (if_neg c105).symm.trans hm
                    refine lv_iload_n hx hb dX7_set_135 rfl (lv_at hl 0 rfl) ?_
                    obtain rfl := Option.some.inj hm
                    exact hret _ _ _ _ (vp_nar_int _) hP hD hS dX7_set_136
                  · skip
                    replace hm := (if_pos c105).symm.trans hm
                    refine lv_iload_n hx hb dX7_set_109 rfl (lv_at hl 3 rfl) ?_
                    refine lv_if_lt (tgt := 135) hx hb dX7_set_110 (by decide) (fun c106 => ?_) (fun c106 => ?_)
                    · skip
                      replace hm := (if_pos c106).symm.trans hm
                      refine lv_iload_n hx hb dX7_set_135 rfl (lv_at hl 0 rfl) ?_
                      obtain rfl := Option.some.inj hm
                      exact hret _ _ _ _ (vp_nar_int _) hP hD hS dX7_set_136
                    · skip
                      replace hm := (if_neg c106).symm.trans hm
                      refine lv_iload_n hx hb dX7_set_113 rfl (lv_at hl 3 rfl) ?_
                      refine lv_bipush (v := (12 : Int32)) hx hb dX7_set_114 (by decide) ?_
                      refine lv_icmp_ge (tgt := 135) hx hb dX7_set_116 (by decide) (fun c107 => ?_) (fun c107 => ?_)
                      · skip
                        replace hm := (if_pos c107).symm.trans hm
                        refine lv_iload_n hx hb dX7_set_135 rfl (lv_at hl 0 rfl) ?_
                        obtain rfl := Option.some.inj hm
                        exact hret _ _ _ _ (vp_nar_int _) hP hD hS dX7_set_136
                      · skip
                        replace hm := (if_neg c107).symm.trans hm
                        refine lv_aload_n hx hb dX7_set_119 rfl (lv_at hl 1 rfl) ?_
                        refine xget (ref := "FriezeFolk") (C := RX7) (T := TX7) (N := 9) (ci := 7) (v := .ref (ha 0)) hx hb hts inX7 hown hK hP 0 rfl rfl 0 (by decide) k1 rfl rfl dX7_set_120 ?_
                        refine xget (ref := "FriezeFolk$Hall") (C := RX0) (T := TX0) (N := 13) (ci := 0) (v := .int (h.2 9)) hx hb hts inX0 hown hK hP 1 rfl rfl 9 (by decide) k2 rfl rfl dX7_set_123 ?_
                        refine lv_istore_n (lv' := [(3, .int (h.2 9)), (0, .ref ffa), (1, .int n), (2, .int x)]) hx hb dX7_set_126 rfl hl (by decide) rfl (fun ls hl => ?_)
                        refine lv_aload_n hx hb dX7_set_127 rfl (lv_at hl 1 rfl) ?_
                        refine xget (ref := "FriezeFolk") (C := RX7) (T := TX7) (N := 9) (ci := 7) (v := .ref (ha 0)) hx hb hts inX7 hown hK hP 0 rfl rfl 0 (by decide) k1 rfl rfl dX7_set_128 ?_
                        refine lv_iload_n hx hb dX7_set_131 rfl (lv_at hl 3 rfl) ?_
                        refine xput (ref := "FriezeFolk$Hall") (C := RX0) (T := TX0) (N := 13) (ci := 0) (v := .int x) (ty := .int) hx hb hts inX0 tyX0 tyX0_ok nmX0 hown hK hP hD hS 1 rfl rfl 9 (by decide) k2 rfl rfl (by decide +kernel) rfl rfl (Nat.le_of_ble_eq_true rfl) dX7_set_132 (wn := ((cF ffa (ha 0) r1 r2 r3 r4 r5 r6 r7 ff) ++ (cH ca ha (sI h 9 x)))) rfl (fun H locs hP hD hS => ?_)
                        refine lv_iload_n hx hb dX7_set_135 rfl (lv_at hl 0 rfl) ?_
                        obtain rfl := Option.some.inj hm
                        exact hret _ _ _ _ (vp_nar_int _) hP hD hS dX7_set_136
                · skip
                  replace hm := (if_neg c104).symm.trans hm
                  refine lv_aload_n hx hb dX7_set_85 rfl (lv_at hl 1 rfl) ?_
                  refine xget (ref := "FriezeFolk") (C := RX7) (T := TX7) (N := 9) (ci := 7) (v := .ref (ha 0)) hx hb hts inX7 hown hK hP 0 rfl rfl 0 (by decide) k1 rfl rfl dX7_set_86 ?_
                  refine xget (ref := "FriezeFolk$Hall") (C := RX0) (T := TX0) (N := 13) (ci := 0) (v := .int (h.2 8)) hx hb hts inX0 hown hK hP 1 rfl rfl 8 (by decide) k3 rfl rfl dX7_set_89 ?_
                  refine lv_istore_n (lv' := [(3, .int (h.2 8)), (0, .ref ffa), (1, .int n), (2, .int x)]) hx hb dX7_set_92 rfl hl (by decide) rfl (fun ls hl => ?_)
                  refine lv_aload_n hx hb dX7_set_93 rfl (lv_at hl 1 rfl) ?_
                  refine xget (ref := "FriezeFolk") (C := RX7) (T := TX7) (N := 9) (ci := 7) (v := .ref (ha 0)) hx hb hts inX7 hown hK hP 0 rfl rfl 0 (by decide) k1 rfl rfl dX7_set_94 ?_
                  refine lv_iload_n hx hb dX7_set_97 rfl (lv_at hl 3 rfl) ?_
                  refine xput (ref := "FriezeFolk$Hall") (C := RX0) (T := TX0) (N := 13) (ci := 0) (v := .int x) (ty := .int) hx hb hts inX0 tyX0 tyX0_ok nmX0 hown hK hP hD hS 1 rfl rfl 8 (by decide) k3 rfl rfl (by decide +kernel) rfl rfl (Nat.le_of_ble_eq_true rfl) dX7_set_98 (wn := ((cF ffa (ha 0) r1 r2 r3 r4 r5 r6 r7 ff) ++ (cH ca ha (sI h 8 x)))) rfl (fun H locs hP hD hS => ?_)
                  refine lv_goto (tgt := 135) hx hb dX7_set_101 (by decide) ?_
                  refine lv_iload_n hx hb dX7_set_135 rfl (lv_at hl 0 rfl) ?_
                  obtain rfl := Option.some.inj hm
                  exact hret _ _ _ _ (vp_nar_int _) hP hD hS dX7_set_136
          · skip
            replace hm := (if_neg c95).symm.trans hm
            refine lv_iload_n hx hb dX7_set_45 rfl (lv_at hl 3 rfl) ?_
            refine lv_bipush (v := (6 : Int32)) hx hb dX7_set_46 (by decide) ?_
            refine lv_icmp_ge (tgt := 70) hx hb dX7_set_48 (by decide) (fun c108 => ?_) (fun c108 => ?_)
            · skip
              replace hm := (if_pos c108).symm.trans hm
              refine lv_iload_n hx hb dX7_set_70 rfl (lv_at hl 2 rfl) ?_
              refine lv_iconst (v := (2 : Int32)) hx hb dX7_set_71 (by decide) ?_
              refine lv_icmp_ne (tgt := 104) hx hb dX7_set_72 (by decide) (fun c109 => ?_) (fun c109 => ?_)
              · skip
                replace hm := (if_neg c109).symm.trans hm
                refine lv_iload_n hx hb dX7_set_104 rfl (lv_at hl 2 rfl) ?_
                refine lv_iconst (v := (3 : Int32)) hx hb dX7_set_105 (by decide) ?_
                refine lv_icmp_ne (tgt := 135) hx hb dX7_set_106 (by decide) (fun c110 => ?_) (fun c110 => ?_)
                · skip
                  replace hm := (if_neg c110).symm.trans hm
                  refine lv_iload_n hx hb dX7_set_135 rfl (lv_at hl 0 rfl) ?_
                  obtain rfl := Option.some.inj hm
                  exact hret _ _ _ _ (vp_nar_int _) hP hD hS dX7_set_136
                · skip
                  replace hm := (if_pos c110).symm.trans hm
                  refine lv_iload_n hx hb dX7_set_109 rfl (lv_at hl 3 rfl) ?_
                  refine lv_if_lt (tgt := 135) hx hb dX7_set_110 (by decide) (fun c111 => ?_) (fun c111 => ?_)
                  · skip
                    replace hm := (if_pos c111).symm.trans hm
                    refine lv_iload_n hx hb dX7_set_135 rfl (lv_at hl 0 rfl) ?_
                    obtain rfl := Option.some.inj hm
                    exact hret _ _ _ _ (vp_nar_int _) hP hD hS dX7_set_136
                  · skip
                    replace hm := (if_neg c111).symm.trans hm
                    refine lv_iload_n hx hb dX7_set_113 rfl (lv_at hl 3 rfl) ?_
                    refine lv_bipush (v := (12 : Int32)) hx hb dX7_set_114 (by decide) ?_
                    refine lv_icmp_ge (tgt := 135) hx hb dX7_set_116 (by decide) (fun c112 => ?_) (fun c112 => ?_)
                    · skip
                      replace hm := (if_pos c112).symm.trans hm
                      refine lv_iload_n hx hb dX7_set_135 rfl (lv_at hl 0 rfl) ?_
                      obtain rfl := Option.some.inj hm
                      exact hret _ _ _ _ (vp_nar_int _) hP hD hS dX7_set_136
                    · skip
                      replace hm := (if_neg c112).symm.trans hm
                      refine lv_aload_n hx hb dX7_set_119 rfl (lv_at hl 1 rfl) ?_
                      refine xget (ref := "FriezeFolk") (C := RX7) (T := TX7) (N := 9) (ci := 7) (v := .ref (ha 0)) hx hb hts inX7 hown hK hP 0 rfl rfl 0 (by decide) k1 rfl rfl dX7_set_120 ?_
                      refine xget (ref := "FriezeFolk$Hall") (C := RX0) (T := TX0) (N := 13) (ci := 0) (v := .int (h.2 9)) hx hb hts inX0 hown hK hP 1 rfl rfl 9 (by decide) k2 rfl rfl dX7_set_123 ?_
                      refine lv_istore_n (lv' := [(3, .int (h.2 9)), (0, .ref ffa), (1, .int n), (2, .int x)]) hx hb dX7_set_126 rfl hl (by decide) rfl (fun ls hl => ?_)
                      refine lv_aload_n hx hb dX7_set_127 rfl (lv_at hl 1 rfl) ?_
                      refine xget (ref := "FriezeFolk") (C := RX7) (T := TX7) (N := 9) (ci := 7) (v := .ref (ha 0)) hx hb hts inX7 hown hK hP 0 rfl rfl 0 (by decide) k1 rfl rfl dX7_set_128 ?_
                      refine lv_iload_n hx hb dX7_set_131 rfl (lv_at hl 3 rfl) ?_
                      refine xput (ref := "FriezeFolk$Hall") (C := RX0) (T := TX0) (N := 13) (ci := 0) (v := .int x) (ty := .int) hx hb hts inX0 tyX0 tyX0_ok nmX0 hown hK hP hD hS 1 rfl rfl 9 (by decide) k2 rfl rfl (by decide +kernel) rfl rfl (Nat.le_of_ble_eq_true rfl) dX7_set_132 (wn := ((cF ffa (ha 0) r1 r2 r3 r4 r5 r6 r7 ff) ++ (cH ca ha (sI h 9 x)))) rfl (fun H locs hP hD hS => ?_)
                      refine lv_iload_n hx hb dX7_set_135 rfl (lv_at hl 0 rfl) ?_
                      obtain rfl := Option.some.inj hm
                      exact hret _ _ _ _ (vp_nar_int _) hP hD hS dX7_set_136
              · skip
                replace hm := (if_pos c109).symm.trans hm
                refine lv_iload_n hx hb dX7_set_75 rfl (lv_at hl 3 rfl) ?_
                refine lv_if_lt (tgt := 104) hx hb dX7_set_76 (by decide) (fun c113 => ?_) (fun c113 => ?_)
                · skip
                  replace hm := (if_pos c113).symm.trans hm
                  refine lv_iload_n hx hb dX7_set_104 rfl (lv_at hl 2 rfl) ?_
                  refine lv_iconst (v := (3 : Int32)) hx hb dX7_set_105 (by decide) ?_
                  refine lv_icmp_ne (tgt := 135) hx hb dX7_set_106 (by decide) (fun c114 => ?_) (fun c114 => ?_)
                  · skip
                    replace hm := (if_neg c114).symm.trans hm
                    refine lv_iload_n hx hb dX7_set_135 rfl (lv_at hl 0 rfl) ?_
                    obtain rfl := Option.some.inj hm
                    exact hret _ _ _ _ (vp_nar_int _) hP hD hS dX7_set_136
                  · skip
                    replace hm := (if_pos c114).symm.trans hm
                    refine lv_iload_n hx hb dX7_set_109 rfl (lv_at hl 3 rfl) ?_
                    refine lv_if_lt (tgt := 135) hx hb dX7_set_110 (by decide) (fun c115 => ?_) (fun c115 => ?_)
                    · skip
                      replace hm := (if_pos c115).symm.trans hm
                      refine lv_iload_n hx hb dX7_set_135 rfl (lv_at hl 0 rfl) ?_
                      obtain rfl := Option.some.inj hm
                      exact hret _ _ _ _ (vp_nar_int _) hP hD hS dX7_set_136
                    · skip
                      replace hm := (if_neg c115).symm.trans hm
                      refine lv_iload_n hx hb dX7_set_113 rfl (lv_at hl 3 rfl) ?_
                      refine lv_bipush (v := (12 : Int32)) hx hb dX7_set_114 (by decide) ?_
                      refine lv_icmp_ge (tgt := 135) hx hb dX7_set_116 (by decide) (fun c116 => ?_) (fun c116 => ?_)
                      · skip
                        replace hm := (if_pos c116).symm.trans hm
                        refine lv_iload_n hx hb dX7_set_135 rfl (lv_at hl 0 rfl) ?_
                        obtain rfl := Option.some.inj hm
                        exact hret _ _ _ _ (vp_nar_int _) hP hD hS dX7_set_136
                      · skip
                        replace hm := (if_neg c116).symm.trans hm
                        refine lv_aload_n hx hb dX7_set_119 rfl (lv_at hl 1 rfl) ?_
                        refine xget (ref := "FriezeFolk") (C := RX7) (T := TX7) (N := 9) (ci := 7) (v := .ref (ha 0)) hx hb hts inX7 hown hK hP 0 rfl rfl 0 (by decide) k1 rfl rfl dX7_set_120 ?_
                        refine xget (ref := "FriezeFolk$Hall") (C := RX0) (T := TX0) (N := 13) (ci := 0) (v := .int (h.2 9)) hx hb hts inX0 hown hK hP 1 rfl rfl 9 (by decide) k2 rfl rfl dX7_set_123 ?_
                        refine lv_istore_n (lv' := [(3, .int (h.2 9)), (0, .ref ffa), (1, .int n), (2, .int x)]) hx hb dX7_set_126 rfl hl (by decide) rfl (fun ls hl => ?_)
                        refine lv_aload_n hx hb dX7_set_127 rfl (lv_at hl 1 rfl) ?_
                        refine xget (ref := "FriezeFolk") (C := RX7) (T := TX7) (N := 9) (ci := 7) (v := .ref (ha 0)) hx hb hts inX7 hown hK hP 0 rfl rfl 0 (by decide) k1 rfl rfl dX7_set_128 ?_
                        refine lv_iload_n hx hb dX7_set_131 rfl (lv_at hl 3 rfl) ?_
                        refine xput (ref := "FriezeFolk$Hall") (C := RX0) (T := TX0) (N := 13) (ci := 0) (v := .int x) (ty := .int) hx hb hts inX0 tyX0 tyX0_ok nmX0 hown hK hP hD hS 1 rfl rfl 9 (by decide) k2 rfl rfl (by decide +kernel) rfl rfl (Nat.le_of_ble_eq_true rfl) dX7_set_132 (wn := ((cF ffa (ha 0) r1 r2 r3 r4 r5 r6 r7 ff) ++ (cH ca ha (sI h 9 x)))) rfl (fun H locs hP hD hS => ?_)
                        refine lv_iload_n hx hb dX7_set_135 rfl (lv_at hl 0 rfl) ?_
                        obtain rfl := Option.some.inj hm
                        exact hret _ _ _ _ (vp_nar_int _) hP hD hS dX7_set_136
                · skip
                  replace hm := (if_neg c113).symm.trans hm
                  refine lv_iload_n hx hb dX7_set_79 rfl (lv_at hl 3 rfl) ?_
                  refine lv_bipush (v := (12 : Int32)) hx hb dX7_set_80 (by decide) ?_
                  refine lv_icmp_ge (tgt := 104) hx hb dX7_set_82 (by decide) (fun c117 => ?_) (fun c117 => ?_)
                  · skip
                    replace hm := (if_pos c117).symm.trans hm
                    refine lv_iload_n hx hb dX7_set_104 rfl (lv_at hl 2 rfl) ?_
                    refine lv_iconst (v := (3 : Int32)) hx hb dX7_set_105 (by decide) ?_
                    refine lv_icmp_ne (tgt := 135) hx hb dX7_set_106 (by decide) (fun c118 => ?_) (fun c118 => ?_)
                    · skip
                      replace hm := (if_neg c118).symm.trans hm
                      refine lv_iload_n hx hb dX7_set_135 rfl (lv_at hl 0 rfl) ?_
                      obtain rfl := Option.some.inj hm
                      exact hret _ _ _ _ (vp_nar_int _) hP hD hS dX7_set_136
                    · skip
                      replace hm := (if_pos c118).symm.trans hm
                      refine lv_iload_n hx hb dX7_set_109 rfl (lv_at hl 3 rfl) ?_
                      refine lv_if_lt (tgt := 135) hx hb dX7_set_110 (by decide) (fun c119 => ?_) (fun c119 => ?_)
                      · skip
                        replace hm := (if_pos c119).symm.trans hm
                        refine lv_iload_n hx hb dX7_set_135 rfl (lv_at hl 0 rfl) ?_
                        obtain rfl := Option.some.inj hm
                        exact hret _ _ _ _ (vp_nar_int _) hP hD hS dX7_set_136
                      · skip
                        replace hm := (if_neg c119).symm.trans hm
                        refine lv_iload_n hx hb dX7_set_113 rfl (lv_at hl 3 rfl) ?_
                        refine lv_bipush (v := (12 : Int32)) hx hb dX7_set_114 (by decide) ?_
                        refine lv_icmp_ge (tgt := 135) hx hb dX7_set_116 (by decide) (fun c120 => ?_) (fun c120 => ?_)
                        · skip
                          replace hm := (if_pos c120).symm.trans hm
                          refine lv_iload_n hx hb dX7_set_135 rfl (lv_at hl 0 rfl) ?_
                          obtain rfl := Option.some.inj hm
                          exact hret _ _ _ _ (vp_nar_int _) hP hD hS dX7_set_136
                        · skip
                          replace hm := (if_neg c120).symm.trans hm
                          refine lv_aload_n hx hb dX7_set_119 rfl (lv_at hl 1 rfl) ?_
                          refine xget (ref := "FriezeFolk") (C := RX7) (T := TX7) (N := 9) (ci := 7) (v := .ref (ha 0)) hx hb hts inX7 hown hK hP 0 rfl rfl 0 (by decide) k1 rfl rfl dX7_set_120 ?_
                          refine xget (ref := "FriezeFolk$Hall") (C := RX0) (T := TX0) (N := 13) (ci := 0) (v := .int (h.2 9)) hx hb hts inX0 hown hK hP 1 rfl rfl 9 (by decide) k2 rfl rfl dX7_set_123 ?_
                          refine lv_istore_n (lv' := [(3, .int (h.2 9)), (0, .ref ffa), (1, .int n), (2, .int x)]) hx hb dX7_set_126 rfl hl (by decide) rfl (fun ls hl => ?_)
                          refine lv_aload_n hx hb dX7_set_127 rfl (lv_at hl 1 rfl) ?_
                          refine xget (ref := "FriezeFolk") (C := RX7) (T := TX7) (N := 9) (ci := 7) (v := .ref (ha 0)) hx hb hts inX7 hown hK hP 0 rfl rfl 0 (by decide) k1 rfl rfl dX7_set_128 ?_
                          refine lv_iload_n hx hb dX7_set_131 rfl (lv_at hl 3 rfl) ?_
                          refine xput (ref := "FriezeFolk$Hall") (C := RX0) (T := TX0) (N := 13) (ci := 0) (v := .int x) (ty := .int) hx hb hts inX0 tyX0 tyX0_ok nmX0 hown hK hP hD hS 1 rfl rfl 9 (by decide) k2 rfl rfl (by decide +kernel) rfl rfl (Nat.le_of_ble_eq_true rfl) dX7_set_132 (wn := ((cF ffa (ha 0) r1 r2 r3 r4 r5 r6 r7 ff) ++ (cH ca ha (sI h 9 x)))) rfl (fun H locs hP hD hS => ?_)
                          refine lv_iload_n hx hb dX7_set_135 rfl (lv_at hl 0 rfl) ?_
                          obtain rfl := Option.some.inj hm
                          exact hret _ _ _ _ (vp_nar_int _) hP hD hS dX7_set_136
                  · skip
                    replace hm := (if_neg c117).symm.trans hm
                    refine lv_aload_n hx hb dX7_set_85 rfl (lv_at hl 1 rfl) ?_
                    refine xget (ref := "FriezeFolk") (C := RX7) (T := TX7) (N := 9) (ci := 7) (v := .ref (ha 0)) hx hb hts inX7 hown hK hP 0 rfl rfl 0 (by decide) k1 rfl rfl dX7_set_86 ?_
                    refine xget (ref := "FriezeFolk$Hall") (C := RX0) (T := TX0) (N := 13) (ci := 0) (v := .int (h.2 8)) hx hb hts inX0 hown hK hP 1 rfl rfl 8 (by decide) k3 rfl rfl dX7_set_89 ?_
                    refine lv_istore_n (lv' := [(3, .int (h.2 8)), (0, .ref ffa), (1, .int n), (2, .int x)]) hx hb dX7_set_92 rfl hl (by decide) rfl (fun ls hl => ?_)
                    refine lv_aload_n hx hb dX7_set_93 rfl (lv_at hl 1 rfl) ?_
                    refine xget (ref := "FriezeFolk") (C := RX7) (T := TX7) (N := 9) (ci := 7) (v := .ref (ha 0)) hx hb hts inX7 hown hK hP 0 rfl rfl 0 (by decide) k1 rfl rfl dX7_set_94 ?_
                    refine lv_iload_n hx hb dX7_set_97 rfl (lv_at hl 3 rfl) ?_
                    refine xput (ref := "FriezeFolk$Hall") (C := RX0) (T := TX0) (N := 13) (ci := 0) (v := .int x) (ty := .int) hx hb hts inX0 tyX0 tyX0_ok nmX0 hown hK hP hD hS 1 rfl rfl 8 (by decide) k3 rfl rfl (by decide +kernel) rfl rfl (Nat.le_of_ble_eq_true rfl) dX7_set_98 (wn := ((cF ffa (ha 0) r1 r2 r3 r4 r5 r6 r7 ff) ++ (cH ca ha (sI h 8 x)))) rfl (fun H locs hP hD hS => ?_)
                    refine lv_goto (tgt := 135) hx hb dX7_set_101 (by decide) ?_
                    refine lv_iload_n hx hb dX7_set_135 rfl (lv_at hl 0 rfl) ?_
                    obtain rfl := Option.some.inj hm
                    exact hret _ _ _ _ (vp_nar_int _) hP hD hS dX7_set_136
            · skip
              replace hm := (if_neg c108).symm.trans hm
              refine lv_aload_n hx hb dX7_set_51 rfl (lv_at hl 1 rfl) ?_
              refine xget (ref := "FriezeFolk") (C := RX7) (T := TX7) (N := 9) (ci := 7) (v := .ref (ha 0)) hx hb hts inX7 hown hK hP 0 rfl rfl 0 (by decide) k1 rfl rfl dX7_set_52 ?_
              refine xget (ref := "FriezeFolk$Hall") (C := RX0) (T := TX0) (N := 13) (ci := 0) (v := .int (h.2 7)) hx hb hts inX0 hown hK hP 1 rfl rfl 7 (by decide) k4 rfl rfl dX7_set_55 ?_
              refine lv_istore_n (lv' := [(3, .int (h.2 7)), (0, .ref ffa), (1, .int n), (2, .int x)]) hx hb dX7_set_58 rfl hl (by decide) rfl (fun ls hl => ?_)
              refine lv_aload_n hx hb dX7_set_59 rfl (lv_at hl 1 rfl) ?_
              refine xget (ref := "FriezeFolk") (C := RX7) (T := TX7) (N := 9) (ci := 7) (v := .ref (ha 0)) hx hb hts inX7 hown hK hP 0 rfl rfl 0 (by decide) k1 rfl rfl dX7_set_60 ?_
              refine lv_iload_n hx hb dX7_set_63 rfl (lv_at hl 3 rfl) ?_
              refine xput (ref := "FriezeFolk$Hall") (C := RX0) (T := TX0) (N := 13) (ci := 0) (v := .int x) (ty := .int) hx hb hts inX0 tyX0 tyX0_ok nmX0 hown hK hP hD hS 1 rfl rfl 7 (by decide) k4 rfl rfl (by decide +kernel) rfl rfl (Nat.le_of_ble_eq_true rfl) dX7_set_64 (wn := ((cF ffa (ha 0) r1 r2 r3 r4 r5 r6 r7 ff) ++ (cH ca ha (sI h 7 x)))) rfl (fun H locs hP hD hS => ?_)
              refine lv_goto (tgt := 135) hx hb dX7_set_67 (by decide) ?_
              refine lv_iload_n hx hb dX7_set_135 rfl (lv_at hl 0 rfl) ?_
              obtain rfl := Option.some.inj hm
              exact hret _ _ _ _ (vp_nar_int _) hP hD hS dX7_set_136
      · skip
        replace hm := (if_neg c81).symm.trans hm
        refine lv_aload_n hx hb dX7_set_17 rfl (lv_at hl 1 rfl) ?_
        refine xget (ref := "FriezeFolk") (C := RX7) (T := TX7) (N := 9) (ci := 7) (v := .ref (ha 0)) hx hb hts inX7 hown hK hP 0 rfl rfl 0 (by decide) k1 rfl rfl dX7_set_18 ?_
        refine xget (ref := "FriezeFolk$Hall") (C := RX0) (T := TX0) (N := 13) (ci := 0) (v := .int (h.2 6)) hx hb hts inX0 hown hK hP 1 rfl rfl 6 (by decide) k5 rfl rfl dX7_set_21 ?_
        refine lv_istore_n (lv' := [(3, .int (h.2 6)), (0, .ref ffa), (1, .int n), (2, .int x)]) hx hb dX7_set_24 rfl hl (by decide) rfl (fun ls hl => ?_)
        refine lv_aload_n hx hb dX7_set_25 rfl (lv_at hl 1 rfl) ?_
        refine xget (ref := "FriezeFolk") (C := RX7) (T := TX7) (N := 9) (ci := 7) (v := .ref (ha 0)) hx hb hts inX7 hown hK hP 0 rfl rfl 0 (by decide) k1 rfl rfl dX7_set_26 ?_
        refine lv_iload_n hx hb dX7_set_29 rfl (lv_at hl 3 rfl) ?_
        refine xput (ref := "FriezeFolk$Hall") (C := RX0) (T := TX0) (N := 13) (ci := 0) (v := .int x) (ty := .int) hx hb hts inX0 tyX0 tyX0_ok nmX0 hown hK hP hD hS 1 rfl rfl 6 (by decide) k5 rfl rfl (by decide +kernel) rfl rfl (Nat.le_of_ble_eq_true rfl) dX7_set_30 (wn := ((cF ffa (ha 0) r1 r2 r3 r4 r5 r6 r7 ff) ++ (cH ca ha (sI h 6 x)))) rfl (fun H locs hP hD hS => ?_)
        refine lv_goto (tgt := 135) hx hb dX7_set_33 (by decide) ?_
        refine lv_iload_n hx hb dX7_set_135 rfl (lv_at hl 0 rfl) ?_
        obtain rfl := Option.some.inj hm
        exact hret _ _ _ _ (vp_nar_int _) hP hD hS dX7_set_136

def mX7_turn (h : GS) (i : Int32) : Option (Int32 × GS) :=
  Option.bind (
    if i < 0 then
      if i = (99 : Int32) then
        some (.inl ())
      else
        some (.inr ((-1 : Int32), h))
    else
      if i < (12 : Int32) then
        some (.inl ())
      else
        if i = (99 : Int32) then
          some (.inl ())
        else
          some (.inr ((-1 : Int32), h))) fun (v5 : (Unit) ⊕ (Int32 × GS)) => esc v5 fun t6 =>
  if i = (99 : Int32) then
    some ((h.2 10), (sI h 10 (-4 : Int32)))
  else
    some ((h.2 10), (sI h 10 i))
abbrev rmX7_turn : Room := { frames := 0, cells := 0, slots := 0, locals := 0 }
set_option maxHeartbeats 4000000 in
set_option maxRecDepth 100000 in
theorem k_X7_turn (l : Launch) (D : va_G) (ca : Nat → ClassId) (ffa : Nat) (r1 r2 r3 r4 r5 r6 r7 : Nat) (ha : Nat → Nat) (ff : Int32) (h : GS) (i : Int32) (o : Int32 × GS) (hm : mX7_turn h i = some o) : KI l yX7_turn wsX7_turn rmX7_turn D ca [.ref ffa, .int i] ((cF ffa (ha 0) r1 r2 r3 r4 r5 r6 r7 ff) ++ (cH ca ha h)) ((cF ffa (ha 0) r1 r2 r3 r4 r5 r6 r7 ff) ++ (cH ca ha o.2)) o.1 := by
  refine KI.of (cc := cX7_turn) (n := 3) (plainFor_of_name (by decide)) rfl (Nat.le_of_ble_eq_true rfl) ?_
  intro p e s m below meth c A Z hx hb hml hts hown hA hK hP hD hS hret ls hl
  have hown : s.vm.findClass RX7 = some m.cls := hown
  have hl : lv_has ls 3 [(0, .ref ffa), (1, .int i)] := hl
  have inX0 : ∀ w ∈ wsX00, w ∈ wsX7_turn := by decide +kernel
  have inX7 : ∀ w ∈ wsX70, w ∈ wsX7_turn := by decide +kernel
  have k1 := hts (.fieldLink RX7 10 "FriezeFolk" "hall" "LFriezeFolk$Hall;") (by decide +kernel)
  have k2 := hts (.fieldLink RX7 108 "FriezeFolk$Hall" "upside" "I") (by decide +kernel)
  unfold mX7_turn at hm
  refine lv_iload_n hx hb dX7_turn_0 rfl (lv_at hl 1 rfl) ?_
  obtain ⟨v5, q8, h9⟩ := obn hm
  clear hm
  have J5 : ∀ t6, v5 = .inl t6 → ∀ (ls : Array Slot) (H : Heap) (locs : List Loc), lv_has ls 3 [(0, .ref ffa), (1, .int i)] → va_P D vwCl ((cF ffa (ha 0) r1 r2 r3 r4 r5 r6 r7 ff) ++ (cH ca ha h)) H → va_D A ((cF ffa (ha 0) r1 r2 r3 r4 r5 r6 r7 ff) ++ (cH ca ha h)) → va_S A s.heap H locs → W p l e rmX7_turn s m ([.ref ffa, .int i] : List Value).toArray below meth c H locs 0 0 Z (F0 m 18 ls []) := by
    intro t6 ht ls H locs hl hP hD hS
    subst ht
    replace h9 := (esc_l _ _).symm.trans h9
    refine lv_aload_n hx hb dX7_turn_18 rfl (lv_at hl 0 rfl) ?_
    refine xget (ref := "FriezeFolk") (C := RX7) (T := TX7) (N := 9) (ci := 7) (v := .ref (ha 0)) hx hb hts inX7 hown hK hP 0 rfl rfl 0 (by decide) k1 rfl rfl dX7_turn_19 ?_
    refine xget (ref := "FriezeFolk$Hall") (C := RX0) (T := TX0) (N := 13) (ci := 0) (v := .int (h.2 10)) hx hb hts inX0 hown hK hP 1 rfl rfl 10 (by decide) k2 rfl rfl dX7_turn_22 ?_
    refine lv_istore_n (lv' := [(2, .int (h.2 10)), (0, .ref ffa), (1, .int i)]) hx hb dX7_turn_25 rfl hl (by decide) rfl (fun ls hl => ?_)
    refine lv_aload_n hx hb dX7_turn_26 rfl (lv_at hl 1 rfl) ?_
    refine xget (ref := "FriezeFolk") (C := RX7) (T := TX7) (N := 9) (ci := 7) (v := .ref (ha 0)) hx hb hts inX7 hown hK hP 0 rfl rfl 0 (by decide) k1 rfl rfl dX7_turn_27 ?_
    refine lv_iload_n hx hb dX7_turn_30 rfl (lv_at hl 2 rfl) ?_
    refine lv_bipush (v := (99 : Int32)) hx hb dX7_turn_31 (by decide) ?_
    refine lv_icmp_ne (tgt := 41) hx hb dX7_turn_33 (by decide) (fun c7 => ?_) (fun c7 => ?_)
    · skip
      replace h9 := (if_neg c7).symm.trans h9
      refine lv_iload_n hx hb dX7_turn_41 rfl (lv_at hl 2 rfl) ?_
      refine xput (ref := "FriezeFolk$Hall") (C := RX0) (T := TX0) (N := 13) (ci := 0) (v := .int i) (ty := .int) hx hb hts inX0 tyX0 tyX0_ok nmX0 hown hK hP hD hS 1 rfl rfl 10 (by decide) k2 rfl rfl (by decide +kernel) rfl rfl (Nat.le_of_ble_eq_true rfl) dX7_turn_42 (wn := ((cF ffa (ha 0) r1 r2 r3 r4 r5 r6 r7 ff) ++ (cH ca ha (sI h 10 i)))) rfl (fun H locs hP hD hS => ?_)
      refine lv_iload_n hx hb dX7_turn_45 rfl (lv_at hl 0 rfl) ?_
      obtain rfl := Option.some.inj h9
      exact hret _ _ _ _ (vp_nar_int _) hP hD hS dX7_turn_46
    · skip
      replace h9 := (if_pos c7).symm.trans h9
      refine lv_bipush (v := (-4 : Int32)) hx hb dX7_turn_36 (by decide) ?_
      refine lv_goto (tgt := 42) hx hb dX7_turn_38 (by decide) ?_
      refine xput (ref := "FriezeFolk$Hall") (C := RX0) (T := TX0) (N := 13) (ci := 0) (v := .int (-4 : Int32)) (ty := .int) hx hb hts inX0 tyX0 tyX0_ok nmX0 hown hK hP hD hS 1 rfl rfl 10 (by decide) k2 rfl rfl (by decide +kernel) rfl rfl (Nat.le_of_ble_eq_true rfl) dX7_turn_42 (wn := ((cF ffa (ha 0) r1 r2 r3 r4 r5 r6 r7 ff) ++ (cH ca ha (sI h 10 (-4 : Int32))))) rfl (fun H locs hP hD hS => ?_)
      refine lv_iload_n hx hb dX7_turn_45 rfl (lv_at hl 0 rfl) ?_
      obtain rfl := Option.some.inj h9
      exact hret _ _ _ _ (vp_nar_int _) hP hD hS dX7_turn_46
  refine lv_if_lt (tgt := 10) hx hb dX7_turn_1 (by decide) (fun c1 => ?_) (fun c1 => ?_)
  · skip
    replace q8 := (if_pos c1).symm.trans q8
    refine lv_iload_n hx hb dX7_turn_10 rfl (lv_at hl 1 rfl) ?_
    refine lv_bipush (v := (99 : Int32)) hx hb dX7_turn_11 (by decide) ?_
    refine lv_icmp_eq (tgt := 18) hx hb dX7_turn_13 (by decide) (fun c2 => ?_) (fun c2 => ?_)
    · skip
      replace q8 := (if_pos c2).symm.trans q8
      obtain rfl := Option.some.inj q8
      exact J5 _ rfl _ _ _ (lv_sub hl [0, 1] rfl) hP hD hS
    · skip
      replace q8 := (if_neg c2).symm.trans q8
      refine lv_iconst (v := (-1 : Int32)) hx hb dX7_turn_16 (by decide) ?_
      obtain rfl := Option.some.inj q8
      replace h9 := (esc_r _ _).symm.trans h9
      obtain rfl := Option.some.inj h9
      exact hret _ _ _ _ (vp_nar_int _) hP hD hS dX7_turn_17
  · skip
    replace q8 := (if_neg c1).symm.trans q8
    refine lv_iload_n hx hb dX7_turn_4 rfl (lv_at hl 1 rfl) ?_
    refine lv_bipush (v := (12 : Int32)) hx hb dX7_turn_5 (by decide) ?_
    refine lv_icmp_lt (tgt := 18) hx hb dX7_turn_7 (by decide) (fun c3 => ?_) (fun c3 => ?_)
    · skip
      replace q8 := (if_pos c3).symm.trans q8
      obtain rfl := Option.some.inj q8
      exact J5 _ rfl _ _ _ (lv_sub hl [0, 1] rfl) hP hD hS
    · skip
      replace q8 := (if_neg c3).symm.trans q8
      refine lv_iload_n hx hb dX7_turn_10 rfl (lv_at hl 1 rfl) ?_
      refine lv_bipush (v := (99 : Int32)) hx hb dX7_turn_11 (by decide) ?_
      refine lv_icmp_eq (tgt := 18) hx hb dX7_turn_13 (by decide) (fun c4 => ?_) (fun c4 => ?_)
      · skip
        replace q8 := (if_pos c4).symm.trans q8
        obtain rfl := Option.some.inj q8
        exact J5 _ rfl _ _ _ (lv_sub hl [0, 1] rfl) hP hD hS
      · skip
        replace q8 := (if_neg c4).symm.trans q8
        refine lv_iconst (v := (-1 : Int32)) hx hb dX7_turn_16 (by decide) ?_
        obtain rfl := Option.some.inj q8
        replace h9 := (esc_r _ _).symm.trans h9
        obtain rfl := Option.some.inj h9
        exact hret _ _ _ _ (vp_nar_int _) hP hD hS dX7_turn_17

def mX7_paint (h : GS) (i : Int32) (x : Int32) : Option (Int32 × GS) :=
  Option.bind (mX0_hasPlace h i) fun v1 =>
  if v1 = 0 then
    some ((-1 : Int32), h)
  else
    if x < 0 then
      some ((-1 : Int32), h)
    else
      if x ≤ (99 : Int32) then
        Option.bind (ald 12 (h.1 2) i) fun v5 =>
        Option.bind (ast 12 (h.1 2) i x) fun f6 =>
        some (v5, (sA h 2 f6))
      else
        some ((-1 : Int32), h)
abbrev rmX7_paint : Room := { frames := 1, cells := 0, slots := 0, locals := 21 }
set_option maxHeartbeats 4000000 in
set_option maxRecDepth 100000 in
theorem k_X7_paint (l : Launch) (D : va_G) (ca : Nat → ClassId) (ffa : Nat) (r1 r2 r3 r4 r5 r6 r7 : Nat) (ha : Nat → Nat) (ff : Int32) (h : GS) (i : Int32) (x : Int32) (o : Int32 × GS) (hm : mX7_paint h i x = some o) : KI l yX7_paint wsX7_paint rmX7_paint D ca [.ref ffa, .int i, .int x] ((cF ffa (ha 0) r1 r2 r3 r4 r5 r6 r7 ff) ++ (cH ca ha h)) ((cF ffa (ha 0) r1 r2 r3 r4 r5 r6 r7 ff) ++ (cH ca ha o.2)) o.1 := by
  refine KI.of (cc := cX7_paint) (n := 4) (plainFor_of_name (by decide)) rfl (Nat.le_of_ble_eq_true rfl) ?_
  intro p e s m below meth c A Z hx hb hml hts hown hA hK hP hD hS hret ls hl
  have hown : s.vm.findClass RX7 = some m.cls := hown
  have hl : lv_has ls 4 [(0, .ref ffa), (1, .int i), (2, .int x)] := hl
  have inX0 : ∀ w ∈ wsX00, w ∈ wsX7_paint := by decide +kernel
  have inX7 : ∀ w ∈ wsX70, w ∈ wsX7_paint := by decide +kernel
  have k1 := hts (.fieldLink RX7 10 "FriezeFolk" "hall" "LFriezeFolk$Hall;") (by decide +kernel)
  have k2 := hts (.fieldLink RX7 143 "FriezeFolk$Hall" "fade" "[I") (by decide +kernel)
  unfold mX7_paint at hm
  refine lv_aload_n hx hb dX7_paint_0 rfl (lv_at hl 0 rfl) ?_
  refine xget (ref := "FriezeFolk") (C := RX7) (T := TX7) (N := 9) (ci := 7) (v := .ref (ha 0)) hx hb hts inX7 hown hK hP 0 rfl rfl 0 (by decide) k1 rfl rfl dX7_paint_1 ?_
  refine lv_iload_n hx hb dX7_paint_4 rfl (lv_at hl 1 rfl) ?_
  obtain ⟨v1, q1, h7⟩ := obn hm
  clear hm
  refine xVi (As := [.int i]) (ci := 0) ⟨hx, hb, hml, hown, hts⟩ (k_X0_hasPlace l D ca ha h i _ q1) (cwV 1 hts gX7_paint_X0_hasPlace rfl rfl rfl (by decide +kernel) ⟨Nat.le_of_ble_eq_true rfl, Nat.le_of_ble_eq_true rfl⟩) hK hA hP hD hS dX7_paint_5 rfl hl.1 [1, 2, 3, 4, 5, 6] [0] [0, 1, 2, 3, 4, 5, 6] rfl rfl (wr := ((cF ffa (ha 0) r1 r2 r3 r4 r5 r6 r7 ff))) rfl rfl (by decide) (wn := ((cF ffa (ha 0) r1 r2 r3 r4 r5 r6 r7 ff) ++ (cH ca ha h))) rfl rfl rfl rfl rfl rfl (Nat.le_of_ble_eq_true rfl) (fun H locs hP hD hS => ?_)
  refine lv_if_eq (tgt := 21) hx hb dX7_paint_8 (by decide) (fun c2 => ?_) (fun c2 => ?_)
  · skip
    replace h7 := (if_pos c2).symm.trans h7
    refine lv_iconst (v := (-1 : Int32)) hx hb dX7_paint_21 (by decide) ?_
    obtain rfl := Option.some.inj h7
    exact hret _ _ _ _ (vp_nar_int _) hP hD hS dX7_paint_22
  · skip
    replace h7 := (if_neg c2).symm.trans h7
    refine lv_iload_n hx hb dX7_paint_11 rfl (lv_at hl 2 rfl) ?_
    refine lv_if_lt (tgt := 21) hx hb dX7_paint_12 (by decide) (fun c3 => ?_) (fun c3 => ?_)
    · skip
      replace h7 := (if_pos c3).symm.trans h7
      refine lv_iconst (v := (-1 : Int32)) hx hb dX7_paint_21 (by decide) ?_
      obtain rfl := Option.some.inj h7
      exact hret _ _ _ _ (vp_nar_int _) hP hD hS dX7_paint_22
    · skip
      replace h7 := (if_neg c3).symm.trans h7
      refine lv_iload_n hx hb dX7_paint_15 rfl (lv_at hl 2 rfl) ?_
      refine lv_bipush (v := (99 : Int32)) hx hb dX7_paint_16 (by decide) ?_
      refine lv_icmp_le (tgt := 23) hx hb dX7_paint_18 (by decide) (fun c4 => ?_) (fun c4 => ?_)
      · skip
        replace h7 := (if_pos c4).symm.trans h7
        refine lv_aload_n hx hb dX7_paint_23 rfl (lv_at hl 0 rfl) ?_
        refine xget (ref := "FriezeFolk") (C := RX7) (T := TX7) (N := 9) (ci := 7) (v := .ref (ha 0)) hx hb hts inX7 hown hK hP 0 rfl rfl 0 (by decide) k1 rfl rfl dX7_paint_24 ?_
        refine xget (ref := "FriezeFolk$Hall") (C := RX0) (T := TX0) (N := 13) (ci := 0) (v := .ref (ha 3)) hx hb hts inX0 hown hK hP 1 rfl rfl 2 (by decide) k2 rfl rfl dX7_paint_27 ?_
        refine lv_iload_n hx hb dX7_paint_30 rfl (lv_at hl 1 rfl) ?_
        obtain ⟨v5, q5, h8⟩ := obn h7
        clear h7
        refine xald hx hb hK hP 4 rfl q5 dX7_paint_31 ?_
        refine lv_istore_n (lv' := [(3, .int v5), (0, .ref ffa), (1, .int i), (2, .int x)]) hx hb dX7_paint_32 rfl hl (by decide) rfl (fun ls hl => ?_)
        refine lv_aload_n hx hb dX7_paint_33 rfl (lv_at hl 1 rfl) ?_
        refine xget (ref := "FriezeFolk") (C := RX7) (T := TX7) (N := 9) (ci := 7) (v := .ref (ha 0)) hx hb hts inX7 hown hK hP 0 rfl rfl 0 (by decide) k1 rfl rfl dX7_paint_34 ?_
        refine xget (ref := "FriezeFolk$Hall") (C := RX0) (T := TX0) (N := 13) (ci := 0) (v := .ref (ha 3)) hx hb hts inX0 hown hK hP 1 rfl rfl 2 (by decide) k2 rfl rfl dX7_paint_37 ?_
        refine lv_iload_n hx hb dX7_paint_40 rfl (lv_at hl 2 rfl) ?_
        refine lv_iload_n hx hb dX7_paint_41 rfl (lv_at hl 3 rfl) ?_
        obtain ⟨f6, q6, h9⟩ := obn h8
        clear h8
        refine xast hx hb hK hP hD hS 4 rfl q6 dX7_paint_42 (wn := ((cF ffa (ha 0) r1 r2 r3 r4 r5 r6 r7 ff) ++ (cH ca ha (sA h 2 f6)))) rfl (fun H locs hP hD hS => ?_)
        refine lv_iload_n hx hb dX7_paint_43 rfl (lv_at hl 0 rfl) ?_
        obtain rfl := Option.some.inj h9
        exact hret _ _ _ _ (vp_nar_int _) hP hD hS dX7_paint_44
      · skip
        replace h7 := (if_neg c4).symm.trans h7
        refine lv_iconst (v := (-1 : Int32)) hx hb dX7_paint_21 (by decide) ?_
        obtain rfl := Option.some.inj h7
        exact hret _ _ _ _ (vp_nar_int _) hP hD hS dX7_paint_22

def mX7_print (h : GS) (i : Int32) (j : Int32) : Option (Int32 × GS) :=
  Option.bind (mX0_addBlock h i j) fun v1 =>
  some (v1.1, v1.2)
abbrev rmX7_print : Room := { frames := 1, cells := 0, slots := 0, locals := 22 }
set_option maxHeartbeats 4000000 in
set_option maxRecDepth 100000 in
theorem k_X7_print (l : Launch) (D : va_G) (ca : Nat → ClassId) (ffa : Nat) (r1 r2 r3 r4 r5 r6 r7 : Nat) (ha : Nat → Nat) (ff : Int32) (h : GS) (i : Int32) (j : Int32) (o : Int32 × GS) (hm : mX7_print h i j = some o) : KI l yX7_print wsX7_print rmX7_print D ca [.ref ffa, .int i, .int j] ((cF ffa (ha 0) r1 r2 r3 r4 r5 r6 r7 ff) ++ (cH ca ha h)) ((cF ffa (ha 0) r1 r2 r3 r4 r5 r6 r7 ff) ++ (cH ca ha o.2)) o.1 := by
  refine KI.of (cc := cX7_print) (n := 3) (plainFor_of_name (by decide)) rfl (Nat.le_of_ble_eq_true rfl) ?_
  intro p e s m below meth c A Z hx hb hml hts hown hA hK hP hD hS hret ls hl
  have hown : s.vm.findClass RX7 = some m.cls := hown
  have hl : lv_has ls 3 [(0, .ref ffa), (1, .int i), (2, .int j)] := hl
  have inX7 : ∀ w ∈ wsX70, w ∈ wsX7_print := by decide +kernel
  have k1 := hts (.fieldLink RX7 10 "FriezeFolk" "hall" "LFriezeFolk$Hall;") (by decide +kernel)
  unfold mX7_print at hm
  refine lv_aload_n hx hb dX7_print_0 rfl (lv_at hl 0 rfl) ?_
  refine xget (ref := "FriezeFolk") (C := RX7) (T := TX7) (N := 9) (ci := 7) (v := .ref (ha 0)) hx hb hts inX7 hown hK hP 0 rfl rfl 0 (by decide) k1 rfl rfl dX7_print_1 ?_
  refine lv_iload_n hx hb dX7_print_4 rfl (lv_at hl 1 rfl) ?_
  refine lv_iload_n hx hb dX7_print_5 rfl (lv_at hl 2 rfl) ?_
  obtain ⟨v1, q1, h2⟩ := obn hm
  clear hm
  refine xVi (As := [.int i, .int j]) (ci := 0) ⟨hx, hb, hml, hown, hts⟩ (k_X0_addBlock l D ca ha h i j _ q1) (cwV 2 hts gX7_print_X0_addBlock rfl rfl rfl (by decide +kernel) ⟨Nat.le_of_ble_eq_true rfl, Nat.le_of_ble_eq_true rfl⟩) hK hA hP hD hS dX7_print_6 rfl hl.1 [1, 2, 3, 4, 5, 6] [0] [0, 1, 2, 3, 4, 5, 6] rfl rfl (wr := ((cF ffa (ha 0) r1 r2 r3 r4 r5 r6 r7 ff))) rfl rfl (by decide) (wn := ((cF ffa (ha 0) r1 r2 r3 r4 r5 r6 r7 ff) ++ (cH ca ha v1.2))) rfl rfl rfl rfl rfl rfl (Nat.le_of_ble_eq_true rfl) (fun H locs hP hD hS => ?_)
  obtain rfl := Option.some.inj h2
  exact hret _ _ _ _ (vp_nar_int _) hP hD hS dX7_print_9

def mX7_stock (h : GS) (i : Int32) (j : Int32) : Option (Int32 × GS) :=
  Option.bind (mX0_addRoll h i j) fun v1 =>
  some (v1.1, v1.2)
abbrev rmX7_stock : Room := { frames := 1, cells := 0, slots := 0, locals := 22 }
set_option maxHeartbeats 4000000 in
set_option maxRecDepth 100000 in
theorem k_X7_stock (l : Launch) (D : va_G) (ca : Nat → ClassId) (ffa : Nat) (r1 r2 r3 r4 r5 r6 r7 : Nat) (ha : Nat → Nat) (ff : Int32) (h : GS) (i : Int32) (j : Int32) (o : Int32 × GS) (hm : mX7_stock h i j = some o) : KI l yX7_stock wsX7_stock rmX7_stock D ca [.ref ffa, .int i, .int j] ((cF ffa (ha 0) r1 r2 r3 r4 r5 r6 r7 ff) ++ (cH ca ha h)) ((cF ffa (ha 0) r1 r2 r3 r4 r5 r6 r7 ff) ++ (cH ca ha o.2)) o.1 := by
  refine KI.of (cc := cX7_stock) (n := 3) (plainFor_of_name (by decide)) rfl (Nat.le_of_ble_eq_true rfl) ?_
  intro p e s m below meth c A Z hx hb hml hts hown hA hK hP hD hS hret ls hl
  have hown : s.vm.findClass RX7 = some m.cls := hown
  have hl : lv_has ls 3 [(0, .ref ffa), (1, .int i), (2, .int j)] := hl
  have inX7 : ∀ w ∈ wsX70, w ∈ wsX7_stock := by decide +kernel
  have k1 := hts (.fieldLink RX7 10 "FriezeFolk" "hall" "LFriezeFolk$Hall;") (by decide +kernel)
  unfold mX7_stock at hm
  refine lv_aload_n hx hb dX7_stock_0 rfl (lv_at hl 0 rfl) ?_
  refine xget (ref := "FriezeFolk") (C := RX7) (T := TX7) (N := 9) (ci := 7) (v := .ref (ha 0)) hx hb hts inX7 hown hK hP 0 rfl rfl 0 (by decide) k1 rfl rfl dX7_stock_1 ?_
  refine lv_iload_n hx hb dX7_stock_4 rfl (lv_at hl 1 rfl) ?_
  refine lv_iload_n hx hb dX7_stock_5 rfl (lv_at hl 2 rfl) ?_
  obtain ⟨v1, q1, h2⟩ := obn hm
  clear hm
  refine xVi (As := [.int i, .int j]) (ci := 0) ⟨hx, hb, hml, hown, hts⟩ (k_X0_addRoll l D ca ha h i j _ q1) (cwV 2 hts gX7_stock_X0_addRoll rfl rfl rfl (by decide +kernel) ⟨Nat.le_of_ble_eq_true rfl, Nat.le_of_ble_eq_true rfl⟩) hK hA hP hD hS dX7_stock_6 rfl hl.1 [1, 2, 3, 4, 5, 6] [0] [0, 1, 2, 3, 4, 5, 6] rfl rfl (wr := ((cF ffa (ha 0) r1 r2 r3 r4 r5 r6 r7 ff))) rfl rfl (by decide) (wn := ((cF ffa (ha 0) r1 r2 r3 r4 r5 r6 r7 ff) ++ (cH ca ha v1.2))) rfl rfl rfl rfl rfl rfl (Nat.le_of_ble_eq_true rfl) (fun H locs hP hD hS => ?_)
  obtain rfl := Option.some.inj h2
  exact hret _ _ _ _ (vp_nar_int _) hP hD hS dX7_stock_9

def mX7_drop (h : GS) (n : Int32) : Option (Int32 × GS) :=
  if n < 0 then
    some ((-1 : Int32), h)
  else
    if n ≤ (h.2 12) then
      some ((h.2 12), (sI h 12 n))
    else
      some ((-1 : Int32), h)
abbrev rmX7_drop : Room := { frames := 0, cells := 0, slots := 0, locals := 0 }
set_option maxHeartbeats 4000000 in
set_option maxRecDepth 100000 in
theorem k_X7_drop (l : Launch) (D : va_G) (ca : Nat → ClassId) (ffa : Nat) (r1 r2 r3 r4 r5 r6 r7 : Nat) (ha : Nat → Nat) (ff : Int32) (h : GS) (n : Int32) (o : Int32 × GS) (hm : mX7_drop h n = some o) : KI l yX7_drop wsX7_drop rmX7_drop D ca [.ref ffa, .int n] ((cF ffa (ha 0) r1 r2 r3 r4 r5 r6 r7 ff) ++ (cH ca ha h)) ((cF ffa (ha 0) r1 r2 r3 r4 r5 r6 r7 ff) ++ (cH ca ha o.2)) o.1 := by
  refine KI.of (cc := cX7_drop) (n := 3) (plainFor_of_name (by decide)) rfl (Nat.le_of_ble_eq_true rfl) ?_
  intro p e s m below meth c A Z hx hb hml hts hown hA hK hP hD hS hret ls hl
  have hown : s.vm.findClass RX7 = some m.cls := hown
  have hl : lv_has ls 3 [(0, .ref ffa), (1, .int n)] := hl
  have inX0 : ∀ w ∈ wsX00, w ∈ wsX7_drop := by decide +kernel
  have inX7 : ∀ w ∈ wsX70, w ∈ wsX7_drop := by decide +kernel
  have k1 := hts (.fieldLink RX7 10 "FriezeFolk" "hall" "LFriezeFolk$Hall;") (by decide +kernel)
  have k2 := hts (.fieldLink RX7 117 "FriezeFolk$Hall" "rolls" "I") (by decide +kernel)
  unfold mX7_drop at hm
  refine lv_iload_n hx hb dX7_drop_0 rfl (lv_at hl 1 rfl) ?_
  refine lv_if_lt (tgt := 15) hx hb dX7_drop_1 (by decide) (fun c1 => ?_) (fun c1 => ?_)
  · skip
    replace hm := (if_pos c1).symm.trans hm
    refine lv_iconst (v := (-1 : Int32)) hx hb dX7_drop_15 (by decide) ?_
    obtain rfl := Option.some.inj hm
    exact hret _ _ _ _ (vp_nar_int _) hP hD hS dX7_drop_16
  · skip
    replace hm := (if_neg c1).symm.trans hm
    refine lv_iload_n hx hb dX7_drop_4 rfl (lv_at hl 1 rfl) ?_
    refine lv_aload_n hx hb dX7_drop_5 rfl (lv_at hl 0 rfl) ?_
    refine xget (ref := "FriezeFolk") (C := RX7) (T := TX7) (N := 9) (ci := 7) (v := .ref (ha 0)) hx hb hts inX7 hown hK hP 0 rfl rfl 0 (by decide) k1 rfl rfl dX7_drop_6 ?_
    refine xget (ref := "FriezeFolk$Hall") (C := RX0) (T := TX0) (N := 13) (ci := 0) (v := .int (h.2 12)) hx hb hts inX0 hown hK hP 1 rfl rfl 12 (by decide) k2 rfl rfl dX7_drop_9 ?_
    refine lv_icmp_le (tgt := 17) hx hb dX7_drop_12 (by decide) (fun c2 => ?_) (fun c2 => ?_)
    · skip
      replace hm := (if_pos c2).symm.trans hm
      refine lv_aload_n hx hb dX7_drop_17 rfl (lv_at hl 0 rfl) ?_
      refine xget (ref := "FriezeFolk") (C := RX7) (T := TX7) (N := 9) (ci := 7) (v := .ref (ha 0)) hx hb hts inX7 hown hK hP 0 rfl rfl 0 (by decide) k1 rfl rfl dX7_drop_18 ?_
      refine xget (ref := "FriezeFolk$Hall") (C := RX0) (T := TX0) (N := 13) (ci := 0) (v := .int (h.2 12)) hx hb hts inX0 hown hK hP 1 rfl rfl 12 (by decide) k2 rfl rfl dX7_drop_21 ?_
      refine lv_istore_n (lv' := [(2, .int (h.2 12)), (0, .ref ffa), (1, .int n)]) hx hb dX7_drop_24 rfl hl (by decide) rfl (fun ls hl => ?_)
      refine lv_aload_n hx hb dX7_drop_25 rfl (lv_at hl 1 rfl) ?_
      refine xget (ref := "FriezeFolk") (C := RX7) (T := TX7) (N := 9) (ci := 7) (v := .ref (ha 0)) hx hb hts inX7 hown hK hP 0 rfl rfl 0 (by decide) k1 rfl rfl dX7_drop_26 ?_
      refine lv_iload_n hx hb dX7_drop_29 rfl (lv_at hl 2 rfl) ?_
      refine xput (ref := "FriezeFolk$Hall") (C := RX0) (T := TX0) (N := 13) (ci := 0) (v := .int n) (ty := .int) hx hb hts inX0 tyX0 tyX0_ok nmX0 hown hK hP hD hS 1 rfl rfl 12 (by decide) k2 rfl rfl (by decide +kernel) rfl rfl (Nat.le_of_ble_eq_true rfl) dX7_drop_30 (wn := ((cF ffa (ha 0) r1 r2 r3 r4 r5 r6 r7 ff) ++ (cH ca ha (sI h 12 n)))) rfl (fun H locs hP hD hS => ?_)
      refine lv_iload_n hx hb dX7_drop_33 rfl (lv_at hl 0 rfl) ?_
      obtain rfl := Option.some.inj hm
      exact hret _ _ _ _ (vp_nar_int _) hP hD hS dX7_drop_34
    · skip
      replace hm := (if_neg c2).symm.trans hm
      refine lv_iconst (v := (-1 : Int32)) hx hb dX7_drop_15 (by decide) ?_
      obtain rfl := Option.some.inj hm
      exact hret _ _ _ _ (vp_nar_int _) hP hD hS dX7_drop_16

def mX7_years (h : GS) (n : Int32) : Option (Int32 × GS) :=
  if n < 0 then
    some ((-1 : Int32), h)
  else
    if n ≤ (30 : Int32) then
      if ((h.2 11) + n) < (1000 : Int32) then
        Option.bind (mX0_pass h n) fun v4 =>
        Option.bind (mX0_frankOfAll v4) fun v5 =>
        some (v5, v4)
      else
        some ((-3 : Int32), h)
    else
      some ((-1 : Int32), h)
abbrev rmX7_years : Room := { frames := 5, cells := 0, slots := 0, locals := 111 }
set_option maxHeartbeats 4000000 in
set_option maxRecDepth 100000 in
theorem k_X7_years (l : Launch) (D : va_G) (ca : Nat → ClassId) (ffa : Nat) (r1 r2 r3 r4 r5 r6 r7 : Nat) (ha : Nat → Nat) (ff : Int32) (h : GS) (n : Int32) (o : Int32 × GS) (hm : mX7_years h n = some o) : KI l yX7_years wsX7_years rmX7_years D ca [.ref ffa, .int n] ((cF ffa (ha 0) r1 r2 r3 r4 r5 r6 r7 ff) ++ (cH ca ha h)) ((cF ffa (ha 0) r1 r2 r3 r4 r5 r6 r7 ff) ++ (cH ca ha o.2)) o.1 := by
  refine KI.of (cc := cX7_years) (n := 2) (plainFor_of_name (by decide)) rfl (Nat.le_of_ble_eq_true rfl) ?_
  intro p e s m below meth c A Z hx hb hml hts hown hA hK hP hD hS hret ls hl
  have hown : s.vm.findClass RX7 = some m.cls := hown
  have hl : lv_has ls 2 [(0, .ref ffa), (1, .int n)] := hl
  have inX0 : ∀ w ∈ wsX00, w ∈ wsX7_years := by decide +kernel
  have inX7 : ∀ w ∈ wsX70, w ∈ wsX7_years := by decide +kernel
  have k1 := hts (.fieldLink RX7 10 "FriezeFolk" "hall" "LFriezeFolk$Hall;") (by decide +kernel)
  have k2 := hts (.fieldLink RX7 111 "FriezeFolk$Hall" "year" "I") (by decide +kernel)
  unfold mX7_years at hm
  refine lv_iload_n hx hb dX7_years_0 rfl (lv_at hl 1 rfl) ?_
  refine lv_if_lt (tgt := 10) hx hb dX7_years_1 (by decide) (fun c1 => ?_) (fun c1 => ?_)
  · skip
    replace hm := (if_pos c1).symm.trans hm
    refine lv_iconst (v := (-1 : Int32)) hx hb dX7_years_10 (by decide) ?_
    obtain rfl := Option.some.inj hm
    exact hret _ _ _ _ (vp_nar_int _) hP hD hS dX7_years_11
  · skip
    replace hm := (if_neg c1).symm.trans hm
    refine lv_iload_n hx hb dX7_years_4 rfl (lv_at hl 1 rfl) ?_
    refine lv_bipush (v := (30 : Int32)) hx hb dX7_years_5 (by decide) ?_
    refine lv_icmp_le (tgt := 12) hx hb dX7_years_7 (by decide) (fun c2 => ?_) (fun c2 => ?_)
    · skip
      replace hm := (if_pos c2).symm.trans hm
      refine lv_aload_n hx hb dX7_years_12 rfl (lv_at hl 0 rfl) ?_
      refine xget (ref := "FriezeFolk") (C := RX7) (T := TX7) (N := 9) (ci := 7) (v := .ref (ha 0)) hx hb hts inX7 hown hK hP 0 rfl rfl 0 (by decide) k1 rfl rfl dX7_years_13 ?_
      refine xget (ref := "FriezeFolk$Hall") (C := RX0) (T := TX0) (N := 13) (ci := 0) (v := .int (h.2 11)) hx hb hts inX0 hown hK hP 1 rfl rfl 11 (by decide) k2 rfl rfl dX7_years_16 ?_
      refine lv_iload_n hx hb dX7_years_19 rfl (lv_at hl 1 rfl) ?_
      refine lv_iadd hx hb dX7_years_20 ?_
      refine lv_sipush (v := (1000 : Int32)) hx hb dX7_years_21 (by decide) ?_
      refine lv_icmp_lt (tgt := 30) hx hb dX7_years_24 (by decide) (fun c3 => ?_) (fun c3 => ?_)
      · skip
        replace hm := (if_pos c3).symm.trans hm
        refine lv_aload_n hx hb dX7_years_30 rfl (lv_at hl 0 rfl) ?_
        refine xget (ref := "FriezeFolk") (C := RX7) (T := TX7) (N := 9) (ci := 7) (v := .ref (ha 0)) hx hb hts inX7 hown hK hP 0 rfl rfl 0 (by decide) k1 rfl rfl dX7_years_31 ?_
        refine lv_iload_n hx hb dX7_years_34 rfl (lv_at hl 1 rfl) ?_
        obtain ⟨v4, q4, h6⟩ := obn hm
        clear hm
        refine xVv (As := [.int n]) (ci := 0) ⟨hx, hb, hml, hown, hts⟩ (k_X0_pass l D ca ha h n _ q4) (cwV 1 hts gX7_years_X0_pass rfl rfl rfl (by decide +kernel) ⟨Nat.le_of_ble_eq_true rfl, Nat.le_of_ble_eq_true rfl⟩) hK hA hP hD hS dX7_years_35 rfl hl.1 [1, 2, 3, 4, 5, 6] [0] [0, 1, 2, 3, 4, 5, 6] rfl rfl (wr := ((cF ffa (ha 0) r1 r2 r3 r4 r5 r6 r7 ff))) rfl rfl (by decide) (wn := ((cF ffa (ha 0) r1 r2 r3 r4 r5 r6 r7 ff) ++ (cH ca ha v4))) rfl rfl rfl rfl rfl rfl (Nat.le_of_ble_eq_true rfl) (fun H locs hP hD hS => ?_)
        refine lv_aload_n hx hb dX7_years_38 rfl (lv_at hl 0 rfl) ?_
        refine xget (ref := "FriezeFolk") (C := RX7) (T := TX7) (N := 9) (ci := 7) (v := .ref (ha 0)) hx hb hts inX7 hown hK hP 0 rfl rfl 0 (by decide) k1 rfl rfl dX7_years_39 ?_
        obtain ⟨v5, q5, h7⟩ := obn h6
        clear h6
        refine xVi (As := []) (ci := 0) ⟨hx, hb, hml, hown, hts⟩ (k_X0_frankOfAll l D ca ha v4 _ q5) (cwV 0 hts gX7_years_X0_frankOfAll rfl rfl rfl (by decide +kernel) ⟨Nat.le_of_ble_eq_true rfl, Nat.le_of_ble_eq_true rfl⟩) hK hA hP hD hS dX7_years_42 rfl hl.1 [1, 2, 3, 4, 5, 6] [0] [0, 1, 2, 3, 4, 5, 6] rfl rfl (wr := ((cF ffa (ha 0) r1 r2 r3 r4 r5 r6 r7 ff))) rfl rfl (by decide) (wn := ((cF ffa (ha 0) r1 r2 r3 r4 r5 r6 r7 ff) ++ (cH ca ha v4))) rfl rfl rfl rfl rfl rfl (Nat.le_of_ble_eq_true rfl) (fun H locs hP hD hS => ?_)
        obtain rfl := Option.some.inj h7
        exact hret _ _ _ _ (vp_nar_int _) hP hD hS dX7_years_45
      · skip
        replace hm := (if_neg c3).symm.trans hm
        refine lv_bipush (v := (-3 : Int32)) hx hb dX7_years_27 (by decide) ?_
        obtain rfl := Option.some.inj hm
        exact hret _ _ _ _ (vp_nar_int _) hP hD hS dX7_years_29
    · skip
      replace hm := (if_neg c2).symm.trans hm
      refine lv_iconst (v := (-1 : Int32)) hx hb dX7_years_10 (by decide) ?_
      obtain rfl := Option.some.inj hm
      exact hret _ _ _ _ (vp_nar_int _) hP hD hS dX7_years_11

def mX7_stretch (h : GS) (n : Int32) (w : Int32) : Option (Int32) :=
  if n < (1 : Int32) then
    some (-1 : Int32)
  else
    if (h.2 6) < n then
      some (-1 : Int32)
    else
      Option.bind (mX7_isNoPair w) fun v3 =>
      if v3 = 0 then
        Option.bind (mX0_frankestFrom h n) fun v5 =>
        if w = 0 then
          some v5
        else
          Option.bind (mX0_frankFrom h v5 n) fun v7 =>
          some v7
      else
        some (-1 : Int32)
abbrev rmX7_stretch : Room := { frames := 5, cells := 0, slots := 0, locals := 116 }
set_option maxHeartbeats 4000000 in
set_option maxRecDepth 100000 in
theorem k_X7_stretch (l : Launch) (D : va_G) (ca : Nat → ClassId) (ffa : Nat) (r1 r2 r3 r4 r5 r6 r7 : Nat) (ha : Nat → Nat) (ff : Int32) (h : GS) (n : Int32) (w : Int32) (o : Int32) (hm : mX7_stretch h n w = some o) : KI l yX7_stretch wsX7_stretch rmX7_stretch D ca [.ref ffa, .int n, .int w] ((cF ffa (ha 0) r1 r2 r3 r4 r5 r6 r7 ff) ++ (cH ca ha h)) ((cF ffa (ha 0) r1 r2 r3 r4 r5 r6 r7 ff) ++ (cH ca ha h)) o := by
  refine KI.of (cc := cX7_stretch) (n := 4) (plainFor_of_name (by decide)) rfl (Nat.le_of_ble_eq_true rfl) ?_
  intro p e s m below meth c A Z hx hb hml hts hown hA hK hP hD hS hret ls hl
  have hown : s.vm.findClass RX7 = some m.cls := hown
  have hl : lv_has ls 4 [(0, .ref ffa), (1, .int n), (2, .int w)] := hl
  have inX0 : ∀ w ∈ wsX00, w ∈ wsX7_stretch := by decide +kernel
  have inX7 : ∀ w ∈ wsX70, w ∈ wsX7_stretch := by decide +kernel
  have k1 := hts (.fieldLink RX7 10 "FriezeFolk" "hall" "LFriezeFolk$Hall;") (by decide +kernel)
  have k2 := hts (.fieldLink RX7 96 "FriezeFolk$Hall" "wide" "I") (by decide +kernel)
  unfold mX7_stretch at hm
  refine lv_iload_n hx hb dX7_stretch_0 rfl (lv_at hl 1 rfl) ?_
  refine lv_iconst (v := (1 : Int32)) hx hb dX7_stretch_1 (by decide) ?_
  refine lv_icmp_lt (tgt := 23) hx hb dX7_stretch_2 (by decide) (fun c1 => ?_) (fun c1 => ?_)
  · skip
    replace hm := (if_pos c1).symm.trans hm
    refine lv_iconst (v := (-1 : Int32)) hx hb dX7_stretch_23 (by decide) ?_
    obtain rfl := Option.some.inj hm
    exact hret _ _ _ _ (vp_nar_int _) hP hD hS dX7_stretch_24
  · skip
    replace hm := (if_neg c1).symm.trans hm
    refine lv_iload_n hx hb dX7_stretch_5 rfl (lv_at hl 1 rfl) ?_
    refine lv_aload_n hx hb dX7_stretch_6 rfl (lv_at hl 0 rfl) ?_
    refine xget (ref := "FriezeFolk") (C := RX7) (T := TX7) (N := 9) (ci := 7) (v := .ref (ha 0)) hx hb hts inX7 hown hK hP 0 rfl rfl 0 (by decide) k1 rfl rfl dX7_stretch_7 ?_
    refine xget (ref := "FriezeFolk$Hall") (C := RX0) (T := TX0) (N := 13) (ci := 0) (v := .int (h.2 6)) hx hb hts inX0 hown hK hP 1 rfl rfl 6 (by decide) k2 rfl rfl dX7_stretch_10 ?_
    refine lv_icmp_gt (tgt := 23) hx hb dX7_stretch_13 (by decide) (fun c2 => ?_) (fun c2 => ?_)
    · skip
      replace hm := (if_pos c2).symm.trans hm
      refine lv_iconst (v := (-1 : Int32)) hx hb dX7_stretch_23 (by decide) ?_
      obtain rfl := Option.some.inj hm
      exact hret _ _ _ _ (vp_nar_int _) hP hD hS dX7_stretch_24
    · skip
      replace hm := (if_neg c2).symm.trans hm
      refine lv_iload_n hx hb dX7_stretch_16 rfl (lv_at hl 2 rfl) ?_
      obtain ⟨v3, q3, h8⟩ := obn hm
      clear hm
      refine xSi (As := [.int w]) ⟨hx, hb, hml, hown, hts⟩ (k_X7_isNoPair l D ca  w _ q3) (va_cwS 1 hts gX7_stretch_X7_isNoPair rfl rfl rfl (by decide +kernel) ⟨Nat.le_of_ble_eq_true rfl, Nat.le_of_ble_eq_true rfl⟩) hK hA hP hD hS dX7_stretch_17 rfl hl.1 [] [0, 1, 2, 3, 4, 5, 6] [0, 1, 2, 3, 4, 5, 6] rfl rfl (wr := ((cF ffa (ha 0) r1 r2 r3 r4 r5 r6 r7 ff) ++ (cH ca ha h))) rfl rfl (by decide) (wn := ((cF ffa (ha 0) r1 r2 r3 r4 r5 r6 r7 ff) ++ (cH ca ha h))) rfl rfl rfl (Nat.le_of_ble_eq_true rfl) (fun H locs hP hD hS => ?_)
      refine lv_if_eq (tgt := 25) hx hb dX7_stretch_20 (by decide) (fun c4 => ?_) (fun c4 => ?_)
      · skip
        replace h8 := (if_pos c4).symm.trans h8
        refine lv_aload_n hx hb dX7_stretch_25 rfl (lv_at hl 0 rfl) ?_
        refine xget (ref := "FriezeFolk") (C := RX7) (T := TX7) (N := 9) (ci := 7) (v := .ref (ha 0)) hx hb hts inX7 hown hK hP 0 rfl rfl 0 (by decide) k1 rfl rfl dX7_stretch_26 ?_
        refine lv_iload_n hx hb dX7_stretch_29 rfl (lv_at hl 1 rfl) ?_
        obtain ⟨v5, q5, h9⟩ := obn h8
        clear h8
        refine xVi (As := [.int n]) (ci := 0) ⟨hx, hb, hml, hown, hts⟩ (k_X0_frankestFrom l D ca ha h n _ q5) (cwV 1 hts gX7_stretch_X0_frankestFrom rfl rfl rfl (by decide +kernel) ⟨Nat.le_of_ble_eq_true rfl, Nat.le_of_ble_eq_true rfl⟩) hK hA hP hD hS dX7_stretch_30 rfl hl.1 [1, 2, 3, 4, 5, 6] [0] [0, 1, 2, 3, 4, 5, 6] rfl rfl (wr := ((cF ffa (ha 0) r1 r2 r3 r4 r5 r6 r7 ff))) rfl rfl (by decide) (wn := ((cF ffa (ha 0) r1 r2 r3 r4 r5 r6 r7 ff) ++ (cH ca ha h))) rfl rfl rfl rfl rfl rfl (Nat.le_of_ble_eq_true rfl) (fun H locs hP hD hS => ?_)
        refine lv_istore_n (lv' := [(3, .int v5), (0, .ref ffa), (1, .int n), (2, .int w)]) hx hb dX7_stretch_33 rfl hl (by decide) rfl (fun ls hl => ?_)
        refine lv_iload_n hx hb dX7_stretch_34 rfl (lv_at hl 3 rfl) ?_
        refine lv_if_ne (tgt := 42) hx hb dX7_stretch_35 (by decide) (fun c6 => ?_) (fun c6 => ?_)
        · skip
          replace h9 := (if_neg c6).symm.trans h9
          refine lv_aload_n hx hb dX7_stretch_42 rfl (lv_at hl 1 rfl) ?_
          refine xget (ref := "FriezeFolk") (C := RX7) (T := TX7) (N := 9) (ci := 7) (v := .ref (ha 0)) hx hb hts inX7 hown hK hP 0 rfl rfl 0 (by decide) k1 rfl rfl dX7_stretch_43 ?_
          refine lv_iload_n hx hb dX7_stretch_46 rfl (lv_at hl 0 rfl) ?_
          refine lv_iload_n hx hb dX7_stretch_47 rfl (lv_at hl 2 rfl) ?_
          obtain ⟨v7, q7, h10⟩ := obn h9
          clear h9
          refine xVi (As := [.int v5, .int n]) (ci := 0) ⟨hx, hb, hml, hown, hts⟩ (k_X0_frankFrom l D ca ha h v5 n _ q7) (cwV 2 hts gX7_stretch_X0_frankFrom rfl rfl rfl (by decide +kernel) ⟨Nat.le_of_ble_eq_true rfl, Nat.le_of_ble_eq_true rfl⟩) hK hA hP hD hS dX7_stretch_48 rfl hl.1 [1, 2, 3, 4, 5, 6] [0] [0, 1, 2, 3, 4, 5, 6] rfl rfl (wr := ((cF ffa (ha 0) r1 r2 r3 r4 r5 r6 r7 ff))) rfl rfl (by decide) (wn := ((cF ffa (ha 0) r1 r2 r3 r4 r5 r6 r7 ff) ++ (cH ca ha h))) rfl rfl rfl rfl rfl rfl (Nat.le_of_ble_eq_true rfl) (fun H locs hP hD hS => ?_)
          obtain rfl := Option.some.inj h10
          exact hret _ _ _ _ (vp_nar_int _) hP hD hS dX7_stretch_51
        · skip
          replace h9 := (if_pos c6).symm.trans h9
          refine lv_iload_n hx hb dX7_stretch_38 rfl (lv_at hl 0 rfl) ?_
          refine lv_goto (tgt := 51) hx hb dX7_stretch_39 (by decide) ?_
          obtain rfl := Option.some.inj h9
          exact hret _ _ _ _ (vp_nar_int _) hP hD hS dX7_stretch_51
      · skip
        replace h8 := (if_neg c4).symm.trans h8
        refine lv_iconst (v := (-1 : Int32)) hx hb dX7_stretch_23 (by decide) ?_
        obtain rfl := Option.some.inj h8
        exact hret _ _ _ _ (vp_nar_int _) hP hD hS dX7_stretch_24
def mX7_period_l15 (h : GS) (s2 : Int32) : Option ((Int32) ⊕ ((Int32) ⊕ (Int32))) :=
  if (h.2 6) ≤ s2 then
    some (.inr (.inl s2))
  else
    Option.bind (mX0_repeatsBy h s2) fun v4 =>
    if v4 = 0 then
      some (.inl (s2 + (1 : Int32)))
    else
      some (.inr (.inr s2))

def mX7_period (h : GS) : Option (Int32) :=
  if (h.2 5) = 0 then
    some (-2 : Int32)
  else
    Option.bind (whO (mX7_period_l15 h) FU (1 : Int32)) fun e6 => esc e6 fun t7 =>
    some (h.2 6)
abbrev rmX7_period : Room := { frames := 4, cells := 0, slots := 0, locals := 87 }
set_option maxHeartbeats 4000000 in
set_option maxRecDepth 100000 in
theorem k_X7_period (l : Launch) (D : va_G) (ca : Nat → ClassId) (ffa : Nat) (r1 r2 r3 r4 r5 r6 r7 : Nat) (ha : Nat → Nat) (ff : Int32) (h : GS) (o : Int32) (hm : mX7_period h = some o) : KI l yX7_period wsX7_period rmX7_period D ca [.ref ffa] ((cF ffa (ha 0) r1 r2 r3 r4 r5 r6 r7 ff) ++ (cH ca ha h)) ((cF ffa (ha 0) r1 r2 r3 r4 r5 r6 r7 ff) ++ (cH ca ha h)) o := by
  refine KI.of (cc := cX7_period) (n := 2) (plainFor_of_name (by decide)) rfl (Nat.le_of_ble_eq_true rfl) ?_
  intro p e s m below meth c A Z hx hb hml hts hown hA hK hP hD hS hret ls hl
  have hown : s.vm.findClass RX7 = some m.cls := hown
  have hl : lv_has ls 2 [(0, .ref ffa)] := hl
  have inX0 : ∀ w ∈ wsX00, w ∈ wsX7_period := by decide +kernel
  have inX7 : ∀ w ∈ wsX70, w ∈ wsX7_period := by decide +kernel
  have k1 := hts (.fieldLink RX7 10 "FriezeFolk" "hall" "LFriezeFolk$Hall;") (by decide +kernel)
  have k2 := hts (.fieldLink RX7 93 "FriezeFolk$Hall" "blocks" "I") (by decide +kernel)
  have k3 := hts (.fieldLink RX7 96 "FriezeFolk$Hall" "wide" "I") (by decide +kernel)
  unfold mX7_period at hm
  refine lv_aload_n hx hb dX7_period_0 rfl (lv_at hl 0 rfl) ?_
  refine xget (ref := "FriezeFolk") (C := RX7) (T := TX7) (N := 9) (ci := 7) (v := .ref (ha 0)) hx hb hts inX7 hown hK hP 0 rfl rfl 0 (by decide) k1 rfl rfl dX7_period_1 ?_
  refine xget (ref := "FriezeFolk$Hall") (C := RX0) (T := TX0) (N := 13) (ci := 0) (v := .int (h.2 5)) hx hb hts inX0 hown hK hP 1 rfl rfl 5 (by decide) k2 rfl rfl dX7_period_4 ?_
  refine lv_if_ne (tgt := 13) hx hb dX7_period_7 (by decide) (fun c1 => ?_) (fun c1 => ?_)
  · skip
    replace hm := (if_neg c1).symm.trans hm
    refine lv_iconst (v := (1 : Int32)) hx hb dX7_period_13 (by decide) ?_
    refine lv_istore_n (lv' := [(1, .int (1 : Int32)), (0, .ref ffa)]) hx hb dX7_period_14 rfl hl (by decide) rfl (fun ls hl => ?_)
    obtain ⟨e6, w8, h9⟩ := obn hm
    clear hm
    have AF6 : ∀ t7, e6 = .inl t7 → ∀ (ls : Array Slot) (H : Heap) (locs : List Loc), lv_has ls 2 [(0, .ref ffa)] → va_P D vwCl ((cF ffa (ha 0) r1 r2 r3 r4 r5 r6 r7 ff) ++ (cH ca ha h)) H → va_D A ((cF ffa (ha 0) r1 r2 r3 r4 r5 r6 r7 ff) ++ (cH ca ha h)) → va_S A s.heap H locs → W p l e rmX7_period s m ([.ref ffa] : List Value).toArray below meth c H locs 0 0 Z (F0 m 45 ls []) := by
      intro t7 ht ls H locs hl hP hD hS
      subst ht
      replace h9 := (esc_l _ _).symm.trans h9
      refine lv_aload_n hx hb dX7_period_45 rfl (lv_at hl 0 rfl) ?_
      refine xget (ref := "FriezeFolk") (C := RX7) (T := TX7) (N := 9) (ci := 7) (v := .ref (ha 0)) hx hb hts inX7 hown hK hP 0 rfl rfl 0 (by decide) k1 rfl rfl dX7_period_46 ?_
      refine xget (ref := "FriezeFolk$Hall") (C := RX0) (T := TX0) (N := 13) (ci := 0) (v := .int (h.2 6)) hx hb hts inX0 hown hK hP 1 rfl rfl 6 (by decide) k3 rfl rfl dX7_period_49 ?_
      obtain rfl := Option.some.inj h9
      exact hret _ _ _ _ (vp_nar_int _) hP hD hS dX7_period_52
    refine whO_walk (I := fun s2 => ∀ (ls : Array Slot) (H : Heap) (locs : List Loc), lv_has ls 2 [(0, .ref ffa), (1, .int s2)] → va_P D vwCl ((cF ffa (ha 0) r1 r2 r3 r4 r5 r6 r7 ff) ++ (cH ca ha h)) H → va_D A ((cF ffa (ha 0) r1 r2 r3 r4 r5 r6 r7 ff) ++ (cH ca ha h)) → va_S A s.heap H locs → W p l e rmX7_period s m ([.ref ffa] : List Value).toArray below meth c H locs 0 0 Z (F0 m 15 ls [])) ?_ _ _ w8 _ _ _ (lv_sub hl [1, 0] rfl) hP hD hS
    clear w8
    intro s2 o6 h10 hi6 ho6 ls H locs hl hP hD hS
    unfold mX7_period_l15 at h10
    refine lv_iload_n hx hb dX7_period_15 rfl (lv_at hl 1 rfl) ?_
    refine lv_aload_n hx hb dX7_period_16 rfl (lv_at hl 0 rfl) ?_
    refine xget (ref := "FriezeFolk") (C := RX7) (T := TX7) (N := 9) (ci := 7) (v := .ref (ha 0)) hx hb hts inX7 hown hK hP 0 rfl rfl 0 (by decide) k1 rfl rfl dX7_period_17 ?_
    refine xget (ref := "FriezeFolk$Hall") (C := RX0) (T := TX0) (N := 13) (ci := 0) (v := .int (h.2 6)) hx hb hts inX0 hown hK hP 1 rfl rfl 6 (by decide) k3 rfl rfl dX7_period_20 ?_
    refine lv_icmp_ge (tgt := 45) hx hb dX7_period_23 (by decide) (fun c3 => ?_) (fun c3 => ?_)
    · skip
      replace h10 := (if_pos c3).symm.trans h10
      have h11 := ho6 _ (Option.some.inj h10).symm
      subst h11
      exact AF6 _ rfl _ _ _ (lv_sub hl [0] rfl) hP hD hS
    · skip
      replace h10 := (if_neg c3).symm.trans h10
      refine lv_aload_n hx hb dX7_period_26 rfl (lv_at hl 0 rfl) ?_
      refine xget (ref := "FriezeFolk") (C := RX7) (T := TX7) (N := 9) (ci := 7) (v := .ref (ha 0)) hx hb hts inX7 hown hK hP 0 rfl rfl 0 (by decide) k1 rfl rfl dX7_period_27 ?_
      refine lv_iload_n hx hb dX7_period_30 rfl (lv_at hl 1 rfl) ?_
      obtain ⟨v4, q4, h12⟩ := obn h10
      clear h10
      refine xVi (As := [.int s2]) (ci := 0) ⟨hx, hb, hml, hown, hts⟩ (k_X0_repeatsBy l D ca ha h s2 _ q4) (cwV 1 hts gX7_period_X0_repeatsBy rfl rfl rfl (by decide +kernel) ⟨Nat.le_of_ble_eq_true rfl, Nat.le_of_ble_eq_true rfl⟩) hK hA hP hD hS dX7_period_31 rfl hl.1 [1, 2, 3, 4, 5, 6] [0] [0, 1, 2, 3, 4, 5, 6] rfl rfl (wr := ((cF ffa (ha 0) r1 r2 r3 r4 r5 r6 r7 ff))) rfl rfl (by decide) (wn := ((cF ffa (ha 0) r1 r2 r3 r4 r5 r6 r7 ff) ++ (cH ca ha h))) rfl rfl rfl rfl rfl rfl (Nat.le_of_ble_eq_true rfl) (fun H locs hP hD hS => ?_)
      refine lv_if_eq (tgt := 39) hx hb dX7_period_34 (by decide) (fun c5 => ?_) (fun c5 => ?_)
      · skip
        replace h12 := (if_pos c5).symm.trans h12
        refine lv_iinc (v := (s2 + (1 : Int32))) (lv' := [(1, .int (s2 + (1 : Int32))), (0, .ref ffa)]) hx hb dX7_period_39 hl (k := 1) rfl rfl (by decide) rfl (fun ls hl => ?_)
        refine lv_goto (tgt := 15) hx hb dX7_period_42 (by decide) ?_
        exact hi6 _ (Option.some.inj h12).symm _ _ _ (lv_sub hl [1, 0] rfl) hP hD hS
      · skip
        replace h12 := (if_neg c5).symm.trans h12
        refine lv_iload_n hx hb dX7_period_37 rfl (lv_at hl 1 rfl) ?_
        have h13 := ho6 _ (Option.some.inj h12).symm
        subst h13
        replace h9 := (esc_r _ _).symm.trans h9
        obtain rfl := Option.some.inj h9
        exact hret _ _ _ _ (vp_nar_int _) hP hD hS dX7_period_38
  · skip
    replace hm := (if_pos c1).symm.trans hm
    refine lv_bipush (v := (-2 : Int32)) hx hb dX7_period_10 (by decide) ?_
    obtain rfl := Option.some.inj hm
    exact hret _ _ _ _ (vp_nar_int _) hP hD hS dX7_period_12

def mX7_areNoLamps (h : GS) (x : Int32) (i : Int32) (j : Int32) : Option (Int32) :=
  Option.bind (
    if x < 0 then
      some (.inl ())
    else
      if (10 : Int32) < x then
        some (.inl ())
      else
        Option.bind (mX0_hasPlace h i) fun v3 =>
        if v3 = 0 then
          some (.inl ())
        else
          Option.bind (mX0_hasPlace h j) fun v5 =>
          if v5 = 0 then
            some (.inl ())
          else
            if i ≤ j then
              some (.inr (0 : Int32))
            else
              some (.inl ())) fun (v8 : (Unit) ⊕ (Int32)) => esc v8 fun t9 =>
  some (1 : Int32)
abbrev rmX7_areNoLamps : Room := { frames := 1, cells := 0, slots := 0, locals := 21 }
set_option maxHeartbeats 4000000 in
set_option maxRecDepth 100000 in
theorem k_X7_areNoLamps (l : Launch) (D : va_G) (ca : Nat → ClassId) (ffa : Nat) (r1 r2 r3 r4 r5 r6 r7 : Nat) (ha : Nat → Nat) (ff : Int32) (h : GS) (x : Int32) (i : Int32) (j : Int32) (o : Int32) (hm : mX7_areNoLamps h x i j = some o) : KI l yX7_areNoLamps wsX7_areNoLamps rmX7_areNoLamps D ca [.ref ffa, .int x, .int i, .int j] ((cF ffa (ha 0) r1 r2 r3 r4 r5 r6 r7 ff) ++ (cH ca ha h)) ((cF ffa (ha 0) r1 r2 r3 r4 r5 r6 r7 ff) ++ (cH ca ha h)) o := by
  refine KI.of (cc := cX7_areNoLamps) (n := 4) (plainFor_of_name (by decide)) rfl (Nat.le_of_ble_eq_true rfl) ?_
  intro p e s m below meth c A Z hx hb hml hts hown hA hK hP hD hS hret ls hl
  have hown : s.vm.findClass RX7 = some m.cls := hown
  have hl : lv_has ls 4 [(0, .ref ffa), (1, .int x), (2, .int i), (3, .int j)] := hl
  have inX7 : ∀ w ∈ wsX70, w ∈ wsX7_areNoLamps := by decide +kernel
  have k1 := hts (.fieldLink RX7 10 "FriezeFolk" "hall" "LFriezeFolk$Hall;") (by decide +kernel)
  unfold mX7_areNoLamps at hm
  refine lv_iload_n hx hb dX7_areNoLamps_0 rfl (lv_at hl 1 rfl) ?_
  obtain ⟨v8, q10, h11⟩ := obn hm
  clear hm
  have J8 : ∀ t9, v8 = .inl t9 → ∀ (ls : Array Slot) (H : Heap) (locs : List Loc), lv_has ls 4 [] → va_P D vwCl ((cF ffa (ha 0) r1 r2 r3 r4 r5 r6 r7 ff) ++ (cH ca ha h)) H → va_D A ((cF ffa (ha 0) r1 r2 r3 r4 r5 r6 r7 ff) ++ (cH ca ha h)) → va_S A s.heap H locs → W p l e rmX7_areNoLamps s m ([.ref ffa, .int x, .int i, .int j] : List Value).toArray below meth c H locs 0 0 Z (F0 m 37 ls []) := by
    intro t9 ht ls H locs hl hP hD hS
    subst ht
    replace h11 := (esc_l _ _).symm.trans h11
    refine lv_iconst (v := (1 : Int32)) hx hb dX7_areNoLamps_37 (by decide) ?_
    refine lv_goto (tgt := 42) hx hb dX7_areNoLamps_38 (by decide) ?_
    obtain rfl := Option.some.inj h11
    exact hret _ _ _ _ nar1 hP hD hS dX7_areNoLamps_42
  refine lv_if_lt (tgt := 37) hx hb dX7_areNoLamps_1 (by decide) (fun c1 => ?_) (fun c1 => ?_)
  · skip
    replace q10 := (if_pos c1).symm.trans q10
    obtain rfl := Option.some.inj q10
    exact J8 _ rfl _ _ _ (lv_sub hl [] rfl) hP hD hS
  · skip
    replace q10 := (if_neg c1).symm.trans q10
    refine lv_iload_n hx hb dX7_areNoLamps_4 rfl (lv_at hl 1 rfl) ?_
    refine lv_bipush (v := (10 : Int32)) hx hb dX7_areNoLamps_5 (by decide) ?_
    refine lv_icmp_gt (tgt := 37) hx hb dX7_areNoLamps_7 (by decide) (fun c2 => ?_) (fun c2 => ?_)
    · skip
      replace q10 := (if_pos c2).symm.trans q10
      obtain rfl := Option.some.inj q10
      exact J8 _ rfl _ _ _ (lv_sub hl [] rfl) hP hD hS
    · skip
      replace q10 := (if_neg c2).symm.trans q10
      refine lv_aload_n hx hb dX7_areNoLamps_10 rfl (lv_at hl 0 rfl) ?_
      refine xget (ref := "FriezeFolk") (C := RX7) (T := TX7) (N := 9) (ci := 7) (v := .ref (ha 0)) hx hb hts inX7 hown hK hP 0 rfl rfl 0 (by decide) k1 rfl rfl dX7_areNoLamps_11 ?_
      refine lv_iload_n hx hb dX7_areNoLamps_14 rfl (lv_at hl 2 rfl) ?_
      obtain ⟨v3, q3, h12⟩ := obn q10
      clear q10
      refine xVi (As := [.int i]) (ci := 0) ⟨hx, hb, hml, hown, hts⟩ (k_X0_hasPlace l D ca ha h i _ q3) (cwV 1 hts gX7_areNoLamps_X0_hasPlace rfl rfl rfl (by decide +kernel) ⟨Nat.le_of_ble_eq_true rfl, Nat.le_of_ble_eq_true rfl⟩) hK hA hP hD hS dX7_areNoLamps_15 rfl hl.1 [1, 2, 3, 4, 5, 6] [0] [0, 1, 2, 3, 4, 5, 6] rfl rfl (wr := ((cF ffa (ha 0) r1 r2 r3 r4 r5 r6 r7 ff))) rfl rfl (by decide) (wn := ((cF ffa (ha 0) r1 r2 r3 r4 r5 r6 r7 ff) ++ (cH ca ha h))) rfl rfl rfl rfl rfl rfl (Nat.le_of_ble_eq_true rfl) (fun H locs hP hD hS => ?_)
      refine lv_if_eq (tgt := 37) hx hb dX7_areNoLamps_18 (by decide) (fun c4 => ?_) (fun c4 => ?_)
      · skip
        replace h12 := (if_pos c4).symm.trans h12
        obtain rfl := Option.some.inj h12
        exact J8 _ rfl _ _ _ (lv_sub hl [] rfl) hP hD hS
      · skip
        replace h12 := (if_neg c4).symm.trans h12
        refine lv_aload_n hx hb dX7_areNoLamps_21 rfl (lv_at hl 0 rfl) ?_
        refine xget (ref := "FriezeFolk") (C := RX7) (T := TX7) (N := 9) (ci := 7) (v := .ref (ha 0)) hx hb hts inX7 hown hK hP 0 rfl rfl 0 (by decide) k1 rfl rfl dX7_areNoLamps_22 ?_
        refine lv_iload_n hx hb dX7_areNoLamps_25 rfl (lv_at hl 3 rfl) ?_
        obtain ⟨v5, q5, h13⟩ := obn h12
        clear h12
        refine xVi (As := [.int j]) (ci := 0) ⟨hx, hb, hml, hown, hts⟩ (k_X0_hasPlace l D ca ha h j _ q5) (cwV 1 hts gX7_areNoLamps_X0_hasPlace rfl rfl rfl (by decide +kernel) ⟨Nat.le_of_ble_eq_true rfl, Nat.le_of_ble_eq_true rfl⟩) hK hA hP hD hS dX7_areNoLamps_26 rfl hl.1 [1, 2, 3, 4, 5, 6] [0] [0, 1, 2, 3, 4, 5, 6] rfl rfl (wr := ((cF ffa (ha 0) r1 r2 r3 r4 r5 r6 r7 ff))) rfl rfl (by decide) (wn := ((cF ffa (ha 0) r1 r2 r3 r4 r5 r6 r7 ff) ++ (cH ca ha h))) rfl rfl rfl rfl rfl rfl (Nat.le_of_ble_eq_true rfl) (fun H locs hP hD hS => ?_)
        refine lv_if_eq (tgt := 37) hx hb dX7_areNoLamps_29 (by decide) (fun c6 => ?_) (fun c6 => ?_)
        · skip
          replace h13 := (if_pos c6).symm.trans h13
          obtain rfl := Option.some.inj h13
          exact J8 _ rfl _ _ _ (lv_sub hl [] rfl) hP hD hS
        · skip
          replace h13 := (if_neg c6).symm.trans h13
          refine lv_iload_n hx hb dX7_areNoLamps_32 rfl (lv_at hl 2 rfl) ?_
          refine lv_iload_n hx hb dX7_areNoLamps_33 rfl (lv_at hl 3 rfl) ?_
          refine lv_icmp_le (tgt := 41) hx hb dX7_areNoLamps_34 (by decide) (fun c7 => ?_) (fun c7 => ?_)
          · skip
            replace h13 := (if_pos c7).symm.trans h13
            refine lv_iconst (v := (0 : Int32)) hx hb dX7_areNoLamps_41 (by decide) ?_
            obtain rfl := Option.some.inj h13
            replace h11 := (esc_r _ _).symm.trans h11
            obtain rfl := Option.some.inj h11
            exact hret _ _ _ _ nar0 hP hD hS dX7_areNoLamps_42
          · skip
            replace h13 := (if_neg c7).symm.trans h13
            obtain rfl := Option.some.inj h13
            exact J8 _ rfl _ _ _ (lv_sub hl [] rfl) hP hD hS

def mX7_mean (h : GS) (x : Int32) (i : Int32) (j : Int32) (w : Int32) : Option (Int64) :=
  Option.bind (mX7_areNoLamps h x i j) fun v1 =>
  if v1 = 0 then
    Option.bind (mX7_isNoPair w) fun v3 =>
    if v3 = 0 then
      Option.bind (mX0_frankFrom h i ((j - i) + (1 : Int32))) fun v5 =>
      Option.bind (mX7_inLowestTerms (((10 : Int32) - x).toInt64 * v5.toInt64) (10 : Int64) w) fun v6 =>
      some v6
    else
      some (-1 : Int64)
  else
    some (-1 : Int64)
abbrev rmX7_mean : Room := { frames := 4, cells := 0, slots := 0, locals := 91 }
set_option maxHeartbeats 4000000 in
set_option maxRecDepth 100000 in
theorem k_X7_mean (l : Launch) (D : va_G) (ca : Nat → ClassId) (ffa : Nat) (r1 r2 r3 r4 r5 r6 r7 : Nat) (ha : Nat → Nat) (ff : Int32) (h : GS) (x : Int32) (i : Int32) (j : Int32) (w : Int32) (o : Int64) (hm : mX7_mean h x i j w = some o) : KL l yX7_mean wsX7_mean rmX7_mean D ca [.ref ffa, .int x, .int i, .int j, .int w] ((cF ffa (ha 0) r1 r2 r3 r4 r5 r6 r7 ff) ++ (cH ca ha h)) ((cF ffa (ha 0) r1 r2 r3 r4 r5 r6 r7 ff) ++ (cH ca ha h)) o := by
  refine KL.of (cc := cX7_mean) (n := 7) (plainFor_of_name (by decide)) rfl (Nat.le_of_ble_eq_true rfl) ?_
  intro p e s m below meth c A Z hx hb hml hts hown hA hK hP hD hS hret ls hl
  have hown : s.vm.findClass RX7 = some m.cls := hown
  have hl : lv_has ls 7 [(0, .ref ffa), (1, .int x), (2, .int i), (3, .int j), (4, .int w)] := hl
  have inX7 : ∀ w ∈ wsX70, w ∈ wsX7_mean := by decide +kernel
  have k1 := hts (.constantLong RX7 209 (-1 : Int64)) (by decide +kernel)
  have k2 := hts (.fieldLink RX7 10 "FriezeFolk" "hall" "LFriezeFolk$Hall;") (by decide +kernel)
  have k3 := hts (.constantLong RX7 226 (10 : Int64)) (by decide +kernel)
  unfold mX7_mean at hm
  refine lv_aload_n hx hb dX7_mean_0 rfl (lv_at hl 0 rfl) ?_
  refine lv_iload_n hx hb dX7_mean_1 rfl (lv_at hl 1 rfl) ?_
  refine lv_iload_n hx hb dX7_mean_2 rfl (lv_at hl 2 rfl) ?_
  refine lv_iload_n hx hb dX7_mean_3 rfl (lv_at hl 3 rfl) ?_
  obtain ⟨v1, q1, h7⟩ := obn hm
  clear hm
  refine xVi (As := [.int x, .int i, .int j]) (ci := 7) ⟨hx, hb, hml, hown, hts⟩ (k_X7_areNoLamps l D ca ffa r1 r2 r3 r4 r5 r6 r7 ha ff h x i j _ q1) (cwV 3 hts gX7_mean_X7_areNoLamps rfl rfl rfl (by decide +kernel) ⟨Nat.le_of_ble_eq_true rfl, Nat.le_of_ble_eq_true rfl⟩) hK hA hP hD hS dX7_mean_4 rfl hl.1 [0, 1, 2, 3, 4, 5, 6] [] [0, 1, 2, 3, 4, 5, 6] rfl rfl (wr := []) rfl rfl (by decide) (wn := ((cF ffa (ha 0) r1 r2 r3 r4 r5 r6 r7 ff) ++ (cH ca ha h))) rfl rfl rfl rfl rfl rfl (Nat.le_of_ble_eq_true rfl) (fun H locs hP hD hS => ?_)
  refine lv_if_ne (tgt := 18) hx hb dX7_mean_7 (by decide) (fun c2 => ?_) (fun c2 => ?_)
  · skip
    replace h7 := (if_neg c2).symm.trans h7
    refine lv_ldc2 hx hb hown k1 dX7_mean_18 ?_
    obtain rfl := Option.some.inj h7
    exact hret _ _ _ _ hP hD hS dX7_mean_21
  · skip
    replace h7 := (if_pos c2).symm.trans h7
    refine lv_iload hx hb dX7_mean_10 (lv_at hl 4 rfl) ?_
    obtain ⟨v3, q3, h8⟩ := obn h7
    clear h7
    refine xSi (As := [.int w]) ⟨hx, hb, hml, hown, hts⟩ (k_X7_isNoPair l D ca  w _ q3) (va_cwS 1 hts gX7_mean_X7_isNoPair rfl rfl rfl (by decide +kernel) ⟨Nat.le_of_ble_eq_true rfl, Nat.le_of_ble_eq_true rfl⟩) hK hA hP hD hS dX7_mean_12 rfl hl.1 [] [0, 1, 2, 3, 4, 5, 6] [0, 1, 2, 3, 4, 5, 6] rfl rfl (wr := ((cF ffa (ha 0) r1 r2 r3 r4 r5 r6 r7 ff) ++ (cH ca ha h))) rfl rfl (by decide) (wn := ((cF ffa (ha 0) r1 r2 r3 r4 r5 r6 r7 ff) ++ (cH ca ha h))) rfl rfl rfl (Nat.le_of_ble_eq_true rfl) (fun H locs hP hD hS => ?_)
    refine lv_if_eq (tgt := 22) hx hb dX7_mean_15 (by decide) (fun c4 => ?_) (fun c4 => ?_)
    · skip
      replace h8 := (if_pos c4).symm.trans h8
      refine lv_bipush (v := (10 : Int32)) hx hb dX7_mean_22 (by decide) ?_
      refine lv_iload_n hx hb dX7_mean_24 rfl (lv_at hl 1 rfl) ?_
      refine lv_isub hx hb dX7_mean_25 ?_
      refine lv_i2l (v := ((10 : Int32) - x).toInt64) hx hb dX7_mean_26 rfl ?_
      refine lv_lstore (lv' := [(5, .long ((10 : Int32) - x).toInt64), (0, .ref ffa), (1, .int x), (2, .int i), (3, .int j), (4, .int w)]) hx hb dX7_mean_27 hl (by decide) rfl (fun ls hl => ?_)
      refine lv_lload hx hb dX7_mean_29 (lv_at hl 0 rfl) ?_
      refine lv_aload_n hx hb dX7_mean_31 rfl (lv_at hl 1 rfl) ?_
      refine xget (ref := "FriezeFolk") (C := RX7) (T := TX7) (N := 9) (ci := 7) (v := .ref (ha 0)) hx hb hts inX7 hown hK hP 0 rfl rfl 0 (by decide) k2 rfl rfl dX7_mean_32 ?_
      refine lv_iload_n hx hb dX7_mean_35 rfl (lv_at hl 3 rfl) ?_
      refine lv_iload_n hx hb dX7_mean_36 rfl (lv_at hl 4 rfl) ?_
      refine lv_iload_n hx hb dX7_mean_37 rfl (lv_at hl 3 rfl) ?_
      refine lv_isub hx hb dX7_mean_38 ?_
      refine lv_iconst (v := (1 : Int32)) hx hb dX7_mean_39 (by decide) ?_
      refine lv_iadd hx hb dX7_mean_40 ?_
      obtain ⟨v5, q5, h9⟩ := obn h8
      clear h8
      refine xVi (As := [.int i, .int ((j - i) + (1 : Int32))]) (ci := 0) ⟨hx, hb, hml, hown, hts⟩ (k_X0_frankFrom l D ca ha h i ((j - i) + (1 : Int32)) _ q5) (cwV 2 hts gX7_mean_X0_frankFrom rfl rfl rfl (by decide +kernel) ⟨Nat.le_of_ble_eq_true rfl, Nat.le_of_ble_eq_true rfl⟩) hK hA hP hD hS dX7_mean_41 rfl hl.1 [1, 2, 3, 4, 5, 6] [0] [0, 1, 2, 3, 4, 5, 6] rfl rfl (wr := ((cF ffa (ha 0) r1 r2 r3 r4 r5 r6 r7 ff))) rfl rfl (by decide) (wn := ((cF ffa (ha 0) r1 r2 r3 r4 r5 r6 r7 ff) ++ (cH ca ha h))) rfl rfl rfl rfl rfl rfl (Nat.le_of_ble_eq_true rfl) (fun H locs hP hD hS => ?_)
      refine lv_i2l (v := v5.toInt64) hx hb dX7_mean_44 rfl ?_
      refine lv_lmul hx hb dX7_mean_45 ?_
      refine lv_ldc2 hx hb hown k3 dX7_mean_46 ?_
      refine lv_iload hx hb dX7_mean_49 (lv_at hl 5 rfl) ?_
      obtain ⟨v6, q6, h10⟩ := obn h9
      clear h9
      refine xSl (As := [.long (((10 : Int32) - x).toInt64 * v5.toInt64), .long (10 : Int64), .int w]) ⟨hx, hb, hml, hown, hts⟩ (k_X7_inLowestTerms l D ca  (((10 : Int32) - x).toInt64 * v5.toInt64) (10 : Int64) w _ q6) (va_cwS 3 hts gX7_mean_X7_inLowestTerms rfl rfl rfl (by decide +kernel) ⟨Nat.le_of_ble_eq_true rfl, Nat.le_of_ble_eq_true rfl⟩) hK hA hP hD hS dX7_mean_51 rfl hl.1 [] [0, 1, 2, 3, 4, 5, 6] [0, 1, 2, 3, 4, 5, 6] rfl rfl (wr := ((cF ffa (ha 0) r1 r2 r3 r4 r5 r6 r7 ff) ++ (cH ca ha h))) rfl rfl (by decide) (wn := ((cF ffa (ha 0) r1 r2 r3 r4 r5 r6 r7 ff) ++ (cH ca ha h))) rfl rfl rfl (Nat.le_of_ble_eq_true rfl) (fun H locs hP hD hS => ?_)
      obtain rfl := Option.some.inj h10
      exact hret _ _ _ _ hP hD hS dX7_mean_54
    · skip
      replace h8 := (if_neg c4).symm.trans h8
      refine lv_ldc2 hx hb hown k1 dX7_mean_18 ?_
      obtain rfl := Option.some.inj h8
      exact hret _ _ _ _ hP hD hS dX7_mean_21

def mX7_runs (h : GS) (tr : GS) (n : Int32) (w : Int32) : Option (Int32 × GS) :=
  if n < 0 then
    some ((-1 : Int32), tr)
  else
    if (60 : Int32) < n then
      some ((-1 : Int32), tr)
    else
      if w < 0 then
        some ((-1 : Int32), tr)
      else
        if w ≤ (3 : Int32) then
          Option.bind (mX0_copy tr h) fun v5 =>
          Option.bind (mX0_pass v5 n) fun v6 =>
          if w = (0 : Int32) then
            Option.bind (mX0_frankOfAll v6) fun v8 =>
            some (v8, v6)
          else
          if w = (1 : Int32) then
            Option.bind (mX0_placesWithout v6) fun v10 =>
            some (v10, v6)
          else
          if w = (2 : Int32) then
            Option.bind (mX0_frankestFrom v6 (1 : Int32)) fun v12 =>
            some (v12, v6)
          else
            Option.bind (mX0_frankestFrom v6 (1 : Int32)) fun v13 =>
            Option.bind (mX0_frankAt v6 v13) fun v14 =>
            some (v14, v6)
        else
          some ((-1 : Int32), tr)
abbrev rmX7_runs : Room := { frames := 5, cells := 0, slots := 0, locals := 116 }
set_option maxHeartbeats 4000000 in
set_option maxRecDepth 100000 in
theorem k_X7_runs (l : Launch) (D : va_G) (ca : Nat → ClassId) (ffa : Nat) (r2 r3 r4 r5 r6 r7 : Nat) (ha : Nat → Nat) (tra : Nat → Nat) (ff : Int32) (h : GS) (tr : GS) (n : Int32) (w : Int32) (o : Int32 × GS) (hm : mX7_runs h tr n w = some o) : KI l yX7_runs wsX7_runs rmX7_runs D ca [.ref ffa, .int n, .int w] ((cF ffa (ha 0) (tra 0) r2 r3 r4 r5 r6 r7 ff) ++ (cH ca ha h) ++ (cH ca tra tr)) ((cF ffa (ha 0) (tra 0) r2 r3 r4 r5 r6 r7 ff) ++ (cH ca ha h) ++ (cH ca tra o.2)) o.1 := by
  refine KI.of (cc := cX7_runs) (n := 3) (plainFor_of_name (by decide)) rfl (Nat.le_of_ble_eq_true rfl) ?_
  intro p e s m below meth c A Z hx hb hml hts hown hA hK hP hD hS hret ls hl
  have hown : s.vm.findClass RX7 = some m.cls := hown
  have hl : lv_has ls 3 [(0, .ref ffa), (1, .int n), (2, .int w)] := hl
  have inX7 : ∀ w ∈ wsX70, w ∈ wsX7_runs := by decide +kernel
  have k1 := hts (.fieldLink RX7 16 "FriezeFolk" "trial" "LFriezeFolk$Hall;") (by decide +kernel)
  have k2 := hts (.fieldLink RX7 10 "FriezeFolk" "hall" "LFriezeFolk$Hall;") (by decide +kernel)
  unfold mX7_runs at hm
  refine lv_iload_n hx hb dX7_runs_0 rfl (lv_at hl 1 rfl) ?_
  refine lv_if_lt (tgt := 19) hx hb dX7_runs_1 (by decide) (fun c1 => ?_) (fun c1 => ?_)
  · skip
    replace hm := (if_pos c1).symm.trans hm
    refine lv_iconst (v := (-1 : Int32)) hx hb dX7_runs_19 (by decide) ?_
    obtain rfl := Option.some.inj hm
    exact hret _ _ _ _ (vp_nar_int _) hP hD hS dX7_runs_20
  · skip
    replace hm := (if_neg c1).symm.trans hm
    refine lv_iload_n hx hb dX7_runs_4 rfl (lv_at hl 1 rfl) ?_
    refine lv_bipush (v := (60 : Int32)) hx hb dX7_runs_5 (by decide) ?_
    refine lv_icmp_gt (tgt := 19) hx hb dX7_runs_7 (by decide) (fun c2 => ?_) (fun c2 => ?_)
    · skip
      replace hm := (if_pos c2).symm.trans hm
      refine lv_iconst (v := (-1 : Int32)) hx hb dX7_runs_19 (by decide) ?_
      obtain rfl := Option.some.inj hm
      exact hret _ _ _ _ (vp_nar_int _) hP hD hS dX7_runs_20
    · skip
      replace hm := (if_neg c2).symm.trans hm
      refine lv_iload_n hx hb dX7_runs_10 rfl (lv_at hl 2 rfl) ?_
      refine lv_if_lt (tgt := 19) hx hb dX7_runs_11 (by decide) (fun c3 => ?_) (fun c3 => ?_)
      · skip
        replace hm := (if_pos c3).symm.trans hm
        refine lv_iconst (v := (-1 : Int32)) hx hb dX7_runs_19 (by decide) ?_
        obtain rfl := Option.some.inj hm
        exact hret _ _ _ _ (vp_nar_int _) hP hD hS dX7_runs_20
      · skip
        replace hm := (if_neg c3).symm.trans hm
        refine lv_iload_n hx hb dX7_runs_14 rfl (lv_at hl 2 rfl) ?_
        refine lv_iconst (v := (3 : Int32)) hx hb dX7_runs_15 (by decide) ?_
        refine lv_icmp_le (tgt := 21) hx hb dX7_runs_16 (by decide) (fun c4 => ?_) (fun c4 => ?_)
        · skip
          replace hm := (if_pos c4).symm.trans hm
          refine lv_aload_n hx hb dX7_runs_21 rfl (lv_at hl 0 rfl) ?_
          refine xget (ref := "FriezeFolk") (C := RX7) (T := TX7) (N := 9) (ci := 7) (v := .ref (tra 0)) hx hb hts inX7 hown hK hP 0 rfl rfl 1 (by decide) k1 rfl rfl dX7_runs_22 ?_
          refine lv_aload_n hx hb dX7_runs_25 rfl (lv_at hl 0 rfl) ?_
          refine xget (ref := "FriezeFolk") (C := RX7) (T := TX7) (N := 9) (ci := 7) (v := .ref (ha 0)) hx hb hts inX7 hown hK hP 0 rfl rfl 0 (by decide) k2 rfl rfl dX7_runs_26 ?_
          obtain ⟨v5, q5, h15⟩ := obn hm
          clear hm
          refine xVv (As := [.ref (ha 0)]) (ci := 0) ⟨hx, hb, hml, hown, hts⟩ (k_X0_copy l D ca tra ha tr h _ q5) (cwV 1 hts gX7_runs_X0_copy rfl rfl rfl (by decide +kernel) ⟨Nat.le_of_ble_eq_true rfl, Nat.le_of_ble_eq_true rfl⟩) hK hA hP hD hS dX7_runs_29 rfl hl.1 [7, 8, 9, 10, 11, 12, 1, 2, 3, 4, 5, 6] [0] [0, 7, 8, 9, 10, 11, 12, 1, 2, 3, 4, 5, 6] rfl rfl (wr := ((cF ffa (ha 0) (tra 0) r2 r3 r4 r5 r6 r7 ff))) rfl rfl (by decide) (wn := ((cF ffa (ha 0) (tra 0) r2 r3 r4 r5 r6 r7 ff) ++ (cH ca ha h) ++ (cH ca tra v5))) rfl rfl rfl rfl rfl rfl (Nat.le_of_ble_eq_true rfl) (fun H locs hP hD hS => ?_)
          refine lv_aload_n hx hb dX7_runs_32 rfl (lv_at hl 0 rfl) ?_
          refine xget (ref := "FriezeFolk") (C := RX7) (T := TX7) (N := 9) (ci := 7) (v := .ref (tra 0)) hx hb hts inX7 hown hK hP 0 rfl rfl 1 (by decide) k1 rfl rfl dX7_runs_33 ?_
          refine lv_iload_n hx hb dX7_runs_36 rfl (lv_at hl 1 rfl) ?_
          obtain ⟨v6, q6, h16⟩ := obn h15
          clear h15
          refine xVv (As := [.int n]) (ci := 0) ⟨hx, hb, hml, hown, hts⟩ (k_X0_pass l D ca tra v5 n _ q6) (cwV 1 hts gX7_runs_X0_pass rfl rfl rfl (by decide +kernel) ⟨Nat.le_of_ble_eq_true rfl, Nat.le_of_ble_eq_true rfl⟩) hK hA hP hD hS dX7_runs_37 rfl hl.1 [7, 8, 9, 10, 11, 12] [0, 1, 2, 3, 4, 5, 6] [0, 1, 2, 3, 4, 5, 6, 7, 8, 9, 10, 11, 12] rfl rfl (wr := ((cF ffa (ha 0) (tra 0) r2 r3 r4 r5 r6 r7 ff) ++ (cH ca ha h))) rfl rfl (by decide) (wn := ((cF ffa (ha 0) (tra 0) r2 r3 r4 r5 r6 r7 ff) ++ (cH ca ha h) ++ (cH ca tra v6))) rfl rfl rfl rfl rfl rfl (Nat.le_of_ble_eq_true rfl) (fun H locs hP hD hS => ?_)
          refine lv_iload_n hx hb dX7_runs_40 rfl (lv_at hl 2 rfl) ?_
          by_cases c7 : w = (0 : Int32)
          · replace h16 := (if_pos c7).symm.trans h16
            refine lv_tableIn (tgt := 68) hx hb dX7_runs_41 (by rw [c7]; decide) (by rw [c7]; decide) (by rw [c7] <;> rfl) (by decide) ?_
            refine lv_aload_n hx hb dX7_runs_68 rfl (lv_at hl 0 rfl) ?_
            refine xget (ref := "FriezeFolk") (C := RX7) (T := TX7) (N := 9) (ci := 7) (v := .ref (tra 0)) hx hb hts inX7 hown hK hP 0 rfl rfl 1 (by decide) k1 rfl rfl dX7_runs_69 ?_
            obtain ⟨v8, q8, h17⟩ := obn h16
            clear h16
            refine xVi (As := []) (ci := 0) ⟨hx, hb, hml, hown, hts⟩ (k_X0_frankOfAll l D ca tra v6 _ q8) (cwV 0 hts gX7_runs_X0_frankOfAll rfl rfl rfl (by decide +kernel) ⟨Nat.le_of_ble_eq_true rfl, Nat.le_of_ble_eq_true rfl⟩) hK hA hP hD hS dX7_runs_72 rfl hl.1 [7, 8, 9, 10, 11, 12] [0, 1, 2, 3, 4, 5, 6] [0, 1, 2, 3, 4, 5, 6, 7, 8, 9, 10, 11, 12] rfl rfl (wr := ((cF ffa (ha 0) (tra 0) r2 r3 r4 r5 r6 r7 ff) ++ (cH ca ha h))) rfl rfl (by decide) (wn := ((cF ffa (ha 0) (tra 0) r2 r3 r4 r5 r6 r7 ff) ++ (cH ca ha h) ++ (cH ca tra v6))) rfl rfl rfl rfl rfl rfl (Nat.le_of_ble_eq_true rfl) (fun H locs hP hD hS => ?_)
            obtain rfl := Option.some.inj h17
            exact hret _ _ _ _ (vp_nar_int _) hP hD hS dX7_runs_75
          replace h16 := (if_neg c7).symm.trans h16
          have ec7 : ¬ (w).toInt = 0 := fun z => c7 (Int32.toInt_inj.mp (z.trans (by decide)))
          by_cases c9 : w = (1 : Int32)
          · replace h16 := (if_pos c9).symm.trans h16
            refine lv_tableIn (tgt := 76) hx hb dX7_runs_41 (by rw [c9]; decide) (by rw [c9]; decide) (by rw [c9] <;> rfl) (by decide) ?_
            refine lv_aload_n hx hb dX7_runs_76 rfl (lv_at hl 0 rfl) ?_
            refine xget (ref := "FriezeFolk") (C := RX7) (T := TX7) (N := 9) (ci := 7) (v := .ref (tra 0)) hx hb hts inX7 hown hK hP 0 rfl rfl 1 (by decide) k1 rfl rfl dX7_runs_77 ?_
            obtain ⟨v10, q10, h18⟩ := obn h16
            clear h16
            refine xVi (As := []) (ci := 0) ⟨hx, hb, hml, hown, hts⟩ (k_X0_placesWithout l D ca tra v6 _ q10) (cwV 0 hts gX7_runs_X0_placesWithout rfl rfl rfl (by decide +kernel) ⟨Nat.le_of_ble_eq_true rfl, Nat.le_of_ble_eq_true rfl⟩) hK hA hP hD hS dX7_runs_80 rfl hl.1 [7, 8, 9, 10, 11, 12] [0, 1, 2, 3, 4, 5, 6] [0, 1, 2, 3, 4, 5, 6, 7, 8, 9, 10, 11, 12] rfl rfl (wr := ((cF ffa (ha 0) (tra 0) r2 r3 r4 r5 r6 r7 ff) ++ (cH ca ha h))) rfl rfl (by decide) (wn := ((cF ffa (ha 0) (tra 0) r2 r3 r4 r5 r6 r7 ff) ++ (cH ca ha h) ++ (cH ca tra v6))) rfl rfl rfl rfl rfl rfl (Nat.le_of_ble_eq_true rfl) (fun H locs hP hD hS => ?_)
            obtain rfl := Option.some.inj h18
            exact hret _ _ _ _ (vp_nar_int _) hP hD hS dX7_runs_83
          replace h16 := (if_neg c9).symm.trans h16
          have ec9 : ¬ (w).toInt = 1 := fun z => c9 (Int32.toInt_inj.mp (z.trans (by decide)))
          by_cases c11 : w = (2 : Int32)
          · replace h16 := (if_pos c11).symm.trans h16
            refine lv_tableIn (tgt := 84) hx hb dX7_runs_41 (by rw [c11]; decide) (by rw [c11]; decide) (by rw [c11] <;> rfl) (by decide) ?_
            refine lv_aload_n hx hb dX7_runs_84 rfl (lv_at hl 0 rfl) ?_
            refine xget (ref := "FriezeFolk") (C := RX7) (T := TX7) (N := 9) (ci := 7) (v := .ref (tra 0)) hx hb hts inX7 hown hK hP 0 rfl rfl 1 (by decide) k1 rfl rfl dX7_runs_85 ?_
            refine lv_iconst (v := (1 : Int32)) hx hb dX7_runs_88 (by decide) ?_
            obtain ⟨v12, q12, h19⟩ := obn h16
            clear h16
            refine xVi (As := [.int (1 : Int32)]) (ci := 0) ⟨hx, hb, hml, hown, hts⟩ (k_X0_frankestFrom l D ca tra v6 (1 : Int32) _ q12) (cwV 1 hts gX7_runs_X0_frankestFrom rfl rfl rfl (by decide +kernel) ⟨Nat.le_of_ble_eq_true rfl, Nat.le_of_ble_eq_true rfl⟩) hK hA hP hD hS dX7_runs_89 rfl hl.1 [7, 8, 9, 10, 11, 12] [0, 1, 2, 3, 4, 5, 6] [0, 1, 2, 3, 4, 5, 6, 7, 8, 9, 10, 11, 12] rfl rfl (wr := ((cF ffa (ha 0) (tra 0) r2 r3 r4 r5 r6 r7 ff) ++ (cH ca ha h))) rfl rfl (by decide) (wn := ((cF ffa (ha 0) (tra 0) r2 r3 r4 r5 r6 r7 ff) ++ (cH ca ha h) ++ (cH ca tra v6))) rfl rfl rfl rfl rfl rfl (Nat.le_of_ble_eq_true rfl) (fun H locs hP hD hS => ?_)
            obtain rfl := Option.some.inj h19
            exact hret _ _ _ _ (vp_nar_int _) hP hD hS dX7_runs_92
          replace h16 := (if_neg c11).symm.trans h16
          have ec11 : ¬ (w).toInt = 2 := fun z => c11 (Int32.toInt_inj.mp (z.trans (by decide)))
          refine lv_tableOut (tgt := 93) hx hb dX7_runs_41 (by omega) (by decide) ?_
          refine lv_aload_n hx hb dX7_runs_93 rfl (lv_at hl 0 rfl) ?_
          refine xget (ref := "FriezeFolk") (C := RX7) (T := TX7) (N := 9) (ci := 7) (v := .ref (tra 0)) hx hb hts inX7 hown hK hP 0 rfl rfl 1 (by decide) k1 rfl rfl dX7_runs_94 ?_
          refine lv_aload_n hx hb dX7_runs_97 rfl (lv_at hl 0 rfl) ?_
          refine xget (ref := "FriezeFolk") (C := RX7) (T := TX7) (N := 9) (ci := 7) (v := .ref (tra 0)) hx hb hts inX7 hown hK hP 0 rfl rfl 1 (by decide) k1 rfl rfl dX7_runs_98 ?_
          refine lv_iconst (v := (1 : Int32)) hx hb dX7_runs_101 (by decide) ?_
          obtain ⟨v13, q13, h20⟩ := obn h16
          clear h16
          refine xVi (As := [.int (1 : Int32)]) (ci := 0) ⟨hx, hb, hml, hown, hts⟩ (k_X0_frankestFrom l D ca tra v6 (1 : Int32) _ q13) (cwV 1 hts gX7_runs_X0_frankestFrom rfl rfl rfl (by decide +kernel) ⟨Nat.le_of_ble_eq_true rfl, Nat.le_of_ble_eq_true rfl⟩) hK hA hP hD hS dX7_runs_102 rfl hl.1 [7, 8, 9, 10, 11, 12] [0, 1, 2, 3, 4, 5, 6] [0, 1, 2, 3, 4, 5, 6, 7, 8, 9, 10, 11, 12] rfl rfl (wr := ((cF ffa (ha 0) (tra 0) r2 r3 r4 r5 r6 r7 ff) ++ (cH ca ha h))) rfl rfl (by decide) (wn := ((cF ffa (ha 0) (tra 0) r2 r3 r4 r5 r6 r7 ff) ++ (cH ca ha h) ++ (cH ca tra v6))) rfl rfl rfl rfl rfl rfl (Nat.le_of_ble_eq_true rfl) (fun H locs hP hD hS => ?_)
          obtain ⟨v14, q14, h21⟩ := obn h20
          clear h20
          refine xVi (As := [.int v13]) (ci := 0) ⟨hx, hb, hml, hown, hts⟩ (k_X0_frankAt l D ca tra v6 v13 _ q14) (cwV 1 hts gX7_runs_X0_frankAt rfl rfl rfl (by decide +kernel) ⟨Nat.le_of_ble_eq_true rfl, Nat.le_of_ble_eq_true rfl⟩) hK hA hP hD hS dX7_runs_105 rfl hl.1 [7, 8, 9, 10, 11, 12] [0, 1, 2, 3, 4, 5, 6] [0, 1, 2, 3, 4, 5, 6, 7, 8, 9, 10, 11, 12] rfl rfl (wr := ((cF ffa (ha 0) (tra 0) r2 r3 r4 r5 r6 r7 ff) ++ (cH ca ha h))) rfl rfl (by decide) (wn := ((cF ffa (ha 0) (tra 0) r2 r3 r4 r5 r6 r7 ff) ++ (cH ca ha h) ++ (cH ca tra v6))) rfl rfl rfl rfl rfl rfl (Nat.le_of_ble_eq_true rfl) (fun H locs hP hD hS => ?_)
          obtain rfl := Option.some.inj h21
          exact hret _ _ _ _ (vp_nar_int _) hP hD hS dX7_runs_108
        · skip
          replace hm := (if_neg c4).symm.trans hm
          refine lv_iconst (v := (-1 : Int32)) hx hb dX7_runs_19 (by decide) ?_
          obtain rfl := Option.some.inj hm
          exact hret _ _ _ _ (vp_nar_int _) hP hD hS dX7_runs_20

def mX7_ahead (h : GS) (tr : GS) (i : Int32) (n : Int32) : Option (Int32 × GS) :=
  Option.bind (mX0_hasPlace h i) fun v1 =>
  if v1 = 0 then
    some ((-1 : Int32), tr)
  else
    if n < 0 then
      some ((-1 : Int32), tr)
    else
      if n ≤ (60 : Int32) then
        Option.bind (mX0_copy tr h) fun v5 =>
        Option.bind (mX0_pass v5 n) fun v6 =>
        Option.bind (mX0_frankAt v6 i) fun v7 =>
        some (v7, v6)
      else
        some ((-1 : Int32), tr)
abbrev rmX7_ahead : Room := { frames := 3, cells := 0, slots := 0, locals := 81 }
set_option maxHeartbeats 4000000 in
set_option maxRecDepth 100000 in
theorem k_X7_ahead (l : Launch) (D : va_G) (ca : Nat → ClassId) (ffa : Nat) (r2 r3 r4 r5 r6 r7 : Nat) (ha : Nat → Nat) (tra : Nat → Nat) (ff : Int32) (h : GS) (tr : GS) (i : Int32) (n : Int32) (o : Int32 × GS) (hm : mX7_ahead h tr i n = some o) : KI l yX7_ahead wsX7_ahead rmX7_ahead D ca [.ref ffa, .int i, .int n] ((cF ffa (ha 0) (tra 0) r2 r3 r4 r5 r6 r7 ff) ++ (cH ca ha h) ++ (cH ca tra tr)) ((cF ffa (ha 0) (tra 0) r2 r3 r4 r5 r6 r7 ff) ++ (cH ca ha h) ++ (cH ca tra o.2)) o.1 := by
  refine KI.of (cc := cX7_ahead) (n := 3) (plainFor_of_name (by decide)) rfl (Nat.le_of_ble_eq_true rfl) ?_
  intro p e s m below meth c A Z hx hb hml hts hown hA hK hP hD hS hret ls hl
  have hown : s.vm.findClass RX7 = some m.cls := hown
  have hl : lv_has ls 3 [(0, .ref ffa), (1, .int i), (2, .int n)] := hl
  have inX7 : ∀ w ∈ wsX70, w ∈ wsX7_ahead := by decide +kernel
  have k1 := hts (.fieldLink RX7 10 "FriezeFolk" "hall" "LFriezeFolk$Hall;") (by decide +kernel)
  have k2 := hts (.fieldLink RX7 16 "FriezeFolk" "trial" "LFriezeFolk$Hall;") (by decide +kernel)
  unfold mX7_ahead at hm
  refine lv_aload_n hx hb dX7_ahead_0 rfl (lv_at hl 0 rfl) ?_
  refine xget (ref := "FriezeFolk") (C := RX7) (T := TX7) (N := 9) (ci := 7) (v := .ref (ha 0)) hx hb hts inX7 hown hK hP 0 rfl rfl 0 (by decide) k1 rfl rfl dX7_ahead_1 ?_
  refine lv_iload_n hx hb dX7_ahead_4 rfl (lv_at hl 1 rfl) ?_
  obtain ⟨v1, q1, h8⟩ := obn hm
  clear hm
  refine xVi (As := [.int i]) (ci := 0) ⟨hx, hb, hml, hown, hts⟩ (k_X0_hasPlace l D ca ha h i _ q1) (cwV 1 hts gX7_ahead_X0_hasPlace rfl rfl rfl (by decide +kernel) ⟨Nat.le_of_ble_eq_true rfl, Nat.le_of_ble_eq_true rfl⟩) hK hA hP hD hS dX7_ahead_5 rfl hl.1 [1, 2, 3, 4, 5, 6] [0, 7, 8, 9, 10, 11, 12] [0, 7, 8, 9, 10, 11, 12, 1, 2, 3, 4, 5, 6] rfl rfl (wr := ((cF ffa (ha 0) (tra 0) r2 r3 r4 r5 r6 r7 ff) ++ (cH ca tra tr))) rfl rfl (by decide) (wn := ((cF ffa (ha 0) (tra 0) r2 r3 r4 r5 r6 r7 ff) ++ (cH ca ha h) ++ (cH ca tra tr))) rfl rfl rfl rfl rfl rfl (Nat.le_of_ble_eq_true rfl) (fun H locs hP hD hS => ?_)
  refine lv_if_eq (tgt := 21) hx hb dX7_ahead_8 (by decide) (fun c2 => ?_) (fun c2 => ?_)
  · skip
    replace h8 := (if_pos c2).symm.trans h8
    refine lv_iconst (v := (-1 : Int32)) hx hb dX7_ahead_21 (by decide) ?_
    obtain rfl := Option.some.inj h8
    exact hret _ _ _ _ (vp_nar_int _) hP hD hS dX7_ahead_22
  · skip
    replace h8 := (if_neg c2).symm.trans h8
    refine lv_iload_n hx hb dX7_ahead_11 rfl (lv_at hl 2 rfl) ?_
    refine lv_if_lt (tgt := 21) hx hb dX7_ahead_12 (by decide) (fun c3 => ?_) (fun c3 => ?_)
    · skip
      replace h8 := (if_pos c3).symm.trans h8
      refine lv_iconst (v := (-1 : Int32)) hx hb dX7_ahead_21 (by decide) ?_
      obtain rfl := Option.some.inj h8
      exact hret _ _ _ _ (vp_nar_int _) hP hD hS dX7_ahead_22
    · skip
      replace h8 := (if_neg c3).symm.trans h8
      refine lv_iload_n hx hb dX7_ahead_15 rfl (lv_at hl 2 rfl) ?_
      refine lv_bipush (v := (60 : Int32)) hx hb dX7_ahead_16 (by decide) ?_
      refine lv_icmp_le (tgt := 23) hx hb dX7_ahead_18 (by decide) (fun c4 => ?_) (fun c4 => ?_)
      · skip
        replace h8 := (if_pos c4).symm.trans h8
        refine lv_aload_n hx hb dX7_ahead_23 rfl (lv_at hl 0 rfl) ?_
        refine xget (ref := "FriezeFolk") (C := RX7) (T := TX7) (N := 9) (ci := 7) (v := .ref (tra 0)) hx hb hts inX7 hown hK hP 0 rfl rfl 1 (by decide) k2 rfl rfl dX7_ahead_24 ?_
        refine lv_aload_n hx hb dX7_ahead_27 rfl (lv_at hl 0 rfl) ?_
        refine xget (ref := "FriezeFolk") (C := RX7) (T := TX7) (N := 9) (ci := 7) (v := .ref (ha 0)) hx hb hts inX7 hown hK hP 0 rfl rfl 0 (by decide) k1 rfl rfl dX7_ahead_28 ?_
        obtain ⟨v5, q5, h9⟩ := obn h8
        clear h8
        refine xVv (As := [.ref (ha 0)]) (ci := 0) ⟨hx, hb, hml, hown, hts⟩ (k_X0_copy l D ca tra ha tr h _ q5) (cwV 1 hts gX7_ahead_X0_copy rfl rfl rfl (by decide +kernel) ⟨Nat.le_of_ble_eq_true rfl, Nat.le_of_ble_eq_true rfl⟩) hK hA hP hD hS dX7_ahead_31 rfl hl.1 [7, 8, 9, 10, 11, 12, 1, 2, 3, 4, 5, 6] [0] [0, 7, 8, 9, 10, 11, 12, 1, 2, 3, 4, 5, 6] rfl rfl (wr := ((cF ffa (ha 0) (tra 0) r2 r3 r4 r5 r6 r7 ff))) rfl rfl (by decide) (wn := ((cF ffa (ha 0) (tra 0) r2 r3 r4 r5 r6 r7 ff) ++ (cH ca ha h) ++ (cH ca tra v5))) rfl rfl rfl rfl rfl rfl (Nat.le_of_ble_eq_true rfl) (fun H locs hP hD hS => ?_)
        refine lv_aload_n hx hb dX7_ahead_34 rfl (lv_at hl 0 rfl) ?_
        refine xget (ref := "FriezeFolk") (C := RX7) (T := TX7) (N := 9) (ci := 7) (v := .ref (tra 0)) hx hb hts inX7 hown hK hP 0 rfl rfl 1 (by decide) k2 rfl rfl dX7_ahead_35 ?_
        refine lv_iload_n hx hb dX7_ahead_38 rfl (lv_at hl 2 rfl) ?_
        obtain ⟨v6, q6, h10⟩ := obn h9
        clear h9
        refine xVv (As := [.int n]) (ci := 0) ⟨hx, hb, hml, hown, hts⟩ (k_X0_pass l D ca tra v5 n _ q6) (cwV 1 hts gX7_ahead_X0_pass rfl rfl rfl (by decide +kernel) ⟨Nat.le_of_ble_eq_true rfl, Nat.le_of_ble_eq_true rfl⟩) hK hA hP hD hS dX7_ahead_39 rfl hl.1 [7, 8, 9, 10, 11, 12] [0, 1, 2, 3, 4, 5, 6] [0, 1, 2, 3, 4, 5, 6, 7, 8, 9, 10, 11, 12] rfl rfl (wr := ((cF ffa (ha 0) (tra 0) r2 r3 r4 r5 r6 r7 ff) ++ (cH ca ha h))) rfl rfl (by decide) (wn := ((cF ffa (ha 0) (tra 0) r2 r3 r4 r5 r6 r7 ff) ++ (cH ca ha h) ++ (cH ca tra v6))) rfl rfl rfl rfl rfl rfl (Nat.le_of_ble_eq_true rfl) (fun H locs hP hD hS => ?_)
        refine lv_aload_n hx hb dX7_ahead_42 rfl (lv_at hl 0 rfl) ?_
        refine xget (ref := "FriezeFolk") (C := RX7) (T := TX7) (N := 9) (ci := 7) (v := .ref (tra 0)) hx hb hts inX7 hown hK hP 0 rfl rfl 1 (by decide) k2 rfl rfl dX7_ahead_43 ?_
        refine lv_iload_n hx hb dX7_ahead_46 rfl (lv_at hl 1 rfl) ?_
        obtain ⟨v7, q7, h11⟩ := obn h10
        clear h10
        refine xVi (As := [.int i]) (ci := 0) ⟨hx, hb, hml, hown, hts⟩ (k_X0_frankAt l D ca tra v6 i _ q7) (cwV 1 hts gX7_ahead_X0_frankAt rfl rfl rfl (by decide +kernel) ⟨Nat.le_of_ble_eq_true rfl, Nat.le_of_ble_eq_true rfl⟩) hK hA hP hD hS dX7_ahead_47 rfl hl.1 [7, 8, 9, 10, 11, 12] [0, 1, 2, 3, 4, 5, 6] [0, 1, 2, 3, 4, 5, 6, 7, 8, 9, 10, 11, 12] rfl rfl (wr := ((cF ffa (ha 0) (tra 0) r2 r3 r4 r5 r6 r7 ff) ++ (cH ca ha h))) rfl rfl (by decide) (wn := ((cF ffa (ha 0) (tra 0) r2 r3 r4 r5 r6 r7 ff) ++ (cH ca ha h) ++ (cH ca tra v6))) rfl rfl rfl rfl rfl rfl (Nat.le_of_ble_eq_true rfl) (fun H locs hP hD hS => ?_)
        obtain rfl := Option.some.inj h11
        exact hret _ _ _ _ (vp_nar_int _) hP hD hS dX7_ahead_50
      · skip
        replace h8 := (if_neg c4).symm.trans h8
        refine lv_iconst (v := (-1 : Int32)) hx hb dX7_ahead_21 (by decide) ?_
        obtain rfl := Option.some.inj h8
        exact hret _ _ _ _ (vp_nar_int _) hP hD hS dX7_ahead_22
def mX7_fades_l26 (i : Int32) (s9 : Int32 × GS) : Option ((Int32 × GS) ⊕ ((Int32 × GS) ⊕ (Int32 × GS))) :=
  if (60 : Int32) < s9.1 then
    some (.inr (.inl (s9.1, s9.2)))
  else
    Option.bind (mX0_frankAt s9.2 i) fun v11 =>
    if v11 = 0 then
      some (.inr (.inr (s9.1, s9.2)))
    else
      Option.bind (mX0_pass s9.2 (1 : Int32)) fun v13 =>
      some (.inl ((s9.1 + (1 : Int32)), v13))

def mX7_fades (h : GS) (tr : GS) (i : Int32) : Option (Int32 × GS) :=
  Option.bind (mX0_hasPlace h i) fun v1 =>
  if v1 = 0 then
    some ((-1 : Int32), tr)
  else
    Option.bind (mX0_copy tr h) fun v3 =>
    Option.bind (whO (mX7_fades_l26 i) FU ((0 : Int32), v3)) fun e14 => esc e14 fun t15 =>
    some ((-4 : Int32), t15.2)
abbrev rmX7_fades : Room := { frames := 3, cells := 0, slots := 0, locals := 81 }
set_option maxHeartbeats 4000000 in
set_option maxRecDepth 100000 in
theorem k_X7_fades (l : Launch) (D : va_G) (ca : Nat → ClassId) (ffa : Nat) (r2 r3 r4 r5 r6 r7 : Nat) (ha : Nat → Nat) (tra : Nat → Nat) (ff : Int32) (h : GS) (tr : GS) (i : Int32) (o : Int32 × GS) (hm : mX7_fades h tr i = some o) : KI l yX7_fades wsX7_fades rmX7_fades D ca [.ref ffa, .int i] ((cF ffa (ha 0) (tra 0) r2 r3 r4 r5 r6 r7 ff) ++ (cH ca ha h) ++ (cH ca tra tr)) ((cF ffa (ha 0) (tra 0) r2 r3 r4 r5 r6 r7 ff) ++ (cH ca ha h) ++ (cH ca tra o.2)) o.1 := by
  refine KI.of (cc := cX7_fades) (n := 3) (plainFor_of_name (by decide)) rfl (Nat.le_of_ble_eq_true rfl) ?_
  intro p e s m below meth c A Z hx hb hml hts hown hA hK hP hD hS hret ls hl
  have hown : s.vm.findClass RX7 = some m.cls := hown
  have hl : lv_has ls 3 [(0, .ref ffa), (1, .int i)] := hl
  have inX7 : ∀ w ∈ wsX70, w ∈ wsX7_fades := by decide +kernel
  have k1 := hts (.fieldLink RX7 10 "FriezeFolk" "hall" "LFriezeFolk$Hall;") (by decide +kernel)
  have k2 := hts (.fieldLink RX7 16 "FriezeFolk" "trial" "LFriezeFolk$Hall;") (by decide +kernel)
  unfold mX7_fades at hm
  refine lv_aload_n hx hb dX7_fades_0 rfl (lv_at hl 0 rfl) ?_
  refine xget (ref := "FriezeFolk") (C := RX7) (T := TX7) (N := 9) (ci := 7) (v := .ref (ha 0)) hx hb hts inX7 hown hK hP 0 rfl rfl 0 (by decide) k1 rfl rfl dX7_fades_1 ?_
  refine lv_iload_n hx hb dX7_fades_4 rfl (lv_at hl 1 rfl) ?_
  obtain ⟨v1, q1, h16⟩ := obn hm
  clear hm
  refine xVi (As := [.int i]) (ci := 0) ⟨hx, hb, hml, hown, hts⟩ (k_X0_hasPlace l D ca ha h i _ q1) (cwV 1 hts gX7_fades_X0_hasPlace rfl rfl rfl (by decide +kernel) ⟨Nat.le_of_ble_eq_true rfl, Nat.le_of_ble_eq_true rfl⟩) hK hA hP hD hS dX7_fades_5 rfl hl.1 [1, 2, 3, 4, 5, 6] [0, 7, 8, 9, 10, 11, 12] [0, 7, 8, 9, 10, 11, 12, 1, 2, 3, 4, 5, 6] rfl rfl (wr := ((cF ffa (ha 0) (tra 0) r2 r3 r4 r5 r6 r7 ff) ++ (cH ca tra tr))) rfl rfl (by decide) (wn := ((cF ffa (ha 0) (tra 0) r2 r3 r4 r5 r6 r7 ff) ++ (cH ca ha h) ++ (cH ca tra tr))) rfl rfl rfl rfl rfl rfl (Nat.le_of_ble_eq_true rfl) (fun H locs hP hD hS => ?_)
  refine lv_if_ne (tgt := 13) hx hb dX7_fades_8 (by decide) (fun c2 => ?_) (fun c2 => ?_)
  · skip
    replace h16 := (if_neg c2).symm.trans h16
    refine lv_aload_n hx hb dX7_fades_13 rfl (lv_at hl 0 rfl) ?_
    refine xget (ref := "FriezeFolk") (C := RX7) (T := TX7) (N := 9) (ci := 7) (v := .ref (tra 0)) hx hb hts inX7 hown hK hP 0 rfl rfl 1 (by decide) k2 rfl rfl dX7_fades_14 ?_
    refine lv_aload_n hx hb dX7_fades_17 rfl (lv_at hl 0 rfl) ?_
    refine xget (ref := "FriezeFolk") (C := RX7) (T := TX7) (N := 9) (ci := 7) (v := .ref (ha 0)) hx hb hts inX7 hown hK hP 0 rfl rfl 0 (by decide) k1 rfl rfl dX7_fades_18 ?_
    obtain ⟨v3, q3, h17⟩ := obn h16
    clear h16
    refine xVv (As := [.ref (ha 0)]) (ci := 0) ⟨hx, hb, hml, hown, hts⟩ (k_X0_copy l D ca tra ha tr h _ q3) (cwV 1 hts gX7_fades_X0_copy rfl rfl rfl (by decide +kernel) ⟨Nat.le_of_ble_eq_true rfl, Nat.le_of_ble_eq_true rfl⟩) hK hA hP hD hS dX7_fades_21 rfl hl.1 [7, 8, 9, 10, 11, 12, 1, 2, 3, 4, 5, 6] [0] [0, 7, 8, 9, 10, 11, 12, 1, 2, 3, 4, 5, 6] rfl rfl (wr := ((cF ffa (ha 0) (tra 0) r2 r3 r4 r5 r6 r7 ff))) rfl rfl (by decide) (wn := ((cF ffa (ha 0) (tra 0) r2 r3 r4 r5 r6 r7 ff) ++ (cH ca ha h) ++ (cH ca tra v3))) rfl rfl rfl rfl rfl rfl (Nat.le_of_ble_eq_true rfl) (fun H locs hP hD hS => ?_)
    refine lv_iconst (v := (0 : Int32)) hx hb dX7_fades_24 (by decide) ?_
    refine lv_istore_n (lv' := [(2, .int (0 : Int32)), (0, .ref ffa), (1, .int i)]) hx hb dX7_fades_25 rfl hl (by decide) rfl (fun ls hl => ?_)
    obtain ⟨e14, w18, h19⟩ := obn h17
    clear h17
    have AF14 : ∀ t15, e14 = .inl t15 → ∀ (ls : Array Slot) (H : Heap) (locs : List Loc), lv_has ls 3 [] → va_P D vwCl ((cF ffa (ha 0) (tra 0) r2 r3 r4 r5 r6 r7 ff) ++ (cH ca ha h) ++ (cH ca tra t15.2)) H → va_D A ((cF ffa (ha 0) (tra 0) r2 r3 r4 r5 r6 r7 ff) ++ (cH ca ha h) ++ (cH ca tra t15.2)) → va_S A s.heap H locs → W p l e rmX7_fades s m ([.ref ffa, .int i] : List Value).toArray below meth c H locs 0 0 Z (F0 m 59 ls []) := by
      intro t15 ht ls H locs hl hP hD hS
      subst ht
      replace h19 := (esc_l _ _).symm.trans h19
      refine lv_bipush (v := (-4 : Int32)) hx hb dX7_fades_59 (by decide) ?_
      obtain rfl := Option.some.inj h19
      exact hret _ _ _ _ (vp_nar_int _) hP hD hS dX7_fades_61
    refine whO_walk (I := fun s9 => ∀ (ls : Array Slot) (H : Heap) (locs : List Loc), lv_has ls 3 [(0, .ref ffa), (1, .int i), (2, .int s9.1)] → va_P D vwCl ((cF ffa (ha 0) (tra 0) r2 r3 r4 r5 r6 r7 ff) ++ (cH ca ha h) ++ (cH ca tra s9.2)) H → va_D A ((cF ffa (ha 0) (tra 0) r2 r3 r4 r5 r6 r7 ff) ++ (cH ca ha h) ++ (cH ca tra s9.2)) → va_S A s.heap H locs → W p l e rmX7_fades s m ([.ref ffa, .int i] : List Value).toArray below meth c H locs 0 0 Z (F0 m 26 ls [])) ?_ _ _ w18 _ _ _ (lv_sub hl [1, 2, 0] rfl) hP hD hS
    clear w18
    intro s9 o14 h20 hi14 ho14 ls H locs hl hP hD hS
    unfold mX7_fades_l26 at h20
    refine lv_iload_n hx hb dX7_fades_26 rfl (lv_at hl 2 rfl) ?_
    refine lv_bipush (v := (60 : Int32)) hx hb dX7_fades_27 (by decide) ?_
    refine lv_icmp_gt (tgt := 59) hx hb dX7_fades_29 (by decide) (fun c10 => ?_) (fun c10 => ?_)
    · skip
      replace h20 := (if_pos c10).symm.trans h20
      have h21 := ho14 _ (Option.some.inj h20).symm
      subst h21
      exact AF14 _ rfl _ _ _ (lv_sub hl [] rfl) hP hD hS
    · skip
      replace h20 := (if_neg c10).symm.trans h20
      refine lv_aload_n hx hb dX7_fades_32 rfl (lv_at hl 0 rfl) ?_
      refine xget (ref := "FriezeFolk") (C := RX7) (T := TX7) (N := 9) (ci := 7) (v := .ref (tra 0)) hx hb hts inX7 hown hK hP 0 rfl rfl 1 (by decide) k2 rfl rfl dX7_fades_33 ?_
      refine lv_iload_n hx hb dX7_fades_36 rfl (lv_at hl 1 rfl) ?_
      obtain ⟨v11, q11, h22⟩ := obn h20
      clear h20
      refine xVi (As := [.int i]) (ci := 0) ⟨hx, hb, hml, hown, hts⟩ (k_X0_frankAt l D ca tra s9.2 i _ q11) (cwV 1 hts gX7_fades_X0_frankAt rfl rfl rfl (by decide +kernel) ⟨Nat.le_of_ble_eq_true rfl, Nat.le_of_ble_eq_true rfl⟩) hK hA hP hD hS dX7_fades_37 rfl hl.1 [7, 8, 9, 10, 11, 12] [0, 1, 2, 3, 4, 5, 6] [0, 1, 2, 3, 4, 5, 6, 7, 8, 9, 10, 11, 12] rfl rfl (wr := ((cF ffa (ha 0) (tra 0) r2 r3 r4 r5 r6 r7 ff) ++ (cH ca ha h))) rfl rfl (by decide) (wn := ((cF ffa (ha 0) (tra 0) r2 r3 r4 r5 r6 r7 ff) ++ (cH ca ha h) ++ (cH ca tra s9.2))) rfl rfl rfl rfl rfl rfl (Nat.le_of_ble_eq_true rfl) (fun H locs hP hD hS => ?_)
      refine lv_if_ne (tgt := 45) hx hb dX7_fades_40 (by decide) (fun c12 => ?_) (fun c12 => ?_)
      · skip
        replace h22 := (if_neg c12).symm.trans h22
        refine lv_aload_n hx hb dX7_fades_45 rfl (lv_at hl 0 rfl) ?_
        refine xget (ref := "FriezeFolk") (C := RX7) (T := TX7) (N := 9) (ci := 7) (v := .ref (tra 0)) hx hb hts inX7 hown hK hP 0 rfl rfl 1 (by decide) k2 rfl rfl dX7_fades_46 ?_
        refine lv_iconst (v := (1 : Int32)) hx hb dX7_fades_49 (by decide) ?_
        obtain ⟨v13, q13, h23⟩ := obn h22
        clear h22
        refine xVv (As := [.int (1 : Int32)]) (ci := 0) ⟨hx, hb, hml, hown, hts⟩ (k_X0_pass l D ca tra s9.2 (1 : Int32) _ q13) (cwV 1 hts gX7_fades_X0_pass rfl rfl rfl (by decide +kernel) ⟨Nat.le_of_ble_eq_true rfl, Nat.le_of_ble_eq_true rfl⟩) hK hA hP hD hS dX7_fades_50 rfl hl.1 [7, 8, 9, 10, 11, 12] [0, 1, 2, 3, 4, 5, 6] [0, 1, 2, 3, 4, 5, 6, 7, 8, 9, 10, 11, 12] rfl rfl (wr := ((cF ffa (ha 0) (tra 0) r2 r3 r4 r5 r6 r7 ff) ++ (cH ca ha h))) rfl rfl (by decide) (wn := ((cF ffa (ha 0) (tra 0) r2 r3 r4 r5 r6 r7 ff) ++ (cH ca ha h) ++ (cH ca tra v13))) rfl rfl rfl rfl rfl rfl (Nat.le_of_ble_eq_true rfl) (fun H locs hP hD hS => ?_)
        refine lv_iinc (v := (s9.1 + (1 : Int32))) (lv' := [(2, .int (s9.1 + (1 : Int32))), (0, .ref ffa), (1, .int i)]) hx hb dX7_fades_53 hl (k := 2) rfl rfl (by decide) rfl (fun ls hl => ?_)
        refine lv_goto (tgt := 26) hx hb dX7_fades_56 (by decide) ?_
        exact hi14 _ (Option.some.inj h23).symm _ _ _ (lv_sub hl [1, 2, 0] rfl) hP hD hS
      · skip
        replace h22 := (if_pos c12).symm.trans h22
        refine lv_iload_n hx hb dX7_fades_43 rfl (lv_at hl 2 rfl) ?_
        have h24 := ho14 _ (Option.some.inj h22).symm
        subst h24
        replace h19 := (esc_r _ _).symm.trans h19
        obtain rfl := Option.some.inj h19
        exact hret _ _ _ _ (vp_nar_int _) hP hD hS dX7_fades_44
  · skip
    replace h16 := (if_pos c2).symm.trans h16
    refine lv_iconst (v := (-1 : Int32)) hx hb dX7_fades_11 (by decide) ?_
    obtain rfl := Option.some.inj h16
    exact hret _ _ _ _ (vp_nar_int _) hP hD hS dX7_fades_12
def mX7_hang_l27 (s9 : Int32 × Int32 × Int32 × GS) : Option ((Int32 × Int32 × Int32 × GS) ⊕ (Int32 × Int32 × Int32 × GS)) :=
  if (6 : Int32) ≤ s9.2.2.1 then
    some (.inr (s9.1, s9.2.1, s9.2.2.1, s9.2.2.2))
  else
    Option.bind (mX0_frankOfAll (sI s9.2.2.2 7 s9.2.2.1)) fun v11 =>
    Option.bind (
      if v11 ≤ s9.2.1 then
        some (s9.1, s9.2.1)
      else
        some (s9.2.2.1, v11)) fun (v13 : Int32 × Int32) =>
    some (.inl (v13.1, v13.2, (s9.2.2.1 + (1 : Int32)), (sI s9.2.2.2 7 s9.2.2.1)))

def mX7_hang (h : GS) (tr : GS) (w : Int32) : Option (Int32 × GS) :=
  Option.bind (mX7_isNoPair w) fun v1 =>
  if v1 = 0 then
    Option.bind (mX0_copy tr h) fun v3 =>
    Option.bind (whO (mX7_hang_l27) FU ((0 : Int32), (-1 : Int32), (0 : Int32), v3)) fun e14 =>
    if w = 0 then
      some (e14.1, e14.2.2.2)
    else
      some (e14.2.1, e14.2.2.2)
  else
    some ((-1 : Int32), tr)
abbrev rmX7_hang : Room := { frames := 5, cells := 0, slots := 0, locals := 111 }
set_option maxHeartbeats 4000000 in
set_option maxRecDepth 100000 in
theorem k_X7_hang (l : Launch) (D : va_G) (ca : Nat → ClassId) (ffa : Nat) (r2 r3 r4 r5 r6 r7 : Nat) (ha : Nat → Nat) (tra : Nat → Nat) (ff : Int32) (h : GS) (tr : GS) (w : Int32) (o : Int32 × GS) (hm : mX7_hang h tr w = some o) : KI l yX7_hang wsX7_hang rmX7_hang D ca [.ref ffa, .int w] ((cF ffa (ha 0) (tra 0) r2 r3 r4 r5 r6 r7 ff) ++ (cH ca ha h) ++ (cH ca tra tr)) ((cF ffa (ha 0) (tra 0) r2 r3 r4 r5 r6 r7 ff) ++ (cH ca ha h) ++ (cH ca tra o.2)) o.1 := by
  refine KI.of (cc := cX7_hang) (n := 6) (plainFor_of_name (by decide)) rfl (Nat.le_of_ble_eq_true rfl) ?_
  intro p e s m below meth c A Z hx hb hml hts hown hA hK hP hD hS hret ls hl
  have hown : s.vm.findClass RX7 = some m.cls := hown
  have hl : lv_has ls 6 [(0, .ref ffa), (1, .int w)] := hl
  have inX0 : ∀ w ∈ wsX00, w ∈ wsX7_hang := by decide +kernel
  have inX7 : ∀ w ∈ wsX70, w ∈ wsX7_hang := by decide +kernel
  have k1 := hts (.fieldLink RX7 16 "FriezeFolk" "trial" "LFriezeFolk$Hall;") (by decide +kernel)
  have k2 := hts (.fieldLink RX7 10 "FriezeFolk" "hall" "LFriezeFolk$Hall;") (by decide +kernel)
  have k3 := hts (.fieldLink RX7 99 "FriezeFolk$Hall" "shift" "I") (by decide +kernel)
  unfold mX7_hang at hm
  refine lv_iload_n hx hb dX7_hang_0 rfl (lv_at hl 1 rfl) ?_
  obtain ⟨v1, q1, h16⟩ := obn hm
  clear hm
  refine xSi (As := [.int w]) ⟨hx, hb, hml, hown, hts⟩ (k_X7_isNoPair l D ca  w _ q1) (va_cwS 1 hts gX7_hang_X7_isNoPair rfl rfl rfl (by decide +kernel) ⟨Nat.le_of_ble_eq_true rfl, Nat.le_of_ble_eq_true rfl⟩) hK hA hP hD hS dX7_hang_1 rfl hl.1 [] [0, 1, 2, 3, 4, 5, 6, 7, 8, 9, 10, 11, 12] [0, 1, 2, 3, 4, 5, 6, 7, 8, 9, 10, 11, 12] rfl rfl (wr := ((cF ffa (ha 0) (tra 0) r2 r3 r4 r5 r6 r7 ff) ++ (cH ca ha h) ++ (cH ca tra tr))) rfl rfl (by decide) (wn := ((cF ffa (ha 0) (tra 0) r2 r3 r4 r5 r6 r7 ff) ++ (cH ca ha h) ++ (cH ca tra tr))) rfl rfl rfl (Nat.le_of_ble_eq_true rfl) (fun H locs hP hD hS => ?_)
  refine lv_if_eq (tgt := 9) hx hb dX7_hang_4 (by decide) (fun c2 => ?_) (fun c2 => ?_)
  · skip
    replace h16 := (if_pos c2).symm.trans h16
    refine lv_aload_n hx hb dX7_hang_9 rfl (lv_at hl 0 rfl) ?_
    refine xget (ref := "FriezeFolk") (C := RX7) (T := TX7) (N := 9) (ci := 7) (v := .ref (tra 0)) hx hb hts inX7 hown hK hP 0 rfl rfl 1 (by decide) k1 rfl rfl dX7_hang_10 ?_
    refine lv_aload_n hx hb dX7_hang_13 rfl (lv_at hl 0 rfl) ?_
    refine xget (ref := "FriezeFolk") (C := RX7) (T := TX7) (N := 9) (ci := 7) (v := .ref (ha 0)) hx hb hts inX7 hown hK hP 0 rfl rfl 0 (by decide) k2 rfl rfl dX7_hang_14 ?_
    obtain ⟨v3, q3, h17⟩ := obn h16
    clear h16
    refine xVv (As := [.ref (ha 0)]) (ci := 0) ⟨hx, hb, hml, hown, hts⟩ (k_X0_copy l D ca tra ha tr h _ q3) (cwV 1 hts gX7_hang_X0_copy rfl rfl rfl (by decide +kernel) ⟨Nat.le_of_ble_eq_true rfl, Nat.le_of_ble_eq_true rfl⟩) hK hA hP hD hS dX7_hang_17 rfl hl.1 [7, 8, 9, 10, 11, 12, 1, 2, 3, 4, 5, 6] [0] [0, 7, 8, 9, 10, 11, 12, 1, 2, 3, 4, 5, 6] rfl rfl (wr := ((cF ffa (ha 0) (tra 0) r2 r3 r4 r5 r6 r7 ff))) rfl rfl (by decide) (wn := ((cF ffa (ha 0) (tra 0) r2 r3 r4 r5 r6 r7 ff) ++ (cH ca ha h) ++ (cH ca tra v3))) rfl rfl rfl rfl rfl rfl (Nat.le_of_ble_eq_true rfl) (fun H locs hP hD hS => ?_)
    refine lv_iconst (v := (0 : Int32)) hx hb dX7_hang_20 (by decide) ?_
    refine lv_istore_n (lv' := [(2, .int (0 : Int32)), (0, .ref ffa), (1, .int w)]) hx hb dX7_hang_21 rfl hl (by decide) rfl (fun ls hl => ?_)
    refine lv_iconst (v := (-1 : Int32)) hx hb dX7_hang_22 (by decide) ?_
    refine lv_istore_n (lv' := [(3, .int (-1 : Int32)), (2, .int (0 : Int32)), (0, .ref ffa), (1, .int w)]) hx hb dX7_hang_23 rfl hl (by decide) rfl (fun ls hl => ?_)
    refine lv_iconst (v := (0 : Int32)) hx hb dX7_hang_24 (by decide) ?_
    refine lv_istore (lv' := [(4, .int (0 : Int32)), (3, .int (-1 : Int32)), (2, .int (0 : Int32)), (0, .ref ffa), (1, .int w)]) hx hb dX7_hang_25 hl (by decide) rfl (fun ls hl => ?_)
    obtain ⟨e14, w18, h19⟩ := obn h17
    clear h17
    have AF14 : ∀ (ls : Array Slot) (H : Heap) (locs : List Loc), lv_has ls 6 [(1, .int w), (2, .int e14.1), (3, .int e14.2.1)] → va_P D vwCl ((cF ffa (ha 0) (tra 0) r2 r3 r4 r5 r6 r7 ff) ++ (cH ca ha h) ++ (cH ca tra e14.2.2.2)) H → va_D A ((cF ffa (ha 0) (tra 0) r2 r3 r4 r5 r6 r7 ff) ++ (cH ca ha h) ++ (cH ca tra e14.2.2.2)) → va_S A s.heap H locs → W p l e rmX7_hang s m ([.ref ffa, .int w] : List Value).toArray below meth c H locs 0 0 Z (F0 m 70 ls []) := by
      intro ls H locs hl hP hD hS
      refine lv_iload_n hx hb dX7_hang_70 rfl (lv_at hl 0 rfl) ?_
      refine lv_if_ne (tgt := 78) hx hb dX7_hang_71 (by decide) (fun c15 => ?_) (fun c15 => ?_)
      · skip
        replace h19 := (if_neg c15).symm.trans h19
        refine lv_iload_n hx hb dX7_hang_78 rfl (lv_at hl 2 rfl) ?_
        obtain rfl := Option.some.inj h19
        exact hret _ _ _ _ (vp_nar_int _) hP hD hS dX7_hang_79
      · skip
        replace h19 := (if_pos c15).symm.trans h19
        refine lv_iload_n hx hb dX7_hang_74 rfl (lv_at hl 1 rfl) ?_
        refine lv_goto (tgt := 79) hx hb dX7_hang_75 (by decide) ?_
        obtain rfl := Option.some.inj h19
        exact hret _ _ _ _ (vp_nar_int _) hP hD hS dX7_hang_79
    refine whO_walk (I := fun s9 => ∀ (ls : Array Slot) (H : Heap) (locs : List Loc), lv_has ls 6 [(0, .ref ffa), (1, .int w), (2, .int s9.1), (3, .int s9.2.1), (4, .int s9.2.2.1)] → va_P D vwCl ((cF ffa (ha 0) (tra 0) r2 r3 r4 r5 r6 r7 ff) ++ (cH ca ha h) ++ (cH ca tra s9.2.2.2)) H → va_D A ((cF ffa (ha 0) (tra 0) r2 r3 r4 r5 r6 r7 ff) ++ (cH ca ha h) ++ (cH ca tra s9.2.2.2)) → va_S A s.heap H locs → W p l e rmX7_hang s m ([.ref ffa, .int w] : List Value).toArray below meth c H locs 0 0 Z (F0 m 27 ls [])) ?_ _ _ w18 _ _ _ (lv_sub hl [3, 4, 2, 1, 0] rfl) hP hD hS
    clear w18
    intro s9 o14 h20 hi14 ho14 ls H locs hl hP hD hS
    unfold mX7_hang_l27 at h20
    refine lv_iload hx hb dX7_hang_27 (lv_at hl 4 rfl) ?_
    refine lv_bipush (v := (6 : Int32)) hx hb dX7_hang_29 (by decide) ?_
    refine lv_icmp_ge (tgt := 70) hx hb dX7_hang_31 (by decide) (fun c10 => ?_) (fun c10 => ?_)
    · skip
      replace h20 := (if_pos c10).symm.trans h20
      have h21 := ho14 _ (Option.some.inj h20).symm
      subst h21
      exact AF14 _ _ _ (lv_sub hl [1, 2, 3] rfl) hP hD hS
    · skip
      replace h20 := (if_neg c10).symm.trans h20
      refine lv_aload_n hx hb dX7_hang_34 rfl (lv_at hl 0 rfl) ?_
      refine xget (ref := "FriezeFolk") (C := RX7) (T := TX7) (N := 9) (ci := 7) (v := .ref (tra 0)) hx hb hts inX7 hown hK hP 0 rfl rfl 1 (by decide) k1 rfl rfl dX7_hang_35 ?_
      refine lv_iload hx hb dX7_hang_38 (lv_at hl 4 rfl) ?_
      refine xput (ref := "FriezeFolk$Hall") (C := RX0) (T := TX0) (N := 13) (ci := 0) (v := .int s9.2.2.1) (ty := .int) hx hb hts inX0 tyX0 tyX0_ok nmX0 hown hK hP hD hS 7 rfl rfl 7 (by decide) k3 rfl rfl (by decide +kernel) rfl rfl (Nat.le_of_ble_eq_true rfl) dX7_hang_40 (wn := ((cF ffa (ha 0) (tra 0) r2 r3 r4 r5 r6 r7 ff) ++ (cH ca ha h) ++ (cH ca tra (sI s9.2.2.2 7 s9.2.2.1)))) rfl (fun H locs hP hD hS => ?_)
      refine lv_aload_n hx hb dX7_hang_43 rfl (lv_at hl 0 rfl) ?_
      refine xget (ref := "FriezeFolk") (C := RX7) (T := TX7) (N := 9) (ci := 7) (v := .ref (tra 0)) hx hb hts inX7 hown hK hP 0 rfl rfl 1 (by decide) k1 rfl rfl dX7_hang_44 ?_
      obtain ⟨v11, q11, h22⟩ := obn h20
      clear h20
      refine xVi (As := []) (ci := 0) ⟨hx, hb, hml, hown, hts⟩ (k_X0_frankOfAll l D ca tra (sI s9.2.2.2 7 s9.2.2.1) _ q11) (cwV 0 hts gX7_hang_X0_frankOfAll rfl rfl rfl (by decide +kernel) ⟨Nat.le_of_ble_eq_true rfl, Nat.le_of_ble_eq_true rfl⟩) hK hA hP hD hS dX7_hang_47 rfl hl.1 [7, 8, 9, 10, 11, 12] [0, 1, 2, 3, 4, 5, 6] [0, 1, 2, 3, 4, 5, 6, 7, 8, 9, 10, 11, 12] rfl rfl (wr := ((cF ffa (ha 0) (tra 0) r2 r3 r4 r5 r6 r7 ff) ++ (cH ca ha h))) rfl rfl (by decide) (wn := ((cF ffa (ha 0) (tra 0) r2 r3 r4 r5 r6 r7 ff) ++ (cH ca ha h) ++ (cH ca tra (sI s9.2.2.2 7 s9.2.2.1)))) rfl rfl rfl rfl rfl rfl (Nat.le_of_ble_eq_true rfl) (fun H locs hP hD hS => ?_)
      refine lv_istore (lv' := [(5, .int v11), (0, .ref ffa), (1, .int w), (2, .int s9.1), (3, .int s9.2.1), (4, .int s9.2.2.1)]) hx hb dX7_hang_50 hl (by decide) rfl (fun ls hl => ?_)
      refine lv_iload hx hb dX7_hang_52 (lv_at hl 0 rfl) ?_
      refine lv_iload_n hx hb dX7_hang_54 rfl (lv_at hl 4 rfl) ?_
      obtain ⟨v13, q23, h24⟩ := obn h22
      clear h22
      have J13 : ∀ (ls : Array Slot) (H : Heap) (locs : List Loc), lv_has ls 6 [(0, .ref ffa), (1, .int w), (2, .int v13.1), (3, .int v13.2), (4, .int s9.2.2.1)] → va_P D vwCl ((cF ffa (ha 0) (tra 0) r2 r3 r4 r5 r6 r7 ff) ++ (cH ca ha h) ++ (cH ca tra (sI s9.2.2.2 7 s9.2.2.1))) H → va_D A ((cF ffa (ha 0) (tra 0) r2 r3 r4 r5 r6 r7 ff) ++ (cH ca ha h) ++ (cH ca tra (sI s9.2.2.2 7 s9.2.2.1))) → va_S A s.heap H locs → W p l e rmX7_hang s m ([.ref ffa, .int w] : List Value).toArray below meth c H locs 0 0 Z (F0 m 64 ls []) := by
        intro ls H locs hl hP hD hS
        refine lv_iinc (v := (s9.2.2.1 + (1 : Int32))) (lv' := [(4, .int (s9.2.2.1 + (1 : Int32))), (0, .ref ffa), (1, .int w), (2, .int v13.1), (3, .int v13.2)]) hx hb dX7_hang_64 hl (k := 4) rfl rfl (by decide) rfl (fun ls hl => ?_)
        refine lv_goto (tgt := 27) hx hb dX7_hang_67 (by decide) ?_
        exact hi14 _ (Option.some.inj h24).symm _ _ _ (lv_sub hl [1, 2, 3, 4, 0] rfl) hP hD hS
      refine lv_icmp_le (tgt := 64) hx hb dX7_hang_55 (by decide) (fun c12 => ?_) (fun c12 => ?_)
      · skip
        replace q23 := (if_pos c12).symm.trans q23
        obtain rfl := Option.some.inj q23
        exact J13 _ _ _ (lv_sub hl [1, 2, 3, 4, 5] rfl) hP hD hS
      · skip
        replace q23 := (if_neg c12).symm.trans q23
        refine lv_iload hx hb dX7_hang_58 (lv_at hl 5 rfl) ?_
        refine lv_istore_n (lv' := [(2, .int s9.2.2.1), (5, .int v11), (0, .ref ffa), (1, .int w), (3, .int s9.2.1), (4, .int s9.2.2.1)]) hx hb dX7_hang_60 rfl hl (by decide) rfl (fun ls hl => ?_)
        refine lv_iload hx hb dX7_hang_61 (lv_at hl 1 rfl) ?_
        refine lv_istore_n (lv' := [(3, .int v11), (2, .int s9.2.2.1), (5, .int v11), (0, .ref ffa), (1, .int w), (4, .int s9.2.2.1)]) hx hb dX7_hang_63 rfl hl (by decide) rfl (fun ls hl => ?_)
        obtain rfl := Option.some.inj q23
        exact J13 _ _ _ (lv_sub hl [3, 4, 1, 0, 5] rfl) hP hD hS
  · skip
    replace h16 := (if_neg c2).symm.trans h16
    refine lv_iconst (v := (-1 : Int32)) hx hb dX7_hang_7 (by decide) ?_
    obtain rfl := Option.some.inj h16
    exact hret _ _ _ _ (vp_nar_int _) hP hD hS dX7_hang_8
def mX7_shade_l27 (h : GS) (n : Int32) (s12 : Int32 × Int32 × Int32 × GS) : Option ((Int32 × Int32 × Int32 × GS) ⊕ (Int32 × Int32 × Int32 × GS)) :=
  if (12 : Int32) ≤ s12.2.2.1 then
    some (.inr (s12.1, s12.2.1, s12.2.2.1, s12.2.2.2))
  else
    Option.bind (mX0_copy s12.2.2.2 h) fun v14 =>
    Option.bind (mX0_pass (sI v14 8 s12.2.2.1) n) fun v15 =>
    Option.bind (mX0_frankOfAll v15) fun v16 =>
    Option.bind (
      if v16 ≤ s12.2.1 then
        some (s12.1, s12.2.1)
      else
        some (s12.2.2.1, v16)) fun (v18 : Int32 × Int32) =>
    some (.inl (v18.1, v18.2, (s12.2.2.1 + (1 : Int32)), v15))

def mX7_shade (h : GS) (tr : GS) (n : Int32) (w : Int32) : Option (Int32 × GS) :=
  if n < 0 then
    some ((-1 : Int32), tr)
  else
    if (60 : Int32) < n then
      some ((-1 : Int32), tr)
    else
      Option.bind (mX7_isNoPair w) fun v3 =>
      if v3 = 0 then
        Option.bind (whO (mX7_shade_l27 h n) FU ((0 : Int32), (-1 : Int32), (0 : Int32), tr)) fun e19 =>
        if w = 0 then
          some (e19.1, e19.2.2.2)
        else
          some (e19.2.1, e19.2.2.2)
      else
        some ((-1 : Int32), tr)
abbrev rmX7_shade : Room := { frames := 5, cells := 0, slots := 0, locals := 111 }
set_option maxHeartbeats 4000000 in
set_option maxRecDepth 100000 in
theorem k_X7_shade (l : Launch) (D : va_G) (ca : Nat → ClassId) (ffa : Nat) (r2 r3 r4 r5 r6 r7 : Nat) (ha : Nat → Nat) (tra : Nat → Nat) (ff : Int32) (h : GS) (tr : GS) (n : Int32) (w : Int32) (o : Int32 × GS) (hm : mX7_shade h tr n w = some o) : KI l yX7_shade wsX7_shade rmX7_shade D ca [.ref ffa, .int n, .int w] ((cF ffa (ha 0) (tra 0) r2 r3 r4 r5 r6 r7 ff) ++ (cH ca ha h) ++ (cH ca tra tr)) ((cF ffa (ha 0) (tra 0) r2 r3 r4 r5 r6 r7 ff) ++ (cH ca ha h) ++ (cH ca tra o.2)) o.1 := by
  refine KI.of (cc := cX7_shade) (n := 7) (plainFor_of_name (by decide)) rfl (Nat.le_of_ble_eq_true rfl) ?_
  intro p e s m below meth c A Z hx hb hml hts hown hA hK hP hD hS hret ls hl
  have hown : s.vm.findClass RX7 = some m.cls := hown
  have hl : lv_has ls 7 [(0, .ref ffa), (1, .int n), (2, .int w)] := hl
  have inX0 : ∀ w ∈ wsX00, w ∈ wsX7_shade := by decide +kernel
  have inX7 : ∀ w ∈ wsX70, w ∈ wsX7_shade := by decide +kernel
  have k1 := hts (.fieldLink RX7 16 "FriezeFolk" "trial" "LFriezeFolk$Hall;") (by decide +kernel)
  have k2 := hts (.fieldLink RX7 10 "FriezeFolk" "hall" "LFriezeFolk$Hall;") (by decide +kernel)
  have k3 := hts (.fieldLink RX7 102 "FriezeFolk$Hall" "window" "I") (by decide +kernel)
  unfold mX7_shade at hm
  refine lv_iload_n hx hb dX7_shade_0 rfl (lv_at hl 1 rfl) ?_
  refine lv_if_lt (tgt := 17) hx hb dX7_shade_1 (by decide) (fun c1 => ?_) (fun c1 => ?_)
  · skip
    replace hm := (if_pos c1).symm.trans hm
    refine lv_iconst (v := (-1 : Int32)) hx hb dX7_shade_17 (by decide) ?_
    obtain rfl := Option.some.inj hm
    exact hret _ _ _ _ (vp_nar_int _) hP hD hS dX7_shade_18
  · skip
    replace hm := (if_neg c1).symm.trans hm
    refine lv_iload_n hx hb dX7_shade_4 rfl (lv_at hl 1 rfl) ?_
    refine lv_bipush (v := (60 : Int32)) hx hb dX7_shade_5 (by decide) ?_
    refine lv_icmp_gt (tgt := 17) hx hb dX7_shade_7 (by decide) (fun c2 => ?_) (fun c2 => ?_)
    · skip
      replace hm := (if_pos c2).symm.trans hm
      refine lv_iconst (v := (-1 : Int32)) hx hb dX7_shade_17 (by decide) ?_
      obtain rfl := Option.some.inj hm
      exact hret _ _ _ _ (vp_nar_int _) hP hD hS dX7_shade_18
    · skip
      replace hm := (if_neg c2).symm.trans hm
      refine lv_iload_n hx hb dX7_shade_10 rfl (lv_at hl 2 rfl) ?_
      obtain ⟨v3, q3, h21⟩ := obn hm
      clear hm
      refine xSi (As := [.int w]) ⟨hx, hb, hml, hown, hts⟩ (k_X7_isNoPair l D ca  w _ q3) (va_cwS 1 hts gX7_shade_X7_isNoPair rfl rfl rfl (by decide +kernel) ⟨Nat.le_of_ble_eq_true rfl, Nat.le_of_ble_eq_true rfl⟩) hK hA hP hD hS dX7_shade_11 rfl hl.1 [] [0, 1, 2, 3, 4, 5, 6, 7, 8, 9, 10, 11, 12] [0, 1, 2, 3, 4, 5, 6, 7, 8, 9, 10, 11, 12] rfl rfl (wr := ((cF ffa (ha 0) (tra 0) r2 r3 r4 r5 r6 r7 ff) ++ (cH ca ha h) ++ (cH ca tra tr))) rfl rfl (by decide) (wn := ((cF ffa (ha 0) (tra 0) r2 r3 r4 r5 r6 r7 ff) ++ (cH ca ha h) ++ (cH ca tra tr))) rfl rfl rfl (Nat.le_of_ble_eq_true rfl) (fun H locs hP hD hS => ?_)
      refine lv_if_eq (tgt := 19) hx hb dX7_shade_14 (by decide) (fun c4 => ?_) (fun c4 => ?_)
      · skip
        replace h21 := (if_pos c4).symm.trans h21
        refine lv_iconst (v := (0 : Int32)) hx hb dX7_shade_19 (by decide) ?_
        refine lv_istore_n (lv' := [(3, .int (0 : Int32)), (0, .ref ffa), (1, .int n), (2, .int w)]) hx hb dX7_shade_20 rfl hl (by decide) rfl (fun ls hl => ?_)
        refine lv_iconst (v := (-1 : Int32)) hx hb dX7_shade_21 (by decide) ?_
        refine lv_istore (lv' := [(4, .int (-1 : Int32)), (3, .int (0 : Int32)), (0, .ref ffa), (1, .int n), (2, .int w)]) hx hb dX7_shade_22 hl (by decide) rfl (fun ls hl => ?_)
        refine lv_iconst (v := (0 : Int32)) hx hb dX7_shade_24 (by decide) ?_
        refine lv_istore (lv' := [(5, .int (0 : Int32)), (4, .int (-1 : Int32)), (3, .int (0 : Int32)), (0, .ref ffa), (1, .int n), (2, .int w)]) hx hb dX7_shade_25 hl (by decide) rfl (fun ls hl => ?_)
        obtain ⟨e19, w22, h23⟩ := obn h21
        clear h21
        have AF19 : ∀ (ls : Array Slot) (H : Heap) (locs : List Loc), lv_has ls 7 [(2, .int w), (3, .int e19.1), (4, .int e19.2.1)] → va_P D vwCl ((cF ffa (ha 0) (tra 0) r2 r3 r4 r5 r6 r7 ff) ++ (cH ca ha h) ++ (cH ca tra e19.2.2.2)) H → va_D A ((cF ffa (ha 0) (tra 0) r2 r3 r4 r5 r6 r7 ff) ++ (cH ca ha h) ++ (cH ca tra e19.2.2.2)) → va_S A s.heap H locs → W p l e rmX7_shade s m ([.ref ffa, .int n, .int w] : List Value).toArray below meth c H locs 0 0 Z (F0 m 91 ls []) := by
          intro ls H locs hl hP hD hS
          refine lv_iload_n hx hb dX7_shade_91 rfl (lv_at hl 0 rfl) ?_
          refine lv_if_ne (tgt := 99) hx hb dX7_shade_92 (by decide) (fun c20 => ?_) (fun c20 => ?_)
          · skip
            replace h23 := (if_neg c20).symm.trans h23
            refine lv_iload hx hb dX7_shade_99 (lv_at hl 2 rfl) ?_
            obtain rfl := Option.some.inj h23
            exact hret _ _ _ _ (vp_nar_int _) hP hD hS dX7_shade_101
          · skip
            replace h23 := (if_pos c20).symm.trans h23
            refine lv_iload_n hx hb dX7_shade_95 rfl (lv_at hl 1 rfl) ?_
            refine lv_goto (tgt := 101) hx hb dX7_shade_96 (by decide) ?_
            obtain rfl := Option.some.inj h23
            exact hret _ _ _ _ (vp_nar_int _) hP hD hS dX7_shade_101
        refine whO_walk (I := fun s12 => ∀ (ls : Array Slot) (H : Heap) (locs : List Loc), lv_has ls 7 [(0, .ref ffa), (1, .int n), (2, .int w), (3, .int s12.1), (4, .int s12.2.1), (5, .int s12.2.2.1)] → va_P D vwCl ((cF ffa (ha 0) (tra 0) r2 r3 r4 r5 r6 r7 ff) ++ (cH ca ha h) ++ (cH ca tra s12.2.2.2)) H → va_D A ((cF ffa (ha 0) (tra 0) r2 r3 r4 r5 r6 r7 ff) ++ (cH ca ha h) ++ (cH ca tra s12.2.2.2)) → va_S A s.heap H locs → W p l e rmX7_shade s m ([.ref ffa, .int n, .int w] : List Value).toArray below meth c H locs 0 0 Z (F0 m 27 ls [])) ?_ _ _ w22 _ _ _ (lv_sub hl [3, 4, 5, 2, 1, 0] rfl) hP hD hS
        clear w22
        intro s12 o19 h24 hi19 ho19 ls H locs hl hP hD hS
        unfold mX7_shade_l27 at h24
        refine lv_iload hx hb dX7_shade_27 (lv_at hl 5 rfl) ?_
        refine lv_bipush (v := (12 : Int32)) hx hb dX7_shade_29 (by decide) ?_
        refine lv_icmp_ge (tgt := 91) hx hb dX7_shade_31 (by decide) (fun c13 => ?_) (fun c13 => ?_)
        · skip
          replace h24 := (if_pos c13).symm.trans h24
          have h25 := ho19 _ (Option.some.inj h24).symm
          subst h25
          exact AF19 _ _ _ (lv_sub hl [2, 3, 4] rfl) hP hD hS
        · skip
          replace h24 := (if_neg c13).symm.trans h24
          refine lv_aload_n hx hb dX7_shade_34 rfl (lv_at hl 0 rfl) ?_
          refine xget (ref := "FriezeFolk") (C := RX7) (T := TX7) (N := 9) (ci := 7) (v := .ref (tra 0)) hx hb hts inX7 hown hK hP 0 rfl rfl 1 (by decide) k1 rfl rfl dX7_shade_35 ?_
          refine lv_aload_n hx hb dX7_shade_38 rfl (lv_at hl 0 rfl) ?_
          refine xget (ref := "FriezeFolk") (C := RX7) (T := TX7) (N := 9) (ci := 7) (v := .ref (ha 0)) hx hb hts inX7 hown hK hP 0 rfl rfl 0 (by decide) k2 rfl rfl dX7_shade_39 ?_
          obtain ⟨v14, q14, h26⟩ := obn h24
          clear h24
          refine xVv (As := [.ref (ha 0)]) (ci := 0) ⟨hx, hb, hml, hown, hts⟩ (k_X0_copy l D ca tra ha s12.2.2.2 h _ q14) (cwV 1 hts gX7_shade_X0_copy rfl rfl rfl (by decide +kernel) ⟨Nat.le_of_ble_eq_true rfl, Nat.le_of_ble_eq_true rfl⟩) hK hA hP hD hS dX7_shade_42 rfl hl.1 [7, 8, 9, 10, 11, 12, 1, 2, 3, 4, 5, 6] [0] [0, 7, 8, 9, 10, 11, 12, 1, 2, 3, 4, 5, 6] rfl rfl (wr := ((cF ffa (ha 0) (tra 0) r2 r3 r4 r5 r6 r7 ff))) rfl rfl (by decide) (wn := ((cF ffa (ha 0) (tra 0) r2 r3 r4 r5 r6 r7 ff) ++ (cH ca ha h) ++ (cH ca tra v14))) rfl rfl rfl rfl rfl rfl (Nat.le_of_ble_eq_true rfl) (fun H locs hP hD hS => ?_)
          refine lv_aload_n hx hb dX7_shade_45 rfl (lv_at hl 0 rfl) ?_
          refine xget (ref := "FriezeFolk") (C := RX7) (T := TX7) (N := 9) (ci := 7) (v := .ref (tra 0)) hx hb hts inX7 hown hK hP 0 rfl rfl 1 (by decide) k1 rfl rfl dX7_shade_46 ?_
          refine lv_iload hx hb dX7_shade_49 (lv_at hl 5 rfl) ?_
          refine xput (ref := "FriezeFolk$Hall") (C := RX0) (T := TX0) (N := 13) (ci := 0) (v := .int s12.2.2.1) (ty := .int) hx hb hts inX0 tyX0 tyX0_ok nmX0 hown hK hP hD hS 7 rfl rfl 8 (by decide) k3 rfl rfl (by decide +kernel) rfl rfl (Nat.le_of_ble_eq_true rfl) dX7_shade_51 (wn := ((cF ffa (ha 0) (tra 0) r2 r3 r4 r5 r6 r7 ff) ++ (cH ca ha h) ++ (cH ca tra (sI v14 8 s12.2.2.1)))) rfl (fun H locs hP hD hS => ?_)
          refine lv_aload_n hx hb dX7_shade_54 rfl (lv_at hl 0 rfl) ?_
          refine xget (ref := "FriezeFolk") (C := RX7) (T := TX7) (N := 9) (ci := 7) (v := .ref (tra 0)) hx hb hts inX7 hown hK hP 0 rfl rfl 1 (by decide) k1 rfl rfl dX7_shade_55 ?_
          refine lv_iload_n hx hb dX7_shade_58 rfl (lv_at hl 1 rfl) ?_
          obtain ⟨v15, q15, h27⟩ := obn h26
          clear h26
          refine xVv (As := [.int n]) (ci := 0) ⟨hx, hb, hml, hown, hts⟩ (k_X0_pass l D ca tra (sI v14 8 s12.2.2.1) n _ q15) (cwV 1 hts gX7_shade_X0_pass rfl rfl rfl (by decide +kernel) ⟨Nat.le_of_ble_eq_true rfl, Nat.le_of_ble_eq_true rfl⟩) hK hA hP hD hS dX7_shade_59 rfl hl.1 [7, 8, 9, 10, 11, 12] [0, 1, 2, 3, 4, 5, 6] [0, 1, 2, 3, 4, 5, 6, 7, 8, 9, 10, 11, 12] rfl rfl (wr := ((cF ffa (ha 0) (tra 0) r2 r3 r4 r5 r6 r7 ff) ++ (cH ca ha h))) rfl rfl (by decide) (wn := ((cF ffa (ha 0) (tra 0) r2 r3 r4 r5 r6 r7 ff) ++ (cH ca ha h) ++ (cH ca tra v15))) rfl rfl rfl rfl rfl rfl (Nat.le_of_ble_eq_true rfl) (fun H locs hP hD hS => ?_)
          refine lv_aload_n hx hb dX7_shade_62 rfl (lv_at hl 0 rfl) ?_
          refine xget (ref := "FriezeFolk") (C := RX7) (T := TX7) (N := 9) (ci := 7) (v := .ref (tra 0)) hx hb hts inX7 hown hK hP 0 rfl rfl 1 (by decide) k1 rfl rfl dX7_shade_63 ?_
          obtain ⟨v16, q16, h28⟩ := obn h27
          clear h27
          refine xVi (As := []) (ci := 0) ⟨hx, hb, hml, hown, hts⟩ (k_X0_frankOfAll l D ca tra v15 _ q16) (cwV 0 hts gX7_shade_X0_frankOfAll rfl rfl rfl (by decide +kernel) ⟨Nat.le_of_ble_eq_true rfl, Nat.le_of_ble_eq_true rfl⟩) hK hA hP hD hS dX7_shade_66 rfl hl.1 [7, 8, 9, 10, 11, 12] [0, 1, 2, 3, 4, 5, 6] [0, 1, 2, 3, 4, 5, 6, 7, 8, 9, 10, 11, 12] rfl rfl (wr := ((cF ffa (ha 0) (tra 0) r2 r3 r4 r5 r6 r7 ff) ++ (cH ca ha h))) rfl rfl (by decide) (wn := ((cF ffa (ha 0) (tra 0) r2 r3 r4 r5 r6 r7 ff) ++ (cH ca ha h) ++ (cH ca tra v15))) rfl rfl rfl rfl rfl rfl (Nat.le_of_ble_eq_true rfl) (fun H locs hP hD hS => ?_)
          refine lv_istore (lv' := [(6, .int v16), (0, .ref ffa), (1, .int n), (2, .int w), (3, .int s12.1), (4, .int s12.2.1), (5, .int s12.2.2.1)]) hx hb dX7_shade_69 hl (by decide) rfl (fun ls hl => ?_)
          refine lv_iload hx hb dX7_shade_71 (lv_at hl 0 rfl) ?_
          refine lv_iload hx hb dX7_shade_73 (lv_at hl 5 rfl) ?_
          obtain ⟨v18, q29, h30⟩ := obn h28
          clear h28
          have J18 : ∀ (ls : Array Slot) (H : Heap) (locs : List Loc), lv_has ls 7 [(0, .ref ffa), (1, .int n), (2, .int w), (3, .int v18.1), (4, .int v18.2), (5, .int s12.2.2.1)] → va_P D vwCl ((cF ffa (ha 0) (tra 0) r2 r3 r4 r5 r6 r7 ff) ++ (cH ca ha h) ++ (cH ca tra v15)) H → va_D A ((cF ffa (ha 0) (tra 0) r2 r3 r4 r5 r6 r7 ff) ++ (cH ca ha h) ++ (cH ca tra v15)) → va_S A s.heap H locs → W p l e rmX7_shade s m ([.ref ffa, .int n, .int w] : List Value).toArray below meth c H locs 0 0 Z (F0 m 85 ls []) := by
            intro ls H locs hl hP hD hS
            refine lv_iinc (v := (s12.2.2.1 + (1 : Int32))) (lv' := [(5, .int (s12.2.2.1 + (1 : Int32))), (0, .ref ffa), (1, .int n), (2, .int w), (3, .int v18.1), (4, .int v18.2)]) hx hb dX7_shade_85 hl (k := 5) rfl rfl (by decide) rfl (fun ls hl => ?_)
            refine lv_goto (tgt := 27) hx hb dX7_shade_88 (by decide) ?_
            exact hi19 _ (Option.some.inj h30).symm _ _ _ (lv_sub hl [1, 2, 3, 4, 5, 0] rfl) hP hD hS
          refine lv_icmp_le (tgt := 85) hx hb dX7_shade_75 (by decide) (fun c17 => ?_) (fun c17 => ?_)
          · skip
            replace q29 := (if_pos c17).symm.trans q29
            obtain rfl := Option.some.inj q29
            exact J18 _ _ _ (lv_sub hl [1, 2, 3, 4, 5, 6] rfl) hP hD hS
          · skip
            replace q29 := (if_neg c17).symm.trans q29
            refine lv_iload hx hb dX7_shade_78 (lv_at hl 6 rfl) ?_
            refine lv_istore_n (lv' := [(3, .int s12.2.2.1), (6, .int v16), (0, .ref ffa), (1, .int n), (2, .int w), (4, .int s12.2.1), (5, .int s12.2.2.1)]) hx hb dX7_shade_80 rfl hl (by decide) rfl (fun ls hl => ?_)
            refine lv_iload hx hb dX7_shade_81 (lv_at hl 1 rfl) ?_
            refine lv_istore (lv' := [(4, .int v16), (3, .int s12.2.2.1), (6, .int v16), (0, .ref ffa), (1, .int n), (2, .int w), (5, .int s12.2.2.1)]) hx hb dX7_shade_83 hl (by decide) rfl (fun ls hl => ?_)
            obtain rfl := Option.some.inj q29
            exact J18 _ _ _ (lv_sub hl [3, 4, 5, 1, 0, 6] rfl) hP hD hS
      · skip
        replace h21 := (if_neg c4).symm.trans h21
        refine lv_iconst (v := (-1 : Int32)) hx hb dX7_shade_17 (by decide) ?_
        obtain rfl := Option.some.inj h21
        exact hret _ _ _ _ (vp_nar_int _) hP hD hS dX7_shade_18
def mX7_swap_l52 (h : GS) (s22 : Int32 × Int32 × Int32 × GS) (s31 : Int32 × Int32 × Int32 × GS) : Option ((Int32 × Int32 × Int32 × GS) ⊕ (Int32 × Int32 × Int32 × GS)) :=
  if (h.2 5) ≤ s31.2.2.1 then
    some (.inr (s31.1, s31.2.1, s31.2.2.1, s31.2.2.2))
  else
    Option.bind (mX0_exchange s31.2.2.2 s22.2.2.1 s31.2.2.1) fun v33 =>
    Option.bind (mX0_frankOfAll v33) fun v34 =>
    Option.bind (
      if v34 ≤ s31.2.1 then
        some (s31.1, s31.2.1)
      else
        some ((((10 : Int32) * s22.2.2.1) + s31.2.2.1), v34)) fun (v36 : Int32 × Int32) =>
    Option.bind (mX0_exchange v33 s22.2.2.1 s31.2.2.1) fun v37 =>
    some (.inl (v36.1, v36.2, (s31.2.2.1 + (1 : Int32)), v37))

def mX7_swap_l34 (h : GS) (s22 : Int32 × Int32 × Int32 × GS) : Option ((Int32 × Int32 × Int32 × GS) ⊕ (Int32 × Int32 × Int32 × GS)) :=
  if (h.2 5) ≤ s22.2.2.1 then
    some (.inr (s22.1, s22.2.1, s22.2.2.1, s22.2.2.2))
  else
    Option.bind (whO (mX7_swap_l52 h s22) FU (s22.1, s22.2.1, (s22.2.2.1 + (1 : Int32)), s22.2.2.2)) fun e38 =>
    some (.inl (e38.1, e38.2.1, (s22.2.2.1 + (1 : Int32)), e38.2.2.2))

def mX7_swap (h : GS) (tr : GS) (w : Int32) : Option (Int32 × GS) :=
  Option.bind (mX7_isNoPair w) fun v1 =>
  if v1 = 0 then
    Option.bind (mX0_copy tr h) fun v3 =>
    Option.bind (mX0_frankOfAll h) fun v4 =>
    Option.bind (whO (mX7_swap_l34 h) FU ((-4 : Int32), v4, (0 : Int32), v3)) fun e39 =>
    Option.bind (
      if e39.1 = (-4 : Int32) then
        some (.inl ())
      else
        if w = 0 then
          some (.inl ())
        else
          some (.inr (e39.2.1, e39.2.2.2))) fun (v42 : (Unit) ⊕ (Int32 × GS)) => esc v42 fun t43 =>
    some (e39.1, e39.2.2.2)
  else
    some ((-1 : Int32), tr)
abbrev rmX7_swap : Room := { frames := 5, cells := 0, slots := 0, locals := 111 }
set_option maxHeartbeats 4000000 in
set_option maxRecDepth 100000 in
theorem k_X7_swap (l : Launch) (D : va_G) (ca : Nat → ClassId) (ffa : Nat) (r2 r3 r4 r5 r6 r7 : Nat) (ha : Nat → Nat) (tra : Nat → Nat) (ff : Int32) (h : GS) (tr : GS) (w : Int32) (o : Int32 × GS) (hm : mX7_swap h tr w = some o) : KI l yX7_swap wsX7_swap rmX7_swap D ca [.ref ffa, .int w] ((cF ffa (ha 0) (tra 0) r2 r3 r4 r5 r6 r7 ff) ++ (cH ca ha h) ++ (cH ca tra tr)) ((cF ffa (ha 0) (tra 0) r2 r3 r4 r5 r6 r7 ff) ++ (cH ca ha h) ++ (cH ca tra o.2)) o.1 := by
  refine KI.of (cc := cX7_swap) (n := 7) (plainFor_of_name (by decide)) rfl (Nat.le_of_ble_eq_true rfl) ?_
  intro p e s m below meth c A Z hx hb hml hts hown hA hK hP hD hS hret ls hl
  have hown : s.vm.findClass RX7 = some m.cls := hown
  have hl : lv_has ls 7 [(0, .ref ffa), (1, .int w)] := hl
  have inX0 : ∀ w ∈ wsX00, w ∈ wsX7_swap := by decide +kernel
  have inX7 : ∀ w ∈ wsX70, w ∈ wsX7_swap := by decide +kernel
  have k1 := hts (.fieldLink RX7 16 "FriezeFolk" "trial" "LFriezeFolk$Hall;") (by decide +kernel)
  have k2 := hts (.fieldLink RX7 10 "FriezeFolk" "hall" "LFriezeFolk$Hall;") (by decide +kernel)
  have k3 := hts (.fieldLink RX7 93 "FriezeFolk$Hall" "blocks" "I") (by decide +kernel)
  unfold mX7_swap at hm
  refine lv_iload_n hx hb dX7_swap_0 rfl (lv_at hl 1 rfl) ?_
  obtain ⟨v1, q1, h44⟩ := obn hm
  clear hm
  refine xSi (As := [.int w]) ⟨hx, hb, hml, hown, hts⟩ (k_X7_isNoPair l D ca  w _ q1) (va_cwS 1 hts gX7_swap_X7_isNoPair rfl rfl rfl (by decide +kernel) ⟨Nat.le_of_ble_eq_true rfl, Nat.le_of_ble_eq_true rfl⟩) hK hA hP hD hS dX7_swap_1 rfl hl.1 [] [0, 1, 2, 3, 4, 5, 6, 7, 8, 9, 10, 11, 12] [0, 1, 2, 3, 4, 5, 6, 7, 8, 9, 10, 11, 12] rfl rfl (wr := ((cF ffa (ha 0) (tra 0) r2 r3 r4 r5 r6 r7 ff) ++ (cH ca ha h) ++ (cH ca tra tr))) rfl rfl (by decide) (wn := ((cF ffa (ha 0) (tra 0) r2 r3 r4 r5 r6 r7 ff) ++ (cH ca ha h) ++ (cH ca tra tr))) rfl rfl rfl (Nat.le_of_ble_eq_true rfl) (fun H locs hP hD hS => ?_)
  refine lv_if_eq (tgt := 9) hx hb dX7_swap_4 (by decide) (fun c2 => ?_) (fun c2 => ?_)
  · skip
    replace h44 := (if_pos c2).symm.trans h44
    refine lv_aload_n hx hb dX7_swap_9 rfl (lv_at hl 0 rfl) ?_
    refine xget (ref := "FriezeFolk") (C := RX7) (T := TX7) (N := 9) (ci := 7) (v := .ref (tra 0)) hx hb hts inX7 hown hK hP 0 rfl rfl 1 (by decide) k1 rfl rfl dX7_swap_10 ?_
    refine lv_aload_n hx hb dX7_swap_13 rfl (lv_at hl 0 rfl) ?_
    refine xget (ref := "FriezeFolk") (C := RX7) (T := TX7) (N := 9) (ci := 7) (v := .ref (ha 0)) hx hb hts inX7 hown hK hP 0 rfl rfl 0 (by decide) k2 rfl rfl dX7_swap_14 ?_
    obtain ⟨v3, q3, h45⟩ := obn h44
    clear h44
    refine xVv (As := [.ref (ha 0)]) (ci := 0) ⟨hx, hb, hml, hown, hts⟩ (k_X0_copy l D ca tra ha tr h _ q3) (cwV 1 hts gX7_swap_X0_copy rfl rfl rfl (by decide +kernel) ⟨Nat.le_of_ble_eq_true rfl, Nat.le_of_ble_eq_true rfl⟩) hK hA hP hD hS dX7_swap_17 rfl hl.1 [7, 8, 9, 10, 11, 12, 1, 2, 3, 4, 5, 6] [0] [0, 7, 8, 9, 10, 11, 12, 1, 2, 3, 4, 5, 6] rfl rfl (wr := ((cF ffa (ha 0) (tra 0) r2 r3 r4 r5 r6 r7 ff))) rfl rfl (by decide) (wn := ((cF ffa (ha 0) (tra 0) r2 r3 r4 r5 r6 r7 ff) ++ (cH ca ha h) ++ (cH ca tra v3))) rfl rfl rfl rfl rfl rfl (Nat.le_of_ble_eq_true rfl) (fun H locs hP hD hS => ?_)
    refine lv_bipush (v := (-4 : Int32)) hx hb dX7_swap_20 (by decide) ?_
    refine lv_istore_n (lv' := [(2, .int (-4 : Int32)), (0, .ref ffa), (1, .int w)]) hx hb dX7_swap_22 rfl hl (by decide) rfl (fun ls hl => ?_)
    refine lv_aload_n hx hb dX7_swap_23 rfl (lv_at hl 1 rfl) ?_
    refine xget (ref := "FriezeFolk") (C := RX7) (T := TX7) (N := 9) (ci := 7) (v := .ref (ha 0)) hx hb hts inX7 hown hK hP 0 rfl rfl 0 (by decide) k2 rfl rfl dX7_swap_24 ?_
    obtain ⟨v4, q4, h46⟩ := obn h45
    clear h45
    refine xVi (As := []) (ci := 0) ⟨hx, hb, hml, hown, hts⟩ (k_X0_frankOfAll l D ca ha h _ q4) (cwV 0 hts gX7_swap_X0_frankOfAll rfl rfl rfl (by decide +kernel) ⟨Nat.le_of_ble_eq_true rfl, Nat.le_of_ble_eq_true rfl⟩) hK hA hP hD hS dX7_swap_27 rfl hl.1 [1, 2, 3, 4, 5, 6] [0, 7, 8, 9, 10, 11, 12] [0, 7, 8, 9, 10, 11, 12, 1, 2, 3, 4, 5, 6] rfl rfl (wr := ((cF ffa (ha 0) (tra 0) r2 r3 r4 r5 r6 r7 ff) ++ (cH ca tra v3))) rfl rfl (by decide) (wn := ((cF ffa (ha 0) (tra 0) r2 r3 r4 r5 r6 r7 ff) ++ (cH ca ha h) ++ (cH ca tra v3))) rfl rfl rfl rfl rfl rfl (Nat.le_of_ble_eq_true rfl) (fun H locs hP hD hS => ?_)
    refine lv_istore_n (lv' := [(3, .int v4), (2, .int (-4 : Int32)), (0, .ref ffa), (1, .int w)]) hx hb dX7_swap_30 rfl hl (by decide) rfl (fun ls hl => ?_)
    refine lv_iconst (v := (0 : Int32)) hx hb dX7_swap_31 (by decide) ?_
    refine lv_istore (lv' := [(4, .int (0 : Int32)), (3, .int v4), (2, .int (-4 : Int32)), (0, .ref ffa), (1, .int w)]) hx hb dX7_swap_32 hl (by decide) rfl (fun ls hl => ?_)
    obtain ⟨e39, w47, h48⟩ := obn h46
    clear h46
    have AF39 : ∀ (ls : Array Slot) (H : Heap) (locs : List Loc), lv_has ls 7 [(1, .int w), (2, .int e39.1), (3, .int e39.2.1)] → va_P D vwCl ((cF ffa (ha 0) (tra 0) r2 r3 r4 r5 r6 r7 ff) ++ (cH ca ha h) ++ (cH ca tra e39.2.2.2)) H → va_D A ((cF ffa (ha 0) (tra 0) r2 r3 r4 r5 r6 r7 ff) ++ (cH ca ha h) ++ (cH ca tra e39.2.2.2)) → va_S A s.heap H locs → W p l e rmX7_swap s m ([.ref ffa, .int w] : List Value).toArray below meth c H locs 0 0 Z (F0 m 125 ls []) := by
      intro ls H locs hl hP hD hS
      refine lv_iload_n hx hb dX7_swap_125 rfl (lv_at hl 1 rfl) ?_
      refine lv_bipush (v := (-4 : Int32)) hx hb dX7_swap_126 (by decide) ?_
      obtain ⟨v42, q49, h50⟩ := obn h48
      clear h48
      have J42 : ∀ t43, v42 = .inl t43 → ∀ (ls : Array Slot) (H : Heap) (locs : List Loc), lv_has ls 7 [(2, .int e39.1)] → va_P D vwCl ((cF ffa (ha 0) (tra 0) r2 r3 r4 r5 r6 r7 ff) ++ (cH ca ha h) ++ (cH ca tra e39.2.2.2)) H → va_D A ((cF ffa (ha 0) (tra 0) r2 r3 r4 r5 r6 r7 ff) ++ (cH ca ha h) ++ (cH ca tra e39.2.2.2)) → va_S A s.heap H locs → W p l e rmX7_swap s m ([.ref ffa, .int w] : List Value).toArray below meth c H locs 0 0 Z (F0 m 135 ls []) := by
        intro t43 ht ls H locs hl hP hD hS
        subst ht
        replace h50 := (esc_l _ _).symm.trans h50
        refine lv_iload_n hx hb dX7_swap_135 rfl (lv_at hl 0 rfl) ?_
        refine lv_goto (tgt := 140) hx hb dX7_swap_136 (by decide) ?_
        obtain rfl := Option.some.inj h50
        exact hret _ _ _ _ (vp_nar_int _) hP hD hS dX7_swap_140
      refine lv_icmp_eq (tgt := 135) hx hb dX7_swap_128 (by decide) (fun c40 => ?_) (fun c40 => ?_)
      · skip
        replace q49 := (if_pos c40).symm.trans q49
        obtain rfl := Option.some.inj q49
        exact J42 _ rfl _ _ _ (lv_sub hl [1] rfl) hP hD hS
      · skip
        replace q49 := (if_neg c40).symm.trans q49
        refine lv_iload_n hx hb dX7_swap_131 rfl (lv_at hl 0 rfl) ?_
        refine lv_if_ne (tgt := 139) hx hb dX7_swap_132 (by decide) (fun c41 => ?_) (fun c41 => ?_)
        · skip
          replace q49 := (if_neg c41).symm.trans q49
          refine lv_iload_n hx hb dX7_swap_139 rfl (lv_at hl 2 rfl) ?_
          obtain rfl := Option.some.inj q49
          replace h50 := (esc_r _ _).symm.trans h50
          obtain rfl := Option.some.inj h50
          exact hret _ _ _ _ (vp_nar_int _) hP hD hS dX7_swap_140
        · skip
          replace q49 := (if_pos c41).symm.trans q49
          obtain rfl := Option.some.inj q49
          exact J42 _ rfl _ _ _ (lv_sub hl [1] rfl) hP hD hS
    refine whO_walk (I := fun s22 => ∀ (ls : Array Slot) (H : Heap) (locs : List Loc), lv_has ls 7 [(0, .ref ffa), (1, .int w), (2, .int s22.1), (3, .int s22.2.1), (4, .int s22.2.2.1)] → va_P D vwCl ((cF ffa (ha 0) (tra 0) r2 r3 r4 r5 r6 r7 ff) ++ (cH ca ha h) ++ (cH ca tra s22.2.2.2)) H → va_D A ((cF ffa (ha 0) (tra 0) r2 r3 r4 r5 r6 r7 ff) ++ (cH ca ha h) ++ (cH ca tra s22.2.2.2)) → va_S A s.heap H locs → W p l e rmX7_swap s m ([.ref ffa, .int w] : List Value).toArray below meth c H locs 0 0 Z (F0 m 34 ls [])) ?_ _ _ w47 _ _ _ (lv_sub hl [3, 4, 2, 1, 0] rfl) hP hD hS
    clear w47
    intro s22 o39 h51 hi39 ho39 ls H locs hl hP hD hS
    unfold mX7_swap_l34 at h51
    refine lv_iload hx hb dX7_swap_34 (lv_at hl 4 rfl) ?_
    refine lv_aload_n hx hb dX7_swap_36 rfl (lv_at hl 0 rfl) ?_
    refine xget (ref := "FriezeFolk") (C := RX7) (T := TX7) (N := 9) (ci := 7) (v := .ref (ha 0)) hx hb hts inX7 hown hK hP 0 rfl rfl 0 (by decide) k2 rfl rfl dX7_swap_37 ?_
    refine xget (ref := "FriezeFolk$Hall") (C := RX0) (T := TX0) (N := 13) (ci := 0) (v := .int (h.2 5)) hx hb hts inX0 hown hK hP 1 rfl rfl 5 (by decide) k3 rfl rfl dX7_swap_40 ?_
    refine lv_icmp_ge (tgt := 125) hx hb dX7_swap_43 (by decide) (fun c23 => ?_) (fun c23 => ?_)
    · skip
      replace h51 := (if_pos c23).symm.trans h51
      have h52 := ho39 _ (Option.some.inj h51).symm
      subst h52
      exact AF39 _ _ _ (lv_sub hl [1, 2, 3] rfl) hP hD hS
    · skip
      replace h51 := (if_neg c23).symm.trans h51
      refine lv_iload hx hb dX7_swap_46 (lv_at hl 4 rfl) ?_
      refine lv_iconst (v := (1 : Int32)) hx hb dX7_swap_48 (by decide) ?_
      refine lv_iadd hx hb dX7_swap_49 ?_
      refine lv_istore (lv' := [(5, .int (s22.2.2.1 + (1 : Int32))), (0, .ref ffa), (1, .int w), (2, .int s22.1), (3, .int s22.2.1), (4, .int s22.2.2.1)]) hx hb dX7_swap_50 hl (by decide) rfl (fun ls hl => ?_)
      obtain ⟨e38, w53, h54⟩ := obn h51
      clear h51
      have AF38 : ∀ (ls : Array Slot) (H : Heap) (locs : List Loc), lv_has ls 7 [(0, .ref ffa), (1, .int w), (2, .int e38.1), (3, .int e38.2.1), (4, .int s22.2.2.1)] → va_P D vwCl ((cF ffa (ha 0) (tra 0) r2 r3 r4 r5 r6 r7 ff) ++ (cH ca ha h) ++ (cH ca tra e38.2.2.2)) H → va_D A ((cF ffa (ha 0) (tra 0) r2 r3 r4 r5 r6 r7 ff) ++ (cH ca ha h) ++ (cH ca tra e38.2.2.2)) → va_S A s.heap H locs → W p l e rmX7_swap s m ([.ref ffa, .int w] : List Value).toArray below meth c H locs 0 0 Z (F0 m 119 ls []) := by
        intro ls H locs hl hP hD hS
        refine lv_iinc (v := (s22.2.2.1 + (1 : Int32))) (lv' := [(4, .int (s22.2.2.1 + (1 : Int32))), (0, .ref ffa), (1, .int w), (2, .int e38.1), (3, .int e38.2.1)]) hx hb dX7_swap_119 hl (k := 4) rfl rfl (by decide) rfl (fun ls hl => ?_)
        refine lv_goto (tgt := 34) hx hb dX7_swap_122 (by decide) ?_
        exact hi39 _ (Option.some.inj h54).symm _ _ _ (lv_sub hl [1, 2, 3, 4, 0] rfl) hP hD hS
      refine whO_walk (I := fun s31 => ∀ (ls : Array Slot) (H : Heap) (locs : List Loc), lv_has ls 7 [(0, .ref ffa), (1, .int w), (2, .int s31.1), (3, .int s31.2.1), (4, .int s22.2.2.1), (5, .int s31.2.2.1)] → va_P D vwCl ((cF ffa (ha 0) (tra 0) r2 r3 r4 r5 r6 r7 ff) ++ (cH ca ha h) ++ (cH ca tra s31.2.2.2)) H → va_D A ((cF ffa (ha 0) (tra 0) r2 r3 r4 r5 r6 r7 ff) ++ (cH ca ha h) ++ (cH ca tra s31.2.2.2)) → va_S A s.heap H locs → W p l e rmX7_swap s m ([.ref ffa, .int w] : List Value).toArray below meth c H locs 0 0 Z (F0 m 52 ls [])) ?_ _ _ w53 _ _ _ (lv_sub hl [1, 2, 3, 4, 5, 0] rfl) hP hD hS
      clear w53
      intro s31 o38 h55 hi38 ho38 ls H locs hl hP hD hS
      unfold mX7_swap_l52 at h55
      refine lv_iload hx hb dX7_swap_52 (lv_at hl 5 rfl) ?_
      refine lv_aload_n hx hb dX7_swap_54 rfl (lv_at hl 0 rfl) ?_
      refine xget (ref := "FriezeFolk") (C := RX7) (T := TX7) (N := 9) (ci := 7) (v := .ref (ha 0)) hx hb hts inX7 hown hK hP 0 rfl rfl 0 (by decide) k2 rfl rfl dX7_swap_55 ?_
      refine xget (ref := "FriezeFolk$Hall") (C := RX0) (T := TX0) (N := 13) (ci := 0) (v := .int (h.2 5)) hx hb hts inX0 hown hK hP 1 rfl rfl 5 (by decide) k3 rfl rfl dX7_swap_58 ?_
      refine lv_icmp_ge (tgt := 119) hx hb dX7_swap_61 (by decide) (fun c32 => ?_) (fun c32 => ?_)
      · skip
        replace h55 := (if_pos c32).symm.trans h55
        have h56 := ho38 _ (Option.some.inj h55).symm
        subst h56
        exact AF38 _ _ _ (lv_sub hl [0, 1, 2, 3, 4] rfl) hP hD hS
      · skip
        replace h55 := (if_neg c32).symm.trans h55
        refine lv_aload_n hx hb dX7_swap_64 rfl (lv_at hl 0 rfl) ?_
        refine xget (ref := "FriezeFolk") (C := RX7) (T := TX7) (N := 9) (ci := 7) (v := .ref (tra 0)) hx hb hts inX7 hown hK hP 0 rfl rfl 1 (by decide) k1 rfl rfl dX7_swap_65 ?_
        refine lv_iload hx hb dX7_swap_68 (lv_at hl 4 rfl) ?_
        refine lv_iload hx hb dX7_swap_70 (lv_at hl 5 rfl) ?_
        obtain ⟨v33, q33, h57⟩ := obn h55
        clear h55
        refine xVv (As := [.int s22.2.2.1, .int s31.2.2.1]) (ci := 0) ⟨hx, hb, hml, hown, hts⟩ (k_X0_exchange l D ca tra s31.2.2.2 s22.2.2.1 s31.2.2.1 _ q33) (cwV 2 hts gX7_swap_X0_exchange rfl rfl rfl (by decide +kernel) ⟨Nat.le_of_ble_eq_true rfl, Nat.le_of_ble_eq_true rfl⟩) hK hA hP hD hS dX7_swap_72 rfl hl.1 [7, 8, 9, 10, 11, 12] [0, 1, 2, 3, 4, 5, 6] [0, 1, 2, 3, 4, 5, 6, 7, 8, 9, 10, 11, 12] rfl rfl (wr := ((cF ffa (ha 0) (tra 0) r2 r3 r4 r5 r6 r7 ff) ++ (cH ca ha h))) rfl rfl (by decide) (wn := ((cF ffa (ha 0) (tra 0) r2 r3 r4 r5 r6 r7 ff) ++ (cH ca ha h) ++ (cH ca tra v33))) rfl rfl rfl rfl rfl rfl (Nat.le_of_ble_eq_true rfl) (fun H locs hP hD hS => ?_)
        refine lv_aload_n hx hb dX7_swap_75 rfl (lv_at hl 0 rfl) ?_
        refine xget (ref := "FriezeFolk") (C := RX7) (T := TX7) (N := 9) (ci := 7) (v := .ref (tra 0)) hx hb hts inX7 hown hK hP 0 rfl rfl 1 (by decide) k1 rfl rfl dX7_swap_76 ?_
        obtain ⟨v34, q34, h58⟩ := obn h57
        clear h57
        refine xVi (As := []) (ci := 0) ⟨hx, hb, hml, hown, hts⟩ (k_X0_frankOfAll l D ca tra v33 _ q34) (cwV 0 hts gX7_swap_X0_frankOfAll rfl rfl rfl (by decide +kernel) ⟨Nat.le_of_ble_eq_true rfl, Nat.le_of_ble_eq_true rfl⟩) hK hA hP hD hS dX7_swap_79 rfl hl.1 [7, 8, 9, 10, 11, 12] [0, 1, 2, 3, 4, 5, 6] [0, 1, 2, 3, 4, 5, 6, 7, 8, 9, 10, 11, 12] rfl rfl (wr := ((cF ffa (ha 0) (tra 0) r2 r3 r4 r5 r6 r7 ff) ++ (cH ca ha h))) rfl rfl (by decide) (wn := ((cF ffa (ha 0) (tra 0) r2 r3 r4 r5 r6 r7 ff) ++ (cH ca ha h) ++ (cH ca tra v33))) rfl rfl rfl rfl rfl rfl (Nat.le_of_ble_eq_true rfl) (fun H locs hP hD hS => ?_)
        refine lv_istore (lv' := [(6, .int v34), (0, .ref ffa), (1, .int w), (2, .int s31.1), (3, .int s31.2.1), (4, .int s22.2.2.1), (5, .int s31.2.2.1)]) hx hb dX7_swap_82 hl (by decide) rfl (fun ls hl => ?_)
        refine lv_iload hx hb dX7_swap_84 (lv_at hl 0 rfl) ?_
        refine lv_iload_n hx hb dX7_swap_86 rfl (lv_at hl 4 rfl) ?_
        obtain ⟨v36, q59, h60⟩ := obn h58
        clear h58
        have J36 : ∀ (ls : Array Slot) (H : Heap) (locs : List Loc), lv_has ls 7 [(0, .ref ffa), (1, .int w), (2, .int v36.1), (3, .int v36.2), (4, .int s22.2.2.1), (5, .int s31.2.2.1)] → va_P D vwCl ((cF ffa (ha 0) (tra 0) r2 r3 r4 r5 r6 r7 ff) ++ (cH ca ha h) ++ (cH ca tra v33)) H → va_D A ((cF ffa (ha 0) (tra 0) r2 r3 r4 r5 r6 r7 ff) ++ (cH ca ha h) ++ (cH ca tra v33)) → va_S A s.heap H locs → W p l e rmX7_swap s m ([.ref ffa, .int w] : List Value).toArray below meth c H locs 0 0 Z (F0 m 102 ls []) := by
          intro ls H locs hl hP hD hS
          refine lv_aload_n hx hb dX7_swap_102 rfl (lv_at hl 0 rfl) ?_
          refine xget (ref := "FriezeFolk") (C := RX7) (T := TX7) (N := 9) (ci := 7) (v := .ref (tra 0)) hx hb hts inX7 hown hK hP 0 rfl rfl 1 (by decide) k1 rfl rfl dX7_swap_103 ?_
          refine lv_iload hx hb dX7_swap_106 (lv_at hl 4 rfl) ?_
          refine lv_iload hx hb dX7_swap_108 (lv_at hl 5 rfl) ?_
          obtain ⟨v37, q37, h61⟩ := obn h60
          clear h60
          refine xVv (As := [.int s22.2.2.1, .int s31.2.2.1]) (ci := 0) ⟨hx, hb, hml, hown, hts⟩ (k_X0_exchange l D ca tra v33 s22.2.2.1 s31.2.2.1 _ q37) (cwV 2 hts gX7_swap_X0_exchange rfl rfl rfl (by decide +kernel) ⟨Nat.le_of_ble_eq_true rfl, Nat.le_of_ble_eq_true rfl⟩) hK hA hP hD hS dX7_swap_110 rfl hl.1 [7, 8, 9, 10, 11, 12] [0, 1, 2, 3, 4, 5, 6] [0, 1, 2, 3, 4, 5, 6, 7, 8, 9, 10, 11, 12] rfl rfl (wr := ((cF ffa (ha 0) (tra 0) r2 r3 r4 r5 r6 r7 ff) ++ (cH ca ha h))) rfl rfl (by decide) (wn := ((cF ffa (ha 0) (tra 0) r2 r3 r4 r5 r6 r7 ff) ++ (cH ca ha h) ++ (cH ca tra v37))) rfl rfl rfl rfl rfl rfl (Nat.le_of_ble_eq_true rfl) (fun H locs hP hD hS => ?_)
          refine lv_iinc (v := (s31.2.2.1 + (1 : Int32))) (lv' := [(5, .int (s31.2.2.1 + (1 : Int32))), (0, .ref ffa), (1, .int w), (2, .int v36.1), (3, .int v36.2), (4, .int s22.2.2.1)]) hx hb dX7_swap_113 hl (k := 5) rfl rfl (by decide) rfl (fun ls hl => ?_)
          refine lv_goto (tgt := 52) hx hb dX7_swap_116 (by decide) ?_
          exact hi38 _ (Option.some.inj h61).symm _ _ _ (lv_sub hl [1, 2, 3, 4, 5, 0] rfl) hP hD hS
        refine lv_icmp_le (tgt := 102) hx hb dX7_swap_87 (by decide) (fun c35 => ?_) (fun c35 => ?_)
        · skip
          replace q59 := (if_pos c35).symm.trans q59
          obtain rfl := Option.some.inj q59
          exact J36 _ _ _ (lv_sub hl [1, 2, 3, 4, 5, 6] rfl) hP hD hS
        · skip
          replace q59 := (if_neg c35).symm.trans q59
          refine lv_bipush (v := (10 : Int32)) hx hb dX7_swap_90 (by decide) ?_
          refine lv_iload hx hb dX7_swap_92 (lv_at hl 5 rfl) ?_
          refine lv_imul hx hb dX7_swap_94 ?_
          refine lv_iload hx hb dX7_swap_95 (lv_at hl 6 rfl) ?_
          refine lv_iadd hx hb dX7_swap_97 ?_
          refine lv_istore_n (lv' := [(2, .int (((10 : Int32) * s22.2.2.1) + s31.2.2.1)), (6, .int v34), (0, .ref ffa), (1, .int w), (3, .int s31.2.1), (4, .int s22.2.2.1), (5, .int s31.2.2.1)]) hx hb dX7_swap_98 rfl hl (by decide) rfl (fun ls hl => ?_)
          refine lv_iload hx hb dX7_swap_99 (lv_at hl 1 rfl) ?_
          refine lv_istore_n (lv' := [(3, .int v34), (2, .int (((10 : Int32) * s22.2.2.1) + s31.2.2.1)), (6, .int v34), (0, .ref ffa), (1, .int w), (4, .int s22.2.2.1), (5, .int s31.2.2.1)]) hx hb dX7_swap_101 rfl hl (by decide) rfl (fun ls hl => ?_)
          obtain rfl := Option.some.inj q59
          exact J36 _ _ _ (lv_sub hl [3, 4, 1, 0, 5, 6] rfl) hP hD hS
  · skip
    replace h44 := (if_neg c2).symm.trans h44
    refine lv_iconst (v := (-1 : Int32)) hx hb dX7_swap_7 (by decide) ?_
    obtain rfl := Option.some.inj h44
    exact hret _ _ _ _ (vp_nar_int _) hP hD hS dX7_swap_8
def mX7_alike_l28 (h : GS) (s8 : Int32 × Int32 × GS) : Option ((Int32 × Int32 × GS) ⊕ (Int32 × Int32 × GS)) :=
  if (6 : Int32) ≤ s8.2.1 then
    some (.inr (s8.1, s8.2.1, s8.2.2))
  else
    Option.bind (mX0_looksLike (sI s8.2.2 7 s8.2.1) h) fun v10 =>
    Option.bind (
      if v10 = 0 then
        some s8.1
      else
        some (s8.1 + (1 : Int32))) fun (v12 : Int32) =>
    some (.inl (v12, (s8.2.1 + (1 : Int32)), (sI s8.2.2 7 s8.2.1)))

def mX7_alike (h : GS) (tr : GS) : Option (Int32 × GS) :=
  if (h.2 5) = 0 then
    some ((-2 : Int32), tr)
  else
    Option.bind (mX0_copy tr h) fun v2 =>
    Option.bind (whO (mX7_alike_l28 h) FU ((0 : Int32), (0 : Int32), v2)) fun e13 =>
    some (e13.1, e13.2.2)
abbrev rmX7_alike : Room := { frames := 4, cells := 0, slots := 0, locals := 87 }
set_option maxHeartbeats 4000000 in
set_option maxRecDepth 100000 in
theorem k_X7_alike (l : Launch) (D : va_G) (ca : Nat → ClassId) (ffa : Nat) (r2 r3 r4 r5 r6 r7 : Nat) (ha : Nat → Nat) (tra : Nat → Nat) (ff : Int32) (h : GS) (tr : GS) (o : Int32 × GS) (hm : mX7_alike h tr = some o) : KI l yX7_alike wsX7_alike rmX7_alike D ca [.ref ffa] ((cF ffa (ha 0) (tra 0) r2 r3 r4 r5 r6 r7 ff) ++ (cH ca ha h) ++ (cH ca tra tr)) ((cF ffa (ha 0) (tra 0) r2 r3 r4 r5 r6 r7 ff) ++ (cH ca ha h) ++ (cH ca tra o.2)) o.1 := by
  refine KI.of (cc := cX7_alike) (n := 3) (plainFor_of_name (by decide)) rfl (Nat.le_of_ble_eq_true rfl) ?_
  intro p e s m below meth c A Z hx hb hml hts hown hA hK hP hD hS hret ls hl
  have hown : s.vm.findClass RX7 = some m.cls := hown
  have hl : lv_has ls 3 [(0, .ref ffa)] := hl
  have inX0 : ∀ w ∈ wsX00, w ∈ wsX7_alike := by decide +kernel
  have inX7 : ∀ w ∈ wsX70, w ∈ wsX7_alike := by decide +kernel
  have k1 := hts (.fieldLink RX7 10 "FriezeFolk" "hall" "LFriezeFolk$Hall;") (by decide +kernel)
  have k2 := hts (.fieldLink RX7 93 "FriezeFolk$Hall" "blocks" "I") (by decide +kernel)
  have k3 := hts (.fieldLink RX7 16 "FriezeFolk" "trial" "LFriezeFolk$Hall;") (by decide +kernel)
  have k4 := hts (.fieldLink RX7 99 "FriezeFolk$Hall" "shift" "I") (by decide +kernel)
  unfold mX7_alike at hm
  refine lv_aload_n hx hb dX7_alike_0 rfl (lv_at hl 0 rfl) ?_
  refine xget (ref := "FriezeFolk") (C := RX7) (T := TX7) (N := 9) (ci := 7) (v := .ref (ha 0)) hx hb hts inX7 hown hK hP 0 rfl rfl 0 (by decide) k1 rfl rfl dX7_alike_1 ?_
  refine xget (ref := "FriezeFolk$Hall") (C := RX0) (T := TX0) (N := 13) (ci := 0) (v := .int (h.2 5)) hx hb hts inX0 hown hK hP 1 rfl rfl 5 (by decide) k2 rfl rfl dX7_alike_4 ?_
  refine lv_if_ne (tgt := 13) hx hb dX7_alike_7 (by decide) (fun c1 => ?_) (fun c1 => ?_)
  · skip
    replace hm := (if_neg c1).symm.trans hm
    refine lv_aload_n hx hb dX7_alike_13 rfl (lv_at hl 0 rfl) ?_
    refine xget (ref := "FriezeFolk") (C := RX7) (T := TX7) (N := 9) (ci := 7) (v := .ref (tra 0)) hx hb hts inX7 hown hK hP 0 rfl rfl 1 (by decide) k3 rfl rfl dX7_alike_14 ?_
    refine lv_aload_n hx hb dX7_alike_17 rfl (lv_at hl 0 rfl) ?_
    refine xget (ref := "FriezeFolk") (C := RX7) (T := TX7) (N := 9) (ci := 7) (v := .ref (ha 0)) hx hb hts inX7 hown hK hP 0 rfl rfl 0 (by decide) k1 rfl rfl dX7_alike_18 ?_
    obtain ⟨v2, q2, h14⟩ := obn hm
    clear hm
    refine xVv (As := [.ref (ha 0)]) (ci := 0) ⟨hx, hb, hml, hown, hts⟩ (k_X0_copy l D ca tra ha tr h _ q2) (cwV 1 hts gX7_alike_X0_copy rfl rfl rfl (by decide +kernel) ⟨Nat.le_of_ble_eq_true rfl, Nat.le_of_ble_eq_true rfl⟩) hK hA hP hD hS dX7_alike_21 rfl hl.1 [7, 8, 9, 10, 11, 12, 1, 2, 3, 4, 5, 6] [0] [0, 7, 8, 9, 10, 11, 12, 1, 2, 3, 4, 5, 6] rfl rfl (wr := ((cF ffa (ha 0) (tra 0) r2 r3 r4 r5 r6 r7 ff))) rfl rfl (by decide) (wn := ((cF ffa (ha 0) (tra 0) r2 r3 r4 r5 r6 r7 ff) ++ (cH ca ha h) ++ (cH ca tra v2))) rfl rfl rfl rfl rfl rfl (Nat.le_of_ble_eq_true rfl) (fun H locs hP hD hS => ?_)
    refine lv_iconst (v := (0 : Int32)) hx hb dX7_alike_24 (by decide) ?_
    refine lv_istore_n (lv' := [(1, .int (0 : Int32)), (0, .ref ffa)]) hx hb dX7_alike_25 rfl hl (by decide) rfl (fun ls hl => ?_)
    refine lv_iconst (v := (0 : Int32)) hx hb dX7_alike_26 (by decide) ?_
    refine lv_istore_n (lv' := [(2, .int (0 : Int32)), (1, .int (0 : Int32)), (0, .ref ffa)]) hx hb dX7_alike_27 rfl hl (by decide) rfl (fun ls hl => ?_)
    obtain ⟨e13, w15, h16⟩ := obn h14
    clear h14
    have AF13 : ∀ (ls : Array Slot) (H : Heap) (locs : List Loc), lv_has ls 3 [(1, .int e13.1)] → va_P D vwCl ((cF ffa (ha 0) (tra 0) r2 r3 r4 r5 r6 r7 ff) ++ (cH ca ha h) ++ (cH ca tra e13.2.2)) H → va_D A ((cF ffa (ha 0) (tra 0) r2 r3 r4 r5 r6 r7 ff) ++ (cH ca ha h) ++ (cH ca tra e13.2.2)) → va_S A s.heap H locs → W p l e rmX7_alike s m ([.ref ffa] : List Value).toArray below meth c H locs 0 0 Z (F0 m 65 ls []) := by
      intro ls H locs hl hP hD hS
      refine lv_iload_n hx hb dX7_alike_65 rfl (lv_at hl 0 rfl) ?_
      obtain rfl := Option.some.inj h16
      exact hret _ _ _ _ (vp_nar_int _) hP hD hS dX7_alike_66
    refine whO_walk (I := fun s8 => ∀ (ls : Array Slot) (H : Heap) (locs : List Loc), lv_has ls 3 [(0, .ref ffa), (1, .int s8.1), (2, .int s8.2.1)] → va_P D vwCl ((cF ffa (ha 0) (tra 0) r2 r3 r4 r5 r6 r7 ff) ++ (cH ca ha h) ++ (cH ca tra s8.2.2)) H → va_D A ((cF ffa (ha 0) (tra 0) r2 r3 r4 r5 r6 r7 ff) ++ (cH ca ha h) ++ (cH ca tra s8.2.2)) → va_S A s.heap H locs → W p l e rmX7_alike s m ([.ref ffa] : List Value).toArray below meth c H locs 0 0 Z (F0 m 28 ls [])) ?_ _ _ w15 _ _ _ (lv_sub hl [2, 1, 0] rfl) hP hD hS
    clear w15
    intro s8 o13 h17 hi13 ho13 ls H locs hl hP hD hS
    unfold mX7_alike_l28 at h17
    refine lv_iload_n hx hb dX7_alike_28 rfl (lv_at hl 2 rfl) ?_
    refine lv_bipush (v := (6 : Int32)) hx hb dX7_alike_29 (by decide) ?_
    refine lv_icmp_ge (tgt := 65) hx hb dX7_alike_31 (by decide) (fun c9 => ?_) (fun c9 => ?_)
    · skip
      replace h17 := (if_pos c9).symm.trans h17
      have h18 := ho13 _ (Option.some.inj h17).symm
      subst h18
      exact AF13 _ _ _ (lv_sub hl [1] rfl) hP hD hS
    · skip
      replace h17 := (if_neg c9).symm.trans h17
      refine lv_aload_n hx hb dX7_alike_34 rfl (lv_at hl 0 rfl) ?_
      refine xget (ref := "FriezeFolk") (C := RX7) (T := TX7) (N := 9) (ci := 7) (v := .ref (tra 0)) hx hb hts inX7 hown hK hP 0 rfl rfl 1 (by decide) k3 rfl rfl dX7_alike_35 ?_
      refine lv_iload_n hx hb dX7_alike_38 rfl (lv_at hl 2 rfl) ?_
      refine xput (ref := "FriezeFolk$Hall") (C := RX0) (T := TX0) (N := 13) (ci := 0) (v := .int s8.2.1) (ty := .int) hx hb hts inX0 tyX0 tyX0_ok nmX0 hown hK hP hD hS 7 rfl rfl 7 (by decide) k4 rfl rfl (by decide +kernel) rfl rfl (Nat.le_of_ble_eq_true rfl) dX7_alike_39 (wn := ((cF ffa (ha 0) (tra 0) r2 r3 r4 r5 r6 r7 ff) ++ (cH ca ha h) ++ (cH ca tra (sI s8.2.2 7 s8.2.1)))) rfl (fun H locs hP hD hS => ?_)
      refine lv_aload_n hx hb dX7_alike_42 rfl (lv_at hl 0 rfl) ?_
      refine xget (ref := "FriezeFolk") (C := RX7) (T := TX7) (N := 9) (ci := 7) (v := .ref (tra 0)) hx hb hts inX7 hown hK hP 0 rfl rfl 1 (by decide) k3 rfl rfl dX7_alike_43 ?_
      refine lv_aload_n hx hb dX7_alike_46 rfl (lv_at hl 0 rfl) ?_
      refine xget (ref := "FriezeFolk") (C := RX7) (T := TX7) (N := 9) (ci := 7) (v := .ref (ha 0)) hx hb hts inX7 hown hK hP 0 rfl rfl 0 (by decide) k1 rfl rfl dX7_alike_47 ?_
      obtain ⟨v10, q10, h19⟩ := obn h17
      clear h17
      refine xVi (As := [.ref (ha 0)]) (ci := 0) ⟨hx, hb, hml, hown, hts⟩ (k_X0_looksLike l D ca tra ha (sI s8.2.2 7 s8.2.1) h _ q10) (cwV 1 hts gX7_alike_X0_looksLike rfl rfl rfl (by decide +kernel) ⟨Nat.le_of_ble_eq_true rfl, Nat.le_of_ble_eq_true rfl⟩) hK hA hP hD hS dX7_alike_50 rfl hl.1 [7, 8, 9, 10, 11, 12, 1, 2, 3, 4, 5, 6] [0] [0, 7, 8, 9, 10, 11, 12, 1, 2, 3, 4, 5, 6] rfl rfl (wr := ((cF ffa (ha 0) (tra 0) r2 r3 r4 r5 r6 r7 ff))) rfl rfl (by decide) (wn := ((cF ffa (ha 0) (tra 0) r2 r3 r4 r5 r6 r7 ff) ++ (cH ca ha h) ++ (cH ca tra (sI s8.2.2 7 s8.2.1)))) rfl rfl rfl rfl rfl rfl (Nat.le_of_ble_eq_true rfl) (fun H locs hP hD hS => ?_)
      obtain ⟨v12, q20, h21⟩ := obn h19
      clear h19
      have J12 : ∀ (ls : Array Slot) (H : Heap) (locs : List Loc), lv_has ls 3 [(0, .ref ffa), (1, .int v12), (2, .int s8.2.1)] → va_P D vwCl ((cF ffa (ha 0) (tra 0) r2 r3 r4 r5 r6 r7 ff) ++ (cH ca ha h) ++ (cH ca tra (sI s8.2.2 7 s8.2.1))) H → va_D A ((cF ffa (ha 0) (tra 0) r2 r3 r4 r5 r6 r7 ff) ++ (cH ca ha h) ++ (cH ca tra (sI s8.2.2 7 s8.2.1))) → va_S A s.heap H locs → W p l e rmX7_alike s m ([.ref ffa] : List Value).toArray below meth c H locs 0 0 Z (F0 m 59 ls []) := by
        intro ls H locs hl hP hD hS
        refine lv_iinc (v := (s8.2.1 + (1 : Int32))) (lv' := [(2, .int (s8.2.1 + (1 : Int32))), (0, .ref ffa), (1, .int v12)]) hx hb dX7_alike_59 hl (k := 2) rfl rfl (by decide) rfl (fun ls hl => ?_)
        refine lv_goto (tgt := 28) hx hb dX7_alike_62 (by decide) ?_
        exact hi13 _ (Option.some.inj h21).symm _ _ _ (lv_sub hl [1, 2, 0] rfl) hP hD hS
      refine lv_if_eq (tgt := 59) hx hb dX7_alike_53 (by decide) (fun c11 => ?_) (fun c11 => ?_)
      · skip
        replace q20 := (if_pos c11).symm.trans q20
        obtain rfl := Option.some.inj q20
        exact J12 _ _ _ (lv_sub hl [0, 1, 2] rfl) hP hD hS
      · skip
        replace q20 := (if_neg c11).symm.trans q20
        refine lv_iinc (v := (s8.1 + (1 : Int32))) (lv' := [(1, .int (s8.1 + (1 : Int32))), (0, .ref ffa), (2, .int s8.2.1)]) hx hb dX7_alike_56 hl (k := 1) rfl rfl (by decide) rfl (fun ls hl => ?_)
        obtain rfl := Option.some.inj q20
        exact J12 _ _ _ (lv_sub hl [1, 0, 2] rfl) hP hD hS
  · skip
    replace hm := (if_pos c1).symm.trans hm
    refine lv_bipush (v := (-2 : Int32)) hx hb dX7_alike_10 (by decide) ?_
    obtain rfl := Option.some.inj hm
    exact hret _ _ _ _ (vp_nar_int _) hP hD hS dX7_alike_12
def mX7_drift_l43 (n : Int32) (s13 : Int32 × Int32 × Int32 × Int32 × GS) : Option ((Int32 × Int32 × Int32 × Int32 × GS) ⊕ (Int32 × Int32 × Int32 × Int32 × GS)) :=
  if n ≤ s13.2.2.2.1 then
    some (.inr (s13.1, s13.2.1, s13.2.2.1, s13.2.2.2.1, s13.2.2.2.2))
  else
    Option.bind (irm ((((s13.1 * (1103515245 : Int32)) + (12345 : Int32)).toUInt32 >>> ((16 : Int32).toUInt32 &&& Int32.toUInt32 31)).toInt32 &&& (32767 : Int32)) (6 : Int32)) fun v15 =>
    Option.bind (idv ((((s13.1 * (1103515245 : Int32)) + (12345 : Int32)).toUInt32 >>> ((16 : Int32).toUInt32 &&& Int32.toUInt32 31)).toInt32 &&& (32767 : Int32)) (8 : Int32)) fun v16 =>
    Option.bind (irm v16 (12 : Int32)) fun v17 =>
    Option.bind (mX0_pass (sI (sI s13.2.2.2.2 7 v15) 8 v17) (1 : Int32)) fun v18 =>
    Option.bind (mX0_frankOfAll v18) fun v19 =>
    some (.inl (((s13.1 * (1103515245 : Int32)) + (12345 : Int32)), (s13.2.1 + v19), v19, (s13.2.2.2.1 + (1 : Int32)), v18))

def mX7_drift (h : GS) (tr : GS) (x : Int32) (n : Int32) (w : Int32) : Option (Int32 × GS) :=
  if n < (1 : Int32) then
    some ((-1 : Int32), tr)
  else
    if (60 : Int32) < n then
      some ((-1 : Int32), tr)
    else
      Option.bind (mX7_isNoPair w) fun v3 =>
      if v3 = 0 then
        Option.bind (mX0_copy tr h) fun v5 =>
        Option.bind (whO (mX7_drift_l43 n) FU (x, (0 : Int32), (0 : Int32), (0 : Int32), v5)) fun e20 =>
        if w = 0 then
          some (e20.2.1, e20.2.2.2.2)
        else
          some (e20.2.2.1, e20.2.2.2.2)
      else
        some ((-1 : Int32), tr)
abbrev rmX7_drift : Room := { frames := 5, cells := 0, slots := 0, locals := 111 }
set_option maxHeartbeats 4000000 in
set_option maxRecDepth 100000 in
theorem k_X7_drift (l : Launch) (D : va_G) (ca : Nat → ClassId) (ffa : Nat) (r2 r3 r4 r5 r6 r7 : Nat) (ha : Nat → Nat) (tra : Nat → Nat) (ff : Int32) (h : GS) (tr : GS) (x : Int32) (n : Int32) (w : Int32) (o : Int32 × GS) (hm : mX7_drift h tr x n w = some o) : KI l yX7_drift wsX7_drift rmX7_drift D ca [.ref ffa, .int x, .int n, .int w] ((cF ffa (ha 0) (tra 0) r2 r3 r4 r5 r6 r7 ff) ++ (cH ca ha h) ++ (cH ca tra tr)) ((cF ffa (ha 0) (tra 0) r2 r3 r4 r5 r6 r7 ff) ++ (cH ca ha h) ++ (cH ca tra o.2)) o.1 := by
  refine KI.of (cc := cX7_drift) (n := 9) (plainFor_of_name (by decide)) rfl (Nat.le_of_ble_eq_true rfl) ?_
  intro p e s m below meth c A Z hx hb hml hts hown hA hK hP hD hS hret ls hl
  have hown : s.vm.findClass RX7 = some m.cls := hown
  have hl : lv_has ls 9 [(0, .ref ffa), (1, .int x), (2, .int n), (3, .int w)] := hl
  have inX0 : ∀ w ∈ wsX00, w ∈ wsX7_drift := by decide +kernel
  have inX7 : ∀ w ∈ wsX70, w ∈ wsX7_drift := by decide +kernel
  have k1 := hts (.fieldLink RX7 16 "FriezeFolk" "trial" "LFriezeFolk$Hall;") (by decide +kernel)
  have k2 := hts (.fieldLink RX7 10 "FriezeFolk" "hall" "LFriezeFolk$Hall;") (by decide +kernel)
  have k3 := hts (.constant RX7 246 (1103515245 : Int32)) (by decide +kernel)
  have k4 := hts (.fieldLink RX7 99 "FriezeFolk$Hall" "shift" "I") (by decide +kernel)
  have k5 := hts (.fieldLink RX7 102 "FriezeFolk$Hall" "window" "I") (by decide +kernel)
  unfold mX7_drift at hm
  refine lv_iload_n hx hb dX7_drift_0 rfl (lv_at hl 2 rfl) ?_
  refine lv_iconst (v := (1 : Int32)) hx hb dX7_drift_1 (by decide) ?_
  refine lv_icmp_lt (tgt := 18) hx hb dX7_drift_2 (by decide) (fun c1 => ?_) (fun c1 => ?_)
  · skip
    replace hm := (if_pos c1).symm.trans hm
    refine lv_iconst (v := (-1 : Int32)) hx hb dX7_drift_18 (by decide) ?_
    obtain rfl := Option.some.inj hm
    exact hret _ _ _ _ (vp_nar_int _) hP hD hS dX7_drift_19
  · skip
    replace hm := (if_neg c1).symm.trans hm
    refine lv_iload_n hx hb dX7_drift_5 rfl (lv_at hl 2 rfl) ?_
    refine lv_bipush (v := (60 : Int32)) hx hb dX7_drift_6 (by decide) ?_
    refine lv_icmp_gt (tgt := 18) hx hb dX7_drift_8 (by decide) (fun c2 => ?_) (fun c2 => ?_)
    · skip
      replace hm := (if_pos c2).symm.trans hm
      refine lv_iconst (v := (-1 : Int32)) hx hb dX7_drift_18 (by decide) ?_
      obtain rfl := Option.some.inj hm
      exact hret _ _ _ _ (vp_nar_int _) hP hD hS dX7_drift_19
    · skip
      replace hm := (if_neg c2).symm.trans hm
      refine lv_iload_n hx hb dX7_drift_11 rfl (lv_at hl 3 rfl) ?_
      obtain ⟨v3, q3, h22⟩ := obn hm
      clear hm
      refine xSi (As := [.int w]) ⟨hx, hb, hml, hown, hts⟩ (k_X7_isNoPair l D ca  w _ q3) (va_cwS 1 hts gX7_drift_X7_isNoPair rfl rfl rfl (by decide +kernel) ⟨Nat.le_of_ble_eq_true rfl, Nat.le_of_ble_eq_true rfl⟩) hK hA hP hD hS dX7_drift_12 rfl hl.1 [] [0, 1, 2, 3, 4, 5, 6, 7, 8, 9, 10, 11, 12] [0, 1, 2, 3, 4, 5, 6, 7, 8, 9, 10, 11, 12] rfl rfl (wr := ((cF ffa (ha 0) (tra 0) r2 r3 r4 r5 r6 r7 ff) ++ (cH ca ha h) ++ (cH ca tra tr))) rfl rfl (by decide) (wn := ((cF ffa (ha 0) (tra 0) r2 r3 r4 r5 r6 r7 ff) ++ (cH ca ha h) ++ (cH ca tra tr))) rfl rfl rfl (Nat.le_of_ble_eq_true rfl) (fun H locs hP hD hS => ?_)
      refine lv_if_eq (tgt := 20) hx hb dX7_drift_15 (by decide) (fun c4 => ?_) (fun c4 => ?_)
      · skip
        replace h22 := (if_pos c4).symm.trans h22
        refine lv_aload_n hx hb dX7_drift_20 rfl (lv_at hl 0 rfl) ?_
        refine xget (ref := "FriezeFolk") (C := RX7) (T := TX7) (N := 9) (ci := 7) (v := .ref (tra 0)) hx hb hts inX7 hown hK hP 0 rfl rfl 1 (by decide) k1 rfl rfl dX7_drift_21 ?_
        refine lv_aload_n hx hb dX7_drift_24 rfl (lv_at hl 0 rfl) ?_
        refine xget (ref := "FriezeFolk") (C := RX7) (T := TX7) (N := 9) (ci := 7) (v := .ref (ha 0)) hx hb hts inX7 hown hK hP 0 rfl rfl 0 (by decide) k2 rfl rfl dX7_drift_25 ?_
        obtain ⟨v5, q5, h23⟩ := obn h22
        clear h22
        refine xVv (As := [.ref (ha 0)]) (ci := 0) ⟨hx, hb, hml, hown, hts⟩ (k_X0_copy l D ca tra ha tr h _ q5) (cwV 1 hts gX7_drift_X0_copy rfl rfl rfl (by decide +kernel) ⟨Nat.le_of_ble_eq_true rfl, Nat.le_of_ble_eq_true rfl⟩) hK hA hP hD hS dX7_drift_28 rfl hl.1 [7, 8, 9, 10, 11, 12, 1, 2, 3, 4, 5, 6] [0] [0, 7, 8, 9, 10, 11, 12, 1, 2, 3, 4, 5, 6] rfl rfl (wr := ((cF ffa (ha 0) (tra 0) r2 r3 r4 r5 r6 r7 ff))) rfl rfl (by decide) (wn := ((cF ffa (ha 0) (tra 0) r2 r3 r4 r5 r6 r7 ff) ++ (cH ca ha h) ++ (cH ca tra v5))) rfl rfl rfl rfl rfl rfl (Nat.le_of_ble_eq_true rfl) (fun H locs hP hD hS => ?_)
        refine lv_iload_n hx hb dX7_drift_31 rfl (lv_at hl 1 rfl) ?_
        refine lv_istore (lv' := [(4, .int x), (0, .ref ffa), (1, .int x), (2, .int n), (3, .int w)]) hx hb dX7_drift_32 hl (by decide) rfl (fun ls hl => ?_)
        refine lv_iconst (v := (0 : Int32)) hx hb dX7_drift_34 (by decide) ?_
        refine lv_istore (lv' := [(5, .int (0 : Int32)), (4, .int x), (0, .ref ffa), (1, .int x), (2, .int n), (3, .int w)]) hx hb dX7_drift_35 hl (by decide) rfl (fun ls hl => ?_)
        refine lv_iconst (v := (0 : Int32)) hx hb dX7_drift_37 (by decide) ?_
        refine lv_istore (lv' := [(6, .int (0 : Int32)), (5, .int (0 : Int32)), (4, .int x), (0, .ref ffa), (1, .int x), (2, .int n), (3, .int w)]) hx hb dX7_drift_38 hl (by decide) rfl (fun ls hl => ?_)
        refine lv_iconst (v := (0 : Int32)) hx hb dX7_drift_40 (by decide) ?_
        refine lv_istore (lv' := [(7, .int (0 : Int32)), (6, .int (0 : Int32)), (5, .int (0 : Int32)), (4, .int x), (0, .ref ffa), (1, .int x), (2, .int n), (3, .int w)]) hx hb dX7_drift_41 hl (by decide) rfl (fun ls hl => ?_)
        obtain ⟨e20, w24, h25⟩ := obn h23
        clear h23
        have AF20 : ∀ (ls : Array Slot) (H : Heap) (locs : List Loc), lv_has ls 9 [(3, .int w), (5, .int e20.2.1), (6, .int e20.2.2.1)] → va_P D vwCl ((cF ffa (ha 0) (tra 0) r2 r3 r4 r5 r6 r7 ff) ++ (cH ca ha h) ++ (cH ca tra e20.2.2.2.2)) H → va_D A ((cF ffa (ha 0) (tra 0) r2 r3 r4 r5 r6 r7 ff) ++ (cH ca ha h) ++ (cH ca tra e20.2.2.2.2)) → va_S A s.heap H locs → W p l e rmX7_drift s m ([.ref ffa, .int x, .int n, .int w] : List Value).toArray below meth c H locs 0 0 Z (F0 m 128 ls []) := by
          intro ls H locs hl hP hD hS
          refine lv_iload_n hx hb dX7_drift_128 rfl (lv_at hl 0 rfl) ?_
          refine lv_if_ne (tgt := 137) hx hb dX7_drift_129 (by decide) (fun c21 => ?_) (fun c21 => ?_)
          · skip
            replace h25 := (if_neg c21).symm.trans h25
            refine lv_iload hx hb dX7_drift_137 (lv_at hl 2 rfl) ?_
            obtain rfl := Option.some.inj h25
            exact hret _ _ _ _ (vp_nar_int _) hP hD hS dX7_drift_139
          · skip
            replace h25 := (if_pos c21).symm.trans h25
            refine lv_iload hx hb dX7_drift_132 (lv_at hl 1 rfl) ?_
            refine lv_goto (tgt := 139) hx hb dX7_drift_134 (by decide) ?_
            obtain rfl := Option.some.inj h25
            exact hret _ _ _ _ (vp_nar_int _) hP hD hS dX7_drift_139
        refine whO_walk (I := fun s13 => ∀ (ls : Array Slot) (H : Heap) (locs : List Loc), lv_has ls 9 [(0, .ref ffa), (2, .int n), (3, .int w), (4, .int s13.1), (5, .int s13.2.1), (6, .int s13.2.2.1), (7, .int s13.2.2.2.1)] → va_P D vwCl ((cF ffa (ha 0) (tra 0) r2 r3 r4 r5 r6 r7 ff) ++ (cH ca ha h) ++ (cH ca tra s13.2.2.2.2)) H → va_D A ((cF ffa (ha 0) (tra 0) r2 r3 r4 r5 r6 r7 ff) ++ (cH ca ha h) ++ (cH ca tra s13.2.2.2.2)) → va_S A s.heap H locs → W p l e rmX7_drift s m ([.ref ffa, .int x, .int n, .int w] : List Value).toArray below meth c H locs 0 0 Z (F0 m 43 ls [])) ?_ _ _ w24 _ _ _ (lv_sub hl [4, 6, 7, 3, 2, 1, 0] rfl) hP hD hS
        clear w24
        intro s13 o20 h26 hi20 ho20 ls H locs hl hP hD hS
        unfold mX7_drift_l43 at h26
        refine lv_iload hx hb dX7_drift_43 (lv_at hl 6 rfl) ?_
        refine lv_iload_n hx hb dX7_drift_45 rfl (lv_at hl 1 rfl) ?_
        refine lv_icmp_ge (tgt := 128) hx hb dX7_drift_46 (by decide) (fun c14 => ?_) (fun c14 => ?_)
        · skip
          replace h26 := (if_pos c14).symm.trans h26
          have h27 := ho20 _ (Option.some.inj h26).symm
          subst h27
          exact AF20 _ _ _ (lv_sub hl [2, 4, 5] rfl) hP hD hS
        · skip
          replace h26 := (if_neg c14).symm.trans h26
          refine lv_iload hx hb dX7_drift_49 (lv_at hl 3 rfl) ?_
          refine lv_ldc hx hb hown k3 dX7_drift_51 ?_
          refine lv_imul hx hb dX7_drift_53 ?_
          refine lv_sipush (v := (12345 : Int32)) hx hb dX7_drift_54 (by decide) ?_
          refine lv_iadd hx hb dX7_drift_57 ?_
          refine lv_istore (lv' := [(4, .int ((s13.1 * (1103515245 : Int32)) + (12345 : Int32))), (0, .ref ffa), (2, .int n), (3, .int w), (5, .int s13.2.1), (6, .int s13.2.2.1), (7, .int s13.2.2.2.1)]) hx hb dX7_drift_58 hl (by decide) rfl (fun ls hl => ?_)
          refine lv_iload hx hb dX7_drift_60 (lv_at hl 0 rfl) ?_
          refine lv_bipush (v := (16 : Int32)) hx hb dX7_drift_62 (by decide) ?_
          refine lv_iushr (v := (((s13.1 * (1103515245 : Int32)) + (12345 : Int32)).toUInt32 >>> ((16 : Int32).toUInt32 &&& Int32.toUInt32 31)).toInt32) hx hb dX7_drift_64 rfl ?_
          refine lv_sipush (v := (32767 : Int32)) hx hb dX7_drift_65 (by decide) ?_
          refine lv_iand hx hb dX7_drift_68 ?_
          refine lv_istore (lv' := [(8, .int ((((s13.1 * (1103515245 : Int32)) + (12345 : Int32)).toUInt32 >>> ((16 : Int32).toUInt32 &&& Int32.toUInt32 31)).toInt32 &&& (32767 : Int32))), (4, .int ((s13.1 * (1103515245 : Int32)) + (12345 : Int32))), (0, .ref ffa), (2, .int n), (3, .int w), (5, .int s13.2.1), (6, .int s13.2.2.1), (7, .int s13.2.2.2.1)]) hx hb dX7_drift_69 hl (by decide) rfl (fun ls hl => ?_)
          refine lv_aload_n hx hb dX7_drift_71 rfl (lv_at hl 2 rfl) ?_
          refine xget (ref := "FriezeFolk") (C := RX7) (T := TX7) (N := 9) (ci := 7) (v := .ref (tra 0)) hx hb hts inX7 hown hK hP 0 rfl rfl 1 (by decide) k1 rfl rfl dX7_drift_72 ?_
          refine lv_iload hx hb dX7_drift_75 (lv_at hl 0 rfl) ?_
          refine lv_bipush (v := (6 : Int32)) hx hb dX7_drift_77 (by decide) ?_
          obtain ⟨v15, q15, h28⟩ := obn h26
          clear h26
          refine xirm hx hb q15 dX7_drift_79 ?_
          refine xput (ref := "FriezeFolk$Hall") (C := RX0) (T := TX0) (N := 13) (ci := 0) (v := .int v15) (ty := .int) hx hb hts inX0 tyX0 tyX0_ok nmX0 hown hK hP hD hS 7 rfl rfl 7 (by decide) k4 rfl rfl (by decide +kernel) rfl rfl (Nat.le_of_ble_eq_true rfl) dX7_drift_80 (wn := ((cF ffa (ha 0) (tra 0) r2 r3 r4 r5 r6 r7 ff) ++ (cH ca ha h) ++ (cH ca tra (sI s13.2.2.2.2 7 v15)))) rfl (fun H locs hP hD hS => ?_)
          refine lv_aload_n hx hb dX7_drift_83 rfl (lv_at hl 2 rfl) ?_
          refine xget (ref := "FriezeFolk") (C := RX7) (T := TX7) (N := 9) (ci := 7) (v := .ref (tra 0)) hx hb hts inX7 hown hK hP 0 rfl rfl 1 (by decide) k1 rfl rfl dX7_drift_84 ?_
          refine lv_iload hx hb dX7_drift_87 (lv_at hl 0 rfl) ?_
          refine lv_bipush (v := (8 : Int32)) hx hb dX7_drift_89 (by decide) ?_
          obtain ⟨v16, q16, h29⟩ := obn h28
          clear h28
          refine xidv hx hb q16 dX7_drift_91 ?_
          refine lv_bipush (v := (12 : Int32)) hx hb dX7_drift_92 (by decide) ?_
          obtain ⟨v17, q17, h30⟩ := obn h29
          clear h29
          refine xirm hx hb q17 dX7_drift_94 ?_
          refine xput (ref := "FriezeFolk$Hall") (C := RX0) (T := TX0) (N := 13) (ci := 0) (v := .int v17) (ty := .int) hx hb hts inX0 tyX0 tyX0_ok nmX0 hown hK hP hD hS 7 rfl rfl 8 (by decide) k5 rfl rfl (by decide +kernel) rfl rfl (Nat.le_of_ble_eq_true rfl) dX7_drift_95 (wn := ((cF ffa (ha 0) (tra 0) r2 r3 r4 r5 r6 r7 ff) ++ (cH ca ha h) ++ (cH ca tra (sI (sI s13.2.2.2.2 7 v15) 8 v17)))) rfl (fun H locs hP hD hS => ?_)
          refine lv_aload_n hx hb dX7_drift_98 rfl (lv_at hl 2 rfl) ?_
          refine xget (ref := "FriezeFolk") (C := RX7) (T := TX7) (N := 9) (ci := 7) (v := .ref (tra 0)) hx hb hts inX7 hown hK hP 0 rfl rfl 1 (by decide) k1 rfl rfl dX7_drift_99 ?_
          refine lv_iconst (v := (1 : Int32)) hx hb dX7_drift_102 (by decide) ?_
          obtain ⟨v18, q18, h31⟩ := obn h30
          clear h30
          refine xVv (As := [.int (1 : Int32)]) (ci := 0) ⟨hx, hb, hml, hown, hts⟩ (k_X0_pass l D ca tra (sI (sI s13.2.2.2.2 7 v15) 8 v17) (1 : Int32) _ q18) (cwV 1 hts gX7_drift_X0_pass rfl rfl rfl (by decide +kernel) ⟨Nat.le_of_ble_eq_true rfl, Nat.le_of_ble_eq_true rfl⟩) hK hA hP hD hS dX7_drift_103 rfl hl.1 [7, 8, 9, 10, 11, 12] [0, 1, 2, 3, 4, 5, 6] [0, 1, 2, 3, 4, 5, 6, 7, 8, 9, 10, 11, 12] rfl rfl (wr := ((cF ffa (ha 0) (tra 0) r2 r3 r4 r5 r6 r7 ff) ++ (cH ca ha h))) rfl rfl (by decide) (wn := ((cF ffa (ha 0) (tra 0) r2 r3 r4 r5 r6 r7 ff) ++ (cH ca ha h) ++ (cH ca tra v18))) rfl rfl rfl rfl rfl rfl (Nat.le_of_ble_eq_true rfl) (fun H locs hP hD hS => ?_)
          refine lv_aload_n hx hb dX7_drift_106 rfl (lv_at hl 2 rfl) ?_
          refine xget (ref := "FriezeFolk") (C := RX7) (T := TX7) (N := 9) (ci := 7) (v := .ref (tra 0)) hx hb hts inX7 hown hK hP 0 rfl rfl 1 (by decide) k1 rfl rfl dX7_drift_107 ?_
          obtain ⟨v19, q19, h32⟩ := obn h31
          clear h31
          refine xVi (As := []) (ci := 0) ⟨hx, hb, hml, hown, hts⟩ (k_X0_frankOfAll l D ca tra v18 _ q19) (cwV 0 hts gX7_drift_X0_frankOfAll rfl rfl rfl (by decide +kernel) ⟨Nat.le_of_ble_eq_true rfl, Nat.le_of_ble_eq_true rfl⟩) hK hA hP hD hS dX7_drift_110 rfl hl.1 [7, 8, 9, 10, 11, 12] [0, 1, 2, 3, 4, 5, 6] [0, 1, 2, 3, 4, 5, 6, 7, 8, 9, 10, 11, 12] rfl rfl (wr := ((cF ffa (ha 0) (tra 0) r2 r3 r4 r5 r6 r7 ff) ++ (cH ca ha h))) rfl rfl (by decide) (wn := ((cF ffa (ha 0) (tra 0) r2 r3 r4 r5 r6 r7 ff) ++ (cH ca ha h) ++ (cH ca tra v18))) rfl rfl rfl rfl rfl rfl (Nat.le_of_ble_eq_true rfl) (fun H locs hP hD hS => ?_)
          refine lv_istore (lv' := [(6, .int v19), (8, .int ((((s13.1 * (1103515245 : Int32)) + (12345 : Int32)).toUInt32 >>> ((16 : Int32).toUInt32 &&& Int32.toUInt32 31)).toInt32 &&& (32767 : Int32))), (4, .int ((s13.1 * (1103515245 : Int32)) + (12345 : Int32))), (0, .ref ffa), (2, .int n), (3, .int w), (5, .int s13.2.1), (7, .int s13.2.2.2.1)]) hx hb dX7_drift_113 hl (by decide) rfl (fun ls hl => ?_)
          refine lv_iload hx hb dX7_drift_115 (lv_at hl 6 rfl) ?_
          refine lv_iload hx hb dX7_drift_117 (lv_at hl 0 rfl) ?_
          refine lv_iadd hx hb dX7_drift_119 ?_
          refine lv_istore (lv' := [(5, .int (s13.2.1 + v19)), (6, .int v19), (8, .int ((((s13.1 * (1103515245 : Int32)) + (12345 : Int32)).toUInt32 >>> ((16 : Int32).toUInt32 &&& Int32.toUInt32 31)).toInt32 &&& (32767 : Int32))), (4, .int ((s13.1 * (1103515245 : Int32)) + (12345 : Int32))), (0, .ref ffa), (2, .int n), (3, .int w), (7, .int s13.2.2.2.1)]) hx hb dX7_drift_120 hl (by decide) rfl (fun ls hl => ?_)
          refine lv_iinc (v := (s13.2.2.2.1 + (1 : Int32))) (lv' := [(7, .int (s13.2.2.2.1 + (1 : Int32))), (5, .int (s13.2.1 + v19)), (6, .int v19), (8, .int ((((s13.1 * (1103515245 : Int32)) + (12345 : Int32)).toUInt32 >>> ((16 : Int32).toUInt32 &&& Int32.toUInt32 31)).toInt32 &&& (32767 : Int32))), (4, .int ((s13.1 * (1103515245 : Int32)) + (12345 : Int32))), (0, .ref ffa), (2, .int n), (3, .int w)]) hx hb dX7_drift_122 hl (k := 7) rfl rfl (by decide) rfl (fun ls hl => ?_)
          refine lv_goto (tgt := 43) hx hb dX7_drift_125 (by decide) ?_
          exact hi20 _ (Option.some.inj h32).symm _ _ _ (lv_sub hl [5, 6, 7, 4, 1, 2, 0] rfl) hP hD hS
      · skip
        replace h22 := (if_neg c4).symm.trans h22
        refine lv_iconst (v := (-1 : Int32)) hx hb dX7_drift_18 (by decide) ?_
        obtain rfl := Option.some.inj h22
        exact hret _ _ _ _ (vp_nar_int _) hP hD hS dX7_drift_19

def mX7_cover (h : GS) (pa : GS) (n : Int32) (w : Int32) : Option (Int32 × GS) :=
  if n < 0 then
    some ((-1 : Int32), pa)
  else
    if (60 : Int32) < n then
      some ((-1 : Int32), pa)
    else
      Option.bind (mX7_isNoPair w) fun v3 =>
      if v3 = 0 then
        Option.bind (
          if (h.2 12) = 0 then
            if n ≤ 0 then
              some (.inl ())
            else
              some (.inr ((-4 : Int32), pa))
          else
            some (.inl ())) fun (v7 : (Unit) ⊕ (Int32 × GS)) => esc v7 fun t8 =>
        Option.bind (mX4_reckon pa h (-4 : Int32)) fun v9 =>
        Option.bind (mX4_leastPrice v9 n) fun v10 =>
        if w = 0 then
          some (v10, v9)
        else
          Option.bind (mX4_leastLeft v9 n v10) fun v12 =>
          some (v12, v9)
      else
        some ((-1 : Int32), pa)
abbrev rmX7_cover : Room := { frames := 2, cells := 0, slots := 0, locals := 50 }
set_option maxHeartbeats 4000000 in
set_option maxRecDepth 100000 in
theorem k_X7_cover (l : Launch) (D : va_G) (ca : Nat → ClassId) (ffa : Nat) (r1 r2 r3 r4 r6 r7 : Nat) (ha : Nat → Nat) (paa : Nat → Nat) (ff : Int32) (h : GS) (pa : GS) (n : Int32) (w : Int32) (o : Int32 × GS) (hm : mX7_cover h pa n w = some o) : KI l yX7_cover wsX7_cover rmX7_cover D ca [.ref ffa, .int n, .int w] ((cF ffa (ha 0) r1 r2 r3 r4 (paa 0) r6 r7 ff) ++ (cH ca ha h) ++ (cP ca paa pa)) ((cF ffa (ha 0) r1 r2 r3 r4 (paa 0) r6 r7 ff) ++ (cH ca ha h) ++ (cP ca paa o.2)) o.1 := by
  refine KI.of (cc := cX7_cover) (n := 4) (plainFor_of_name (by decide)) rfl (Nat.le_of_ble_eq_true rfl) ?_
  intro p e s m below meth c A Z hx hb hml hts hown hA hK hP hD hS hret ls hl
  have hown : s.vm.findClass RX7 = some m.cls := hown
  have hl : lv_has ls 4 [(0, .ref ffa), (1, .int n), (2, .int w)] := hl
  have inX0 : ∀ w ∈ wsX00, w ∈ wsX7_cover := by decide +kernel
  have inX7 : ∀ w ∈ wsX70, w ∈ wsX7_cover := by decide +kernel
  have k1 := hts (.fieldLink RX7 10 "FriezeFolk" "hall" "LFriezeFolk$Hall;") (by decide +kernel)
  have k2 := hts (.fieldLink RX7 117 "FriezeFolk$Hall" "rolls" "I") (by decide +kernel)
  have k3 := hts (.fieldLink RX7 43 "FriezeFolk" "paperer" "LFriezeFolk$Paperer;") (by decide +kernel)
  unfold mX7_cover at hm
  refine lv_iload_n hx hb dX7_cover_0 rfl (lv_at hl 1 rfl) ?_
  refine lv_if_lt (tgt := 17) hx hb dX7_cover_1 (by decide) (fun c1 => ?_) (fun c1 => ?_)
  · skip
    replace hm := (if_pos c1).symm.trans hm
    refine lv_iconst (v := (-1 : Int32)) hx hb dX7_cover_17 (by decide) ?_
    obtain rfl := Option.some.inj hm
    exact hret _ _ _ _ (vp_nar_int _) hP hD hS dX7_cover_18
  · skip
    replace hm := (if_neg c1).symm.trans hm
    refine lv_iload_n hx hb dX7_cover_4 rfl (lv_at hl 1 rfl) ?_
    refine lv_bipush (v := (60 : Int32)) hx hb dX7_cover_5 (by decide) ?_
    refine lv_icmp_gt (tgt := 17) hx hb dX7_cover_7 (by decide) (fun c2 => ?_) (fun c2 => ?_)
    · skip
      replace hm := (if_pos c2).symm.trans hm
      refine lv_iconst (v := (-1 : Int32)) hx hb dX7_cover_17 (by decide) ?_
      obtain rfl := Option.some.inj hm
      exact hret _ _ _ _ (vp_nar_int _) hP hD hS dX7_cover_18
    · skip
      replace hm := (if_neg c2).symm.trans hm
      refine lv_iload_n hx hb dX7_cover_10 rfl (lv_at hl 2 rfl) ?_
      obtain ⟨v3, q3, h13⟩ := obn hm
      clear hm
      refine xSi (As := [.int w]) ⟨hx, hb, hml, hown, hts⟩ (k_X7_isNoPair l D ca  w _ q3) (va_cwS 1 hts gX7_cover_X7_isNoPair rfl rfl rfl (by decide +kernel) ⟨Nat.le_of_ble_eq_true rfl, Nat.le_of_ble_eq_true rfl⟩) hK hA hP hD hS dX7_cover_11 rfl hl.1 [] [0, 1, 2, 3, 4, 5, 6, 7, 8, 9] [0, 1, 2, 3, 4, 5, 6, 7, 8, 9] rfl rfl (wr := ((cF ffa (ha 0) r1 r2 r3 r4 (paa 0) r6 r7 ff) ++ (cH ca ha h) ++ (cP ca paa pa))) rfl rfl (by decide) (wn := ((cF ffa (ha 0) r1 r2 r3 r4 (paa 0) r6 r7 ff) ++ (cH ca ha h) ++ (cP ca paa pa))) rfl rfl rfl (Nat.le_of_ble_eq_true rfl) (fun H locs hP hD hS => ?_)
      refine lv_if_eq (tgt := 19) hx hb dX7_cover_14 (by decide) (fun c4 => ?_) (fun c4 => ?_)
      · skip
        replace h13 := (if_pos c4).symm.trans h13
        refine lv_aload_n hx hb dX7_cover_19 rfl (lv_at hl 0 rfl) ?_
        refine xget (ref := "FriezeFolk") (C := RX7) (T := TX7) (N := 9) (ci := 7) (v := .ref (ha 0)) hx hb hts inX7 hown hK hP 0 rfl rfl 0 (by decide) k1 rfl rfl dX7_cover_20 ?_
        refine xget (ref := "FriezeFolk$Hall") (C := RX0) (T := TX0) (N := 13) (ci := 0) (v := .int (h.2 12)) hx hb hts inX0 hown hK hP 1 rfl rfl 12 (by decide) k2 rfl rfl dX7_cover_23 ?_
        obtain ⟨v7, q14, h15⟩ := obn h13
        clear h13
        have J7 : ∀ t8, v7 = .inl t8 → ∀ (ls : Array Slot) (H : Heap) (locs : List Loc), lv_has ls 4 [(0, .ref ffa), (1, .int n), (2, .int w)] → va_P D vwCl ((cF ffa (ha 0) r1 r2 r3 r4 (paa 0) r6 r7 ff) ++ (cH ca ha h) ++ (cP ca paa pa)) H → va_D A ((cF ffa (ha 0) r1 r2 r3 r4 (paa 0) r6 r7 ff) ++ (cH ca ha h) ++ (cP ca paa pa)) → va_S A s.heap H locs → W p l e rmX7_cover s m ([.ref ffa, .int n, .int w] : List Value).toArray below meth c H locs 0 0 Z (F0 m 36 ls []) := by
          intro t8 ht ls H locs hl hP hD hS
          subst ht
          replace h15 := (esc_l _ _).symm.trans h15
          refine lv_aload_n hx hb dX7_cover_36 rfl (lv_at hl 0 rfl) ?_
          refine xget (ref := "FriezeFolk") (C := RX7) (T := TX7) (N := 9) (ci := 7) (v := .ref (paa 0)) hx hb hts inX7 hown hK hP 0 rfl rfl 5 (by decide) k3 rfl rfl dX7_cover_37 ?_
          refine lv_aload_n hx hb dX7_cover_40 rfl (lv_at hl 0 rfl) ?_
          refine xget (ref := "FriezeFolk") (C := RX7) (T := TX7) (N := 9) (ci := 7) (v := .ref (ha 0)) hx hb hts inX7 hown hK hP 0 rfl rfl 0 (by decide) k1 rfl rfl dX7_cover_41 ?_
          refine lv_bipush (v := (-4 : Int32)) hx hb dX7_cover_44 (by decide) ?_
          obtain ⟨v9, q9, h16⟩ := obn h15
          clear h15
          refine xVv (As := [.ref (ha 0), .int (-4 : Int32)]) (ci := 4) ⟨hx, hb, hml, hown, hts⟩ (k_X4_reckon l D ca paa ha pa h (-4 : Int32) _ q9) (cwV 2 hts gX7_cover_X4_reckon rfl rfl rfl (by decide +kernel) ⟨Nat.le_of_ble_eq_true rfl, Nat.le_of_ble_eq_true rfl⟩) hK hA hP hD hS dX7_cover_46 rfl hl.1 [7, 8, 9, 1, 2, 3, 4, 5, 6] [0] [0, 4, 5, 6, 7, 8, 9, 1, 2, 3] rfl rfl (wr := ((cF ffa (ha 0) r1 r2 r3 r4 (paa 0) r6 r7 ff))) rfl rfl (by decide) (wn := ((cF ffa (ha 0) r1 r2 r3 r4 (paa 0) r6 r7 ff) ++ (cH ca ha h) ++ (cP ca paa v9))) rfl rfl rfl rfl rfl rfl (Nat.le_of_ble_eq_true rfl) (fun H locs hP hD hS => ?_)
          refine lv_aload_n hx hb dX7_cover_49 rfl (lv_at hl 0 rfl) ?_
          refine xget (ref := "FriezeFolk") (C := RX7) (T := TX7) (N := 9) (ci := 7) (v := .ref (paa 0)) hx hb hts inX7 hown hK hP 0 rfl rfl 5 (by decide) k3 rfl rfl dX7_cover_50 ?_
          refine lv_iload_n hx hb dX7_cover_53 rfl (lv_at hl 1 rfl) ?_
          obtain ⟨v10, q10, h17⟩ := obn h16
          clear h16
          refine xVi (As := [.int n]) (ci := 4) ⟨hx, hb, hml, hown, hts⟩ (k_X4_leastPrice l D ca paa v9 n _ q10) (cwV 1 hts gX7_cover_X4_leastPrice rfl rfl rfl (by decide +kernel) ⟨Nat.le_of_ble_eq_true rfl, Nat.le_of_ble_eq_true rfl⟩) hK hA hP hD hS dX7_cover_54 rfl hl.1 [7, 8, 9] [0, 1, 2, 3, 4, 5, 6] [0, 1, 2, 3, 4, 5, 6, 7, 8, 9] rfl rfl (wr := ((cF ffa (ha 0) r1 r2 r3 r4 (paa 0) r6 r7 ff) ++ (cH ca ha h))) rfl rfl (by decide) (wn := ((cF ffa (ha 0) r1 r2 r3 r4 (paa 0) r6 r7 ff) ++ (cH ca ha h) ++ (cP ca paa v9))) rfl rfl rfl rfl rfl rfl (Nat.le_of_ble_eq_true rfl) (fun H locs hP hD hS => ?_)
          refine lv_istore_n (lv' := [(3, .int v10), (0, .ref ffa), (1, .int n), (2, .int w)]) hx hb dX7_cover_57 rfl hl (by decide) rfl (fun ls hl => ?_)
          refine lv_iload_n hx hb dX7_cover_58 rfl (lv_at hl 3 rfl) ?_
          refine lv_if_ne (tgt := 66) hx hb dX7_cover_59 (by decide) (fun c11 => ?_) (fun c11 => ?_)
          · skip
            replace h17 := (if_neg c11).symm.trans h17
            refine lv_aload_n hx hb dX7_cover_66 rfl (lv_at hl 1 rfl) ?_
            refine xget (ref := "FriezeFolk") (C := RX7) (T := TX7) (N := 9) (ci := 7) (v := .ref (paa 0)) hx hb hts inX7 hown hK hP 0 rfl rfl 5 (by decide) k3 rfl rfl dX7_cover_67 ?_
            refine lv_iload_n hx hb dX7_cover_70 rfl (lv_at hl 2 rfl) ?_
            refine lv_iload_n hx hb dX7_cover_71 rfl (lv_at hl 0 rfl) ?_
            obtain ⟨v12, q12, h18⟩ := obn h17
            clear h17
            refine xVi (As := [.int n, .int v10]) (ci := 4) ⟨hx, hb, hml, hown, hts⟩ (k_X4_leastLeft l D ca paa v9 n v10 _ q12) (cwV 2 hts gX7_cover_X4_leastLeft rfl rfl rfl (by decide +kernel) ⟨Nat.le_of_ble_eq_true rfl, Nat.le_of_ble_eq_true rfl⟩) hK hA hP hD hS dX7_cover_72 rfl hl.1 [7, 8, 9] [0, 1, 2, 3, 4, 5, 6] [0, 1, 2, 3, 4, 5, 6, 7, 8, 9] rfl rfl (wr := ((cF ffa (ha 0) r1 r2 r3 r4 (paa 0) r6 r7 ff) ++ (cH ca ha h))) rfl rfl (by decide) (wn := ((cF ffa (ha 0) r1 r2 r3 r4 (paa 0) r6 r7 ff) ++ (cH ca ha h) ++ (cP ca paa v9))) rfl rfl rfl rfl rfl rfl (Nat.le_of_ble_eq_true rfl) (fun H locs hP hD hS => ?_)
            obtain rfl := Option.some.inj h18
            exact hret _ _ _ _ (vp_nar_int _) hP hD hS dX7_cover_75
          · skip
            replace h17 := (if_pos c11).symm.trans h17
            refine lv_iload_n hx hb dX7_cover_62 rfl (lv_at hl 0 rfl) ?_
            refine lv_goto (tgt := 75) hx hb dX7_cover_63 (by decide) ?_
            obtain rfl := Option.some.inj h17
            exact hret _ _ _ _ (vp_nar_int _) hP hD hS dX7_cover_75
        refine lv_if_ne (tgt := 36) hx hb dX7_cover_26 (by decide) (fun c5 => ?_) (fun c5 => ?_)
        · skip
          replace q14 := (if_neg c5).symm.trans q14
          obtain rfl := Option.some.inj q14
          exact J7 _ rfl _ _ _ (lv_sub hl [0, 1, 2] rfl) hP hD hS
        · skip
          replace q14 := (if_pos c5).symm.trans q14
          refine lv_iload_n hx hb dX7_cover_29 rfl (lv_at hl 1 rfl) ?_
          refine lv_if_le (tgt := 36) hx hb dX7_cover_30 (by decide) (fun c6 => ?_) (fun c6 => ?_)
          · skip
            replace q14 := (if_pos c6).symm.trans q14
            obtain rfl := Option.some.inj q14
            exact J7 _ rfl _ _ _ (lv_sub hl [0, 1, 2] rfl) hP hD hS
          · skip
            replace q14 := (if_neg c6).symm.trans q14
            refine lv_bipush (v := (-4 : Int32)) hx hb dX7_cover_33 (by decide) ?_
            obtain rfl := Option.some.inj q14
            replace h15 := (esc_r _ _).symm.trans h15
            obtain rfl := Option.some.inj h15
            exact hret _ _ _ _ (vp_nar_int _) hP hD hS dX7_cover_35
      · skip
        replace h13 := (if_neg c4).symm.trans h13
        refine lv_iconst (v := (-1 : Int32)) hx hb dX7_cover_17 (by decide) ?_
        obtain rfl := Option.some.inj h13
        exact hret _ _ _ _ (vp_nar_int _) hP hD hS dX7_cover_18

def mX7_most (h : GS) (pa : GS) (r : Int32) (n : Int32) : Option (Int32 × GS) :=
  Option.bind (mX0_hasRoll h r) fun v1 =>
  if v1 = 0 then
    some ((-1 : Int32), pa)
  else
    if n < 0 then
      some ((-1 : Int32), pa)
    else
      if n ≤ (60 : Int32) then
        Option.bind (mX4_reckon pa h r) fun v5 =>
        Option.bind (mX4_leastPrice v5 n) fun v6 =>
        Option.bind (mX4_mostChosen v5 n v6) fun v7 =>
        some (v7, v5)
      else
        some ((-1 : Int32), pa)
abbrev rmX7_most : Room := { frames := 2, cells := 0, slots := 0, locals := 50 }
set_option maxHeartbeats 4000000 in
set_option maxRecDepth 100000 in
theorem k_X7_most (l : Launch) (D : va_G) (ca : Nat → ClassId) (ffa : Nat) (r1 r2 r3 r4 r6 r7 : Nat) (ha : Nat → Nat) (paa : Nat → Nat) (ff : Int32) (h : GS) (pa : GS) (r : Int32) (n : Int32) (o : Int32 × GS) (hm : mX7_most h pa r n = some o) : KI l yX7_most wsX7_most rmX7_most D ca [.ref ffa, .int r, .int n] ((cF ffa (ha 0) r1 r2 r3 r4 (paa 0) r6 r7 ff) ++ (cH ca ha h) ++ (cP ca paa pa)) ((cF ffa (ha 0) r1 r2 r3 r4 (paa 0) r6 r7 ff) ++ (cH ca ha h) ++ (cP ca paa o.2)) o.1 := by
  refine KI.of (cc := cX7_most) (n := 3) (plainFor_of_name (by decide)) rfl (Nat.le_of_ble_eq_true rfl) ?_
  intro p e s m below meth c A Z hx hb hml hts hown hA hK hP hD hS hret ls hl
  have hown : s.vm.findClass RX7 = some m.cls := hown
  have hl : lv_has ls 3 [(0, .ref ffa), (1, .int r), (2, .int n)] := hl
  have inX7 : ∀ w ∈ wsX70, w ∈ wsX7_most := by decide +kernel
  have k1 := hts (.fieldLink RX7 10 "FriezeFolk" "hall" "LFriezeFolk$Hall;") (by decide +kernel)
  have k2 := hts (.fieldLink RX7 43 "FriezeFolk" "paperer" "LFriezeFolk$Paperer;") (by decide +kernel)
  unfold mX7_most at hm
  refine lv_aload_n hx hb dX7_most_0 rfl (lv_at hl 0 rfl) ?_
  refine xget (ref := "FriezeFolk") (C := RX7) (T := TX7) (N := 9) (ci := 7) (v := .ref (ha 0)) hx hb hts inX7 hown hK hP 0 rfl rfl 0 (by decide) k1 rfl rfl dX7_most_1 ?_
  refine lv_iload_n hx hb dX7_most_4 rfl (lv_at hl 1 rfl) ?_
  obtain ⟨v1, q1, h8⟩ := obn hm
  clear hm
  refine xVi (As := [.int r]) (ci := 0) ⟨hx, hb, hml, hown, hts⟩ (k_X0_hasRoll l D ca ha h r _ q1) (cwV 1 hts gX7_most_X0_hasRoll rfl rfl rfl (by decide +kernel) ⟨Nat.le_of_ble_eq_true rfl, Nat.le_of_ble_eq_true rfl⟩) hK hA hP hD hS dX7_most_5 rfl hl.1 [1, 2, 3, 4, 5, 6] [0, 7, 8, 9] [0, 4, 5, 6, 7, 8, 9, 1, 2, 3] rfl rfl (wr := ((cF ffa (ha 0) r1 r2 r3 r4 (paa 0) r6 r7 ff) ++ (cP ca paa pa))) rfl rfl (by decide) (wn := ((cF ffa (ha 0) r1 r2 r3 r4 (paa 0) r6 r7 ff) ++ (cH ca ha h) ++ (cP ca paa pa))) rfl rfl rfl rfl rfl rfl (Nat.le_of_ble_eq_true rfl) (fun H locs hP hD hS => ?_)
  refine lv_if_eq (tgt := 21) hx hb dX7_most_8 (by decide) (fun c2 => ?_) (fun c2 => ?_)
  · skip
    replace h8 := (if_pos c2).symm.trans h8
    refine lv_iconst (v := (-1 : Int32)) hx hb dX7_most_21 (by decide) ?_
    obtain rfl := Option.some.inj h8
    exact hret _ _ _ _ (vp_nar_int _) hP hD hS dX7_most_22
  · skip
    replace h8 := (if_neg c2).symm.trans h8
    refine lv_iload_n hx hb dX7_most_11 rfl (lv_at hl 2 rfl) ?_
    refine lv_if_lt (tgt := 21) hx hb dX7_most_12 (by decide) (fun c3 => ?_) (fun c3 => ?_)
    · skip
      replace h8 := (if_pos c3).symm.trans h8
      refine lv_iconst (v := (-1 : Int32)) hx hb dX7_most_21 (by decide) ?_
      obtain rfl := Option.some.inj h8
      exact hret _ _ _ _ (vp_nar_int _) hP hD hS dX7_most_22
    · skip
      replace h8 := (if_neg c3).symm.trans h8
      refine lv_iload_n hx hb dX7_most_15 rfl (lv_at hl 2 rfl) ?_
      refine lv_bipush (v := (60 : Int32)) hx hb dX7_most_16 (by decide) ?_
      refine lv_icmp_le (tgt := 23) hx hb dX7_most_18 (by decide) (fun c4 => ?_) (fun c4 => ?_)
      · skip
        replace h8 := (if_pos c4).symm.trans h8
        refine lv_aload_n hx hb dX7_most_23 rfl (lv_at hl 0 rfl) ?_
        refine xget (ref := "FriezeFolk") (C := RX7) (T := TX7) (N := 9) (ci := 7) (v := .ref (paa 0)) hx hb hts inX7 hown hK hP 0 rfl rfl 5 (by decide) k2 rfl rfl dX7_most_24 ?_
        refine lv_aload_n hx hb dX7_most_27 rfl (lv_at hl 0 rfl) ?_
        refine xget (ref := "FriezeFolk") (C := RX7) (T := TX7) (N := 9) (ci := 7) (v := .ref (ha 0)) hx hb hts inX7 hown hK hP 0 rfl rfl 0 (by decide) k1 rfl rfl dX7_most_28 ?_
        refine lv_iload_n hx hb dX7_most_31 rfl (lv_at hl 1 rfl) ?_
        obtain ⟨v5, q5, h9⟩ := obn h8
        clear h8
        refine xVv (As := [.ref (ha 0), .int r]) (ci := 4) ⟨hx, hb, hml, hown, hts⟩ (k_X4_reckon l D ca paa ha pa h r _ q5) (cwV 2 hts gX7_most_X4_reckon rfl rfl rfl (by decide +kernel) ⟨Nat.le_of_ble_eq_true rfl, Nat.le_of_ble_eq_true rfl⟩) hK hA hP hD hS dX7_most_32 rfl hl.1 [7, 8, 9, 1, 2, 3, 4, 5, 6] [0] [0, 4, 5, 6, 7, 8, 9, 1, 2, 3] rfl rfl (wr := ((cF ffa (ha 0) r1 r2 r3 r4 (paa 0) r6 r7 ff))) rfl rfl (by decide) (wn := ((cF ffa (ha 0) r1 r2 r3 r4 (paa 0) r6 r7 ff) ++ (cH ca ha h) ++ (cP ca paa v5))) rfl rfl rfl rfl rfl rfl (Nat.le_of_ble_eq_true rfl) (fun H locs hP hD hS => ?_)
        refine lv_aload_n hx hb dX7_most_35 rfl (lv_at hl 0 rfl) ?_
        refine xget (ref := "FriezeFolk") (C := RX7) (T := TX7) (N := 9) (ci := 7) (v := .ref (paa 0)) hx hb hts inX7 hown hK hP 0 rfl rfl 5 (by decide) k2 rfl rfl dX7_most_36 ?_
        refine lv_iload_n hx hb dX7_most_39 rfl (lv_at hl 2 rfl) ?_
        refine lv_aload_n hx hb dX7_most_40 rfl (lv_at hl 0 rfl) ?_
        refine xget (ref := "FriezeFolk") (C := RX7) (T := TX7) (N := 9) (ci := 7) (v := .ref (paa 0)) hx hb hts inX7 hown hK hP 0 rfl rfl 5 (by decide) k2 rfl rfl dX7_most_41 ?_
        refine lv_iload_n hx hb dX7_most_44 rfl (lv_at hl 2 rfl) ?_
        obtain ⟨v6, q6, h10⟩ := obn h9
        clear h9
        refine xVi (As := [.int n]) (ci := 4) ⟨hx, hb, hml, hown, hts⟩ (k_X4_leastPrice l D ca paa v5 n _ q6) (cwV 1 hts gX7_most_X4_leastPrice rfl rfl rfl (by decide +kernel) ⟨Nat.le_of_ble_eq_true rfl, Nat.le_of_ble_eq_true rfl⟩) hK hA hP hD hS dX7_most_45 rfl hl.1 [7, 8, 9] [0, 1, 2, 3, 4, 5, 6] [0, 1, 2, 3, 4, 5, 6, 7, 8, 9] rfl rfl (wr := ((cF ffa (ha 0) r1 r2 r3 r4 (paa 0) r6 r7 ff) ++ (cH ca ha h))) rfl rfl (by decide) (wn := ((cF ffa (ha 0) r1 r2 r3 r4 (paa 0) r6 r7 ff) ++ (cH ca ha h) ++ (cP ca paa v5))) rfl rfl rfl rfl rfl rfl (Nat.le_of_ble_eq_true rfl) (fun H locs hP hD hS => ?_)
        obtain ⟨v7, q7, h11⟩ := obn h10
        clear h10
        refine xVi (As := [.int n, .int v6]) (ci := 4) ⟨hx, hb, hml, hown, hts⟩ (k_X4_mostChosen l D ca paa v5 n v6 _ q7) (cwV 2 hts gX7_most_X4_mostChosen rfl rfl rfl (by decide +kernel) ⟨Nat.le_of_ble_eq_true rfl, Nat.le_of_ble_eq_true rfl⟩) hK hA hP hD hS dX7_most_48 rfl hl.1 [7, 8, 9] [0, 1, 2, 3, 4, 5, 6] [0, 1, 2, 3, 4, 5, 6, 7, 8, 9] rfl rfl (wr := ((cF ffa (ha 0) r1 r2 r3 r4 (paa 0) r6 r7 ff) ++ (cH ca ha h))) rfl rfl (by decide) (wn := ((cF ffa (ha 0) r1 r2 r3 r4 (paa 0) r6 r7 ff) ++ (cH ca ha h) ++ (cP ca paa v5))) rfl rfl rfl rfl rfl rfl (Nat.le_of_ble_eq_true rfl) (fun H locs hP hD hS => ?_)
        obtain rfl := Option.some.inj h11
        exact hret _ _ _ _ (vp_nar_int _) hP hD hS dX7_most_51
      · skip
        replace h8 := (if_neg c4).symm.trans h8
        refine lv_iconst (v := (-1 : Int32)) hx hb dX7_most_21 (by decide) ?_
        obtain rfl := Option.some.inj h8
        exact hret _ _ _ _ (vp_nar_int _) hP hD hS dX7_most_22

def mX7_luck (h : GS) (la : LmS) (x : Int32) (i : Int32) (j : Int32) (y : Int32) (w : Int32) : Option (Int64 × LmS) :=
  Option.bind (mX7_areNoLamps h x i j) fun v1 =>
  if v1 = 0 then
    if y < 0 then
      some ((-1 : Int64), la)
    else
      if (999 : Int32) < y then
        some ((-1 : Int64), la)
      else
        Option.bind (mX7_isNoPair w) fun v5 =>
        if v5 = 0 then
          Option.bind (mX2_reckon la h x i j) fun v7 =>
          Option.bind (mX2_oddsOf v7 y) fun v8 =>
          Option.bind (mX7_inLowestTerms v8 v7.2 w) fun v9 =>
          some (v9, v7)
        else
          some ((-1 : Int64), la)
  else
    some ((-1 : Int64), la)
abbrev rmX7_luck : Room := { frames := 4, cells := 0, slots := 0, locals := 92 }
set_option maxHeartbeats 4000000 in
set_option maxRecDepth 100000 in
theorem k_X7_luck (l : Launch) (D : va_G) (ca : Nat → ClassId) (ffa : Nat) (r1 r2 r3 r4 r5 r7 : Nat) (ha : Nat → Nat) (laa : Nat → Nat) (ff : Int32) (h : GS) (la : LmS) (x : Int32) (i : Int32) (j : Int32) (y : Int32) (w : Int32) (o : Int64 × LmS) (hm : mX7_luck h la x i j y w = some o) : KL l yX7_luck wsX7_luck rmX7_luck D ca [.ref ffa, .int x, .int i, .int j, .int y, .int w] ((cF ffa (ha 0) r1 r2 r3 r4 r5 (laa 0) r7 ff) ++ (cH ca ha h) ++ (cL ca laa la)) ((cF ffa (ha 0) r1 r2 r3 r4 r5 (laa 0) r7 ff) ++ (cH ca ha h) ++ (cL ca laa o.2)) o.1 := by
  refine KL.of (cc := cX7_luck) (n := 6) (plainFor_of_name (by decide)) rfl (Nat.le_of_ble_eq_true rfl) ?_
  intro p e s m below meth c A Z hx hb hml hts hown hA hK hP hD hS hret ls hl
  have hown : s.vm.findClass RX7 = some m.cls := hown
  have hl : lv_has ls 6 [(0, .ref ffa), (1, .int x), (2, .int i), (3, .int j), (4, .int y), (5, .int w)] := hl
  have inX2 : ∀ w ∈ wsX20, w ∈ wsX7_luck := by decide +kernel
  have inX7 : ∀ w ∈ wsX70, w ∈ wsX7_luck := by decide +kernel
  have k1 := hts (.constantLong RX7 209 (-1 : Int64)) (by decide +kernel)
  have k2 := hts (.fieldLink RX7 50 "FriezeFolk" "lamps" "LFriezeFolk$Lamps;") (by decide +kernel)
  have k3 := hts (.fieldLink RX7 10 "FriezeFolk" "hall" "LFriezeFolk$Hall;") (by decide +kernel)
  have k4 := hts (.fieldLink RX7 218 "FriezeFolk$Lamps" "whole" "J") (by decide +kernel)
  unfold mX7_luck at hm
  refine lv_aload_n hx hb dX7_luck_0 rfl (lv_at hl 0 rfl) ?_
  refine lv_iload_n hx hb dX7_luck_1 rfl (lv_at hl 1 rfl) ?_
  refine lv_iload_n hx hb dX7_luck_2 rfl (lv_at hl 2 rfl) ?_
  refine lv_iload_n hx hb dX7_luck_3 rfl (lv_at hl 3 rfl) ?_
  obtain ⟨v1, q1, h10⟩ := obn hm
  clear hm
  refine xVi (As := [.int x, .int i, .int j]) (ci := 7) ⟨hx, hb, hml, hown, hts⟩ (k_X7_areNoLamps l D ca ffa r1 r2 r3 r4 r5 (laa 0) r7 ha ff h x i j _ q1) (cwV 3 hts gX7_luck_X7_areNoLamps rfl rfl rfl (by decide +kernel) ⟨Nat.le_of_ble_eq_true rfl, Nat.le_of_ble_eq_true rfl⟩) hK hA hP hD hS dX7_luck_4 rfl hl.1 [0, 1, 2, 3, 4, 5, 6] [7, 8] [2, 3, 4, 5, 6, 7, 8, 0, 1] rfl rfl (wr := ((cL ca laa la))) rfl rfl (by decide) (wn := ((cF ffa (ha 0) r1 r2 r3 r4 r5 (laa 0) r7 ff) ++ (cH ca ha h) ++ (cL ca laa la))) rfl rfl rfl rfl rfl rfl (Nat.le_of_ble_eq_true rfl) (fun H locs hP hD hS => ?_)
  refine lv_if_ne (tgt := 31) hx hb dX7_luck_7 (by decide) (fun c2 => ?_) (fun c2 => ?_)
  · skip
    replace h10 := (if_neg c2).symm.trans h10
    refine lv_ldc2 hx hb hown k1 dX7_luck_31 ?_
    obtain rfl := Option.some.inj h10
    exact hret _ _ _ _ hP hD hS dX7_luck_34
  · skip
    replace h10 := (if_pos c2).symm.trans h10
    refine lv_iload hx hb dX7_luck_10 (lv_at hl 4 rfl) ?_
    refine lv_if_lt (tgt := 31) hx hb dX7_luck_12 (by decide) (fun c3 => ?_) (fun c3 => ?_)
    · skip
      replace h10 := (if_pos c3).symm.trans h10
      refine lv_ldc2 hx hb hown k1 dX7_luck_31 ?_
      obtain rfl := Option.some.inj h10
      exact hret _ _ _ _ hP hD hS dX7_luck_34
    · skip
      replace h10 := (if_neg c3).symm.trans h10
      refine lv_iload hx hb dX7_luck_15 (lv_at hl 4 rfl) ?_
      refine lv_sipush (v := (999 : Int32)) hx hb dX7_luck_17 (by decide) ?_
      refine lv_icmp_gt (tgt := 31) hx hb dX7_luck_20 (by decide) (fun c4 => ?_) (fun c4 => ?_)
      · skip
        replace h10 := (if_pos c4).symm.trans h10
        refine lv_ldc2 hx hb hown k1 dX7_luck_31 ?_
        obtain rfl := Option.some.inj h10
        exact hret _ _ _ _ hP hD hS dX7_luck_34
      · skip
        replace h10 := (if_neg c4).symm.trans h10
        refine lv_iload hx hb dX7_luck_23 (lv_at hl 5 rfl) ?_
        obtain ⟨v5, q5, h11⟩ := obn h10
        clear h10
        refine xSi (As := [.int w]) ⟨hx, hb, hml, hown, hts⟩ (k_X7_isNoPair l D ca  w _ q5) (va_cwS 1 hts gX7_luck_X7_isNoPair rfl rfl rfl (by decide +kernel) ⟨Nat.le_of_ble_eq_true rfl, Nat.le_of_ble_eq_true rfl⟩) hK hA hP hD hS dX7_luck_25 rfl hl.1 [] [0, 1, 2, 3, 4, 5, 6, 7, 8] [0, 1, 2, 3, 4, 5, 6, 7, 8] rfl rfl (wr := ((cF ffa (ha 0) r1 r2 r3 r4 r5 (laa 0) r7 ff) ++ (cH ca ha h) ++ (cL ca laa la))) rfl rfl (by decide) (wn := ((cF ffa (ha 0) r1 r2 r3 r4 r5 (laa 0) r7 ff) ++ (cH ca ha h) ++ (cL ca laa la))) rfl rfl rfl (Nat.le_of_ble_eq_true rfl) (fun H locs hP hD hS => ?_)
        refine lv_if_eq (tgt := 35) hx hb dX7_luck_28 (by decide) (fun c6 => ?_) (fun c6 => ?_)
        · skip
          replace h11 := (if_pos c6).symm.trans h11
          refine lv_aload_n hx hb dX7_luck_35 rfl (lv_at hl 0 rfl) ?_
          refine xget (ref := "FriezeFolk") (C := RX7) (T := TX7) (N := 9) (ci := 7) (v := .ref (laa 0)) hx hb hts inX7 hown hK hP 0 rfl rfl 6 (by decide) k2 rfl rfl dX7_luck_36 ?_
          refine lv_aload_n hx hb dX7_luck_39 rfl (lv_at hl 0 rfl) ?_
          refine xget (ref := "FriezeFolk") (C := RX7) (T := TX7) (N := 9) (ci := 7) (v := .ref (ha 0)) hx hb hts inX7 hown hK hP 0 rfl rfl 0 (by decide) k3 rfl rfl dX7_luck_40 ?_
          refine lv_iload_n hx hb dX7_luck_43 rfl (lv_at hl 1 rfl) ?_
          refine lv_iload_n hx hb dX7_luck_44 rfl (lv_at hl 2 rfl) ?_
          refine lv_iload_n hx hb dX7_luck_45 rfl (lv_at hl 3 rfl) ?_
          obtain ⟨v7, q7, h12⟩ := obn h11
          clear h11
          refine xVv (As := [.ref (ha 0), .int x, .int i, .int j]) (ci := 2) ⟨hx, hb, hml, hown, hts⟩ (k_X2_reckon l D ca laa ha la h x i j _ q7) (cwV 4 hts gX7_luck_X2_reckon rfl rfl rfl (by decide +kernel) ⟨Nat.le_of_ble_eq_true rfl, Nat.le_of_ble_eq_true rfl⟩) hK hA hP hD hS dX7_luck_46 rfl hl.1 [7, 8, 1, 2, 3, 4, 5, 6] [0] [0, 3, 4, 5, 6, 7, 8, 1, 2] rfl rfl (wr := ((cF ffa (ha 0) r1 r2 r3 r4 r5 (laa 0) r7 ff))) rfl rfl (by decide) (wn := ((cF ffa (ha 0) r1 r2 r3 r4 r5 (laa 0) r7 ff) ++ (cH ca ha h) ++ (cL ca laa v7))) rfl rfl rfl rfl rfl rfl (Nat.le_of_ble_eq_true rfl) (fun H locs hP hD hS => ?_)
          refine lv_aload_n hx hb dX7_luck_49 rfl (lv_at hl 0 rfl) ?_
          refine xget (ref := "FriezeFolk") (C := RX7) (T := TX7) (N := 9) (ci := 7) (v := .ref (laa 0)) hx hb hts inX7 hown hK hP 0 rfl rfl 6 (by decide) k2 rfl rfl dX7_luck_50 ?_
          refine lv_iload hx hb dX7_luck_53 (lv_at hl 4 rfl) ?_
          obtain ⟨v8, q8, h13⟩ := obn h12
          clear h12
          refine xVl (As := [.int y]) (ci := 2) ⟨hx, hb, hml, hown, hts⟩ (k_X2_oddsOf l D ca laa v7 y _ q8) (cwV 1 hts gX7_luck_X2_oddsOf rfl rfl rfl (by decide +kernel) ⟨Nat.le_of_ble_eq_true rfl, Nat.le_of_ble_eq_true rfl⟩) hK hA hP hD hS dX7_luck_55 rfl hl.1 [7, 8] [0, 1, 2, 3, 4, 5, 6] [0, 1, 2, 3, 4, 5, 6, 7, 8] rfl rfl (wr := ((cF ffa (ha 0) r1 r2 r3 r4 r5 (laa 0) r7 ff) ++ (cH ca ha h))) rfl rfl (by decide) (wn := ((cF ffa (ha 0) r1 r2 r3 r4 r5 (laa 0) r7 ff) ++ (cH ca ha h) ++ (cL ca laa v7))) rfl rfl rfl rfl rfl rfl (Nat.le_of_ble_eq_true rfl) (fun H locs hP hD hS => ?_)
          refine lv_aload_n hx hb dX7_luck_58 rfl (lv_at hl 0 rfl) ?_
          refine xget (ref := "FriezeFolk") (C := RX7) (T := TX7) (N := 9) (ci := 7) (v := .ref (laa 0)) hx hb hts inX7 hown hK hP 0 rfl rfl 6 (by decide) k2 rfl rfl dX7_luck_59 ?_
          refine xget (ref := "FriezeFolk$Lamps") (C := RX2) (T := TX2) (N := 2) (ci := 2) (v := .long v7.2) hx hb hts inX2 hown hK hP 7 rfl rfl 1 (by decide) k4 rfl rfl dX7_luck_62 ?_
          refine lv_iload hx hb dX7_luck_65 (lv_at hl 5 rfl) ?_
          obtain ⟨v9, q9, h14⟩ := obn h13
          clear h13
          refine xSl (As := [.long v8, .long v7.2, .int w]) ⟨hx, hb, hml, hown, hts⟩ (k_X7_inLowestTerms l D ca  v8 v7.2 w _ q9) (va_cwS 3 hts gX7_luck_X7_inLowestTerms rfl rfl rfl (by decide +kernel) ⟨Nat.le_of_ble_eq_true rfl, Nat.le_of_ble_eq_true rfl⟩) hK hA hP hD hS dX7_luck_67 rfl hl.1 [] [0, 1, 2, 3, 4, 5, 6, 7, 8] [0, 1, 2, 3, 4, 5, 6, 7, 8] rfl rfl (wr := ((cF ffa (ha 0) r1 r2 r3 r4 r5 (laa 0) r7 ff) ++ (cH ca ha h) ++ (cL ca laa v7))) rfl rfl (by decide) (wn := ((cF ffa (ha 0) r1 r2 r3 r4 r5 (laa 0) r7 ff) ++ (cH ca ha h) ++ (cL ca laa v7))) rfl rfl rfl (Nat.le_of_ble_eq_true rfl) (fun H locs hP hD hS => ?_)
          obtain rfl := Option.some.inj h14
          exact hret _ _ _ _ hP hD hS dX7_luck_70
        · skip
          replace h11 := (if_neg c6).symm.trans h11
          refine lv_ldc2 hx hb hown k1 dX7_luck_31 ?_
          obtain rfl := Option.some.inj h11
          exact hret _ _ _ _ hP hD hS dX7_luck_34

def mX7_see (me : GS) (i : Int32) (x : Int32) : Option (Int32 × GS) :=
  if i < 0 then
    some ((-1 : Int32), me)
  else
    if (12 : Int32) ≤ i then
      some ((-1 : Int32), me)
    else
      if x < 0 then
        some ((-1 : Int32), me)
      else
        if x ≤ (99 : Int32) then
          Option.bind (mX3_add me i x) fun v5 =>
          if v5.1 = 0 then
            some ((-3 : Int32), v5.2)
          else
            some ((v5.2.2 2), v5.2)
        else
          some ((-1 : Int32), me)
abbrev rmX7_see : Room := { frames := 1, cells := 0, slots := 0, locals := 22 }
set_option maxHeartbeats 4000000 in
set_option maxRecDepth 100000 in
theorem k_X7_see (l : Launch) (D : va_G) (ca : Nat → ClassId) (ffa : Nat) (r0 r1 r2 r3 r5 r6 r7 : Nat) (mea : Nat → Nat) (ff : Int32) (me : GS) (i : Int32) (x : Int32) (o : Int32 × GS) (hm : mX7_see me i x = some o) : KI l yX7_see wsX7_see rmX7_see D ca [.ref ffa, .int i, .int x] ((cF ffa r0 r1 r2 r3 (mea 0) r5 r6 r7 ff) ++ (cM ca mea me)) ((cF ffa r0 r1 r2 r3 (mea 0) r5 r6 r7 ff) ++ (cM ca mea o.2)) o.1 := by
  refine KI.of (cc := cX7_see) (n := 3) (plainFor_of_name (by decide)) rfl (Nat.le_of_ble_eq_true rfl) ?_
  intro p e s m below meth c A Z hx hb hml hts hown hA hK hP hD hS hret ls hl
  have hown : s.vm.findClass RX7 = some m.cls := hown
  have hl : lv_has ls 3 [(0, .ref ffa), (1, .int i), (2, .int x)] := hl
  have inX3 : ∀ w ∈ wsX30, w ∈ wsX7_see := by decide +kernel
  have inX7 : ∀ w ∈ wsX70, w ∈ wsX7_see := by decide +kernel
  have k1 := hts (.fieldLink RX7 36 "FriezeFolk" "memory" "LFriezeFolk$Memory;") (by decide +kernel)
  have k2 := hts (.fieldLink RX7 89 "FriezeFolk$Memory" "size" "I") (by decide +kernel)
  unfold mX7_see at hm
  refine lv_iload_n hx hb dX7_see_0 rfl (lv_at hl 1 rfl) ?_
  refine lv_if_lt (tgt := 20) hx hb dX7_see_1 (by decide) (fun c1 => ?_) (fun c1 => ?_)
  · skip
    replace hm := (if_pos c1).symm.trans hm
    refine lv_iconst (v := (-1 : Int32)) hx hb dX7_see_20 (by decide) ?_
    obtain rfl := Option.some.inj hm
    exact hret _ _ _ _ (vp_nar_int _) hP hD hS dX7_see_21
  · skip
    replace hm := (if_neg c1).symm.trans hm
    refine lv_iload_n hx hb dX7_see_4 rfl (lv_at hl 1 rfl) ?_
    refine lv_bipush (v := (12 : Int32)) hx hb dX7_see_5 (by decide) ?_
    refine lv_icmp_ge (tgt := 20) hx hb dX7_see_7 (by decide) (fun c2 => ?_) (fun c2 => ?_)
    · skip
      replace hm := (if_pos c2).symm.trans hm
      refine lv_iconst (v := (-1 : Int32)) hx hb dX7_see_20 (by decide) ?_
      obtain rfl := Option.some.inj hm
      exact hret _ _ _ _ (vp_nar_int _) hP hD hS dX7_see_21
    · skip
      replace hm := (if_neg c2).symm.trans hm
      refine lv_iload_n hx hb dX7_see_10 rfl (lv_at hl 2 rfl) ?_
      refine lv_if_lt (tgt := 20) hx hb dX7_see_11 (by decide) (fun c3 => ?_) (fun c3 => ?_)
      · skip
        replace hm := (if_pos c3).symm.trans hm
        refine lv_iconst (v := (-1 : Int32)) hx hb dX7_see_20 (by decide) ?_
        obtain rfl := Option.some.inj hm
        exact hret _ _ _ _ (vp_nar_int _) hP hD hS dX7_see_21
      · skip
        replace hm := (if_neg c3).symm.trans hm
        refine lv_iload_n hx hb dX7_see_14 rfl (lv_at hl 2 rfl) ?_
        refine lv_bipush (v := (99 : Int32)) hx hb dX7_see_15 (by decide) ?_
        refine lv_icmp_le (tgt := 22) hx hb dX7_see_17 (by decide) (fun c4 => ?_) (fun c4 => ?_)
        · skip
          replace hm := (if_pos c4).symm.trans hm
          refine lv_aload_n hx hb dX7_see_22 rfl (lv_at hl 0 rfl) ?_
          refine xget (ref := "FriezeFolk") (C := RX7) (T := TX7) (N := 9) (ci := 7) (v := .ref (mea 0)) hx hb hts inX7 hown hK hP 0 rfl rfl 4 (by decide) k1 rfl rfl dX7_see_23 ?_
          refine lv_iload_n hx hb dX7_see_26 rfl (lv_at hl 1 rfl) ?_
          refine lv_iload_n hx hb dX7_see_27 rfl (lv_at hl 2 rfl) ?_
          obtain ⟨v5, q5, h7⟩ := obn hm
          clear hm
          refine xVi (As := [.int i, .int x]) (ci := 3) ⟨hx, hb, hml, hown, hts⟩ (k_X3_add l D ca mea me i x _ q5) (cwV 2 hts gX7_see_X3_add rfl rfl rfl (by decide +kernel) ⟨Nat.le_of_ble_eq_true rfl, Nat.le_of_ble_eq_true rfl⟩) hK hA hP hD hS dX7_see_28 rfl hl.1 [1, 2, 3] [0] [0, 1, 2, 3] rfl rfl (wr := ((cF ffa r0 r1 r2 r3 (mea 0) r5 r6 r7 ff))) rfl rfl (by decide) (wn := ((cF ffa r0 r1 r2 r3 (mea 0) r5 r6 r7 ff) ++ (cM ca mea v5.2))) rfl rfl rfl rfl rfl rfl (Nat.le_of_ble_eq_true rfl) (fun H locs hP hD hS => ?_)
          refine lv_if_eq (tgt := 44) hx hb dX7_see_31 (by decide) (fun c6 => ?_) (fun c6 => ?_)
          · skip
            replace h7 := (if_pos c6).symm.trans h7
            refine lv_bipush (v := (-3 : Int32)) hx hb dX7_see_44 (by decide) ?_
            obtain rfl := Option.some.inj h7
            exact hret _ _ _ _ (vp_nar_int _) hP hD hS dX7_see_46
          · skip
            replace h7 := (if_neg c6).symm.trans h7
            refine lv_aload_n hx hb dX7_see_34 rfl (lv_at hl 0 rfl) ?_
            refine xget (ref := "FriezeFolk") (C := RX7) (T := TX7) (N := 9) (ci := 7) (v := .ref (mea 0)) hx hb hts inX7 hown hK hP 0 rfl rfl 4 (by decide) k1 rfl rfl dX7_see_35 ?_
            refine xget (ref := "FriezeFolk$Memory") (C := RX3) (T := TX3) (N := 3) (ci := 3) (v := .int (v5.2.2 2)) hx hb hts inX3 hown hK hP 1 rfl rfl 2 (by decide) k2 rfl rfl dX7_see_38 ?_
            refine lv_goto (tgt := 46) hx hb dX7_see_41 (by decide) ?_
            obtain rfl := Option.some.inj h7
            exact hret _ _ _ _ (vp_nar_int _) hP hD hS dX7_see_46
        · skip
          replace hm := (if_neg c4).symm.trans hm
          refine lv_iconst (v := (-1 : Int32)) hx hb dX7_see_20 (by decide) ?_
          obtain rfl := Option.some.inj hm
          exact hret _ _ _ _ (vp_nar_int _) hP hD hS dX7_see_21

def mX7_forget (me : GS) (n : Int32) : Option (Int32 × GS) :=
  if n < 0 then
    some ((-1 : Int32), me)
  else
    if n ≤ (me.2 2) then
      some ((me.2 2), (sI me 2 n))
    else
      some ((-1 : Int32), me)
abbrev rmX7_forget : Room := { frames := 0, cells := 0, slots := 0, locals := 0 }
set_option maxHeartbeats 4000000 in
set_option maxRecDepth 100000 in
theorem k_X7_forget (l : Launch) (D : va_G) (ca : Nat → ClassId) (ffa : Nat) (r0 r1 r2 r3 r5 r6 r7 : Nat) (mea : Nat → Nat) (ff : Int32) (me : GS) (n : Int32) (o : Int32 × GS) (hm : mX7_forget me n = some o) : KI l yX7_forget wsX7_forget rmX7_forget D ca [.ref ffa, .int n] ((cF ffa r0 r1 r2 r3 (mea 0) r5 r6 r7 ff) ++ (cM ca mea me)) ((cF ffa r0 r1 r2 r3 (mea 0) r5 r6 r7 ff) ++ (cM ca mea o.2)) o.1 := by
  refine KI.of (cc := cX7_forget) (n := 3) (plainFor_of_name (by decide)) rfl (Nat.le_of_ble_eq_true rfl) ?_
  intro p e s m below meth c A Z hx hb hml hts hown hA hK hP hD hS hret ls hl
  have hown : s.vm.findClass RX7 = some m.cls := hown
  have hl : lv_has ls 3 [(0, .ref ffa), (1, .int n)] := hl
  have inX3 : ∀ w ∈ wsX30, w ∈ wsX7_forget := by decide +kernel
  have inX7 : ∀ w ∈ wsX70, w ∈ wsX7_forget := by decide +kernel
  have k1 := hts (.fieldLink RX7 36 "FriezeFolk" "memory" "LFriezeFolk$Memory;") (by decide +kernel)
  have k2 := hts (.fieldLink RX7 89 "FriezeFolk$Memory" "size" "I") (by decide +kernel)
  unfold mX7_forget at hm
  refine lv_iload_n hx hb dX7_forget_0 rfl (lv_at hl 1 rfl) ?_
  refine lv_if_lt (tgt := 15) hx hb dX7_forget_1 (by decide) (fun c1 => ?_) (fun c1 => ?_)
  · skip
    replace hm := (if_pos c1).symm.trans hm
    refine lv_iconst (v := (-1 : Int32)) hx hb dX7_forget_15 (by decide) ?_
    obtain rfl := Option.some.inj hm
    exact hret _ _ _ _ (vp_nar_int _) hP hD hS dX7_forget_16
  · skip
    replace hm := (if_neg c1).symm.trans hm
    refine lv_iload_n hx hb dX7_forget_4 rfl (lv_at hl 1 rfl) ?_
    refine lv_aload_n hx hb dX7_forget_5 rfl (lv_at hl 0 rfl) ?_
    refine xget (ref := "FriezeFolk") (C := RX7) (T := TX7) (N := 9) (ci := 7) (v := .ref (mea 0)) hx hb hts inX7 hown hK hP 0 rfl rfl 4 (by decide) k1 rfl rfl dX7_forget_6 ?_
    refine xget (ref := "FriezeFolk$Memory") (C := RX3) (T := TX3) (N := 3) (ci := 3) (v := .int (me.2 2)) hx hb hts inX3 hown hK hP 1 rfl rfl 2 (by decide) k2 rfl rfl dX7_forget_9 ?_
    refine lv_icmp_le (tgt := 17) hx hb dX7_forget_12 (by decide) (fun c2 => ?_) (fun c2 => ?_)
    · skip
      replace hm := (if_pos c2).symm.trans hm
      refine lv_aload_n hx hb dX7_forget_17 rfl (lv_at hl 0 rfl) ?_
      refine xget (ref := "FriezeFolk") (C := RX7) (T := TX7) (N := 9) (ci := 7) (v := .ref (mea 0)) hx hb hts inX7 hown hK hP 0 rfl rfl 4 (by decide) k1 rfl rfl dX7_forget_18 ?_
      refine xget (ref := "FriezeFolk$Memory") (C := RX3) (T := TX3) (N := 3) (ci := 3) (v := .int (me.2 2)) hx hb hts inX3 hown hK hP 1 rfl rfl 2 (by decide) k2 rfl rfl dX7_forget_21 ?_
      refine lv_istore_n (lv' := [(2, .int (me.2 2)), (0, .ref ffa), (1, .int n)]) hx hb dX7_forget_24 rfl hl (by decide) rfl (fun ls hl => ?_)
      refine lv_aload_n hx hb dX7_forget_25 rfl (lv_at hl 1 rfl) ?_
      refine xget (ref := "FriezeFolk") (C := RX7) (T := TX7) (N := 9) (ci := 7) (v := .ref (mea 0)) hx hb hts inX7 hown hK hP 0 rfl rfl 4 (by decide) k1 rfl rfl dX7_forget_26 ?_
      refine lv_iload_n hx hb dX7_forget_29 rfl (lv_at hl 2 rfl) ?_
      refine xput (ref := "FriezeFolk$Memory") (C := RX3) (T := TX3) (N := 3) (ci := 3) (v := .int n) (ty := .int) hx hb hts inX3 tyX3 tyX3_ok nmX3 hown hK hP hD hS 1 rfl rfl 2 (by decide) k2 rfl rfl (by decide +kernel) rfl rfl (Nat.le_of_ble_eq_true rfl) dX7_forget_30 (wn := ((cF ffa r0 r1 r2 r3 (mea 0) r5 r6 r7 ff) ++ (cM ca mea (sI me 2 n)))) rfl (fun H locs hP hD hS => ?_)
      refine lv_iload_n hx hb dX7_forget_33 rfl (lv_at hl 0 rfl) ?_
      obtain rfl := Option.some.inj hm
      exact hret _ _ _ _ (vp_nar_int _) hP hD hS dX7_forget_34
    · skip
      replace hm := (if_neg c2).symm.trans hm
      refine lv_iconst (v := (-1 : Int32)) hx hb dX7_forget_15 (by decide) ?_
      obtain rfl := Option.some.inj hm
      exact hret _ _ _ _ (vp_nar_int _) hP hD hS dX7_forget_16
def mX7_kinds_l28 (me : GS) (j : Int32) (s10 : Int32 × Int32 × GS) : Option ((Int32 × Int32 × GS) ⊕ (Int32 × Int32 × GS)) :=
  if (4 : Int32) ≤ s10.2.1 then
    some (.inr (s10.1, s10.2.1, s10.2.2))
  else
    Option.bind (ast 6 (s10.2.2.1 0) j s10.2.1) fun f12 =>
    Option.bind (mX3_fits me (sA s10.2.2 0 f12)) fun v13 =>
    Option.bind (
      if v13 = 0 then
        some s10.1
      else
        some (s10.1 ||| ((1 : Int32) <<< (s10.2.1 &&& 31)))) fun (v15 : Int32) =>
    some (.inl (v15, (s10.2.1 + (1 : Int32)), (sA s10.2.2 0 f12)))

def mX7_kinds (h : GS) (tr : GS) (me : GS) (j : Int32) : Option (Int32 × GS) :=
  Option.bind (mX0_hasBlock h j) fun v1 =>
  if v1 = 0 then
    some ((-1 : Int32), tr)
  else
    Option.bind (mX0_copy tr h) fun v3 =>
    Option.bind (whO (mX7_kinds_l28 me j) FU ((0 : Int32), (0 : Int32), v3)) fun e16 =>
    some (e16.1, e16.2.2)
abbrev rmX7_kinds : Room := { frames := 4, cells := 0, slots := 0, locals := 89 }
set_option maxHeartbeats 4000000 in
set_option maxRecDepth 100000 in
theorem k_X7_kinds (l : Launch) (D : va_G) (ca : Nat → ClassId) (ffa : Nat) (r2 r3 r5 r6 r7 : Nat) (ha : Nat → Nat) (tra : Nat → Nat) (mea : Nat → Nat) (ff : Int32) (h : GS) (tr : GS) (me : GS) (j : Int32) (o : Int32 × GS) (hm : mX7_kinds h tr me j = some o) : KI l yX7_kinds wsX7_kinds rmX7_kinds D ca [.ref ffa, .int j] ((cF ffa (ha 0) (tra 0) r2 r3 (mea 0) r5 r6 r7 ff) ++ (cH ca ha h) ++ (cH ca tra tr) ++ (cM ca mea me)) ((cF ffa (ha 0) (tra 0) r2 r3 (mea 0) r5 r6 r7 ff) ++ (cH ca ha h) ++ (cH ca tra o.2) ++ (cM ca mea me)) o.1 := by
  refine KI.of (cc := cX7_kinds) (n := 4) (plainFor_of_name (by decide)) rfl (Nat.le_of_ble_eq_true rfl) ?_
  intro p e s m below meth c A Z hx hb hml hts hown hA hK hP hD hS hret ls hl
  have hown : s.vm.findClass RX7 = some m.cls := hown
  have hl : lv_has ls 4 [(0, .ref ffa), (1, .int j)] := hl
  have inX0 : ∀ w ∈ wsX00, w ∈ wsX7_kinds := by decide +kernel
  have inX7 : ∀ w ∈ wsX70, w ∈ wsX7_kinds := by decide +kernel
  have k1 := hts (.fieldLink RX7 10 "FriezeFolk" "hall" "LFriezeFolk$Hall;") (by decide +kernel)
  have k2 := hts (.fieldLink RX7 16 "FriezeFolk" "trial" "LFriezeFolk$Hall;") (by decide +kernel)
  have k3 := hts (.fieldLink RX7 123 "FriezeFolk$Hall" "kind" "[I") (by decide +kernel)
  have k4 := hts (.fieldLink RX7 36 "FriezeFolk" "memory" "LFriezeFolk$Memory;") (by decide +kernel)
  unfold mX7_kinds at hm
  refine lv_aload_n hx hb dX7_kinds_0 rfl (lv_at hl 0 rfl) ?_
  refine xget (ref := "FriezeFolk") (C := RX7) (T := TX7) (N := 9) (ci := 7) (v := .ref (ha 0)) hx hb hts inX7 hown hK hP 0 rfl rfl 0 (by decide) k1 rfl rfl dX7_kinds_1 ?_
  refine lv_iload_n hx hb dX7_kinds_4 rfl (lv_at hl 1 rfl) ?_
  obtain ⟨v1, q1, h17⟩ := obn hm
  clear hm
  refine xVi (As := [.int j]) (ci := 0) ⟨hx, hb, hml, hown, hts⟩ (k_X0_hasBlock l D ca ha h j _ q1) (cwV 1 hts gX7_kinds_X0_hasBlock rfl rfl rfl (by decide +kernel) ⟨Nat.le_of_ble_eq_true rfl, Nat.le_of_ble_eq_true rfl⟩) hK hA hP hD hS dX7_kinds_5 rfl hl.1 [1, 2, 3, 4, 5, 6] [0, 7, 8, 9, 10, 11, 12, 13, 14, 15] [0, 10, 11, 12, 13, 14, 15, 1, 2, 3, 4, 5, 6, 7, 8, 9] rfl rfl (wr := ((cF ffa (ha 0) (tra 0) r2 r3 (mea 0) r5 r6 r7 ff) ++ (cH ca tra tr) ++ (cM ca mea me))) rfl rfl (by decide) (wn := ((cF ffa (ha 0) (tra 0) r2 r3 (mea 0) r5 r6 r7 ff) ++ (cH ca ha h) ++ (cH ca tra tr) ++ (cM ca mea me))) rfl rfl rfl rfl rfl rfl (Nat.le_of_ble_eq_true rfl) (fun H locs hP hD hS => ?_)
  refine lv_if_ne (tgt := 13) hx hb dX7_kinds_8 (by decide) (fun c2 => ?_) (fun c2 => ?_)
  · skip
    replace h17 := (if_neg c2).symm.trans h17
    refine lv_aload_n hx hb dX7_kinds_13 rfl (lv_at hl 0 rfl) ?_
    refine xget (ref := "FriezeFolk") (C := RX7) (T := TX7) (N := 9) (ci := 7) (v := .ref (tra 0)) hx hb hts inX7 hown hK hP 0 rfl rfl 1 (by decide) k2 rfl rfl dX7_kinds_14 ?_
    refine lv_aload_n hx hb dX7_kinds_17 rfl (lv_at hl 0 rfl) ?_
    refine xget (ref := "FriezeFolk") (C := RX7) (T := TX7) (N := 9) (ci := 7) (v := .ref (ha 0)) hx hb hts inX7 hown hK hP 0 rfl rfl 0 (by decide) k1 rfl rfl dX7_kinds_18 ?_
    obtain ⟨v3, q3, h18⟩ := obn h17
    clear h17
    refine xVv (As := [.ref (ha 0)]) (ci := 0) ⟨hx, hb, hml, hown, hts⟩ (k_X0_copy l D ca tra ha tr h _ q3) (cwV 1 hts gX7_kinds_X0_copy rfl rfl rfl (by decide +kernel) ⟨Nat.le_of_ble_eq_true rfl, Nat.le_of_ble_eq_true rfl⟩) hK hA hP hD hS dX7_kinds_21 rfl hl.1 [7, 8, 9, 10, 11, 12, 1, 2, 3, 4, 5, 6] [0, 13, 14, 15] [0, 10, 11, 12, 13, 14, 15, 4, 5, 6, 7, 8, 9, 1, 2, 3] rfl rfl (wr := ((cF ffa (ha 0) (tra 0) r2 r3 (mea 0) r5 r6 r7 ff) ++ (cM ca mea me))) rfl rfl (by decide) (wn := ((cF ffa (ha 0) (tra 0) r2 r3 (mea 0) r5 r6 r7 ff) ++ (cH ca ha h) ++ (cH ca tra v3) ++ (cM ca mea me))) rfl rfl rfl rfl rfl rfl (Nat.le_of_ble_eq_true rfl) (fun H locs hP hD hS => ?_)
    refine lv_iconst (v := (0 : Int32)) hx hb dX7_kinds_24 (by decide) ?_
    refine lv_istore_n (lv' := [(2, .int (0 : Int32)), (0, .ref ffa), (1, .int j)]) hx hb dX7_kinds_25 rfl hl (by decide) rfl (fun ls hl => ?_)
    refine lv_iconst (v := (0 : Int32)) hx hb dX7_kinds_26 (by decide) ?_
    refine lv_istore_n (lv' := [(3, .int (0 : Int32)), (2, .int (0 : Int32)), (0, .ref ffa), (1, .int j)]) hx hb dX7_kinds_27 rfl hl (by decide) rfl (fun ls hl => ?_)
    obtain ⟨e16, w19, h20⟩ := obn h18
    clear h18
    have AF16 : ∀ (ls : Array Slot) (H : Heap) (locs : List Loc), lv_has ls 4 [(2, .int e16.1)] → va_P D vwCl ((cF ffa (ha 0) (tra 0) r2 r3 (mea 0) r5 r6 r7 ff) ++ (cH ca ha h) ++ (cH ca tra e16.2.2) ++ (cM ca mea me)) H → va_D A ((cF ffa (ha 0) (tra 0) r2 r3 (mea 0) r5 r6 r7 ff) ++ (cH ca ha h) ++ (cH ca tra e16.2.2) ++ (cM ca mea me)) → va_S A s.heap H locs → W p l e rmX7_kinds s m ([.ref ffa, .int j] : List Value).toArray below meth c H locs 0 0 Z (F0 m 69 ls []) := by
      intro ls H locs hl hP hD hS
      refine lv_iload_n hx hb dX7_kinds_69 rfl (lv_at hl 0 rfl) ?_
      obtain rfl := Option.some.inj h20
      exact hret _ _ _ _ (vp_nar_int _) hP hD hS dX7_kinds_70
    refine whO_walk (I := fun s10 => ∀ (ls : Array Slot) (H : Heap) (locs : List Loc), lv_has ls 4 [(0, .ref ffa), (1, .int j), (2, .int s10.1), (3, .int s10.2.1)] → va_P D vwCl ((cF ffa (ha 0) (tra 0) r2 r3 (mea 0) r5 r6 r7 ff) ++ (cH ca ha h) ++ (cH ca tra s10.2.2) ++ (cM ca mea me)) H → va_D A ((cF ffa (ha 0) (tra 0) r2 r3 (mea 0) r5 r6 r7 ff) ++ (cH ca ha h) ++ (cH ca tra s10.2.2) ++ (cM ca mea me)) → va_S A s.heap H locs → W p l e rmX7_kinds s m ([.ref ffa, .int j] : List Value).toArray below meth c H locs 0 0 Z (F0 m 28 ls [])) ?_ _ _ w19 _ _ _ (lv_sub hl [2, 3, 1, 0] rfl) hP hD hS
    clear w19
    intro s10 o16 h21 hi16 ho16 ls H locs hl hP hD hS
    unfold mX7_kinds_l28 at h21
    refine lv_iload_n hx hb dX7_kinds_28 rfl (lv_at hl 3 rfl) ?_
    refine lv_iconst (v := (4 : Int32)) hx hb dX7_kinds_29 (by decide) ?_
    refine lv_icmp_ge (tgt := 69) hx hb dX7_kinds_30 (by decide) (fun c11 => ?_) (fun c11 => ?_)
    · skip
      replace h21 := (if_pos c11).symm.trans h21
      have h22 := ho16 _ (Option.some.inj h21).symm
      subst h22
      exact AF16 _ _ _ (lv_sub hl [2] rfl) hP hD hS
    · skip
      replace h21 := (if_neg c11).symm.trans h21
      refine lv_aload_n hx hb dX7_kinds_33 rfl (lv_at hl 0 rfl) ?_
      refine xget (ref := "FriezeFolk") (C := RX7) (T := TX7) (N := 9) (ci := 7) (v := .ref (tra 0)) hx hb hts inX7 hown hK hP 0 rfl rfl 1 (by decide) k2 rfl rfl dX7_kinds_34 ?_
      refine xget (ref := "FriezeFolk$Hall") (C := RX0) (T := TX0) (N := 13) (ci := 0) (v := .ref (tra 1)) hx hb hts inX0 hown hK hP 7 rfl rfl 0 (by decide) k3 rfl rfl dX7_kinds_37 ?_
      refine lv_iload_n hx hb dX7_kinds_40 rfl (lv_at hl 1 rfl) ?_
      refine lv_iload_n hx hb dX7_kinds_41 rfl (lv_at hl 3 rfl) ?_
      obtain ⟨f12, q12, h23⟩ := obn h21
      clear h21
      refine xast hx hb hK hP hD hS 8 rfl q12 dX7_kinds_42 (wn := ((cF ffa (ha 0) (tra 0) r2 r3 (mea 0) r5 r6 r7 ff) ++ (cH ca ha h) ++ (cH ca tra (sA s10.2.2 0 f12)) ++ (cM ca mea me))) rfl (fun H locs hP hD hS => ?_)
      refine lv_aload_n hx hb dX7_kinds_43 rfl (lv_at hl 0 rfl) ?_
      refine xget (ref := "FriezeFolk") (C := RX7) (T := TX7) (N := 9) (ci := 7) (v := .ref (mea 0)) hx hb hts inX7 hown hK hP 0 rfl rfl 4 (by decide) k4 rfl rfl dX7_kinds_44 ?_
      refine lv_aload_n hx hb dX7_kinds_47 rfl (lv_at hl 0 rfl) ?_
      refine xget (ref := "FriezeFolk") (C := RX7) (T := TX7) (N := 9) (ci := 7) (v := .ref (tra 0)) hx hb hts inX7 hown hK hP 0 rfl rfl 1 (by decide) k2 rfl rfl dX7_kinds_48 ?_
      obtain ⟨v13, q13, h24⟩ := obn h23
      clear h23
      refine xVi (As := [.ref (tra 0)]) (ci := 3) ⟨hx, hb, hml, hown, hts⟩ (k_X3_fits l D ca mea tra me (sA s10.2.2 0 f12) _ q13) (cwV 1 hts gX7_kinds_X3_fits rfl rfl rfl (by decide +kernel) ⟨Nat.le_of_ble_eq_true rfl, Nat.le_of_ble_eq_true rfl⟩) hK hA hP hD hS dX7_kinds_51 rfl hl.1 [13, 14, 15, 7, 8, 9, 10, 11, 12] [0, 1, 2, 3, 4, 5, 6] [0, 1, 2, 3, 4, 5, 6, 10, 11, 12, 13, 14, 15, 7, 8, 9] rfl rfl (wr := ((cF ffa (ha 0) (tra 0) r2 r3 (mea 0) r5 r6 r7 ff) ++ (cH ca ha h))) rfl rfl (by decide) (wn := ((cF ffa (ha 0) (tra 0) r2 r3 (mea 0) r5 r6 r7 ff) ++ (cH ca ha h) ++ (cH ca tra (sA s10.2.2 0 f12)) ++ (cM ca mea me))) rfl rfl rfl rfl rfl rfl (Nat.le_of_ble_eq_true rfl) (fun H locs hP hD hS => ?_)
      obtain ⟨v15, q25, h26⟩ := obn h24
      clear h24
      have J15 : ∀ (ls : Array Slot) (H : Heap) (locs : List Loc), lv_has ls 4 [(0, .ref ffa), (1, .int j), (2, .int v15), (3, .int s10.2.1)] → va_P D vwCl ((cF ffa (ha 0) (tra 0) r2 r3 (mea 0) r5 r6 r7 ff) ++ (cH ca ha h) ++ (cH ca tra (sA s10.2.2 0 f12)) ++ (cM ca mea me)) H → va_D A ((cF ffa (ha 0) (tra 0) r2 r3 (mea 0) r5 r6 r7 ff) ++ (cH ca ha h) ++ (cH ca tra (sA s10.2.2 0 f12)) ++ (cM ca mea me)) → va_S A s.heap H locs → W p l e rmX7_kinds s m ([.ref ffa, .int j] : List Value).toArray below meth c H locs 0 0 Z (F0 m 63 ls []) := by
        intro ls H locs hl hP hD hS
        refine lv_iinc (v := (s10.2.1 + (1 : Int32))) (lv' := [(3, .int (s10.2.1 + (1 : Int32))), (0, .ref ffa), (1, .int j), (2, .int v15)]) hx hb dX7_kinds_63 hl (k := 3) rfl rfl (by decide) rfl (fun ls hl => ?_)
        refine lv_goto (tgt := 28) hx hb dX7_kinds_66 (by decide) ?_
        exact hi16 _ (Option.some.inj h26).symm _ _ _ (lv_sub hl [1, 2, 3, 0] rfl) hP hD hS
      refine lv_if_eq (tgt := 63) hx hb dX7_kinds_54 (by decide) (fun c14 => ?_) (fun c14 => ?_)
      · skip
        replace q25 := (if_pos c14).symm.trans q25
        obtain rfl := Option.some.inj q25
        exact J15 _ _ _ (lv_sub hl [0, 1, 2, 3] rfl) hP hD hS
      · skip
        replace q25 := (if_neg c14).symm.trans q25
        refine lv_iload_n hx hb dX7_kinds_57 rfl (lv_at hl 2 rfl) ?_
        refine lv_iconst (v := (1 : Int32)) hx hb dX7_kinds_58 (by decide) ?_
        refine lv_iload_n hx hb dX7_kinds_59 rfl (lv_at hl 3 rfl) ?_
        refine lv_ishl hx hb dX7_kinds_60 ?_
        refine lv_ior hx hb dX7_kinds_61 ?_
        refine lv_istore_n (lv' := [(2, .int (s10.1 ||| ((1 : Int32) <<< (s10.2.1 &&& 31)))), (0, .ref ffa), (1, .int j), (3, .int s10.2.1)]) hx hb dX7_kinds_62 rfl hl (by decide) rfl (fun ls hl => ?_)
        obtain rfl := Option.some.inj q25
        exact J15 _ _ _ (lv_sub hl [1, 2, 0, 3] rfl) hP hD hS
  · skip
    replace h17 := (if_pos c2).symm.trans h17
    refine lv_iconst (v := (-1 : Int32)) hx hb dX7_kinds_11 (by decide) ?_
    obtain rfl := Option.some.inj h17
    exact hret _ _ _ _ (vp_nar_int _) hP hD hS dX7_kinds_12
def mX7_warmths_l28 (me : GS) (j : Int32) (s10 : Int32 × Int32 × GS) : Option ((Int32 × Int32 × GS) ⊕ (Int32 × Int32 × GS)) :=
  if (10 : Int32) ≤ s10.2.1 then
    some (.inr (s10.1, s10.2.1, s10.2.2))
  else
    Option.bind (ast 6 (s10.2.2.1 1) j s10.2.1) fun f12 =>
    Option.bind (mX3_fits me (sA s10.2.2 1 f12)) fun v13 =>
    Option.bind (
      if v13 = 0 then
        some s10.1
      else
        some (s10.1 ||| ((1 : Int32) <<< (s10.2.1 &&& 31)))) fun (v15 : Int32) =>
    some (.inl (v15, (s10.2.1 + (1 : Int32)), (sA s10.2.2 1 f12)))

def mX7_warmths (h : GS) (tr : GS) (me : GS) (j : Int32) : Option (Int32 × GS) :=
  Option.bind (mX0_hasBlock h j) fun v1 =>
  if v1 = 0 then
    some ((-1 : Int32), tr)
  else
    Option.bind (mX0_copy tr h) fun v3 =>
    Option.bind (whO (mX7_warmths_l28 me j) FU ((0 : Int32), (0 : Int32), v3)) fun e16 =>
    some (e16.1, e16.2.2)
abbrev rmX7_warmths : Room := { frames := 4, cells := 0, slots := 0, locals := 89 }
set_option maxHeartbeats 4000000 in
set_option maxRecDepth 100000 in
theorem k_X7_warmths (l : Launch) (D : va_G) (ca : Nat → ClassId) (ffa : Nat) (r2 r3 r5 r6 r7 : Nat) (ha : Nat → Nat) (tra : Nat → Nat) (mea : Nat → Nat) (ff : Int32) (h : GS) (tr : GS) (me : GS) (j : Int32) (o : Int32 × GS) (hm : mX7_warmths h tr me j = some o) : KI l yX7_warmths wsX7_warmths rmX7_warmths D ca [.ref ffa, .int j] ((cF ffa (ha 0) (tra 0) r2 r3 (mea 0) r5 r6 r7 ff) ++ (cH ca ha h) ++ (cH ca tra tr) ++ (cM ca mea me)) ((cF ffa (ha 0) (tra 0) r2 r3 (mea 0) r5 r6 r7 ff) ++ (cH ca ha h) ++ (cH ca tra o.2) ++ (cM ca mea me)) o.1 := by
  refine KI.of (cc := cX7_warmths) (n := 4) (plainFor_of_name (by decide)) rfl (Nat.le_of_ble_eq_true rfl) ?_
  intro p e s m below meth c A Z hx hb hml hts hown hA hK hP hD hS hret ls hl
  have hown : s.vm.findClass RX7 = some m.cls := hown
  have hl : lv_has ls 4 [(0, .ref ffa), (1, .int j)] := hl
  have inX0 : ∀ w ∈ wsX00, w ∈ wsX7_warmths := by decide +kernel
  have inX7 : ∀ w ∈ wsX70, w ∈ wsX7_warmths := by decide +kernel
  have k1 := hts (.fieldLink RX7 10 "FriezeFolk" "hall" "LFriezeFolk$Hall;") (by decide +kernel)
  have k2 := hts (.fieldLink RX7 16 "FriezeFolk" "trial" "LFriezeFolk$Hall;") (by decide +kernel)
  have k3 := hts (.fieldLink RX7 127 "FriezeFolk$Hall" "warmth" "[I") (by decide +kernel)
  have k4 := hts (.fieldLink RX7 36 "FriezeFolk" "memory" "LFriezeFolk$Memory;") (by decide +kernel)
  unfold mX7_warmths at hm
  refine lv_aload_n hx hb dX7_warmths_0 rfl (lv_at hl 0 rfl) ?_
  refine xget (ref := "FriezeFolk") (C := RX7) (T := TX7) (N := 9) (ci := 7) (v := .ref (ha 0)) hx hb hts inX7 hown hK hP 0 rfl rfl 0 (by decide) k1 rfl rfl dX7_warmths_1 ?_
  refine lv_iload_n hx hb dX7_warmths_4 rfl (lv_at hl 1 rfl) ?_
  obtain ⟨v1, q1, h17⟩ := obn hm
  clear hm
  refine xVi (As := [.int j]) (ci := 0) ⟨hx, hb, hml, hown, hts⟩ (k_X0_hasBlock l D ca ha h j _ q1) (cwV 1 hts gX7_warmths_X0_hasBlock rfl rfl rfl (by decide +kernel) ⟨Nat.le_of_ble_eq_true rfl, Nat.le_of_ble_eq_true rfl⟩) hK hA hP hD hS dX7_warmths_5 rfl hl.1 [1, 2, 3, 4, 5, 6] [0, 7, 8, 9, 10, 11, 12, 13, 14, 15] [0, 10, 11, 12, 13, 14, 15, 1, 2, 3, 4, 5, 6, 7, 8, 9] rfl rfl (wr := ((cF ffa (ha 0) (tra 0) r2 r3 (mea 0) r5 r6 r7 ff) ++ (cH ca tra tr) ++ (cM ca mea me))) rfl rfl (by decide) (wn := ((cF ffa (ha 0) (tra 0) r2 r3 (mea 0) r5 r6 r7 ff) ++ (cH ca ha h) ++ (cH ca tra tr) ++ (cM ca mea me))) rfl rfl rfl rfl rfl rfl (Nat.le_of_ble_eq_true rfl) (fun H locs hP hD hS => ?_)
  refine lv_if_ne (tgt := 13) hx hb dX7_warmths_8 (by decide) (fun c2 => ?_) (fun c2 => ?_)
  · skip
    replace h17 := (if_neg c2).symm.trans h17
    refine lv_aload_n hx hb dX7_warmths_13 rfl (lv_at hl 0 rfl) ?_
    refine xget (ref := "FriezeFolk") (C := RX7) (T := TX7) (N := 9) (ci := 7) (v := .ref (tra 0)) hx hb hts inX7 hown hK hP 0 rfl rfl 1 (by decide) k2 rfl rfl dX7_warmths_14 ?_
    refine lv_aload_n hx hb dX7_warmths_17 rfl (lv_at hl 0 rfl) ?_
    refine xget (ref := "FriezeFolk") (C := RX7) (T := TX7) (N := 9) (ci := 7) (v := .ref (ha 0)) hx hb hts inX7 hown hK hP 0 rfl rfl 0 (by decide) k1 rfl rfl dX7_warmths_18 ?_
    obtain ⟨v3, q3, h18⟩ := obn h17
    clear h17
    refine xVv (As := [.ref (ha 0)]) (ci := 0) ⟨hx, hb, hml, hown, hts⟩ (k_X0_copy l D ca tra ha tr h _ q3) (cwV 1 hts gX7_warmths_X0_copy rfl rfl rfl (by decide +kernel) ⟨Nat.le_of_ble_eq_true rfl, Nat.le_of_ble_eq_true rfl⟩) hK hA hP hD hS dX7_warmths_21 rfl hl.1 [7, 8, 9, 10, 11, 12, 1, 2, 3, 4, 5, 6] [0, 13, 14, 15] [0, 10, 11, 12, 13, 14, 15, 4, 5, 6, 7, 8, 9, 1, 2, 3] rfl rfl (wr := ((cF ffa (ha 0) (tra 0) r2 r3 (mea 0) r5 r6 r7 ff) ++ (cM ca mea me))) rfl rfl (by decide) (wn := ((cF ffa (ha 0) (tra 0) r2 r3 (mea 0) r5 r6 r7 ff) ++ (cH ca ha h) ++ (cH ca tra v3) ++ (cM ca mea me))) rfl rfl rfl rfl rfl rfl (Nat.le_of_ble_eq_true rfl) (fun H locs hP hD hS => ?_)
    refine lv_iconst (v := (0 : Int32)) hx hb dX7_warmths_24 (by decide) ?_
    refine lv_istore_n (lv' := [(2, .int (0 : Int32)), (0, .ref ffa), (1, .int j)]) hx hb dX7_warmths_25 rfl hl (by decide) rfl (fun ls hl => ?_)
    refine lv_iconst (v := (0 : Int32)) hx hb dX7_warmths_26 (by decide) ?_
    refine lv_istore_n (lv' := [(3, .int (0 : Int32)), (2, .int (0 : Int32)), (0, .ref ffa), (1, .int j)]) hx hb dX7_warmths_27 rfl hl (by decide) rfl (fun ls hl => ?_)
    obtain ⟨e16, w19, h20⟩ := obn h18
    clear h18
    have AF16 : ∀ (ls : Array Slot) (H : Heap) (locs : List Loc), lv_has ls 4 [(2, .int e16.1)] → va_P D vwCl ((cF ffa (ha 0) (tra 0) r2 r3 (mea 0) r5 r6 r7 ff) ++ (cH ca ha h) ++ (cH ca tra e16.2.2) ++ (cM ca mea me)) H → va_D A ((cF ffa (ha 0) (tra 0) r2 r3 (mea 0) r5 r6 r7 ff) ++ (cH ca ha h) ++ (cH ca tra e16.2.2) ++ (cM ca mea me)) → va_S A s.heap H locs → W p l e rmX7_warmths s m ([.ref ffa, .int j] : List Value).toArray below meth c H locs 0 0 Z (F0 m 70 ls []) := by
      intro ls H locs hl hP hD hS
      refine lv_iload_n hx hb dX7_warmths_70 rfl (lv_at hl 0 rfl) ?_
      obtain rfl := Option.some.inj h20
      exact hret _ _ _ _ (vp_nar_int _) hP hD hS dX7_warmths_71
    refine whO_walk (I := fun s10 => ∀ (ls : Array Slot) (H : Heap) (locs : List Loc), lv_has ls 4 [(0, .ref ffa), (1, .int j), (2, .int s10.1), (3, .int s10.2.1)] → va_P D vwCl ((cF ffa (ha 0) (tra 0) r2 r3 (mea 0) r5 r6 r7 ff) ++ (cH ca ha h) ++ (cH ca tra s10.2.2) ++ (cM ca mea me)) H → va_D A ((cF ffa (ha 0) (tra 0) r2 r3 (mea 0) r5 r6 r7 ff) ++ (cH ca ha h) ++ (cH ca tra s10.2.2) ++ (cM ca mea me)) → va_S A s.heap H locs → W p l e rmX7_warmths s m ([.ref ffa, .int j] : List Value).toArray below meth c H locs 0 0 Z (F0 m 28 ls [])) ?_ _ _ w19 _ _ _ (lv_sub hl [2, 3, 1, 0] rfl) hP hD hS
    clear w19
    intro s10 o16 h21 hi16 ho16 ls H locs hl hP hD hS
    unfold mX7_warmths_l28 at h21
    refine lv_iload_n hx hb dX7_warmths_28 rfl (lv_at hl 3 rfl) ?_
    refine lv_bipush (v := (10 : Int32)) hx hb dX7_warmths_29 (by decide) ?_
    refine lv_icmp_ge (tgt := 70) hx hb dX7_warmths_31 (by decide) (fun c11 => ?_) (fun c11 => ?_)
    · skip
      replace h21 := (if_pos c11).symm.trans h21
      have h22 := ho16 _ (Option.some.inj h21).symm
      subst h22
      exact AF16 _ _ _ (lv_sub hl [2] rfl) hP hD hS
    · skip
      replace h21 := (if_neg c11).symm.trans h21
      refine lv_aload_n hx hb dX7_warmths_34 rfl (lv_at hl 0 rfl) ?_
      refine xget (ref := "FriezeFolk") (C := RX7) (T := TX7) (N := 9) (ci := 7) (v := .ref (tra 0)) hx hb hts inX7 hown hK hP 0 rfl rfl 1 (by decide) k2 rfl rfl dX7_warmths_35 ?_
      refine xget (ref := "FriezeFolk$Hall") (C := RX0) (T := TX0) (N := 13) (ci := 0) (v := .ref (tra 2)) hx hb hts inX0 hown hK hP 7 rfl rfl 1 (by decide) k3 rfl rfl dX7_warmths_38 ?_
      refine lv_iload_n hx hb dX7_warmths_41 rfl (lv_at hl 1 rfl) ?_
      refine lv_iload_n hx hb dX7_warmths_42 rfl (lv_at hl 3 rfl) ?_
      obtain ⟨f12, q12, h23⟩ := obn h21
      clear h21
      refine xast hx hb hK hP hD hS 9 rfl q12 dX7_warmths_43 (wn := ((cF ffa (ha 0) (tra 0) r2 r3 (mea 0) r5 r6 r7 ff) ++ (cH ca ha h) ++ (cH ca tra (sA s10.2.2 1 f12)) ++ (cM ca mea me))) rfl (fun H locs hP hD hS => ?_)
      refine lv_aload_n hx hb dX7_warmths_44 rfl (lv_at hl 0 rfl) ?_
      refine xget (ref := "FriezeFolk") (C := RX7) (T := TX7) (N := 9) (ci := 7) (v := .ref (mea 0)) hx hb hts inX7 hown hK hP 0 rfl rfl 4 (by decide) k4 rfl rfl dX7_warmths_45 ?_
      refine lv_aload_n hx hb dX7_warmths_48 rfl (lv_at hl 0 rfl) ?_
      refine xget (ref := "FriezeFolk") (C := RX7) (T := TX7) (N := 9) (ci := 7) (v := .ref (tra 0)) hx hb hts inX7 hown hK hP 0 rfl rfl 1 (by decide) k2 rfl rfl dX7_warmths_49 ?_
      obtain ⟨v13, q13, h24⟩ := obn h23
      clear h23
      refine xVi (As := [.ref (tra 0)]) (ci := 3) ⟨hx, hb, hml, hown, hts⟩ (k_X3_fits l D ca mea tra me (sA s10.2.2 1 f12) _ q13) (cwV 1 hts gX7_warmths_X3_fits rfl rfl rfl (by decide +kernel) ⟨Nat.le_of_ble_eq_true rfl, Nat.le_of_ble_eq_true rfl⟩) hK hA hP hD hS dX7_warmths_52 rfl hl.1 [13, 14, 15, 7, 8, 9, 10, 11, 12] [0, 1, 2, 3, 4, 5, 6] [0, 1, 2, 3, 4, 5, 6, 10, 11, 12, 13, 14, 15, 7, 8, 9] rfl rfl (wr := ((cF ffa (ha 0) (tra 0) r2 r3 (mea 0) r5 r6 r7 ff) ++ (cH ca ha h))) rfl rfl (by decide) (wn := ((cF ffa (ha 0) (tra 0) r2 r3 (mea 0) r5 r6 r7 ff) ++ (cH ca ha h) ++ (cH ca tra (sA s10.2.2 1 f12)) ++ (cM ca mea me))) rfl rfl rfl rfl rfl rfl (Nat.le_of_ble_eq_true rfl) (fun H locs hP hD hS => ?_)
      obtain ⟨v15, q25, h26⟩ := obn h24
      clear h24
      have J15 : ∀ (ls : Array Slot) (H : Heap) (locs : List Loc), lv_has ls 4 [(0, .ref ffa), (1, .int j), (2, .int v15), (3, .int s10.2.1)] → va_P D vwCl ((cF ffa (ha 0) (tra 0) r2 r3 (mea 0) r5 r6 r7 ff) ++ (cH ca ha h) ++ (cH ca tra (sA s10.2.2 1 f12)) ++ (cM ca mea me)) H → va_D A ((cF ffa (ha 0) (tra 0) r2 r3 (mea 0) r5 r6 r7 ff) ++ (cH ca ha h) ++ (cH ca tra (sA s10.2.2 1 f12)) ++ (cM ca mea me)) → va_S A s.heap H locs → W p l e rmX7_warmths s m ([.ref ffa, .int j] : List Value).toArray below meth c H locs 0 0 Z (F0 m 64 ls []) := by
        intro ls H locs hl hP hD hS
        refine lv_iinc (v := (s10.2.1 + (1 : Int32))) (lv' := [(3, .int (s10.2.1 + (1 : Int32))), (0, .ref ffa), (1, .int j), (2, .int v15)]) hx hb dX7_warmths_64 hl (k := 3) rfl rfl (by decide) rfl (fun ls hl => ?_)
        refine lv_goto (tgt := 28) hx hb dX7_warmths_67 (by decide) ?_
        exact hi16 _ (Option.some.inj h26).symm _ _ _ (lv_sub hl [1, 2, 3, 0] rfl) hP hD hS
      refine lv_if_eq (tgt := 64) hx hb dX7_warmths_55 (by decide) (fun c14 => ?_) (fun c14 => ?_)
      · skip
        replace q25 := (if_pos c14).symm.trans q25
        obtain rfl := Option.some.inj q25
        exact J15 _ _ _ (lv_sub hl [0, 1, 2, 3] rfl) hP hD hS
      · skip
        replace q25 := (if_neg c14).symm.trans q25
        refine lv_iload_n hx hb dX7_warmths_58 rfl (lv_at hl 2 rfl) ?_
        refine lv_iconst (v := (1 : Int32)) hx hb dX7_warmths_59 (by decide) ?_
        refine lv_iload_n hx hb dX7_warmths_60 rfl (lv_at hl 3 rfl) ?_
        refine lv_ishl hx hb dX7_warmths_61 ?_
        refine lv_ior hx hb dX7_warmths_62 ?_
        refine lv_istore_n (lv' := [(2, .int (s10.1 ||| ((1 : Int32) <<< (s10.2.1 &&& 31)))), (0, .ref ffa), (1, .int j), (3, .int s10.2.1)]) hx hb dX7_warmths_63 rfl hl (by decide) rfl (fun ls hl => ?_)
        obtain rfl := Option.some.inj q25
        exact J15 _ _ _ (lv_sub hl [1, 2, 0, 3] rfl) hP hD hS
  · skip
    replace h17 := (if_pos c2).symm.trans h17
    refine lv_iconst (v := (-1 : Int32)) hx hb dX7_warmths_11 (by decide) ?_
    obtain rfl := Option.some.inj h17
    exact hret _ _ _ _ (vp_nar_int _) hP hD hS dX7_warmths_12
def mX7_fittingShifts_l15 (me : GS) (s7 : Int32 × Int32 × GS) : Option ((Int32 × Int32 × GS) ⊕ (Int32 × Int32 × GS)) :=
  if (6 : Int32) ≤ s7.2.1 then
    some (.inr (s7.1, s7.2.1, s7.2.2))
  else
    Option.bind (mX3_fits me (sI s7.2.2 7 s7.2.1)) fun v9 =>
    Option.bind (
      if v9 = 0 then
        some s7.1
      else
        some (s7.1 ||| ((1 : Int32) <<< (s7.2.1 &&& 31)))) fun (v11 : Int32) =>
    some (.inl (v11, (s7.2.1 + (1 : Int32)), (sI s7.2.2 7 s7.2.1)))

def mX7_fittingShifts (h : GS) (tr : GS) (me : GS) : Option (Int32 × GS) :=
  Option.bind (mX0_copy tr h) fun v1 =>
  Option.bind (whO (mX7_fittingShifts_l15 me) FU ((0 : Int32), (0 : Int32), v1)) fun e12 =>
  some (e12.1, e12.2.2)
abbrev rmX7_fittingShifts : Room := { frames := 4, cells := 0, slots := 0, locals := 89 }
set_option maxHeartbeats 4000000 in
set_option maxRecDepth 100000 in
theorem k_X7_fittingShifts (l : Launch) (D : va_G) (ca : Nat → ClassId) (ffa : Nat) (r2 r3 r5 r6 r7 : Nat) (ha : Nat → Nat) (tra : Nat → Nat) (mea : Nat → Nat) (ff : Int32) (h : GS) (tr : GS) (me : GS) (o : Int32 × GS) (hm : mX7_fittingShifts h tr me = some o) : KI l yX7_fittingShifts wsX7_fittingShifts rmX7_fittingShifts D ca [.ref ffa] ((cF ffa (ha 0) (tra 0) r2 r3 (mea 0) r5 r6 r7 ff) ++ (cH ca ha h) ++ (cH ca tra tr) ++ (cM ca mea me)) ((cF ffa (ha 0) (tra 0) r2 r3 (mea 0) r5 r6 r7 ff) ++ (cH ca ha h) ++ (cH ca tra o.2) ++ (cM ca mea me)) o.1 := by
  refine KI.of (cc := cX7_fittingShifts) (n := 3) (plainFor_of_name (by decide)) rfl (Nat.le_of_ble_eq_true rfl) ?_
  intro p e s m below meth c A Z hx hb hml hts hown hA hK hP hD hS hret ls hl
  have hown : s.vm.findClass RX7 = some m.cls := hown
  have hl : lv_has ls 3 [(0, .ref ffa)] := hl
  have inX0 : ∀ w ∈ wsX00, w ∈ wsX7_fittingShifts := by decide +kernel
  have inX7 : ∀ w ∈ wsX70, w ∈ wsX7_fittingShifts := by decide +kernel
  have k1 := hts (.fieldLink RX7 16 "FriezeFolk" "trial" "LFriezeFolk$Hall;") (by decide +kernel)
  have k2 := hts (.fieldLink RX7 10 "FriezeFolk" "hall" "LFriezeFolk$Hall;") (by decide +kernel)
  have k3 := hts (.fieldLink RX7 99 "FriezeFolk$Hall" "shift" "I") (by decide +kernel)
  have k4 := hts (.fieldLink RX7 36 "FriezeFolk" "memory" "LFriezeFolk$Memory;") (by decide +kernel)
  unfold mX7_fittingShifts at hm
  refine lv_aload_n hx hb dX7_fittingShifts_0 rfl (lv_at hl 0 rfl) ?_
  refine xget (ref := "FriezeFolk") (C := RX7) (T := TX7) (N := 9) (ci := 7) (v := .ref (tra 0)) hx hb hts inX7 hown hK hP 0 rfl rfl 1 (by decide) k1 rfl rfl dX7_fittingShifts_1 ?_
  refine lv_aload_n hx hb dX7_fittingShifts_4 rfl (lv_at hl 0 rfl) ?_
  refine xget (ref := "FriezeFolk") (C := RX7) (T := TX7) (N := 9) (ci := 7) (v := .ref (ha 0)) hx hb hts inX7 hown hK hP 0 rfl rfl 0 (by decide) k2 rfl rfl dX7_fittingShifts_5 ?_
  obtain ⟨v1, q1, h13⟩ := obn hm
  clear hm
  refine xVv (As := [.ref (ha 0)]) (ci := 0) ⟨hx, hb, hml, hown, hts⟩ (k_X0_copy l D ca tra ha tr h _ q1) (cwV 1 hts gX7_fittingShifts_X0_copy rfl rfl rfl (by decide +kernel) ⟨Nat.le_of_ble_eq_true rfl, Nat.le_of_ble_eq_true rfl⟩) hK hA hP hD hS dX7_fittingShifts_8 rfl hl.1 [7, 8, 9, 10, 11, 12, 1, 2, 3, 4, 5, 6] [0, 13, 14, 15] [0, 10, 11, 12, 13, 14, 15, 4, 5, 6, 7, 8, 9, 1, 2, 3] rfl rfl (wr := ((cF ffa (ha 0) (tra 0) r2 r3 (mea 0) r5 r6 r7 ff) ++ (cM ca mea me))) rfl rfl (by decide) (wn := ((cF ffa (ha 0) (tra 0) r2 r3 (mea 0) r5 r6 r7 ff) ++ (cH ca ha h) ++ (cH ca tra v1) ++ (cM ca mea me))) rfl rfl rfl rfl rfl rfl (Nat.le_of_ble_eq_true rfl) (fun H locs hP hD hS => ?_)
  refine lv_iconst (v := (0 : Int32)) hx hb dX7_fittingShifts_11 (by decide) ?_
  refine lv_istore_n (lv' := [(1, .int (0 : Int32)), (0, .ref ffa)]) hx hb dX7_fittingShifts_12 rfl hl (by decide) rfl (fun ls hl => ?_)
  refine lv_iconst (v := (0 : Int32)) hx hb dX7_fittingShifts_13 (by decide) ?_
  refine lv_istore_n (lv' := [(2, .int (0 : Int32)), (1, .int (0 : Int32)), (0, .ref ffa)]) hx hb dX7_fittingShifts_14 rfl hl (by decide) rfl (fun ls hl => ?_)
  obtain ⟨e12, w14, h15⟩ := obn h13
  clear h13
  have AF12 : ∀ (ls : Array Slot) (H : Heap) (locs : List Loc), lv_has ls 3 [(1, .int e12.1)] → va_P D vwCl ((cF ffa (ha 0) (tra 0) r2 r3 (mea 0) r5 r6 r7 ff) ++ (cH ca ha h) ++ (cH ca tra e12.2.2) ++ (cM ca mea me)) H → va_D A ((cF ffa (ha 0) (tra 0) r2 r3 (mea 0) r5 r6 r7 ff) ++ (cH ca ha h) ++ (cH ca tra e12.2.2) ++ (cM ca mea me)) → va_S A s.heap H locs → W p l e rmX7_fittingShifts s m ([.ref ffa] : List Value).toArray below meth c H locs 0 0 Z (F0 m 55 ls []) := by
    intro ls H locs hl hP hD hS
    refine lv_iload_n hx hb dX7_fittingShifts_55 rfl (lv_at hl 0 rfl) ?_
    obtain rfl := Option.some.inj h15
    exact hret _ _ _ _ (vp_nar_int _) hP hD hS dX7_fittingShifts_56
  refine whO_walk (I := fun s7 => ∀ (ls : Array Slot) (H : Heap) (locs : List Loc), lv_has ls 3 [(0, .ref ffa), (1, .int s7.1), (2, .int s7.2.1)] → va_P D vwCl ((cF ffa (ha 0) (tra 0) r2 r3 (mea 0) r5 r6 r7 ff) ++ (cH ca ha h) ++ (cH ca tra s7.2.2) ++ (cM ca mea me)) H → va_D A ((cF ffa (ha 0) (tra 0) r2 r3 (mea 0) r5 r6 r7 ff) ++ (cH ca ha h) ++ (cH ca tra s7.2.2) ++ (cM ca mea me)) → va_S A s.heap H locs → W p l e rmX7_fittingShifts s m ([.ref ffa] : List Value).toArray below meth c H locs 0 0 Z (F0 m 15 ls [])) ?_ _ _ w14 _ _ _ (lv_sub hl [2, 1, 0] rfl) hP hD hS
  clear w14
  intro s7 o12 h16 hi12 ho12 ls H locs hl hP hD hS
  unfold mX7_fittingShifts_l15 at h16
  refine lv_iload_n hx hb dX7_fittingShifts_15 rfl (lv_at hl 2 rfl) ?_
  refine lv_bipush (v := (6 : Int32)) hx hb dX7_fittingShifts_16 (by decide) ?_
  refine lv_icmp_ge (tgt := 55) hx hb dX7_fittingShifts_18 (by decide) (fun c8 => ?_) (fun c8 => ?_)
  · skip
    replace h16 := (if_pos c8).symm.trans h16
    have h17 := ho12 _ (Option.some.inj h16).symm
    subst h17
    exact AF12 _ _ _ (lv_sub hl [1] rfl) hP hD hS
  · skip
    replace h16 := (if_neg c8).symm.trans h16
    refine lv_aload_n hx hb dX7_fittingShifts_21 rfl (lv_at hl 0 rfl) ?_
    refine xget (ref := "FriezeFolk") (C := RX7) (T := TX7) (N := 9) (ci := 7) (v := .ref (tra 0)) hx hb hts inX7 hown hK hP 0 rfl rfl 1 (by decide) k1 rfl rfl dX7_fittingShifts_22 ?_
    refine lv_iload_n hx hb dX7_fittingShifts_25 rfl (lv_at hl 2 rfl) ?_
    refine xput (ref := "FriezeFolk$Hall") (C := RX0) (T := TX0) (N := 13) (ci := 0) (v := .int s7.2.1) (ty := .int) hx hb hts inX0 tyX0 tyX0_ok nmX0 hown hK hP hD hS 7 rfl rfl 7 (by decide) k3 rfl rfl (by decide +kernel) rfl rfl (Nat.le_of_ble_eq_true rfl) dX7_fittingShifts_26 (wn := ((cF ffa (ha 0) (tra 0) r2 r3 (mea 0) r5 r6 r7 ff) ++ (cH ca ha h) ++ (cH ca tra (sI s7.2.2 7 s7.2.1)) ++ (cM ca mea me))) rfl (fun H locs hP hD hS => ?_)
    refine lv_aload_n hx hb dX7_fittingShifts_29 rfl (lv_at hl 0 rfl) ?_
    refine xget (ref := "FriezeFolk") (C := RX7) (T := TX7) (N := 9) (ci := 7) (v := .ref (mea 0)) hx hb hts inX7 hown hK hP 0 rfl rfl 4 (by decide) k4 rfl rfl dX7_fittingShifts_30 ?_
    refine lv_aload_n hx hb dX7_fittingShifts_33 rfl (lv_at hl 0 rfl) ?_
    refine xget (ref := "FriezeFolk") (C := RX7) (T := TX7) (N := 9) (ci := 7) (v := .ref (tra 0)) hx hb hts inX7 hown hK hP 0 rfl rfl 1 (by decide) k1 rfl rfl dX7_fittingShifts_34 ?_
    obtain ⟨v9, q9, h18⟩ := obn h16
    clear h16
    refine xVi (As := [.ref (tra 0)]) (ci := 3) ⟨hx, hb, hml, hown, hts⟩ (k_X3_fits l D ca mea tra me (sI s7.2.2 7 s7.2.1) _ q9) (cwV 1 hts gX7_fittingShifts_X3_fits rfl rfl rfl (by decide +kernel) ⟨Nat.le_of_ble_eq_true rfl, Nat.le_of_ble_eq_true rfl⟩) hK hA hP hD hS dX7_fittingShifts_37 rfl hl.1 [13, 14, 15, 7, 8, 9, 10, 11, 12] [0, 1, 2, 3, 4, 5, 6] [0, 1, 2, 3, 4, 5, 6, 10, 11, 12, 13, 14, 15, 7, 8, 9] rfl rfl (wr := ((cF ffa (ha 0) (tra 0) r2 r3 (mea 0) r5 r6 r7 ff) ++ (cH ca ha h))) rfl rfl (by decide) (wn := ((cF ffa (ha 0) (tra 0) r2 r3 (mea 0) r5 r6 r7 ff) ++ (cH ca ha h) ++ (cH ca tra (sI s7.2.2 7 s7.2.1)) ++ (cM ca mea me))) rfl rfl rfl rfl rfl rfl (Nat.le_of_ble_eq_true rfl) (fun H locs hP hD hS => ?_)
    obtain ⟨v11, q19, h20⟩ := obn h18
    clear h18
    have J11 : ∀ (ls : Array Slot) (H : Heap) (locs : List Loc), lv_has ls 3 [(0, .ref ffa), (1, .int v11), (2, .int s7.2.1)] → va_P D vwCl ((cF ffa (ha 0) (tra 0) r2 r3 (mea 0) r5 r6 r7 ff) ++ (cH ca ha h) ++ (cH ca tra (sI s7.2.2 7 s7.2.1)) ++ (cM ca mea me)) H → va_D A ((cF ffa (ha 0) (tra 0) r2 r3 (mea 0) r5 r6 r7 ff) ++ (cH ca ha h) ++ (cH ca tra (sI s7.2.2 7 s7.2.1)) ++ (cM ca mea me)) → va_S A s.heap H locs → W p l e rmX7_fittingShifts s m ([.ref ffa] : List Value).toArray below meth c H locs 0 0 Z (F0 m 49 ls []) := by
      intro ls H locs hl hP hD hS
      refine lv_iinc (v := (s7.2.1 + (1 : Int32))) (lv' := [(2, .int (s7.2.1 + (1 : Int32))), (0, .ref ffa), (1, .int v11)]) hx hb dX7_fittingShifts_49 hl (k := 2) rfl rfl (by decide) rfl (fun ls hl => ?_)
      refine lv_goto (tgt := 15) hx hb dX7_fittingShifts_52 (by decide) ?_
      exact hi12 _ (Option.some.inj h20).symm _ _ _ (lv_sub hl [1, 2, 0] rfl) hP hD hS
    refine lv_if_eq (tgt := 49) hx hb dX7_fittingShifts_40 (by decide) (fun c10 => ?_) (fun c10 => ?_)
    · skip
      replace q19 := (if_pos c10).symm.trans q19
      obtain rfl := Option.some.inj q19
      exact J11 _ _ _ (lv_sub hl [0, 1, 2] rfl) hP hD hS
    · skip
      replace q19 := (if_neg c10).symm.trans q19
      refine lv_iload_n hx hb dX7_fittingShifts_43 rfl (lv_at hl 1 rfl) ?_
      refine lv_iconst (v := (1 : Int32)) hx hb dX7_fittingShifts_44 (by decide) ?_
      refine lv_iload_n hx hb dX7_fittingShifts_45 rfl (lv_at hl 2 rfl) ?_
      refine lv_ishl hx hb dX7_fittingShifts_46 ?_
      refine lv_ior hx hb dX7_fittingShifts_47 ?_
      refine lv_istore_n (lv' := [(1, .int (s7.1 ||| ((1 : Int32) <<< (s7.2.1 &&& 31)))), (0, .ref ffa), (2, .int s7.2.1)]) hx hb dX7_fittingShifts_48 rfl hl (by decide) rfl (fun ls hl => ?_)
      obtain rfl := Option.some.inj q19
      exact J11 _ _ _ (lv_sub hl [1, 0, 2] rfl) hP hD hS

def mX7_shifts (h : GS) (tr : GS) (me : GS) : Option (Int32 × GS) :=
  Option.bind (mX7_fittingShifts h tr me) fun v1 =>
  some (v1.1, v1.2)
abbrev rmX7_shifts : Room := { frames := 5, cells := 0, slots := 0, locals := 111 }
set_option maxHeartbeats 4000000 in
set_option maxRecDepth 100000 in
theorem k_X7_shifts (l : Launch) (D : va_G) (ca : Nat → ClassId) (ffa : Nat) (r2 r3 r5 r6 r7 : Nat) (ha : Nat → Nat) (tra : Nat → Nat) (mea : Nat → Nat) (ff : Int32) (h : GS) (tr : GS) (me : GS) (o : Int32 × GS) (hm : mX7_shifts h tr me = some o) : KI l yX7_shifts wsX7_shifts rmX7_shifts D ca [.ref ffa] ((cF ffa (ha 0) (tra 0) r2 r3 (mea 0) r5 r6 r7 ff) ++ (cH ca ha h) ++ (cH ca tra tr) ++ (cM ca mea me)) ((cF ffa (ha 0) (tra 0) r2 r3 (mea 0) r5 r6 r7 ff) ++ (cH ca ha h) ++ (cH ca tra o.2) ++ (cM ca mea me)) o.1 := by
  refine KI.of (cc := cX7_shifts) (n := 1) (plainFor_of_name (by decide)) rfl (Nat.le_of_ble_eq_true rfl) ?_
  intro p e s m below meth c A Z hx hb hml hts hown hA hK hP hD hS hret ls hl
  have hown : s.vm.findClass RX7 = some m.cls := hown
  have hl : lv_has ls 1 [(0, .ref ffa)] := hl
  unfold mX7_shifts at hm
  refine lv_aload_n hx hb dX7_shifts_0 rfl (lv_at hl 0 rfl) ?_
  obtain ⟨v1, q1, h2⟩ := obn hm
  clear hm
  refine xVi (As := []) (ci := 7) ⟨hx, hb, hml, hown, hts⟩ (k_X7_fittingShifts l D ca ffa r2 r3 r5 r6 r7 ha tra mea ff h tr me _ q1) (cwV 0 hts gX7_shifts_X7_fittingShifts rfl rfl rfl (by decide +kernel) ⟨Nat.le_of_ble_eq_true rfl, Nat.le_of_ble_eq_true rfl⟩) hK hA hP hD hS dX7_shifts_1 rfl hl.1 [0, 1, 2, 3, 4, 5, 6, 7, 8, 9, 10, 11, 12, 13, 14, 15] [] [0, 1, 2, 3, 4, 5, 6, 7, 8, 9, 10, 11, 12, 13, 14, 15] rfl rfl (wr := []) rfl rfl (by decide) (wn := ((cF ffa (ha 0) (tra 0) r2 r3 (mea 0) r5 r6 r7 ff) ++ (cH ca ha h) ++ (cH ca tra v1.2) ++ (cM ca mea me))) rfl rfl rfl rfl rfl rfl (Nat.le_of_ble_eq_true rfl) (fun H locs hP hD hS => ?_)
  obtain rfl := Option.some.inj h2
  exact hret _ _ _ _ (vp_nar_int _) hP hD hS dX7_shifts_4

def mX7_frankByShift (tr : GS) (j : Int32) (i : Int32) : Option (Int32 × GS) :=
  Option.bind (mX0_frankAt (sI tr 7 j) i) fun v1 =>
  some (v1, (sI tr 7 j))
abbrev rmX7_frankByShift : Room := { frames := 3, cells := 0, slots := 0, locals := 67 }
set_option maxHeartbeats 4000000 in
set_option maxRecDepth 100000 in
theorem k_X7_frankByShift (l : Launch) (D : va_G) (ca : Nat → ClassId) (ffa : Nat) (r0 r2 r3 r4 r5 r6 r7 : Nat) (tra : Nat → Nat) (ff : Int32) (tr : GS) (j : Int32) (i : Int32) (o : Int32 × GS) (hm : mX7_frankByShift tr j i = some o) : KI l yX7_frankByShift wsX7_frankByShift rmX7_frankByShift D ca [.ref ffa, .int j, .int i] ((cF ffa r0 (tra 0) r2 r3 r4 r5 r6 r7 ff) ++ (cH ca tra tr)) ((cF ffa r0 (tra 0) r2 r3 r4 r5 r6 r7 ff) ++ (cH ca tra o.2)) o.1 := by
  refine KI.of (cc := cX7_frankByShift) (n := 3) (plainFor_of_name (by decide)) rfl (Nat.le_of_ble_eq_true rfl) ?_
  intro p e s m below meth c A Z hx hb hml hts hown hA hK hP hD hS hret ls hl
  have hown : s.vm.findClass RX7 = some m.cls := hown
  have hl : lv_has ls 3 [(0, .ref ffa), (1, .int j), (2, .int i)] := hl
  have inX0 : ∀ w ∈ wsX00, w ∈ wsX7_frankByShift := by decide +kernel
  have inX7 : ∀ w ∈ wsX70, w ∈ wsX7_frankByShift := by decide +kernel
  have k1 := hts (.fieldLink RX7 16 "FriezeFolk" "trial" "LFriezeFolk$Hall;") (by decide +kernel)
  have k2 := hts (.fieldLink RX7 99 "FriezeFolk$Hall" "shift" "I") (by decide +kernel)
  unfold mX7_frankByShift at hm
  refine lv_aload_n hx hb dX7_frankByShift_0 rfl (lv_at hl 0 rfl) ?_
  refine xget (ref := "FriezeFolk") (C := RX7) (T := TX7) (N := 9) (ci := 7) (v := .ref (tra 0)) hx hb hts inX7 hown hK hP 0 rfl rfl 1 (by decide) k1 rfl rfl dX7_frankByShift_1 ?_
  refine lv_iload_n hx hb dX7_frankByShift_4 rfl (lv_at hl 1 rfl) ?_
  refine xput (ref := "FriezeFolk$Hall") (C := RX0) (T := TX0) (N := 13) (ci := 0) (v := .int j) (ty := .int) hx hb hts inX0 tyX0 tyX0_ok nmX0 hown hK hP hD hS 1 rfl rfl 7 (by decide) k2 rfl rfl (by decide +kernel) rfl rfl (Nat.le_of_ble_eq_true rfl) dX7_frankByShift_5 (wn := ((cF ffa r0 (tra 0) r2 r3 r4 r5 r6 r7 ff) ++ (cH ca tra (sI tr 7 j)))) rfl (fun H locs hP hD hS => ?_)
  refine lv_aload_n hx hb dX7_frankByShift_8 rfl (lv_at hl 0 rfl) ?_
  refine xget (ref := "FriezeFolk") (C := RX7) (T := TX7) (N := 9) (ci := 7) (v := .ref (tra 0)) hx hb hts inX7 hown hK hP 0 rfl rfl 1 (by decide) k1 rfl rfl dX7_frankByShift_9 ?_
  refine lv_iload_n hx hb dX7_frankByShift_12 rfl (lv_at hl 2 rfl) ?_
  obtain ⟨v1, q1, h2⟩ := obn hm
  clear hm
  refine xVi (As := [.int i]) (ci := 0) ⟨hx, hb, hml, hown, hts⟩ (k_X0_frankAt l D ca tra (sI tr 7 j) i _ q1) (cwV 1 hts gX7_frankByShift_X0_frankAt rfl rfl rfl (by decide +kernel) ⟨Nat.le_of_ble_eq_true rfl, Nat.le_of_ble_eq_true rfl⟩) hK hA hP hD hS dX7_frankByShift_13 rfl hl.1 [1, 2, 3, 4, 5, 6] [0] [0, 1, 2, 3, 4, 5, 6] rfl rfl (wr := ((cF ffa r0 (tra 0) r2 r3 r4 r5 r6 r7 ff))) rfl rfl (by decide) (wn := ((cF ffa r0 (tra 0) r2 r3 r4 r5 r6 r7 ff) ++ (cH ca tra (sI tr 7 j)))) rfl rfl rfl rfl rfl rfl (Nat.le_of_ble_eq_true rfl) (fun H locs hP hD hS => ?_)
  obtain rfl := Option.some.inj h2
  exact hret _ _ _ _ (vp_nar_int _) hP hD hS dX7_frankByShift_16
def mX7_leftAtWorst_l36 (n : Int32) (i : Int32) (v21 : Int32 × GS) (s28 : Int32 × Int32 × GS) : Option ((Int32 × Int32 × GS) ⊕ (Int32 × Int32 × GS)) :=
  if (6 : Int32) ≤ s28.2.1 then
    some (.inr (s28.1, s28.2.1, s28.2.2))
  else
    Option.bind (
      if ((n >>> (s28.2.1 &&& 31)) &&& (1 : Int32)) = 0 then
        some (s28.1, s28.2.2)
      else
        Option.bind (mX7_frankByShift s28.2.2 s28.2.1 i) fun v31 =>
        if v31.1 = v21.1 then
          some ((s28.1 + (1 : Int32)), v31.2)
        else
          some (s28.1, v31.2)) fun (v33 : Int32 × GS) =>
    some (.inl (v33.1, (s28.2.1 + (1 : Int32)), v33.2))

def mX7_leftAtWorst_l5 (n : Int32) (i : Int32) (s18 : Int32 × Int32 × GS) : Option ((Int32 × Int32 × GS) ⊕ (Int32 × Int32 × GS)) :=
  if (6 : Int32) ≤ s18.2.1 then
    some (.inr (s18.1, s18.2.1, s18.2.2))
  else
    if ((n >>> (s18.2.1 &&& 31)) &&& (1 : Int32)) = 0 then
      some (.inl (s18.1, (s18.2.1 + (1 : Int32)), s18.2.2))
    else
      Option.bind (mX7_frankByShift s18.2.2 s18.2.1 i) fun v21 =>
      Option.bind (whO (mX7_leftAtWorst_l36 n i v21) FU ((0 : Int32), (0 : Int32), v21.2)) fun e34 =>
      some (.inl ((if s18.1 < e34.1 then e34.1 else s18.1), (s18.2.1 + (1 : Int32)), e34.2.2))

def mX7_leftAtWorst (tr : GS) (n : Int32) (i : Int32) : Option (Int32 × GS) :=
  Option.bind (whO (mX7_leftAtWorst_l5 n i) FU ((0 : Int32), (0 : Int32), tr)) fun e35 =>
  some (e35.1, e35.2.2)
abbrev rmX7_leftAtWorst : Room := { frames := 4, cells := 0, slots := 0, locals := 89 }
set_option maxHeartbeats 4000000 in
set_option maxRecDepth 100000 in
theorem k_X7_leftAtWorst (l : Launch) (D : va_G) (ca : Nat → ClassId) (ffa : Nat) (r0 r2 r3 r4 r5 r6 r7 : Nat) (tra : Nat → Nat) (ff : Int32) (tr : GS) (n : Int32) (i : Int32) (o : Int32 × GS) (hm : mX7_leftAtWorst tr n i = some o) : KI l yX7_leftAtWorst wsX7_leftAtWorst rmX7_leftAtWorst D ca [.ref ffa, .int n, .int i] ((cF ffa r0 (tra 0) r2 r3 r4 r5 r6 r7 ff) ++ (cH ca tra tr)) ((cF ffa r0 (tra 0) r2 r3 r4 r5 r6 r7 ff) ++ (cH ca tra o.2)) o.1 := by
  refine KI.of (cc := cX7_leftAtWorst) (n := 8) (plainFor_of_name (by decide)) rfl (Nat.le_of_ble_eq_true rfl) ?_
  intro p e s m below meth c A Z hx hb hml hts hown hA hK hP hD hS hret ls hl
  have hown : s.vm.findClass RX7 = some m.cls := hown
  have hl : lv_has ls 8 [(0, .ref ffa), (1, .int n), (2, .int i)] := hl
  have k1 := hts (.methodLink RX7 292 Lib.Math.max.name) (by decide +kernel)
  have k2 := hts (.static Lib.Math.max.name) (by decide +kernel)
  have k3 := hts (.initialized "java/lang/Math") (by decide +kernel)
  have k4 := hts (.code Lib.Math.max.name Lib.Math.max.code 2 (some .int)) (by decide +kernel)
  unfold mX7_leftAtWorst at hm
  refine lv_iconst (v := (0 : Int32)) hx hb dX7_leftAtWorst_0 (by decide) ?_
  refine lv_istore_n (lv' := [(3, .int (0 : Int32)), (0, .ref ffa), (1, .int n), (2, .int i)]) hx hb dX7_leftAtWorst_1 rfl hl (by decide) rfl (fun ls hl => ?_)
  refine lv_iconst (v := (0 : Int32)) hx hb dX7_leftAtWorst_2 (by decide) ?_
  refine lv_istore (lv' := [(4, .int (0 : Int32)), (3, .int (0 : Int32)), (0, .ref ffa), (1, .int n), (2, .int i)]) hx hb dX7_leftAtWorst_3 hl (by decide) rfl (fun ls hl => ?_)
  obtain ⟨e35, w36, h37⟩ := obn hm
  clear hm
  have AF35 : ∀ (ls : Array Slot) (H : Heap) (locs : List Loc), lv_has ls 8 [(3, .int e35.1)] → va_P D vwCl ((cF ffa r0 (tra 0) r2 r3 r4 r5 r6 r7 ff) ++ (cH ca tra e35.2.2)) H → va_D A ((cF ffa r0 (tra 0) r2 r3 r4 r5 r6 r7 ff) ++ (cH ca tra e35.2.2)) → va_S A s.heap H locs → W p l e rmX7_leftAtWorst s m ([.ref ffa, .int n, .int i] : List Value).toArray below meth c H locs 0 0 Z (F0 m 86 ls []) := by
    intro ls H locs hl hP hD hS
    refine lv_iload_n hx hb dX7_leftAtWorst_86 rfl (lv_at hl 0 rfl) ?_
    obtain rfl := Option.some.inj h37
    exact hret _ _ _ _ (vp_nar_int _) hP hD hS dX7_leftAtWorst_87
  refine whO_walk (I := fun s18 => ∀ (ls : Array Slot) (H : Heap) (locs : List Loc), lv_has ls 8 [(0, .ref ffa), (1, .int n), (2, .int i), (3, .int s18.1), (4, .int s18.2.1)] → va_P D vwCl ((cF ffa r0 (tra 0) r2 r3 r4 r5 r6 r7 ff) ++ (cH ca tra s18.2.2)) H → va_D A ((cF ffa r0 (tra 0) r2 r3 r4 r5 r6 r7 ff) ++ (cH ca tra s18.2.2)) → va_S A s.heap H locs → W p l e rmX7_leftAtWorst s m ([.ref ffa, .int n, .int i] : List Value).toArray below meth c H locs 0 0 Z (F0 m 5 ls [])) ?_ _ _ w36 _ _ _ (lv_sub hl [2, 3, 4, 1, 0] rfl) hP hD hS
  clear w36
  intro s18 o35 h38 hi35 ho35 ls H locs hl hP hD hS
  unfold mX7_leftAtWorst_l5 at h38
  refine lv_iload hx hb dX7_leftAtWorst_5 (lv_at hl 4 rfl) ?_
  refine lv_bipush (v := (6 : Int32)) hx hb dX7_leftAtWorst_7 (by decide) ?_
  refine lv_icmp_ge (tgt := 86) hx hb dX7_leftAtWorst_9 (by decide) (fun c19 => ?_) (fun c19 => ?_)
  · skip
    replace h38 := (if_pos c19).symm.trans h38
    have h39 := ho35 _ (Option.some.inj h38).symm
    subst h39
    exact AF35 _ _ _ (lv_sub hl [3] rfl) hP hD hS
  · skip
    replace h38 := (if_neg c19).symm.trans h38
    refine lv_iload_n hx hb dX7_leftAtWorst_12 rfl (lv_at hl 1 rfl) ?_
    refine lv_iload hx hb dX7_leftAtWorst_13 (lv_at hl 4 rfl) ?_
    refine lv_ishr hx hb dX7_leftAtWorst_15 ?_
    refine lv_iconst (v := (1 : Int32)) hx hb dX7_leftAtWorst_16 (by decide) ?_
    refine lv_iand hx hb dX7_leftAtWorst_17 ?_
    refine lv_if_eq (tgt := 80) hx hb dX7_leftAtWorst_18 (by decide) (fun c20 => ?_) (fun c20 => ?_)
    · skip
      replace h38 := (if_pos c20).symm.trans h38
      refine lv_iinc (v := (s18.2.1 + (1 : Int32))) (lv' := [(4, .int (s18.2.1 + (1 : Int32))), (0, .ref ffa), (1, .int n), (2, .int i), (3, .int s18.1)]) hx hb dX7_leftAtWorst_80 hl (k := 4) rfl rfl (by decide) rfl (fun ls hl => ?_)
      refine lv_goto (tgt := 5) hx hb dX7_leftAtWorst_83 (by decide) ?_
      exact hi35 _ (Option.some.inj h38).symm _ _ _ (lv_sub hl [1, 2, 3, 4, 0] rfl) hP hD hS
    · skip
      replace h38 := (if_neg c20).symm.trans h38
      refine lv_aload_n hx hb dX7_leftAtWorst_21 rfl (lv_at hl 0 rfl) ?_
      refine lv_iload hx hb dX7_leftAtWorst_22 (lv_at hl 4 rfl) ?_
      refine lv_iload_n hx hb dX7_leftAtWorst_24 rfl (lv_at hl 2 rfl) ?_
      obtain ⟨v21, q21, h40⟩ := obn h38
      clear h38
      refine xVi (As := [.int s18.2.1, .int i]) (ci := 7) ⟨hx, hb, hml, hown, hts⟩ (k_X7_frankByShift l D ca ffa r0 r2 r3 r4 r5 r6 r7 tra ff s18.2.2 s18.2.1 i _ q21) (cwV 2 hts gX7_leftAtWorst_X7_frankByShift rfl rfl rfl (by decide +kernel) ⟨Nat.le_of_ble_eq_true rfl, Nat.le_of_ble_eq_true rfl⟩) hK hA hP hD hS dX7_leftAtWorst_25 rfl hl.1 [0, 1, 2, 3, 4, 5, 6] [] [0, 1, 2, 3, 4, 5, 6] rfl rfl (wr := []) rfl rfl (by decide) (wn := ((cF ffa r0 (tra 0) r2 r3 r4 r5 r6 r7 ff) ++ (cH ca tra v21.2))) rfl rfl rfl rfl rfl rfl (Nat.le_of_ble_eq_true rfl) (fun H locs hP hD hS => ?_)
      refine lv_istore (lv' := [(5, .int v21.1), (0, .ref ffa), (1, .int n), (2, .int i), (3, .int s18.1), (4, .int s18.2.1)]) hx hb dX7_leftAtWorst_28 hl (by decide) rfl (fun ls hl => ?_)
      refine lv_iconst (v := (0 : Int32)) hx hb dX7_leftAtWorst_30 (by decide) ?_
      refine lv_istore (lv' := [(6, .int (0 : Int32)), (5, .int v21.1), (0, .ref ffa), (1, .int n), (2, .int i), (3, .int s18.1), (4, .int s18.2.1)]) hx hb dX7_leftAtWorst_31 hl (by decide) rfl (fun ls hl => ?_)
      refine lv_iconst (v := (0 : Int32)) hx hb dX7_leftAtWorst_33 (by decide) ?_
      refine lv_istore (lv' := [(7, .int (0 : Int32)), (6, .int (0 : Int32)), (5, .int v21.1), (0, .ref ffa), (1, .int n), (2, .int i), (3, .int s18.1), (4, .int s18.2.1)]) hx hb dX7_leftAtWorst_34 hl (by decide) rfl (fun ls hl => ?_)
      obtain ⟨e34, w41, h42⟩ := obn h40
      clear h40
      have AF34 : ∀ (ls : Array Slot) (H : Heap) (locs : List Loc), lv_has ls 8 [(0, .ref ffa), (1, .int n), (2, .int i), (3, .int s18.1), (4, .int s18.2.1), (6, .int e34.1)] → va_P D vwCl ((cF ffa r0 (tra 0) r2 r3 r4 r5 r6 r7 ff) ++ (cH ca tra e34.2.2)) H → va_D A ((cF ffa r0 (tra 0) r2 r3 r4 r5 r6 r7 ff) ++ (cH ca tra e34.2.2)) → va_S A s.heap H locs → W p l e rmX7_leftAtWorst s m ([.ref ffa, .int n, .int i] : List Value).toArray below meth c H locs 0 0 Z (F0 m 73 ls []) := by
        intro ls H locs hl hP hD hS
        refine lv_iload_n hx hb dX7_leftAtWorst_73 rfl (lv_at hl 3 rfl) ?_
        refine lv_iload hx hb dX7_leftAtWorst_74 (lv_at hl 5 rfl) ?_
        refine va_mmax hx hb (hml.trans hl.1.symm) hown k1 k2 k3 k4 (Nat.le_of_ble_eq_true rfl) (Nat.le_of_ble_eq_true rfl) (Nat.zero_le _) (Nat.zero_le _) dX7_leftAtWorst_76 ?_
        refine lv_istore_n (lv' := [(3, .int (if s18.1 < e34.1 then e34.1 else s18.1)), (0, .ref ffa), (1, .int n), (2, .int i), (4, .int s18.2.1), (6, .int e34.1)]) hx hb dX7_leftAtWorst_79 rfl hl (by decide) rfl (fun ls hl => ?_)
        refine lv_iinc (v := (s18.2.1 + (1 : Int32))) (lv' := [(4, .int (s18.2.1 + (1 : Int32))), (3, .int (if s18.1 < e34.1 then e34.1 else s18.1)), (0, .ref ffa), (1, .int n), (2, .int i), (6, .int e34.1)]) hx hb dX7_leftAtWorst_80 hl (k := 4) rfl rfl (by decide) rfl (fun ls hl => ?_)
        refine lv_goto (tgt := 5) hx hb dX7_leftAtWorst_83 (by decide) ?_
        exact hi35 _ (Option.some.inj h42).symm _ _ _ (lv_sub hl [2, 3, 4, 1, 0] rfl) hP hD hS
      refine whO_walk (I := fun s28 => ∀ (ls : Array Slot) (H : Heap) (locs : List Loc), lv_has ls 8 [(0, .ref ffa), (1, .int n), (2, .int i), (3, .int s18.1), (4, .int s18.2.1), (5, .int v21.1), (6, .int s28.1), (7, .int s28.2.1)] → va_P D vwCl ((cF ffa r0 (tra 0) r2 r3 r4 r5 r6 r7 ff) ++ (cH ca tra s28.2.2)) H → va_D A ((cF ffa r0 (tra 0) r2 r3 r4 r5 r6 r7 ff) ++ (cH ca tra s28.2.2)) → va_S A s.heap H locs → W p l e rmX7_leftAtWorst s m ([.ref ffa, .int n, .int i] : List Value).toArray below meth c H locs 0 0 Z (F0 m 36 ls [])) ?_ _ _ w41 _ _ _ (lv_sub hl [3, 4, 5, 6, 7, 2, 1, 0] rfl) hP hD hS
      clear w41
      intro s28 o34 h43 hi34 ho34 ls H locs hl hP hD hS
      unfold mX7_leftAtWorst_l36 at h43
      refine lv_iload hx hb dX7_leftAtWorst_36 (lv_at hl 7 rfl) ?_
      refine lv_bipush (v := (6 : Int32)) hx hb dX7_leftAtWorst_38 (by decide) ?_
      refine lv_icmp_ge (tgt := 73) hx hb dX7_leftAtWorst_40 (by decide) (fun c29 => ?_) (fun c29 => ?_)
      · skip
        replace h43 := (if_pos c29).symm.trans h43
        have h44 := ho34 _ (Option.some.inj h43).symm
        subst h44
        exact AF34 _ _ _ (lv_sub hl [0, 1, 2, 3, 4, 6] rfl) hP hD hS
      · skip
        replace h43 := (if_neg c29).symm.trans h43
        refine lv_iload_n hx hb dX7_leftAtWorst_43 rfl (lv_at hl 1 rfl) ?_
        refine lv_iload hx hb dX7_leftAtWorst_44 (lv_at hl 7 rfl) ?_
        refine lv_ishr hx hb dX7_leftAtWorst_46 ?_
        refine lv_iconst (v := (1 : Int32)) hx hb dX7_leftAtWorst_47 (by decide) ?_
        refine lv_iand hx hb dX7_leftAtWorst_48 ?_
        obtain ⟨v33, q45, h46⟩ := obn h43
        clear h43
        have J33 : ∀ (ls : Array Slot) (H : Heap) (locs : List Loc), lv_has ls 8 [(0, .ref ffa), (1, .int n), (2, .int i), (3, .int s18.1), (4, .int s18.2.1), (5, .int v21.1), (6, .int v33.1), (7, .int s28.2.1)] → va_P D vwCl ((cF ffa r0 (tra 0) r2 r3 r4 r5 r6 r7 ff) ++ (cH ca tra v33.2)) H → va_D A ((cF ffa r0 (tra 0) r2 r3 r4 r5 r6 r7 ff) ++ (cH ca tra v33.2)) → va_S A s.heap H locs → W p l e rmX7_leftAtWorst s m ([.ref ffa, .int n, .int i] : List Value).toArray below meth c H locs 0 0 Z (F0 m 67 ls []) := by
          intro ls H locs hl hP hD hS
          refine lv_iinc (v := (s28.2.1 + (1 : Int32))) (lv' := [(7, .int (s28.2.1 + (1 : Int32))), (0, .ref ffa), (1, .int n), (2, .int i), (3, .int s18.1), (4, .int s18.2.1), (5, .int v21.1), (6, .int v33.1)]) hx hb dX7_leftAtWorst_67 hl (k := 7) rfl rfl (by decide) rfl (fun ls hl => ?_)
          refine lv_goto (tgt := 36) hx hb dX7_leftAtWorst_70 (by decide) ?_
          exact hi34 _ (Option.some.inj h46).symm _ _ _ (lv_sub hl [1, 2, 3, 4, 5, 6, 7, 0] rfl) hP hD hS
        refine lv_if_eq (tgt := 67) hx hb dX7_leftAtWorst_49 (by decide) (fun c30 => ?_) (fun c30 => ?_)
        · skip
          replace q45 := (if_pos c30).symm.trans q45
          obtain rfl := Option.some.inj q45
          exact J33 _ _ _ (lv_sub hl [0, 1, 2, 3, 4, 5, 6, 7] rfl) hP hD hS
        · skip
          replace q45 := (if_neg c30).symm.trans q45
          refine lv_aload_n hx hb dX7_leftAtWorst_52 rfl (lv_at hl 0 rfl) ?_
          refine lv_iload hx hb dX7_leftAtWorst_53 (lv_at hl 7 rfl) ?_
          refine lv_iload_n hx hb dX7_leftAtWorst_55 rfl (lv_at hl 2 rfl) ?_
          obtain ⟨v31, q31, h47⟩ := obn q45
          clear q45
          refine xVi (As := [.int s28.2.1, .int i]) (ci := 7) ⟨hx, hb, hml, hown, hts⟩ (k_X7_frankByShift l D ca ffa r0 r2 r3 r4 r5 r6 r7 tra ff s28.2.2 s28.2.1 i _ q31) (cwV 2 hts gX7_leftAtWorst_X7_frankByShift rfl rfl rfl (by decide +kernel) ⟨Nat.le_of_ble_eq_true rfl, Nat.le_of_ble_eq_true rfl⟩) hK hA hP hD hS dX7_leftAtWorst_56 rfl hl.1 [0, 1, 2, 3, 4, 5, 6] [] [0, 1, 2, 3, 4, 5, 6] rfl rfl (wr := []) rfl rfl (by decide) (wn := ((cF ffa r0 (tra 0) r2 r3 r4 r5 r6 r7 ff) ++ (cH ca tra v31.2))) rfl rfl rfl rfl rfl rfl (Nat.le_of_ble_eq_true rfl) (fun H locs hP hD hS => ?_)
          refine lv_iload hx hb dX7_leftAtWorst_59 (lv_at hl 5 rfl) ?_
          refine lv_icmp_ne (tgt := 67) hx hb dX7_leftAtWorst_61 (by decide) (fun c32 => ?_) (fun c32 => ?_)
          · skip
            replace h47 := (if_neg c32).symm.trans h47
            obtain rfl := Option.some.inj h47
            exact J33 _ _ _ (lv_sub hl [0, 1, 2, 3, 4, 5, 6, 7] rfl) hP hD hS
          · skip
            replace h47 := (if_pos c32).symm.trans h47
            refine lv_iinc (v := (s28.1 + (1 : Int32))) (lv' := [(6, .int (s28.1 + (1 : Int32))), (0, .ref ffa), (1, .int n), (2, .int i), (3, .int s18.1), (4, .int s18.2.1), (5, .int v21.1), (7, .int s28.2.1)]) hx hb dX7_leftAtWorst_64 hl (k := 6) rfl rfl (by decide) rfl (fun ls hl => ?_)
            obtain rfl := Option.some.inj h47
            exact J33 _ _ _ (lv_sub hl [1, 2, 3, 4, 5, 6, 0, 7] rfl) hP hD hS
def mX7_ask_l26 (h : GS) (v3 : Int32 × GS) (s10 : Int32 × Int32 × Int32 × GS) : Option ((Int32 × Int32 × Int32 × GS) ⊕ (Int32 × Int32 × Int32 × GS)) :=
  if (h.2 6) ≤ s10.2.2.1 then
    some (.inr (s10.1, s10.2.1, s10.2.2.1, s10.2.2.2))
  else
    Option.bind (mX7_leftAtWorst s10.2.2.2 v3.1 s10.2.2.1) fun v12 =>
    Option.bind (
      if s10.2.1 ≤ v12.1 then
        some (s10.1, s10.2.1)
      else
        some (s10.2.2.1, v12.1)) fun (v14 : Int32 × Int32) =>
    some (.inl (v14.1, v14.2, (s10.2.2.1 + (1 : Int32)), v12.2))

def mX7_ask (h : GS) (tr : GS) (me : GS) (w : Int32) : Option (Int32 × GS) :=
  Option.bind (mX7_isNoPair w) fun v1 =>
  if v1 = 0 then
    Option.bind (mX7_fittingShifts h tr me) fun v3 =>
    Option.bind (mJ6_bitCount_0f7a4 v3.1) fun v4 =>
    Option.bind (whO (mX7_ask_l26 h v3) FU ((-4 : Int32), v4, (0 : Int32), v3.2)) fun e15 =>
    Option.bind (
      if e15.1 = (-4 : Int32) then
        some (.inl ())
      else
        if w = 0 then
          some (.inl ())
        else
          some (.inr (e15.2.1, e15.2.2.2))) fun (v18 : (Unit) ⊕ (Int32 × GS)) => esc v18 fun t19 =>
    some (e15.1, e15.2.2.2)
  else
    some ((-1 : Int32), tr)
abbrev rmX7_ask : Room := { frames := 5, cells := 0, slots := 0, locals := 116 }
set_option maxHeartbeats 4000000 in
set_option maxRecDepth 100000 in
theorem k_X7_ask (l : Launch) (D : va_G) (ca : Nat → ClassId) (ffa : Nat) (r2 r3 r5 r6 r7 : Nat) (ha : Nat → Nat) (tra : Nat → Nat) (mea : Nat → Nat) (ff : Int32) (h : GS) (tr : GS) (me : GS) (w : Int32) (o : Int32 × GS) (hm : mX7_ask h tr me w = some o) : KI l yX7_ask wsX7_ask rmX7_ask D ca [.ref ffa, .int w] ((cF ffa (ha 0) (tra 0) r2 r3 (mea 0) r5 r6 r7 ff) ++ (cH ca ha h) ++ (cH ca tra tr) ++ (cM ca mea me)) ((cF ffa (ha 0) (tra 0) r2 r3 (mea 0) r5 r6 r7 ff) ++ (cH ca ha h) ++ (cH ca tra o.2) ++ (cM ca mea me)) o.1 := by
  refine KI.of (cc := cX7_ask) (n := 7) (plainFor_of_name (by decide)) rfl (Nat.le_of_ble_eq_true rfl) ?_
  intro p e s m below meth c A Z hx hb hml hts hown hA hK hP hD hS hret ls hl
  have hown : s.vm.findClass RX7 = some m.cls := hown
  have hl : lv_has ls 7 [(0, .ref ffa), (1, .int w)] := hl
  have inX0 : ∀ w ∈ wsX00, w ∈ wsX7_ask := by decide +kernel
  have inX7 : ∀ w ∈ wsX70, w ∈ wsX7_ask := by decide +kernel
  have k1 := hts (.fieldLink RX7 10 "FriezeFolk" "hall" "LFriezeFolk$Hall;") (by decide +kernel)
  have k2 := hts (.fieldLink RX7 96 "FriezeFolk$Hall" "wide" "I") (by decide +kernel)
  unfold mX7_ask at hm
  refine lv_iload_n hx hb dX7_ask_0 rfl (lv_at hl 1 rfl) ?_
  obtain ⟨v1, q1, h20⟩ := obn hm
  clear hm
  refine xSi (As := [.int w]) ⟨hx, hb, hml, hown, hts⟩ (k_X7_isNoPair l D ca  w _ q1) (va_cwS 1 hts gX7_ask_X7_isNoPair rfl rfl rfl (by decide +kernel) ⟨Nat.le_of_ble_eq_true rfl, Nat.le_of_ble_eq_true rfl⟩) hK hA hP hD hS dX7_ask_1 rfl hl.1 [] [0, 1, 2, 3, 4, 5, 6, 7, 8, 9, 10, 11, 12, 13, 14, 15] [0, 1, 2, 3, 4, 5, 6, 7, 8, 9, 10, 11, 12, 13, 14, 15] rfl rfl (wr := ((cF ffa (ha 0) (tra 0) r2 r3 (mea 0) r5 r6 r7 ff) ++ (cH ca ha h) ++ (cH ca tra tr) ++ (cM ca mea me))) rfl rfl (by decide) (wn := ((cF ffa (ha 0) (tra 0) r2 r3 (mea 0) r5 r6 r7 ff) ++ (cH ca ha h) ++ (cH ca tra tr) ++ (cM ca mea me))) rfl rfl rfl (Nat.le_of_ble_eq_true rfl) (fun H locs hP hD hS => ?_)
  refine lv_if_eq (tgt := 9) hx hb dX7_ask_4 (by decide) (fun c2 => ?_) (fun c2 => ?_)
  · skip
    replace h20 := (if_pos c2).symm.trans h20
    refine lv_aload_n hx hb dX7_ask_9 rfl (lv_at hl 0 rfl) ?_
    obtain ⟨v3, q3, h21⟩ := obn h20
    clear h20
    refine xVi (As := []) (ci := 7) ⟨hx, hb, hml, hown, hts⟩ (k_X7_fittingShifts l D ca ffa r2 r3 r5 r6 r7 ha tra mea ff h tr me _ q3) (cwV 0 hts gX7_ask_X7_fittingShifts rfl rfl rfl (by decide +kernel) ⟨Nat.le_of_ble_eq_true rfl, Nat.le_of_ble_eq_true rfl⟩) hK hA hP hD hS dX7_ask_10 rfl hl.1 [0, 1, 2, 3, 4, 5, 6, 7, 8, 9, 10, 11, 12, 13, 14, 15] [] [0, 1, 2, 3, 4, 5, 6, 7, 8, 9, 10, 11, 12, 13, 14, 15] rfl rfl (wr := []) rfl rfl (by decide) (wn := ((cF ffa (ha 0) (tra 0) r2 r3 (mea 0) r5 r6 r7 ff) ++ (cH ca ha h) ++ (cH ca tra v3.2) ++ (cM ca mea me))) rfl rfl rfl rfl rfl rfl (Nat.le_of_ble_eq_true rfl) (fun H locs hP hD hS => ?_)
    refine lv_istore_n (lv' := [(2, .int v3.1), (0, .ref ffa), (1, .int w)]) hx hb dX7_ask_13 rfl hl (by decide) rfl (fun ls hl => ?_)
    refine lv_bipush (v := (-4 : Int32)) hx hb dX7_ask_14 (by decide) ?_
    refine lv_istore_n (lv' := [(3, .int (-4 : Int32)), (2, .int v3.1), (0, .ref ffa), (1, .int w)]) hx hb dX7_ask_16 rfl hl (by decide) rfl (fun ls hl => ?_)
    refine lv_iload_n hx hb dX7_ask_17 rfl (lv_at hl 1 rfl) ?_
    obtain ⟨v4, q4, h22⟩ := obn h21
    clear h21
    refine xSi (As := [.int v3.1]) ⟨hx, hb, hml, hown, hts⟩ (k_J6_bitCount_0f7a4 l D ca  v3.1 _ q4) (va_cwS 1 hts gX7_ask_J6_bitCount_0f7a4 rfl rfl rfl (by decide +kernel) ⟨Nat.le_of_ble_eq_true rfl, Nat.le_of_ble_eq_true rfl⟩) hK hA hP hD hS dX7_ask_18 rfl hl.1 [] [0, 1, 2, 3, 4, 5, 6, 7, 8, 9, 10, 11, 12, 13, 14, 15] [0, 1, 2, 3, 4, 5, 6, 7, 8, 9, 10, 11, 12, 13, 14, 15] rfl rfl (wr := ((cF ffa (ha 0) (tra 0) r2 r3 (mea 0) r5 r6 r7 ff) ++ (cH ca ha h) ++ (cH ca tra v3.2) ++ (cM ca mea me))) rfl rfl (by decide) (wn := ((cF ffa (ha 0) (tra 0) r2 r3 (mea 0) r5 r6 r7 ff) ++ (cH ca ha h) ++ (cH ca tra v3.2) ++ (cM ca mea me))) rfl rfl rfl (Nat.le_of_ble_eq_true rfl) (fun H locs hP hD hS => ?_)
    refine lv_istore (lv' := [(4, .int v4), (3, .int (-4 : Int32)), (2, .int v3.1), (0, .ref ffa), (1, .int w)]) hx hb dX7_ask_21 hl (by decide) rfl (fun ls hl => ?_)
    refine lv_iconst (v := (0 : Int32)) hx hb dX7_ask_23 (by decide) ?_
    refine lv_istore (lv' := [(5, .int (0 : Int32)), (4, .int v4), (3, .int (-4 : Int32)), (2, .int v3.1), (0, .ref ffa), (1, .int w)]) hx hb dX7_ask_24 hl (by decide) rfl (fun ls hl => ?_)
    obtain ⟨e15, w23, h24⟩ := obn h22
    clear h22
    have AF15 : ∀ (ls : Array Slot) (H : Heap) (locs : List Loc), lv_has ls 7 [(1, .int w), (3, .int e15.1), (4, .int e15.2.1)] → va_P D vwCl ((cF ffa (ha 0) (tra 0) r2 r3 (mea 0) r5 r6 r7 ff) ++ (cH ca ha h) ++ (cH ca tra e15.2.2.2) ++ (cM ca mea me)) H → va_D A ((cF ffa (ha 0) (tra 0) r2 r3 (mea 0) r5 r6 r7 ff) ++ (cH ca ha h) ++ (cH ca tra e15.2.2.2) ++ (cM ca mea me)) → va_S A s.heap H locs → W p l e rmX7_ask s m ([.ref ffa, .int w] : List Value).toArray below meth c H locs 0 0 Z (F0 m 67 ls []) := by
      intro ls H locs hl hP hD hS
      refine lv_iload_n hx hb dX7_ask_67 rfl (lv_at hl 1 rfl) ?_
      refine lv_bipush (v := (-4 : Int32)) hx hb dX7_ask_68 (by decide) ?_
      obtain ⟨v18, q25, h26⟩ := obn h24
      clear h24
      have J18 : ∀ t19, v18 = .inl t19 → ∀ (ls : Array Slot) (H : Heap) (locs : List Loc), lv_has ls 7 [(3, .int e15.1)] → va_P D vwCl ((cF ffa (ha 0) (tra 0) r2 r3 (mea 0) r5 r6 r7 ff) ++ (cH ca ha h) ++ (cH ca tra e15.2.2.2) ++ (cM ca mea me)) H → va_D A ((cF ffa (ha 0) (tra 0) r2 r3 (mea 0) r5 r6 r7 ff) ++ (cH ca ha h) ++ (cH ca tra e15.2.2.2) ++ (cM ca mea me)) → va_S A s.heap H locs → W p l e rmX7_ask s m ([.ref ffa, .int w] : List Value).toArray below meth c H locs 0 0 Z (F0 m 77 ls []) := by
        intro t19 ht ls H locs hl hP hD hS
        subst ht
        replace h26 := (esc_l _ _).symm.trans h26
        refine lv_iload_n hx hb dX7_ask_77 rfl (lv_at hl 0 rfl) ?_
        refine lv_goto (tgt := 83) hx hb dX7_ask_78 (by decide) ?_
        obtain rfl := Option.some.inj h26
        exact hret _ _ _ _ (vp_nar_int _) hP hD hS dX7_ask_83
      refine lv_icmp_eq (tgt := 77) hx hb dX7_ask_70 (by decide) (fun c16 => ?_) (fun c16 => ?_)
      · skip
        replace q25 := (if_pos c16).symm.trans q25
        obtain rfl := Option.some.inj q25
        exact J18 _ rfl _ _ _ (lv_sub hl [1] rfl) hP hD hS
      · skip
        replace q25 := (if_neg c16).symm.trans q25
        refine lv_iload_n hx hb dX7_ask_73 rfl (lv_at hl 0 rfl) ?_
        refine lv_if_ne (tgt := 81) hx hb dX7_ask_74 (by decide) (fun c17 => ?_) (fun c17 => ?_)
        · skip
          replace q25 := (if_neg c17).symm.trans q25
          refine lv_iload hx hb dX7_ask_81 (lv_at hl 2 rfl) ?_
          obtain rfl := Option.some.inj q25
          replace h26 := (esc_r _ _).symm.trans h26
          obtain rfl := Option.some.inj h26
          exact hret _ _ _ _ (vp_nar_int _) hP hD hS dX7_ask_83
        · skip
          replace q25 := (if_pos c17).symm.trans q25
          obtain rfl := Option.some.inj q25
          exact J18 _ rfl _ _ _ (lv_sub hl [1] rfl) hP hD hS
    refine whO_walk (I := fun s10 => ∀ (ls : Array Slot) (H : Heap) (locs : List Loc), lv_has ls 7 [(0, .ref ffa), (1, .int w), (2, .int v3.1), (3, .int s10.1), (4, .int s10.2.1), (5, .int s10.2.2.1)] → va_P D vwCl ((cF ffa (ha 0) (tra 0) r2 r3 (mea 0) r5 r6 r7 ff) ++ (cH ca ha h) ++ (cH ca tra s10.2.2.2) ++ (cM ca mea me)) H → va_D A ((cF ffa (ha 0) (tra 0) r2 r3 (mea 0) r5 r6 r7 ff) ++ (cH ca ha h) ++ (cH ca tra s10.2.2.2) ++ (cM ca mea me)) → va_S A s.heap H locs → W p l e rmX7_ask s m ([.ref ffa, .int w] : List Value).toArray below meth c H locs 0 0 Z (F0 m 26 ls [])) ?_ _ _ w23 _ _ _ (lv_sub hl [4, 5, 3, 2, 1, 0] rfl) hP hD hS
    clear w23
    intro s10 o15 h27 hi15 ho15 ls H locs hl hP hD hS
    unfold mX7_ask_l26 at h27
    refine lv_iload hx hb dX7_ask_26 (lv_at hl 5 rfl) ?_
    refine lv_aload_n hx hb dX7_ask_28 rfl (lv_at hl 0 rfl) ?_
    refine xget (ref := "FriezeFolk") (C := RX7) (T := TX7) (N := 9) (ci := 7) (v := .ref (ha 0)) hx hb hts inX7 hown hK hP 0 rfl rfl 0 (by decide) k1 rfl rfl dX7_ask_29 ?_
    refine xget (ref := "FriezeFolk$Hall") (C := RX0) (T := TX0) (N := 13) (ci := 0) (v := .int (h.2 6)) hx hb hts inX0 hown hK hP 1 rfl rfl 6 (by decide) k2 rfl rfl dX7_ask_32 ?_
    refine lv_icmp_ge (tgt := 67) hx hb dX7_ask_35 (by decide) (fun c11 => ?_) (fun c11 => ?_)
    · skip
      replace h27 := (if_pos c11).symm.trans h27
      have h28 := ho15 _ (Option.some.inj h27).symm
      subst h28
      exact AF15 _ _ _ (lv_sub hl [1, 3, 4] rfl) hP hD hS
    · skip
      replace h27 := (if_neg c11).symm.trans h27
      refine lv_aload_n hx hb dX7_ask_38 rfl (lv_at hl 0 rfl) ?_
      refine lv_iload_n hx hb dX7_ask_39 rfl (lv_at hl 2 rfl) ?_
      refine lv_iload hx hb dX7_ask_40 (lv_at hl 5 rfl) ?_
      obtain ⟨v12, q12, h29⟩ := obn h27
      clear h27
      refine xVi (As := [.int v3.1, .int s10.2.2.1]) (ci := 7) ⟨hx, hb, hml, hown, hts⟩ (k_X7_leftAtWorst l D ca ffa (ha 0) r2 r3 (mea 0) r5 r6 r7 tra ff s10.2.2.2 v3.1 s10.2.2.1 _ q12) (cwV 2 hts gX7_ask_X7_leftAtWorst rfl rfl rfl (by decide +kernel) ⟨Nat.le_of_ble_eq_true rfl, Nat.le_of_ble_eq_true rfl⟩) hK hA hP hD hS dX7_ask_42 rfl hl.1 [0, 7, 8, 9, 10, 11, 12] [1, 2, 3, 4, 5, 6, 13, 14, 15] [9, 0, 1, 2, 3, 4, 5, 10, 11, 12, 13, 14, 15, 6, 7, 8] rfl rfl (wr := ((cH ca ha h) ++ (cM ca mea me))) rfl rfl (by decide) (wn := ((cF ffa (ha 0) (tra 0) r2 r3 (mea 0) r5 r6 r7 ff) ++ (cH ca ha h) ++ (cH ca tra v12.2) ++ (cM ca mea me))) rfl rfl rfl rfl rfl rfl (Nat.le_of_ble_eq_true rfl) (fun H locs hP hD hS => ?_)
      refine lv_istore (lv' := [(6, .int v12.1), (0, .ref ffa), (1, .int w), (2, .int v3.1), (3, .int s10.1), (4, .int s10.2.1), (5, .int s10.2.2.1)]) hx hb dX7_ask_45 hl (by decide) rfl (fun ls hl => ?_)
      refine lv_iload hx hb dX7_ask_47 (lv_at hl 0 rfl) ?_
      refine lv_iload hx hb dX7_ask_49 (lv_at hl 5 rfl) ?_
      obtain ⟨v14, q30, h31⟩ := obn h29
      clear h29
      have J14 : ∀ (ls : Array Slot) (H : Heap) (locs : List Loc), lv_has ls 7 [(0, .ref ffa), (1, .int w), (2, .int v3.1), (3, .int v14.1), (4, .int v14.2), (5, .int s10.2.2.1)] → va_P D vwCl ((cF ffa (ha 0) (tra 0) r2 r3 (mea 0) r5 r6 r7 ff) ++ (cH ca ha h) ++ (cH ca tra v12.2) ++ (cM ca mea me)) H → va_D A ((cF ffa (ha 0) (tra 0) r2 r3 (mea 0) r5 r6 r7 ff) ++ (cH ca ha h) ++ (cH ca tra v12.2) ++ (cM ca mea me)) → va_S A s.heap H locs → W p l e rmX7_ask s m ([.ref ffa, .int w] : List Value).toArray below meth c H locs 0 0 Z (F0 m 61 ls []) := by
        intro ls H locs hl hP hD hS
        refine lv_iinc (v := (s10.2.2.1 + (1 : Int32))) (lv' := [(5, .int (s10.2.2.1 + (1 : Int32))), (0, .ref ffa), (1, .int w), (2, .int v3.1), (3, .int v14.1), (4, .int v14.2)]) hx hb dX7_ask_61 hl (k := 5) rfl rfl (by decide) rfl (fun ls hl => ?_)
        refine lv_goto (tgt := 26) hx hb dX7_ask_64 (by decide) ?_
        exact hi15 _ (Option.some.inj h31).symm _ _ _ (lv_sub hl [1, 2, 3, 4, 5, 0] rfl) hP hD hS
      refine lv_icmp_ge (tgt := 61) hx hb dX7_ask_51 (by decide) (fun c13 => ?_) (fun c13 => ?_)
      · skip
        replace q30 := (if_pos c13).symm.trans q30
        obtain rfl := Option.some.inj q30
        exact J14 _ _ _ (lv_sub hl [1, 2, 3, 4, 5, 6] rfl) hP hD hS
      · skip
        replace q30 := (if_neg c13).symm.trans q30
        refine lv_iload hx hb dX7_ask_54 (lv_at hl 6 rfl) ?_
        refine lv_istore_n (lv' := [(3, .int s10.2.2.1), (6, .int v12.1), (0, .ref ffa), (1, .int w), (2, .int v3.1), (4, .int s10.2.1), (5, .int s10.2.2.1)]) hx hb dX7_ask_56 rfl hl (by decide) rfl (fun ls hl => ?_)
        refine lv_iload hx hb dX7_ask_57 (lv_at hl 1 rfl) ?_
        refine lv_istore (lv' := [(4, .int v12.1), (3, .int s10.2.2.1), (6, .int v12.1), (0, .ref ffa), (1, .int w), (2, .int v3.1), (5, .int s10.2.2.1)]) hx hb dX7_ask_59 hl (by decide) rfl (fun ls hl => ?_)
        obtain rfl := Option.some.inj q30
        exact J14 _ _ _ (lv_sub hl [3, 4, 5, 1, 0, 6] rfl) hP hD hS
  · skip
    replace h20 := (if_neg c2).symm.trans h20
    refine lv_iconst (v := (-1 : Int32)) hx hb dX7_ask_7 (by decide) ?_
    obtain rfl := Option.some.inj h20
    exact hret _ _ _ _ (vp_nar_int _) hP hD hS dX7_ask_8

def mX7_torn (ff : Int32) : Option (Int32) :=
  some ff
abbrev rmX7_torn : Room := { frames := 0, cells := 0, slots := 0, locals := 0 }
set_option maxHeartbeats 4000000 in
set_option maxRecDepth 100000 in
theorem k_X7_torn (l : Launch) (D : va_G) (ca : Nat → ClassId) (ffa : Nat) (r0 r1 r2 r3 r4 r5 r6 r7 : Nat) (ff : Int32) (o : Int32) (hm : mX7_torn ff = some o) : KI l yX7_torn wsX7_torn rmX7_torn D ca [.ref ffa] (cF ffa r0 r1 r2 r3 r4 r5 r6 r7 ff) (cF ffa r0 r1 r2 r3 r4 r5 r6 r7 ff) o := by
  refine KI.of (cc := cX7_torn) (n := 1) (plainFor_of_name (by decide)) rfl (Nat.le_of_ble_eq_true rfl) ?_
  intro p e s m below meth c A Z hx hb hml hts hown hA hK hP hD hS hret ls hl
  have hown : s.vm.findClass RX7 = some m.cls := hown
  have hl : lv_has ls 1 [(0, .ref ffa)] := hl
  have inX7 : ∀ w ∈ wsX70, w ∈ wsX7_torn := by decide +kernel
  have k1 := hts (.fieldLink RX7 61 "FriezeFolk" "torn" "I") (by decide +kernel)
  unfold mX7_torn at hm
  refine lv_aload_n hx hb dX7_torn_0 rfl (lv_at hl 0 rfl) ?_
  refine xget (ref := "FriezeFolk") (C := RX7) (T := TX7) (N := 9) (ci := 7) (v := .int ff) hx hb hts inX7 hown hK hP 0 rfl rfl 8 (by decide) k1 rfl rfl dX7_torn_1 ?_
  obtain rfl := Option.some.inj hm
  exact hret _ _ _ _ (vp_nar_int _) hP hD hS dX7_torn_4
