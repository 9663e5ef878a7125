
def mX7_keep (h : GS) (im : Int32) (ih : GS) (r : Int32) : Option (Int32 × Int32 × GS) :=
  if (r < 0 ∨ 2 ≤ r.toNatClampNeg) then
    some ((-1 : Int32), im, ih)
  else
    Option.bind (
      if im = 0 then
        some (0 : Int32)
      else
        some (1 : Int32)) fun (v3 : Int32) =>
    Option.bind (mX0_copy ih h) fun v4 =>
    some (v3, (1 : Int32), v4)
abbrev rmX7_keep : Room := { frames := 2, cells := 0, slots := 0, locals := 81 }
set_option maxHeartbeats 4000000 in
set_option maxRecDepth 100000 in
theorem k_X7_keep (l : Launch) (D : va_G) (ca : Nat → ClassId) (ffa : Nat) (r1 r3 r4 r5 r6 r7 : Nat) (ha : Nat → Nat) (imsa : Nat) (ims : Nat → Option Nat) (ima : Nat) (iha : Nat → Nat) (ff : Int32) (h : GS) (im : Int32) (ih : GS) (r : Int32) (o : Int32 × Int32 × GS) (hsel : ¬ (r < 0 ∨ 2 ≤ r.toNatClampNeg) → ims r.toNatClampNeg = some ima) (hm : mX7_keep h im ih r = some o) : KI l yX7_keep wsX7_keep rmX7_keep D ca [.ref ffa, .int r] ((cF ffa (ha 0) r1 imsa r3 r4 r5 r6 r7 ff) ++ (cH ca ha h) ++ (cAI ca imsa ims) ++ (cIm (iha 0) ima im) ++ (cH ca iha ih)) ((cF ffa (ha 0) r1 imsa r3 r4 r5 r6 r7 ff) ++ (cH ca ha h) ++ (cAI ca imsa ims) ++ (cIm (iha 0) ima o.2.1) ++ (cH ca iha o.2.2)) o.1 := by
  refine KI.of (cc := cX7_keep) (n := 4) (plainFor_of_name (by decide)) rfl (Nat.le_of_ble_eq_true rfl) ?_
  intro p e s m below meth c A Z hx hb hml hts hown hA hK hP hD hS hret ls hl
  have hown : s.vm.findClass RX7 = some m.cls := hown
  have hl : lv_has ls 4 [(0, .ref ffa), (1, .int r)] := hl
  have inX1 : ∀ w ∈ wsX10, w ∈ wsX7_keep := by decide +kernel
  have inX7 : ∀ w ∈ wsX70, w ∈ wsX7_keep := by decide +kernel
  have k1 := hts (.fieldLink RX7 251 "FriezeFolk$Image" "held" "Z") (by decide +kernel)
  have k2 := hts (.fieldLink RX7 255 "FriezeFolk$Image" "hall" "LFriezeFolk$Hall;") (by decide +kernel)
  have k3 := hts (.fieldLink RX7 10 "FriezeFolk" "hall" "LFriezeFolk$Hall;") (by decide +kernel)
  unfold mX7_keep at hm
  refine lv_aload_n hx hb dX7_keep_0 rfl (lv_at hl 0 rfl) ?_
  refine lv_iload_n hx hb dX7_keep_1 rfl (lv_at hl 1 rfl) ?_
  by_cases c1 : (r < 0 ∨ 2 ≤ r.toNatClampNeg)
  · replace hm := (if_pos c1).symm.trans hm
    refine xVq (As := [.int r]) (ci := 7) (r := none) ⟨hx, hb, hml, hown, hts⟩ (k_X7_imageOf l D ca ffa (ha 0) r1 r3 r4 r5 r6 r7 imsa ims ff r _ (sel_none c1)) (cwV 1 hts gX7_keep_X7_imageOf rfl rfl rfl (by decide +kernel) ⟨Nat.le_of_ble_eq_true rfl, Nat.le_of_ble_eq_true rfl⟩) hK hA hP hD hS dX7_keep_2 rfl hl.1 [0, 7] [1, 2, 3, 4, 5, 6, 8, 9, 10, 11, 12, 13, 14] [13, 0, 1, 2, 3, 4, 5, 14, 6, 7, 8, 9, 10, 11, 12] rfl rfl (wr := ((cH ca ha h) ++ (cIm (iha 0) ima im) ++ (cH ca iha ih))) rfl rfl (by decide) (wn := ((cF ffa (ha 0) r1 imsa r3 r4 r5 r6 r7 ff) ++ (cH ca ha h) ++ (cAI ca imsa ims) ++ (cIm (iha 0) ima im) ++ (cH ca iha ih))) rfl rfl rfl rfl rfl rfl (Nat.le_of_ble_eq_true rfl) (fun H locs hP hD hS => ?_)
    refine lv_astore_nN (lv' := [(2, .null), (0, .ref ffa), (1, .int r)]) hx hb dX7_keep_5 rfl hl (by decide) rfl (fun ls hl => ?_)
    refine lv_aload_nN hx hb dX7_keep_6 rfl (lv_at hl 0 rfl) ?_
    refine lv_ifnonnullN hx hb dX7_keep_7 ?_
    refine lv_iconst (v := (-1 : Int32)) hx hb dX7_keep_10 (by decide) ?_
    obtain rfl := Option.some.inj hm
    exact hret _ _ _ _ (vp_nar_int _) hP hD hS dX7_keep_11
  · replace hm := (if_neg c1).symm.trans hm
    refine xVq (As := [.int r]) (ci := 7) (r := some ima) ⟨hx, hb, hml, hown, hts⟩ (k_X7_imageOf l D ca ffa (ha 0) r1 r3 r4 r5 r6 r7 imsa ims ff r _ (sel_some c1 (hsel c1))) (cwV 1 hts gX7_keep_X7_imageOf rfl rfl rfl (by decide +kernel) ⟨Nat.le_of_ble_eq_true rfl, Nat.le_of_ble_eq_true rfl⟩) hK hA hP hD hS dX7_keep_2 rfl hl.1 [0, 7] [1, 2, 3, 4, 5, 6, 8, 9, 10, 11, 12, 13, 14] [13, 0, 1, 2, 3, 4, 5, 14, 6, 7, 8, 9, 10, 11, 12] rfl rfl (wr := ((cH ca ha h) ++ (cIm (iha 0) ima im) ++ (cH ca iha ih))) rfl rfl (by decide) (wn := ((cF ffa (ha 0) r1 imsa r3 r4 r5 r6 r7 ff) ++ (cH ca ha h) ++ (cAI ca imsa ims) ++ (cIm (iha 0) ima im) ++ (cH ca iha ih))) rfl rfl rfl rfl rfl rfl (Nat.le_of_ble_eq_true rfl) (fun H locs hP hD hS => ?_)
    refine lv_astore_n (lv' := [(2, .ref ima), (0, .ref ffa), (1, .int r)]) hx hb dX7_keep_5 rfl hl (by decide) rfl (fun ls hl => ?_)
    refine lv_aload_n hx hb dX7_keep_6 rfl (lv_at hl 0 rfl) ?_
    refine lv_ifnonnull (tgt := 12) hx hb dX7_keep_7 (by decide) ?_
    refine lv_aload_n hx hb dX7_keep_12 rfl (lv_at hl 0 rfl) ?_
    refine xget (ref := "FriezeFolk$Image") (C := RX1) (T := TX1) (N := 2) (ci := 1) (v := .int im) hx hb hts inX1 hown hK hP 8 rfl rfl 1 (by decide) k1 rfl rfl dX7_keep_13 ?_
    obtain ⟨v3, q5, h6⟩ := obn hm
    clear hm
    have J3 : ∀ (ls : Array Slot) (H : Heap) (locs : List Loc), lv_has ls 4 [(0, .ref ffa), (2, .ref ima)] → va_P D vwCl ((cF ffa (ha 0) r1 imsa r3 r4 r5 r6 r7 ff) ++ (cH ca ha h) ++ (cAI ca imsa ims) ++ (cIm (iha 0) ima im) ++ (cH ca iha ih)) H → va_D A ((cF ffa (ha 0) r1 imsa r3 r4 r5 r6 r7 ff) ++ (cH ca ha h) ++ (cAI ca imsa ims) ++ (cIm (iha 0) ima im) ++ (cH ca iha ih)) → va_S A s.heap H locs → W p l e rmX7_keep s m ([.ref ffa, .int r] : List Value).toArray below meth c H locs 0 0 Z (F0 m 24 ls [.int v3]) := by
      intro ls H locs hl hP hD hS
      refine lv_istore_n (lv' := [(3, .int v3), (0, .ref ffa), (2, .ref ima)]) hx hb dX7_keep_24 rfl hl (by decide) rfl (fun ls hl => ?_)
      refine lv_aload_n hx hb dX7_keep_25 rfl (lv_at hl 2 rfl) ?_
      refine xget (ref := "FriezeFolk$Image") (C := RX1) (T := TX1) (N := 2) (ci := 1) (v := .ref (iha 0)) hx hb hts inX1 hown hK hP 8 rfl rfl 0 (by decide) k2 rfl rfl dX7_keep_26 ?_
      refine lv_aload_n hx hb dX7_keep_29 rfl (lv_at hl 1 rfl) ?_
      refine xget (ref := "FriezeFolk") (C := RX7) (T := TX7) (N := 9) (ci := 7) (v := .ref (ha 0)) hx hb hts inX7 hown hK hP 0 rfl rfl 0 (by decide) k3 rfl rfl dX7_keep_30 ?_
      obtain ⟨v4, q4, h7⟩ := obn h6
      clear h6
      refine xVv (As := [.ref (ha 0)]) (ci := 0) ⟨hx, hb, hml, hown, hts⟩ (k_X0_copy l D ca iha ha ih h _ q4) (cwV 1 hts gX7_keep_X0_copy rfl rfl rfl (by decide +kernel) ⟨Nat.le_of_ble_eq_true rfl, Nat.le_of_ble_eq_true rfl⟩) hK hA hP hD hS dX7_keep_33 rfl hl.1 [9, 10, 11, 12, 13, 14, 1, 2, 3, 4, 5, 6] [0, 7, 8] [0, 9, 10, 11, 12, 13, 14, 1, 2, 3, 4, 5, 6, 7, 8] rfl rfl (wr := ((cF ffa (ha 0) r1 imsa r3 r4 r5 r6 r7 ff) ++ (cAI ca imsa ims) ++ (cIm (iha 0) ima im))) rfl rfl (by decide) (wn := ((cF ffa (ha 0) r1 imsa r3 r4 r5 r6 r7 ff) ++ (cH ca ha h) ++ (cAI ca imsa ims) ++ (cIm (iha 0) ima im) ++ (cH ca iha v4))) rfl rfl rfl rfl rfl rfl (Nat.le_of_ble_eq_true rfl) (fun H locs hP hD hS => ?_)
      refine lv_aload_n hx hb dX7_keep_36 rfl (lv_at hl 2 rfl) ?_
      refine lv_iconst (v := (1 : Int32)) hx hb dX7_keep_37 (by decide) ?_
      refine xput (ref := "FriezeFolk$Image") (C := RX1) (T := TX1) (N := 2) (ci := 1) (v := .int (1 : Int32)) (ty := .boolean) hx hb hts inX1 tyX1 tyX1_ok nmX1 hown hK hP hD hS 8 rfl rfl 1 (by decide) k1 rfl rfl (by decide +kernel) rfl rfl (Nat.le_of_ble_eq_true rfl) dX7_keep_38 (wn := ((cF ffa (ha 0) r1 imsa r3 r4 r5 r6 r7 ff) ++ (cH ca ha h) ++ (cAI ca imsa ims) ++ (cIm (iha 0) ima (1 : Int32)) ++ (cH ca iha v4))) rfl (fun H locs hP hD hS => ?_)
      refine lv_iload_n hx hb dX7_keep_41 rfl (lv_at hl 0 rfl) ?_
      obtain rfl := Option.some.inj h7
      exact hret _ _ _ _ (vp_nar_int _) hP hD hS dX7_keep_42
    refine lv_if_eq (tgt := 23) hx hb dX7_keep_16 (by decide) (fun c2 => ?_) (fun c2 => ?_)
    · skip
      replace q5 := (if_pos c2).symm.trans q5
      refine lv_iconst (v := (0 : Int32)) hx hb dX7_keep_23 (by decide) ?_
      obtain rfl := Option.some.inj q5
      exact J3 _ _ _ (lv_sub hl [1, 0] rfl) hP hD hS
    · skip
      replace q5 := (if_neg c2).symm.trans q5
      refine lv_iconst (v := (1 : Int32)) hx hb dX7_keep_19 (by decide) ?_
      refine lv_goto (tgt := 24) hx hb dX7_keep_20 (by decide) ?_
      obtain rfl := Option.some.inj q5
      exact J3 _ _ _ (lv_sub hl [1, 0] rfl) hP hD hS

def mX7_back (h : GS) (im : Int32) (ih : GS) (r : Int32) : Option (Int32 × GS) :=
  if (r < 0 ∨ 2 ≤ r.toNatClampNeg) then
    some ((-1 : Int32), h)
  else
    if im = 0 then
      some ((-2 : Int32), h)
    else
      Option.bind (mX0_copy h ih) fun v3 =>
      some ((v3.2 11), v3)
abbrev rmX7_back : Room := { frames := 2, cells := 0, slots := 0, locals := 81 }
set_option maxHeartbeats 4000000 in
set_option maxRecDepth 100000 in
theorem k_X7_back (l : Launch) (D : va_G) (ca : Nat → ClassId) (ffa : Nat) (r1 r3 r4 r5 r6 r7 : Nat) (ha : Nat → Nat) (imsa : Nat) (ims : Nat → Option Nat) (ima : Nat) (iha : Nat → Nat) (ff : Int32) (h : GS) (im : Int32) (ih : GS) (r : Int32) (o : Int32 × GS) (hsel : ¬ (r < 0 ∨ 2 ≤ r.toNatClampNeg) → ims r.toNatClampNeg = some ima) (hm : mX7_back h im ih r = some o) : KI l yX7_back wsX7_back rmX7_back D ca [.ref ffa, .int r] ((cF ffa (ha 0) r1 imsa r3 r4 r5 r6 r7 ff) ++ (cH ca ha h) ++ (cAI ca imsa ims) ++ (cIm (iha 0) ima im) ++ (cH ca iha ih)) ((cF ffa (ha 0) r1 imsa r3 r4 r5 r6 r7 ff) ++ (cH ca ha o.2) ++ (cAI ca imsa ims) ++ (cIm (iha 0) ima im) ++ (cH ca iha ih)) o.1 := by
  refine KI.of (cc := cX7_back) (n := 3) (plainFor_of_name (by decide)) rfl (Nat.le_of_ble_eq_true rfl) ?_
  intro p e s m below meth c A Z hx hb hml hts hown hA hK hP hD hS hret ls hl
  have hown : s.vm.findClass RX7 = some m.cls := hown
  have hl : lv_has ls 3 [(0, .ref ffa), (1, .int r)] := hl
  have inX0 : ∀ w ∈ wsX00, w ∈ wsX7_back := by decide +kernel
  have inX1 : ∀ w ∈ wsX10, w ∈ wsX7_back := by decide +kernel
  have inX7 : ∀ w ∈ wsX70, w ∈ wsX7_back := by decide +kernel
  have k1 := hts (.fieldLink RX7 251 "FriezeFolk$Image" "held" "Z") (by decide +kernel)
  have k2 := hts (.fieldLink RX7 10 "FriezeFolk" "hall" "LFriezeFolk$Hall;") (by decide +kernel)
  have k3 := hts (.fieldLink RX7 255 "FriezeFolk$Image" "hall" "LFriezeFolk$Hall;") (by decide +kernel)
  have k4 := hts (.fieldLink RX7 111 "FriezeFolk$Hall" "year" "I") (by decide +kernel)
  unfold mX7_back at hm
  refine lv_aload_n hx hb dX7_back_0 rfl (lv_at hl 0 rfl) ?_
  refine lv_iload_n hx hb dX7_back_1 rfl (lv_at hl 1 rfl) ?_
  by_cases c1 : (r < 0 ∨ 2 ≤ r.toNatClampNeg)
  · replace hm := (if_pos c1).symm.trans hm
    refine xVq (As := [.int r]) (ci := 7) (r := none) ⟨hx, hb, hml, hown, hts⟩ (k_X7_imageOf l D ca ffa (ha 0) r1 r3 r4 r5 r6 r7 imsa ims ff r _ (sel_none c1)) (cwV 1 hts gX7_back_X7_imageOf rfl rfl rfl (by decide +kernel) ⟨Nat.le_of_ble_eq_true rfl, Nat.le_of_ble_eq_true rfl⟩) hK hA hP hD hS dX7_back_2 rfl hl.1 [0, 7] [1, 2, 3, 4, 5, 6, 8, 9, 10, 11, 12, 13, 14] [13, 0, 1, 2, 3, 4, 5, 14, 6, 7, 8, 9, 10, 11, 12] rfl rfl (wr := ((cH ca ha h) ++ (cIm (iha 0) ima im) ++ (cH ca iha ih))) rfl rfl (by decide) (wn := ((cF ffa (ha 0) r1 imsa r3 r4 r5 r6 r7 ff) ++ (cH ca ha h) ++ (cAI ca imsa ims) ++ (cIm (iha 0) ima im) ++ (cH ca iha ih))) rfl rfl rfl rfl rfl rfl (Nat.le_of_ble_eq_true rfl) (fun H locs hP hD hS => ?_)
    refine lv_astore_nN (lv' := [(2, .null), (0, .ref ffa), (1, .int r)]) hx hb dX7_back_5 rfl hl (by decide) rfl (fun ls hl => ?_)
    refine lv_aload_nN hx hb dX7_back_6 rfl (lv_at hl 0 rfl) ?_
    refine lv_ifnonnullN hx hb dX7_back_7 ?_
    refine lv_iconst (v := (-1 : Int32)) hx hb dX7_back_10 (by decide) ?_
    obtain rfl := Option.some.inj hm
    exact hret _ _ _ _ (vp_nar_int _) hP hD hS dX7_back_11
  · replace hm := (if_neg c1).symm.trans hm
    refine xVq (As := [.int r]) (ci := 7) (r := some ima) ⟨hx, hb, hml, hown, hts⟩ (k_X7_imageOf l D ca ffa (ha 0) r1 r3 r4 r5 r6 r7 imsa ims ff r _ (sel_some c1 (hsel c1))) (cwV 1 hts gX7_back_X7_imageOf rfl rfl rfl (by decide +kernel) ⟨Nat.le_of_ble_eq_true rfl, Nat.le_of_ble_eq_true rfl⟩) hK hA hP hD hS dX7_back_2 rfl hl.1 [0, 7] [1, 2, 3, 4, 5, 6, 8, 9, 10, 11, 12, 13, 14] [13, 0, 1, 2, 3, 4, 5, 14, 6, 7, 8, 9, 10, 11, 12] rfl rfl (wr := ((cH ca ha h) ++ (cIm (iha 0) ima im) ++ (cH ca iha ih))) rfl rfl (by decide) (wn := ((cF ffa (ha 0) r1 imsa r3 r4 r5 r6 r7 ff) ++ (cH ca ha h) ++ (cAI ca imsa ims) ++ (cIm (iha 0) ima im) ++ (cH ca iha ih))) rfl rfl rfl rfl rfl rfl (Nat.le_of_ble_eq_true rfl) (fun H locs hP hD hS => ?_)
    refine lv_astore_n (lv' := [(2, .ref ima), (0, .ref ffa), (1, .int r)]) hx hb dX7_back_5 rfl hl (by decide) rfl (fun ls hl => ?_)
    refine lv_aload_n hx hb dX7_back_6 rfl (lv_at hl 0 rfl) ?_
    refine lv_ifnonnull (tgt := 12) hx hb dX7_back_7 (by decide) ?_
    refine lv_aload_n hx hb dX7_back_12 rfl (lv_at hl 0 rfl) ?_
    refine xget (ref := "FriezeFolk$Image") (C := RX1) (T := TX1) (N := 2) (ci := 1) (v := .int im) hx hb hts inX1 hown hK hP 8 rfl rfl 1 (by decide) k1 rfl rfl dX7_back_13 ?_
    refine lv_if_ne (tgt := 22) hx hb dX7_back_16 (by decide) (fun c2 => ?_) (fun c2 => ?_)
    · skip
      replace hm := (if_neg c2).symm.trans hm
      refine lv_aload_n hx hb dX7_back_22 rfl (lv_at hl 1 rfl) ?_
      refine xget (ref := "FriezeFolk") (C := RX7) (T := TX7) (N := 9) (ci := 7) (v := .ref (ha 0)) hx hb hts inX7 hown hK hP 0 rfl rfl 0 (by decide) k2 rfl rfl dX7_back_23 ?_
      refine lv_aload_n hx hb dX7_back_26 rfl (lv_at hl 0 rfl) ?_
      refine xget (ref := "FriezeFolk$Image") (C := RX1) (T := TX1) (N := 2) (ci := 1) (v := .ref (iha 0)) hx hb hts inX1 hown hK hP 8 rfl rfl 0 (by decide) k3 rfl rfl dX7_back_27 ?_
      obtain ⟨v3, q3, h4⟩ := obn hm
      clear hm
      refine xVv (As := [.ref (iha 0)]) (ci := 0) ⟨hx, hb, hml, hown, hts⟩ (k_X0_copy l D ca ha iha h ih _ q3) (cwV 1 hts gX7_back_X0_copy rfl rfl rfl (by decide +kernel) ⟨Nat.le_of_ble_eq_true rfl, Nat.le_of_ble_eq_true rfl⟩) hK hA hP hD hS dX7_back_30 rfl hl.1 [1, 2, 3, 4, 5, 6, 9, 10, 11, 12, 13, 14] [0, 7, 8] [0, 3, 4, 5, 6, 7, 8, 1, 2, 9, 10, 11, 12, 13, 14] rfl rfl (wr := ((cF ffa (ha 0) r1 imsa r3 r4 r5 r6 r7 ff) ++ (cAI ca imsa ims) ++ (cIm (iha 0) ima im))) rfl rfl (by decide) (wn := ((cF ffa (ha 0) r1 imsa r3 r4 r5 r6 r7 ff) ++ (cH ca ha v3) ++ (cAI ca imsa ims) ++ (cIm (iha 0) ima im) ++ (cH ca iha ih))) rfl rfl rfl rfl rfl rfl (Nat.le_of_ble_eq_true rfl) (fun H locs hP hD hS => ?_)
      refine lv_aload_n hx hb dX7_back_33 rfl (lv_at hl 1 rfl) ?_
      refine xget (ref := "FriezeFolk") (C := RX7) (T := TX7) (N := 9) (ci := 7) (v := .ref (ha 0)) hx hb hts inX7 hown hK hP 0 rfl rfl 0 (by decide) k2 rfl rfl dX7_back_34 ?_
      refine xget (ref := "FriezeFolk$Hall") (C := RX0) (T := TX0) (N := 13) (ci := 0) (v := .int (v3.2 11)) hx hb hts inX0 hown hK hP 1 rfl rfl 11 (by decide) k4 rfl rfl dX7_back_37 ?_
      obtain rfl := Option.some.inj h4
      exact hret _ _ _ _ (vp_nar_int _) hP hD hS dX7_back_40
    · skip
      replace hm := (if_pos c2).symm.trans hm
      refine lv_bipush (v := (-2 : Int32)) hx hb dX7_back_19 (by decide) ?_
      obtain rfl := Option.some.inj hm
      exact hret _ _ _ _ (vp_nar_int _) hP hD hS dX7_back_21

def mX7_sheet (ro : GS) (r : Int32) (i : Int32) (n : Int32) : Option (Int32 × GS) :=
  if (r < 0 ∨ 4 ≤ r.toNatClampNeg) then
    some ((-1 : Int32), ro)
  else
    if i < 0 then
      some ((-1 : Int32), ro)
    else
      if (3 : Int32) ≤ i then
        some ((-1 : Int32), ro)
      else
        if n ≤ (40 : Int32) then
          if 0 ≤ n then
            Option.bind (mX6_renew ro i n) fun v6 =>
            some ((1 : Int32), v6)
          else
            some ((-14 : Int32), ro)
        else
          some ((-1 : Int32), ro)
abbrev rmX7_sheet : Room := { frames := 2, cells := 0, slots := 0, locals := 45 }
set_option maxHeartbeats 4000000 in
set_option maxRecDepth 100000 in
theorem k_X7_sheet (l : Launch) (D : va_G) (ca : Nat → ClassId) (ffa : Nat) (r0 r1 r2 r3 r4 r5 r6 : Nat) (rosa : Nat) (ros : Nat → Option Nat) (roa : Nat → Nat) (ff : Int32) (ro : GS) (r : Int32) (i : Int32) (n : Int32) (o : Int32 × GS) (hsel : ¬ (r < 0 ∨ 4 ≤ r.toNatClampNeg) → ros r.toNatClampNeg = some (roa 0)) (hm : mX7_sheet ro r i n = some o) : KI l yX7_sheet wsX7_sheet rmX7_sheet D ca [.ref ffa, .int r, .int i, .int n] ((cF ffa r0 r1 r2 r3 r4 r5 r6 rosa ff) ++ (cAR ca rosa ros) ++ (cW ca roa ro)) ((cF ffa r0 r1 r2 r3 r4 r5 r6 rosa ff) ++ (cAR ca rosa ros) ++ (cW ca roa o.2)) o.1 := by
  refine KI.of (cc := cX7_sheet) (n := 5) (plainFor_of_name (by decide)) rfl (Nat.le_of_ble_eq_true rfl) ?_
  intro p e s m below meth c A Z hx hb hml hts hown hA hK hP hD hS hret ls hl
  have hown : s.vm.findClass RX7 = some m.cls := hown
  have hl : lv_has ls 5 [(0, .ref ffa), (1, .int r), (2, .int i), (3, .int n)] := hl
  unfold mX7_sheet at hm
  refine lv_aload_n hx hb dX7_sheet_0 rfl (lv_at hl 0 rfl) ?_
  refine lv_iload_n hx hb dX7_sheet_1 rfl (lv_at hl 1 rfl) ?_
  by_cases c1 : (r < 0 ∨ 4 ≤ r.toNatClampNeg)
  · replace hm := (if_pos c1).symm.trans hm
    refine xVq (As := [.int r]) (ci := 7) (r := none) ⟨hx, hb, hml, hown, hts⟩ (k_X7_rowOf l D ca ffa r0 r1 r2 r3 r4 r5 r6 rosa ros ff r _ (sel_none c1)) (cwV 1 hts gX7_sheet_X7_rowOf rfl rfl rfl (by decide +kernel) ⟨Nat.le_of_ble_eq_true rfl, Nat.le_of_ble_eq_true rfl⟩) hK hA hP hD hS dX7_sheet_2 rfl hl.1 [0, 1] [2, 3] [2, 3, 0, 1] rfl rfl (wr := ((cW ca roa ro))) rfl rfl (by decide) (wn := ((cF ffa r0 r1 r2 r3 r4 r5 r6 rosa ff) ++ (cAR ca rosa ros) ++ (cW ca roa ro))) rfl rfl rfl rfl rfl rfl (Nat.le_of_ble_eq_true rfl) (fun H locs hP hD hS => ?_)
    refine lv_astoreN (lv' := [(4, .null), (0, .ref ffa), (1, .int r), (2, .int i), (3, .int n)]) hx hb dX7_sheet_5 hl (by decide) rfl (fun ls hl => ?_)
    refine lv_aloadN hx hb dX7_sheet_7 (lv_at hl 0 rfl) ?_
    refine lv_ifnullN (tgt := 27) hx hb dX7_sheet_9 (by decide) ?_
    refine lv_iconst (v := (-1 : Int32)) hx hb dX7_sheet_27 (by decide) ?_
    obtain rfl := Option.some.inj hm
    exact hret _ _ _ _ (vp_nar_int _) hP hD hS dX7_sheet_28
  · replace hm := (if_neg c1).symm.trans hm
    refine xVq (As := [.int r]) (ci := 7) (r := some (roa 0)) ⟨hx, hb, hml, hown, hts⟩ (k_X7_rowOf l D ca ffa r0 r1 r2 r3 r4 r5 r6 rosa ros ff r _ (sel_some c1 (hsel c1))) (cwV 1 hts gX7_sheet_X7_rowOf rfl rfl rfl (by decide +kernel) ⟨Nat.le_of_ble_eq_true rfl, Nat.le_of_ble_eq_true rfl⟩) hK hA hP hD hS dX7_sheet_2 rfl hl.1 [0, 1] [2, 3] [2, 3, 0, 1] rfl rfl (wr := ((cW ca roa ro))) rfl rfl (by decide) (wn := ((cF ffa r0 r1 r2 r3 r4 r5 r6 rosa ff) ++ (cAR ca rosa ros) ++ (cW ca roa ro))) rfl rfl rfl rfl rfl rfl (Nat.le_of_ble_eq_true rfl) (fun H locs hP hD hS => ?_)
    refine lv_astore (lv' := [(4, .ref (roa 0)), (0, .ref ffa), (1, .int r), (2, .int i), (3, .int n)]) hx hb dX7_sheet_5 hl (by decide) rfl (fun ls hl => ?_)
    refine lv_aload hx hb dX7_sheet_7 (lv_at hl 0 rfl) ?_
    refine lv_ifnull hx hb dX7_sheet_9 ?_
    refine lv_iload_n hx hb dX7_sheet_12 rfl (lv_at hl 3 rfl) ?_
    refine lv_if_lt (tgt := 27) hx hb dX7_sheet_13 (by decide) (fun c2 => ?_) (fun c2 => ?_)
    · skip
      replace hm := (if_pos c2).symm.trans hm
      refine lv_iconst (v := (-1 : Int32)) hx hb dX7_sheet_27 (by decide) ?_
      obtain rfl := Option.some.inj hm
      exact hret _ _ _ _ (vp_nar_int _) hP hD hS dX7_sheet_28
    · skip
      replace hm := (if_neg c2).symm.trans hm
      refine lv_iload_n hx hb dX7_sheet_16 rfl (lv_at hl 3 rfl) ?_
      refine lv_iconst (v := (3 : Int32)) hx hb dX7_sheet_17 (by decide) ?_
      refine lv_icmp_ge (tgt := 27) hx hb dX7_sheet_18 (by decide) (fun c3 => ?_) (fun c3 => ?_)
      · skip
        replace hm := (if_pos c3).symm.trans hm
        refine lv_iconst (v := (-1 : Int32)) hx hb dX7_sheet_27 (by decide) ?_
        obtain rfl := Option.some.inj hm
        exact hret _ _ _ _ (vp_nar_int _) hP hD hS dX7_sheet_28
      · skip
        replace hm := (if_neg c3).symm.trans hm
        refine lv_iload_n hx hb dX7_sheet_21 rfl (lv_at hl 4 rfl) ?_
        refine lv_bipush (v := (40 : Int32)) hx hb dX7_sheet_22 (by decide) ?_
        refine lv_icmp_le (tgt := 29) hx hb dX7_sheet_24 (by decide) (fun c4 => ?_) (fun c4 => ?_)
        · skip
          replace hm := (if_pos c4).symm.trans hm
          refine lv_iload_n hx hb dX7_sheet_29 rfl (lv_at hl 4 rfl) ?_
          refine lv_if_ge (tgt := 36) hx hb dX7_sheet_30 (by decide) (fun c5 => ?_) (fun c5 => ?_)
          · skip
            replace hm := (if_pos c5).symm.trans hm
            refine lv_aload hx hb dX7_sheet_36 (lv_at hl 0 rfl) ?_
            refine lv_iload_n hx hb dX7_sheet_38 rfl (lv_at hl 3 rfl) ?_
            refine lv_iload_n hx hb dX7_sheet_39 rfl (lv_at hl 4 rfl) ?_
            obtain ⟨v6, q6, h7⟩ := obn hm
            clear hm
            refine xVv (As := [.int i, .int n]) (ci := 6) ⟨hx, hb, hml, hown, hts⟩ (k_X6_renew l D ca roa ro i n _ q6) (cwV 2 hts gX7_sheet_X6_renew rfl rfl rfl (by decide +kernel) ⟨Nat.le_of_ble_eq_true rfl, Nat.le_of_ble_eq_true rfl⟩) hK hA hP hD hS dX7_sheet_40 rfl hl.1 [2, 3] [0, 1] [0, 1, 2, 3] rfl rfl (wr := ((cF ffa r0 r1 r2 r3 r4 r5 r6 rosa ff) ++ (cAR ca rosa ros))) rfl rfl (by decide) (wn := ((cF ffa r0 r1 r2 r3 r4 r5 r6 rosa ff) ++ (cAR ca rosa ros) ++ (cW ca roa v6))) rfl rfl rfl rfl rfl rfl (Nat.le_of_ble_eq_true rfl) (fun H locs hP hD hS => ?_)
            refine lv_iconst (v := (1 : Int32)) hx hb dX7_sheet_43 (by decide) ?_
            obtain rfl := Option.some.inj h7
            exact hret _ _ _ _ (vp_nar_int _) hP hD hS dX7_sheet_44
          · skip
            replace hm := (if_neg c5).symm.trans hm
            refine lv_bipush (v := (-14 : Int32)) hx hb dX7_sheet_33 (by decide) ?_
            obtain rfl := Option.some.inj hm
            exact hret _ _ _ _ (vp_nar_int _) hP hD hS dX7_sheet_35
        · skip
          replace hm := (if_neg c4).symm.trans hm
          refine lv_iconst (v := (-1 : Int32)) hx hb dX7_sheet_27 (by decide) ?_
          obtain rfl := Option.some.inj hm
          exact hret _ _ _ _ (vp_nar_int _) hP hD hS dX7_sheet_28

def mX7_lay (ro : GS) (r : Int32) (i : Int32) (x : Int32) : Option (Int32 × GS) :=
  if (r < 0 ∨ 4 ≤ r.toNatClampNeg) then
    some ((-1 : Int32), ro)
  else
    Option.bind (mX6_faultAt ro (ro.2 1) i) fun v2 =>
    if v2 = 0 then
      Option.bind (mX6_write ro i x) fun v4 =>
      some ((1 : Int32), v4)
    else
      some (((-10 : Int32) - v2), ro)
abbrev rmX7_lay : Room := { frames := 1, cells := 0, slots := 0, locals := 22 }
set_option maxHeartbeats 4000000 in
set_option maxRecDepth 100000 in
theorem k_X7_lay (l : Launch) (D : va_G) (ca : Nat → ClassId) (ffa : Nat) (r0 r1 r2 r3 r4 r5 r6 : Nat) (rosa : Nat) (ros : Nat → Option Nat) (roa : Nat → Nat) (ff : Int32) (ro : GS) (r : Int32) (i : Int32) (x : Int32) (o : Int32 × GS) (hsel : ¬ (r < 0 ∨ 4 ≤ r.toNatClampNeg) → ros r.toNatClampNeg = some (roa 0)) (hm : mX7_lay ro r i x = some o) : KI l yX7_lay wsX7_lay rmX7_lay D ca [.ref ffa, .int r, .int i, .int x] ((cF ffa r0 r1 r2 r3 r4 r5 r6 rosa ff) ++ (cAR ca rosa ros) ++ (cW ca roa ro)) ((cF ffa r0 r1 r2 r3 r4 r5 r6 rosa ff) ++ (cAR ca rosa ros) ++ (cW ca roa o.2)) o.1 := by
  refine KI.of (cc := cX7_lay) (n := 6) (plainFor_of_name (by decide)) rfl (Nat.le_of_ble_eq_true rfl) ?_
  intro p e s m below meth c A Z hx hb hml hts hown hA hK hP hD hS hret ls hl
  have hown : s.vm.findClass RX7 = some m.cls := hown
  have hl : lv_has ls 6 [(0, .ref ffa), (1, .int r), (2, .int i), (3, .int x)] := hl
  have inX6 : ∀ w ∈ wsX60, w ∈ wsX7_lay := by decide +kernel
  have k1 := hts (.fieldLink RX7 263 "FriezeFolk$Row" "lane" "I") (by decide +kernel)
  unfold mX7_lay at hm
  refine lv_aload_n hx hb dX7_lay_0 rfl (lv_at hl 0 rfl) ?_
  refine lv_iload_n hx hb dX7_lay_1 rfl (lv_at hl 1 rfl) ?_
  by_cases c1 : (r < 0 ∨ 4 ≤ r.toNatClampNeg)
  · replace hm := (if_pos c1).symm.trans hm
    refine xVq (As := [.int r]) (ci := 7) (r := none) ⟨hx, hb, hml, hown, hts⟩ (k_X7_rowOf l D ca ffa r0 r1 r2 r3 r4 r5 r6 rosa ros ff r _ (sel_none c1)) (cwV 1 hts gX7_lay_X7_rowOf rfl rfl rfl (by decide +kernel) ⟨Nat.le_of_ble_eq_true rfl, Nat.le_of_ble_eq_true rfl⟩) hK hA hP hD hS dX7_lay_2 rfl hl.1 [0, 1] [2, 3] [2, 3, 0, 1] rfl rfl (wr := ((cW ca roa ro))) rfl rfl (by decide) (wn := ((cF ffa r0 r1 r2 r3 r4 r5 r6 rosa ff) ++ (cAR ca rosa ros) ++ (cW ca roa ro))) rfl rfl rfl rfl rfl rfl (Nat.le_of_ble_eq_true rfl) (fun H locs hP hD hS => ?_)
    refine lv_astoreN (lv' := [(4, .null), (0, .ref ffa), (1, .int r), (2, .int i), (3, .int x)]) hx hb dX7_lay_5 hl (by decide) rfl (fun ls hl => ?_)
    refine lv_aloadN hx hb dX7_lay_7 (lv_at hl 0 rfl) ?_
    refine lv_ifnonnullN hx hb dX7_lay_9 ?_
    refine lv_iconst (v := (-1 : Int32)) hx hb dX7_lay_12 (by decide) ?_
    obtain rfl := Option.some.inj hm
    exact hret _ _ _ _ (vp_nar_int _) hP hD hS dX7_lay_13
  · replace hm := (if_neg c1).symm.trans hm
    refine xVq (As := [.int r]) (ci := 7) (r := some (roa 0)) ⟨hx, hb, hml, hown, hts⟩ (k_X7_rowOf l D ca ffa r0 r1 r2 r3 r4 r5 r6 rosa ros ff r _ (sel_some c1 (hsel c1))) (cwV 1 hts gX7_lay_X7_rowOf rfl rfl rfl (by decide +kernel) ⟨Nat.le_of_ble_eq_true rfl, Nat.le_of_ble_eq_true rfl⟩) hK hA hP hD hS dX7_lay_2 rfl hl.1 [0, 1] [2, 3] [2, 3, 0, 1] rfl rfl (wr := ((cW ca roa ro))) rfl rfl (by decide) (wn := ((cF ffa r0 r1 r2 r3 r4 r5 r6 rosa ff) ++ (cAR ca rosa ros) ++ (cW ca roa ro))) rfl rfl rfl rfl rfl rfl (Nat.le_of_ble_eq_true rfl) (fun H locs hP hD hS => ?_)
    refine lv_astore (lv' := [(4, .ref (roa 0)), (0, .ref ffa), (1, .int r), (2, .int i), (3, .int x)]) hx hb dX7_lay_5 hl (by decide) rfl (fun ls hl => ?_)
    refine lv_aload hx hb dX7_lay_7 (lv_at hl 0 rfl) ?_
    refine lv_ifnonnull (tgt := 14) hx hb dX7_lay_9 (by decide) ?_
    refine lv_aload hx hb dX7_lay_14 (lv_at hl 0 rfl) ?_
    refine lv_aload hx hb dX7_lay_16 (lv_at hl 0 rfl) ?_
    refine xget (ref := "FriezeFolk$Row") (C := RX6) (T := TX6) (N := 3) (ci := 6) (v := .int (ro.2 1)) hx hb hts inX6 hown hK hP 2 rfl rfl 1 (by decide) k1 rfl rfl dX7_lay_18 ?_
    refine lv_iload_n hx hb dX7_lay_21 rfl (lv_at hl 3 rfl) ?_
    obtain ⟨v2, q2, h5⟩ := obn hm
    clear hm
    refine xVi (As := [.int (ro.2 1), .int i]) (ci := 6) ⟨hx, hb, hml, hown, hts⟩ (k_X6_faultAt l D ca roa ro (ro.2 1) i _ q2) (cwV 2 hts gX7_lay_X6_faultAt rfl rfl rfl (by decide +kernel) ⟨Nat.le_of_ble_eq_true rfl, Nat.le_of_ble_eq_true rfl⟩) hK hA hP hD hS dX7_lay_22 rfl hl.1 [2, 3] [0, 1] [0, 1, 2, 3] rfl rfl (wr := ((cF ffa r0 r1 r2 r3 r4 r5 r6 rosa ff) ++ (cAR ca rosa ros))) rfl rfl (by decide) (wn := ((cF ffa r0 r1 r2 r3 r4 r5 r6 rosa ff) ++ (cAR ca rosa ros) ++ (cW ca roa ro))) rfl rfl rfl rfl rfl rfl (Nat.le_of_ble_eq_true rfl) (fun H locs hP hD hS => ?_)
    refine lv_istore (lv' := [(5, .int v2), (4, .ref (roa 0)), (0, .ref ffa), (1, .int r), (2, .int i), (3, .int x)]) hx hb dX7_lay_25 hl (by decide) rfl (fun ls hl => ?_)
    refine lv_iload hx hb dX7_lay_27 (lv_at hl 0 rfl) ?_
    refine lv_if_eq (tgt := 38) hx hb dX7_lay_29 (by decide) (fun c3 => ?_) (fun c3 => ?_)
    · skip
      replace h5 := (if_pos c3).symm.trans h5
      refine lv_aload hx hb dX7_lay_38 (lv_at hl 1 rfl) ?_
      refine lv_iload_n hx hb dX7_lay_40 rfl (lv_at hl 4 rfl) ?_
      refine lv_iload_n hx hb dX7_lay_41 rfl (lv_at hl 5 rfl) ?_
      obtain ⟨v4, q4, h6⟩ := obn h5
      clear h5
      refine xVv (As := [.int i, .int x]) (ci := 6) ⟨hx, hb, hml, hown, hts⟩ (k_X6_write l D ca roa ro i x _ q4) (cwV 2 hts gX7_lay_X6_write rfl rfl rfl (by decide +kernel) ⟨Nat.le_of_ble_eq_true rfl, Nat.le_of_ble_eq_true rfl⟩) hK hA hP hD hS dX7_lay_42 rfl hl.1 [2, 3] [0, 1] [0, 1, 2, 3] rfl rfl (wr := ((cF ffa r0 r1 r2 r3 r4 r5 r6 rosa ff) ++ (cAR ca rosa ros))) rfl rfl (by decide) (wn := ((cF ffa r0 r1 r2 r3 r4 r5 r6 rosa ff) ++ (cAR ca rosa ros) ++ (cW ca roa v4))) rfl rfl rfl rfl rfl rfl (Nat.le_of_ble_eq_true rfl) (fun H locs hP hD hS => ?_)
      refine lv_iconst (v := (1 : Int32)) hx hb dX7_lay_45 (by decide) ?_
      obtain rfl := Option.some.inj h6
      exact hret _ _ _ _ (vp_nar_int _) hP hD hS dX7_lay_46
    · skip
      replace h5 := (if_neg c3).symm.trans h5
      refine lv_bipush (v := (-10 : Int32)) hx hb dX7_lay_32 (by decide) ?_
      refine lv_iload hx hb dX7_lay_34 (lv_at hl 0 rfl) ?_
      refine lv_isub hx hb dX7_lay_36 ?_
      obtain rfl := Option.some.inj h5
      exact hret _ _ _ _ (vp_nar_int _) hP hD hS dX7_lay_37
def mX7_read_l55 (ff : Int32) (h : GS) (ro : GS) (i : Int32) (j : Int32) (n : Int32) (s18 : Int32 × Int32 × Int32 × GS) : Option ((Int32 × Int32 × Int32 × GS) ⊕ ((Int32 × Int32 × Int32 × GS) ⊕ (Int32 × Int32 × GS × GS))) :=
  if n ≤ s18.2.2.1 then
    some (.inr (.inl (s18.1, s18.2.1, s18.2.2.1, s18.2.2.2)))
  else
    if s18.1 = 0 then
      Option.bind (mX6_faultOfPair ro i (j + ((2 : Int32) * s18.2.2.1))) fun v21 =>
      Option.bind (
        if v21 = 0 then
          Option.bind (mX6_cellAt ro (j + ((2 : Int32) * s18.2.2.1))) fun v23 =>
          Option.bind (mX6_cellAt ro ((j + ((2 : Int32) * s18.2.2.1)) + (1 : Int32))) fun v24 =>
          Option.bind (mX0_addBlock s18.2.2.2 v23 v24) fun v25 =>
          if 0 ≤ v25.1 then
            some (.inl ((s18.2.1 + (1 : Int32)), v25.2))
          else
            some (.inr (.inr (.inr (((-20 : Int32) - s18.2.2.1), ff, h, v25.2))))
        else
          some (.inl (s18.2.1, s18.2.2.2))) fun (v27 : (Int32 × GS) ⊕ ((Int32 × Int32 × Int32 × GS) ⊕ ((Int32 × Int32 × Int32 × GS) ⊕ (Int32 × Int32 × GS × GS)))) => esc v27 fun t28 =>
      some (.inl (v21, t28.1, (s18.2.2.1 + (1 : Int32)), t28.2))
    else
      some (.inr (.inl (s18.1, s18.2.1, s18.2.2.1, s18.2.2.2)))

def mX7_read (ff : Int32) (h : GS) (tr : GS) (ro : GS) (r : Int32) (i : Int32) (j : Int32) (n : Int32) : Option (Int32 × Int32 × GS × GS) :=
  if (r < 0 ∨ 4 ≤ r.toNatClampNeg) then
    some ((-1 : Int32), ff, h, tr)
  else
    if i < 0 then
      some ((-1 : Int32), ff, h, tr)
    else
      if (3 : Int32) ≤ i then
        some ((-1 : Int32), ff, h, tr)
      else
        if n < 0 then
          some ((-1 : Int32), ff, h, tr)
        else
          if n ≤ (20 : Int32) then
            Option.bind (mX0_copy tr h) fun v6 =>
            Option.bind (whO (mX7_read_l55 ff h ro i j n) FU ((0 : Int32), (0 : Int32), (0 : Int32), v6)) fun e29 => esc e29 fun t30 =>
            Option.bind (mX0_copy h t30.2.2.2) fun v31 =>
            some (t30.2.1, t30.1, v31, t30.2.2.2)
          else
            some ((-1 : Int32), ff, h, tr)
abbrev rmX7_read : Room := { frames := 2, cells := 0, slots := 0, locals := 81 }
set_option maxHeartbeats 4000000 in
set_option maxRecDepth 100000 in
theorem k_X7_read (l : Launch) (D : va_G) (ca : Nat → ClassId) (ffa : Nat) (r2 r3 r4 r5 r6 : Nat) (ha : Nat → Nat) (tra : Nat → Nat) (rosa : Nat) (ros : Nat → Option Nat) (roa : Nat → Nat) (ff : Int32) (h : GS) (tr : GS) (ro : GS) (r : Int32) (i : Int32) (j : Int32) (n : Int32) (o : Int32 × Int32 × GS × GS) (hsel : ¬ (r < 0 ∨ 4 ≤ r.toNatClampNeg) → ros r.toNatClampNeg = some (roa 0)) (hm : mX7_read ff h tr ro r i j n = some o) : KI l yX7_read wsX7_read rmX7_read D ca [.ref ffa, .int r, .int i, .int j, .int n] ((cF ffa (ha 0) (tra 0) r2 r3 r4 r5 r6 rosa ff) ++ (cH ca ha h) ++ (cH ca tra tr) ++ (cAR ca rosa ros) ++ (cW ca roa ro)) ((cF ffa (ha 0) (tra 0) r2 r3 r4 r5 r6 rosa o.2.1) ++ (cH ca ha o.2.2.1) ++ (cH ca tra o.2.2.2) ++ (cAR ca rosa ros) ++ (cW ca roa ro)) o.1 := by
  refine KI.of (cc := cX7_read) (n := 10) (plainFor_of_name (by decide)) rfl (Nat.le_of_ble_eq_true rfl) ?_
  intro p e s m below meth c A Z hx hb hml hts hown hA hK hP hD hS hret ls hl
  have hown : s.vm.findClass RX7 = some m.cls := hown
  have hl : lv_has ls 10 [(0, .ref ffa), (1, .int r), (2, .int i), (3, .int j), (4, .int n)] := hl
  have inX7 : ∀ w ∈ wsX70, w ∈ wsX7_read := by decide +kernel
  have k1 := hts (.fieldLink RX7 16 "FriezeFolk" "trial" "LFriezeFolk$Hall;") (by decide +kernel)
  have k2 := hts (.fieldLink RX7 10 "FriezeFolk" "hall" "LFriezeFolk$Hall;") (by decide +kernel)
  have k3 := hts (.fieldLink RX7 61 "FriezeFolk" "torn" "I") (by decide +kernel)
  unfold mX7_read at hm
  refine lv_aload_n hx hb dX7_read_0 rfl (lv_at hl 0 rfl) ?_
  refine lv_iload_n hx hb dX7_read_1 rfl (lv_at hl 1 rfl) ?_
  by_cases c1 : (r < 0 ∨ 4 ≤ r.toNatClampNeg)
  · replace hm := (if_pos c1).symm.trans hm
    refine xVq (As := [.int r]) (ci := 7) (r := none) ⟨hx, hb, hml, hown, hts⟩ (k_X7_rowOf l D ca ffa (ha 0) (tra 0) r2 r3 r4 r5 r6 rosa ros ff r _ (sel_none c1)) (cwV 1 hts gX7_read_X7_rowOf rfl rfl rfl (by decide +kernel) ⟨Nat.le_of_ble_eq_true rfl, Nat.le_of_ble_eq_true rfl⟩) hK hA hP hD hS dX7_read_2 rfl hl.1 [0, 13] [1, 2, 3, 4, 5, 6, 7, 8, 9, 10, 11, 12, 14, 15] [14, 0, 1, 2, 3, 4, 5, 6, 7, 8, 9, 10, 11, 15, 12, 13] rfl rfl (wr := ((cH ca ha h) ++ (cH ca tra tr) ++ (cW ca roa ro))) rfl rfl (by decide) (wn := ((cF ffa (ha 0) (tra 0) r2 r3 r4 r5 r6 rosa ff) ++ (cH ca ha h) ++ (cH ca tra tr) ++ (cAR ca rosa ros) ++ (cW ca roa ro))) rfl rfl rfl rfl rfl rfl (Nat.le_of_ble_eq_true rfl) (fun H locs hP hD hS => ?_)
    refine lv_astoreN (lv' := [(5, .null), (0, .ref ffa), (1, .int r), (2, .int i), (3, .int j), (4, .int n)]) hx hb dX7_read_5 hl (by decide) rfl (fun ls hl => ?_)
    refine lv_aloadN hx hb dX7_read_7 (lv_at hl 0 rfl) ?_
    refine lv_ifnullN (tgt := 33) hx hb dX7_read_9 (by decide) ?_
    refine lv_iconst (v := (-1 : Int32)) hx hb dX7_read_33 (by decide) ?_
    obtain rfl := Option.some.inj hm
    exact hret _ _ _ _ (vp_nar_int _) hP hD hS dX7_read_34
  · replace hm := (if_neg c1).symm.trans hm
    refine xVq (As := [.int r]) (ci := 7) (r := some (roa 0)) ⟨hx, hb, hml, hown, hts⟩ (k_X7_rowOf l D ca ffa (ha 0) (tra 0) r2 r3 r4 r5 r6 rosa ros ff r _ (sel_some c1 (hsel c1))) (cwV 1 hts gX7_read_X7_rowOf rfl rfl rfl (by decide +kernel) ⟨Nat.le_of_ble_eq_true rfl, Nat.le_of_ble_eq_true rfl⟩) hK hA hP hD hS dX7_read_2 rfl hl.1 [0, 13] [1, 2, 3, 4, 5, 6, 7, 8, 9, 10, 11, 12, 14, 15] [14, 0, 1, 2, 3, 4, 5, 6, 7, 8, 9, 10, 11, 15, 12, 13] rfl rfl (wr := ((cH ca ha h) ++ (cH ca tra tr) ++ (cW ca roa ro))) rfl rfl (by decide) (wn := ((cF ffa (ha 0) (tra 0) r2 r3 r4 r5 r6 rosa ff) ++ (cH ca ha h) ++ (cH ca tra tr) ++ (cAR ca rosa ros) ++ (cW ca roa ro))) rfl rfl rfl rfl rfl rfl (Nat.le_of_ble_eq_true rfl) (fun H locs hP hD hS => ?_)
    refine lv_astore (lv' := [(5, .ref (roa 0)), (0, .ref ffa), (1, .int r), (2, .int i), (3, .int j), (4, .int n)]) hx hb dX7_read_5 hl (by decide) rfl (fun ls hl => ?_)
    refine lv_aload hx hb dX7_read_7 (lv_at hl 0 rfl) ?_
    refine lv_ifnull hx hb dX7_read_9 ?_
    refine lv_iload_n hx hb dX7_read_12 rfl (lv_at hl 3 rfl) ?_
    refine lv_if_lt (tgt := 33) hx hb dX7_read_13 (by decide) (fun c2 => ?_) (fun c2 => ?_)
    · skip
      replace hm := (if_pos c2).symm.trans hm
      refine lv_iconst (v := (-1 : Int32)) hx hb dX7_read_33 (by decide) ?_
      obtain rfl := Option.some.inj hm
      exact hret _ _ _ _ (vp_nar_int _) hP hD hS dX7_read_34
    · skip
      replace hm := (if_neg c2).symm.trans hm
      refine lv_iload_n hx hb dX7_read_16 rfl (lv_at hl 3 rfl) ?_
      refine lv_iconst (v := (3 : Int32)) hx hb dX7_read_17 (by decide) ?_
      refine lv_icmp_ge (tgt := 33) hx hb dX7_read_18 (by decide) (fun c3 => ?_) (fun c3 => ?_)
      · skip
        replace hm := (if_pos c3).symm.trans hm
        refine lv_iconst (v := (-1 : Int32)) hx hb dX7_read_33 (by decide) ?_
        obtain rfl := Option.some.inj hm
        exact hret _ _ _ _ (vp_nar_int _) hP hD hS dX7_read_34
      · skip
        replace hm := (if_neg c3).symm.trans hm
        refine lv_iload hx hb dX7_read_21 (lv_at hl 5 rfl) ?_
        refine lv_if_lt (tgt := 33) hx hb dX7_read_23 (by decide) (fun c4 => ?_) (fun c4 => ?_)
        · skip
          replace hm := (if_pos c4).symm.trans hm
          refine lv_iconst (v := (-1 : Int32)) hx hb dX7_read_33 (by decide) ?_
          obtain rfl := Option.some.inj hm
          exact hret _ _ _ _ (vp_nar_int _) hP hD hS dX7_read_34
        · skip
          replace hm := (if_neg c4).symm.trans hm
          refine lv_iload hx hb dX7_read_26 (lv_at hl 5 rfl) ?_
          refine lv_bipush (v := (20 : Int32)) hx hb dX7_read_28 (by decide) ?_
          refine lv_icmp_le (tgt := 35) hx hb dX7_read_30 (by decide) (fun c5 => ?_) (fun c5 => ?_)
          · skip
            replace hm := (if_pos c5).symm.trans hm
            refine lv_aload_n hx hb dX7_read_35 rfl (lv_at hl 1 rfl) ?_
            refine xget (ref := "FriezeFolk") (C := RX7) (T := TX7) (N := 9) (ci := 7) (v := .ref (tra 0)) hx hb hts inX7 hown hK hP 0 rfl rfl 1 (by decide) k1 rfl rfl dX7_read_36 ?_
            refine lv_aload_n hx hb dX7_read_39 rfl (lv_at hl 1 rfl) ?_
            refine xget (ref := "FriezeFolk") (C := RX7) (T := TX7) (N := 9) (ci := 7) (v := .ref (ha 0)) hx hb hts inX7 hown hK hP 0 rfl rfl 0 (by decide) k2 rfl rfl dX7_read_40 ?_
            obtain ⟨v6, q6, h32⟩ := obn hm
            clear hm
            refine xVv (As := [.ref (ha 0)]) (ci := 0) ⟨hx, hb, hml, hown, hts⟩ (k_X0_copy l D ca tra ha tr h _ q6) (cwV 1 hts gX7_read_X0_copy rfl rfl rfl (by decide +kernel) ⟨Nat.le_of_ble_eq_true rfl, Nat.le_of_ble_eq_true rfl⟩) hK hA hP hD hS dX7_read_43 rfl hl.1 [7, 8, 9, 10, 11, 12, 1, 2, 3, 4, 5, 6] [0, 13, 14, 15] [0, 10, 11, 12, 13, 14, 15, 4, 5, 6, 7, 8, 9, 1, 2, 3] rfl rfl (wr := ((cF ffa (ha 0) (tra 0) r2 r3 r4 r5 r6 rosa ff) ++ (cAR ca rosa ros) ++ (cW ca roa ro))) rfl rfl (by decide) (wn := ((cF ffa (ha 0) (tra 0) r2 r3 r4 r5 r6 rosa ff) ++ (cH ca ha h) ++ (cH ca tra v6) ++ (cAR ca rosa ros) ++ (cW ca roa ro))) rfl rfl rfl rfl rfl rfl (Nat.le_of_ble_eq_true rfl) (fun H locs hP hD hS => ?_)
            refine lv_iconst (v := (0 : Int32)) hx hb dX7_read_46 (by decide) ?_
            refine lv_istore (lv' := [(6, .int (0 : Int32)), (5, .ref (roa 0)), (0, .ref ffa), (1, .int r), (2, .int i), (3, .int j), (4, .int n)]) hx hb dX7_read_47 hl (by decide) rfl (fun ls hl => ?_)
            refine lv_iconst (v := (0 : Int32)) hx hb dX7_read_49 (by decide) ?_
            refine lv_istore (lv' := [(7, .int (0 : Int32)), (6, .int (0 : Int32)), (5, .ref (roa 0)), (0, .ref ffa), (1, .int r), (2, .int i), (3, .int j), (4, .int n)]) hx hb dX7_read_50 hl (by decide) rfl (fun ls hl => ?_)
            refine lv_iconst (v := (0 : Int32)) hx hb dX7_read_52 (by decide) ?_
            refine lv_istore (lv' := [(8, .int (0 : Int32)), (7, .int (0 : Int32)), (6, .int (0 : Int32)), (5, .ref (roa 0)), (0, .ref ffa), (1, .int r), (2, .int i), (3, .int j), (4, .int n)]) hx hb dX7_read_53 hl (by decide) rfl (fun ls hl => ?_)
            obtain ⟨e29, w33, h34⟩ := obn h32
            clear h32
            have AF29 : ∀ t30, e29 = .inl t30 → ∀ (ls : Array Slot) (H : Heap) (locs : List Loc), lv_has ls 10 [(0, .ref ffa), (6, .int t30.1), (7, .int t30.2.1)] → va_P D vwCl ((cF ffa (ha 0) (tra 0) r2 r3 r4 r5 r6 rosa ff) ++ (cH ca ha h) ++ (cH ca tra t30.2.2.2) ++ (cAR ca rosa ros) ++ (cW ca roa ro)) H → va_D A ((cF ffa (ha 0) (tra 0) r2 r3 r4 r5 r6 rosa ff) ++ (cH ca ha h) ++ (cH ca tra t30.2.2.2) ++ (cAR ca rosa ros) ++ (cW ca roa ro)) → va_S A s.heap H locs → W p l e rmX7_read s m ([.ref ffa, .int r, .int i, .int j, .int n] : List Value).toArray below meth c H locs 0 0 Z (F0 m 131 ls []) := by
              intro t30 ht ls H locs hl hP hD hS
              subst ht
              replace h34 := (esc_l _ _).symm.trans h34
              refine lv_aload_n hx hb dX7_read_131 rfl (lv_at hl 0 rfl) ?_
              refine xget (ref := "FriezeFolk") (C := RX7) (T := TX7) (N := 9) (ci := 7) (v := .ref (ha 0)) hx hb hts inX7 hown hK hP 0 rfl rfl 0 (by decide) k2 rfl rfl dX7_read_132 ?_
              refine lv_aload_n hx hb dX7_read_135 rfl (lv_at hl 0 rfl) ?_
              refine xget (ref := "FriezeFolk") (C := RX7) (T := TX7) (N := 9) (ci := 7) (v := .ref (tra 0)) hx hb hts inX7 hown hK hP 0 rfl rfl 1 (by decide) k1 rfl rfl dX7_read_136 ?_
              obtain ⟨v31, q31, h35⟩ := obn h34
              clear h34
              refine xVv (As := [.ref (tra 0)]) (ci := 0) ⟨hx, hb, hml, hown, hts⟩ (k_X0_copy l D ca ha tra h t30.2.2.2 _ q31) (cwV 1 hts gX7_read_X0_copy rfl rfl rfl (by decide +kernel) ⟨Nat.le_of_ble_eq_true rfl, Nat.le_of_ble_eq_true rfl⟩) hK hA hP hD hS dX7_read_139 rfl hl.1 [1, 2, 3, 4, 5, 6, 7, 8, 9, 10, 11, 12] [0, 13, 14, 15] [0, 4, 5, 6, 7, 8, 9, 10, 11, 12, 13, 14, 15, 1, 2, 3] rfl rfl (wr := ((cF ffa (ha 0) (tra 0) r2 r3 r4 r5 r6 rosa ff) ++ (cAR ca rosa ros) ++ (cW ca roa ro))) rfl rfl (by decide) (wn := ((cF ffa (ha 0) (tra 0) r2 r3 r4 r5 r6 rosa ff) ++ (cH ca ha v31) ++ (cH ca tra t30.2.2.2) ++ (cAR ca rosa ros) ++ (cW ca roa ro))) rfl rfl rfl rfl rfl rfl (Nat.le_of_ble_eq_true rfl) (fun H locs hP hD hS => ?_)
              refine lv_aload_n hx hb dX7_read_142 rfl (lv_at hl 0 rfl) ?_
              refine lv_iload hx hb dX7_read_143 (lv_at hl 1 rfl) ?_
              refine xput (ref := "FriezeFolk") (C := RX7) (T := TX7) (N := 9) (ci := 7) (v := .int t30.1) (ty := .int) hx hb hts inX7 tyX7 tyX7_ok nmX7 hown hK hP hD hS 0 rfl rfl 8 (by decide) k3 rfl rfl (by decide +kernel) rfl rfl (Nat.le_of_ble_eq_true rfl) dX7_read_145 (wn := ((cF ffa (ha 0) (tra 0) r2 r3 r4 r5 r6 rosa t30.1) ++ (cH ca ha v31) ++ (cH ca tra t30.2.2.2) ++ (cAR ca rosa ros) ++ (cW ca roa ro))) rfl (fun H locs hP hD hS => ?_)
              refine lv_iload hx hb dX7_read_148 (lv_at hl 2 rfl) ?_
              obtain rfl := Option.some.inj h35
              exact hret _ _ _ _ (vp_nar_int _) hP hD hS dX7_read_150
            refine whO_walk (I := fun s18 => ∀ (ls : Array Slot) (H : Heap) (locs : List Loc), lv_has ls 10 [(0, .ref ffa), (2, .int i), (3, .int j), (4, .int n), (5, .ref (roa 0)), (6, .int s18.1), (7, .int s18.2.1), (8, .int s18.2.2.1)] → va_P D vwCl ((cF ffa (ha 0) (tra 0) r2 r3 r4 r5 r6 rosa ff) ++ (cH ca ha h) ++ (cH ca tra s18.2.2.2) ++ (cAR ca rosa ros) ++ (cW ca roa ro)) H → va_D A ((cF ffa (ha 0) (tra 0) r2 r3 r4 r5 r6 rosa ff) ++ (cH ca ha h) ++ (cH ca tra s18.2.2.2) ++ (cAR ca rosa ros) ++ (cW ca roa ro)) → va_S A s.heap H locs → W p l e rmX7_read s m ([.ref ffa, .int r, .int i, .int j, .int n] : List Value).toArray below meth c H locs 0 0 Z (F0 m 55 ls [])) ?_ _ _ w33 _ _ _ (lv_sub hl [4, 6, 7, 8, 3, 2, 1, 0] rfl) hP hD hS
            clear w33
            intro s18 o29 h36 hi29 ho29 ls H locs hl hP hD hS
            unfold mX7_read_l55 at h36
            refine lv_iload hx hb dX7_read_55 (lv_at hl 7 rfl) ?_
            refine lv_iload hx hb dX7_read_57 (lv_at hl 3 rfl) ?_
            refine lv_icmp_ge (tgt := 131) hx hb dX7_read_59 (by decide) (fun c19 => ?_) (fun c19 => ?_)
            · skip
              replace h36 := (if_pos c19).symm.trans h36
              have h37 := ho29 _ (Option.some.inj h36).symm
              subst h37
              exact AF29 _ rfl _ _ _ (lv_sub hl [0, 5, 6] rfl) hP hD hS
            · skip
              replace h36 := (if_neg c19).symm.trans h36
              refine lv_iload hx hb dX7_read_62 (lv_at hl 5 rfl) ?_
              refine lv_if_ne (tgt := 131) hx hb dX7_read_64 (by decide) (fun c20 => ?_) (fun c20 => ?_)
              · skip
                replace h36 := (if_neg c20).symm.trans h36
                have h38 := ho29 _ (Option.some.inj h36).symm
                subst h38
                exact AF29 _ rfl _ _ _ (lv_sub hl [0, 5, 6] rfl) hP hD hS
              · skip
                replace h36 := (if_pos c20).symm.trans h36
                refine lv_iload_n hx hb dX7_read_67 rfl (lv_at hl 2 rfl) ?_
                refine lv_iconst (v := (2 : Int32)) hx hb dX7_read_68 (by decide) ?_
                refine lv_iload hx hb dX7_read_69 (lv_at hl 7 rfl) ?_
                refine lv_imul hx hb dX7_read_71 ?_
                refine lv_iadd hx hb dX7_read_72 ?_
                refine lv_istore (lv' := [(9, .int (j + ((2 : Int32) * s18.2.2.1))), (0, .ref ffa), (2, .int i), (3, .int j), (4, .int n), (5, .ref (roa 0)), (6, .int s18.1), (7, .int s18.2.1), (8, .int s18.2.2.1)]) hx hb dX7_read_73 hl (by decide) rfl (fun ls hl => ?_)
                refine lv_aload hx hb dX7_read_75 (lv_at hl 5 rfl) ?_
                refine lv_iload_n hx hb dX7_read_77 rfl (lv_at hl 2 rfl) ?_
                refine lv_iload hx hb dX7_read_78 (lv_at hl 0 rfl) ?_
                obtain ⟨v21, q21, h39⟩ := obn h36
                clear h36
                refine xVi (As := [.int i, .int (j + ((2 : Int32) * s18.2.2.1))]) (ci := 6) ⟨hx, hb, hml, hown, hts⟩ (k_X6_faultOfPair l D ca roa ro i (j + ((2 : Int32) * s18.2.2.1)) _ q21) (cwV 2 hts gX7_read_X6_faultOfPair rfl rfl rfl (by decide +kernel) ⟨Nat.le_of_ble_eq_true rfl, Nat.le_of_ble_eq_true rfl⟩) hK hA hP hD hS dX7_read_80 rfl hl.1 [14, 15] [0, 1, 2, 3, 4, 5, 6, 7, 8, 9, 10, 11, 12, 13] [0, 1, 2, 3, 4, 5, 6, 7, 8, 9, 10, 11, 12, 13, 14, 15] rfl rfl (wr := ((cF ffa (ha 0) (tra 0) r2 r3 r4 r5 r6 rosa ff) ++ (cH ca ha h) ++ (cH ca tra s18.2.2.2) ++ (cAR ca rosa ros))) rfl rfl (by decide) (wn := ((cF ffa (ha 0) (tra 0) r2 r3 r4 r5 r6 rosa ff) ++ (cH ca ha h) ++ (cH ca tra s18.2.2.2) ++ (cAR ca rosa ros) ++ (cW ca roa ro))) rfl rfl rfl rfl rfl rfl (Nat.le_of_ble_eq_true rfl) (fun H locs hP hD hS => ?_)
                refine lv_istore (lv' := [(6, .int v21), (9, .int (j + ((2 : Int32) * s18.2.2.1))), (0, .ref ffa), (2, .int i), (3, .int j), (4, .int n), (5, .ref (roa 0)), (7, .int s18.2.1), (8, .int s18.2.2.1)]) hx hb dX7_read_83 hl (by decide) rfl (fun ls hl => ?_)
                refine lv_iload hx hb dX7_read_85 (lv_at hl 0 rfl) ?_
                obtain ⟨v27, q40, h41⟩ := obn h39
                clear h39
                have J27 : ∀ t28, v27 = .inl t28 → ∀ (ls : Array Slot) (H : Heap) (locs : List Loc), lv_has ls 10 [(0, .ref ffa), (2, .int i), (3, .int j), (4, .int n), (5, .ref (roa 0)), (6, .int v21), (7, .int t28.1), (8, .int s18.2.2.1)] → va_P D vwCl ((cF ffa (ha 0) (tra 0) r2 r3 r4 r5 r6 rosa ff) ++ (cH ca ha h) ++ (cH ca tra t28.2) ++ (cAR ca rosa ros) ++ (cW ca roa ro)) H → va_D A ((cF ffa (ha 0) (tra 0) r2 r3 r4 r5 r6 rosa ff) ++ (cH ca ha h) ++ (cH ca tra t28.2) ++ (cAR ca rosa ros) ++ (cW ca roa ro)) → va_S A s.heap H locs → W p l e rmX7_read s m ([.ref ffa, .int r, .int i, .int j, .int n] : List Value).toArray below meth c H locs 0 0 Z (F0 m 125 ls []) := by
                  intro t28 ht ls H locs hl hP hD hS
                  subst ht
                  replace h41 := (esc_l _ _).symm.trans h41
                  refine lv_iinc (v := (s18.2.2.1 + (1 : Int32))) (lv' := [(8, .int (s18.2.2.1 + (1 : Int32))), (0, .ref ffa), (2, .int i), (3, .int j), (4, .int n), (5, .ref (roa 0)), (6, .int v21), (7, .int t28.1)]) hx hb dX7_read_125 hl (k := 7) rfl rfl (by decide) rfl (fun ls hl => ?_)
                  refine lv_goto (tgt := 55) hx hb dX7_read_128 (by decide) ?_
                  exact hi29 _ (Option.some.inj h41).symm _ _ _ (lv_sub hl [1, 2, 3, 4, 5, 6, 7, 0] rfl) hP hD hS
                refine lv_if_ne (tgt := 125) hx hb dX7_read_87 (by decide) (fun c22 => ?_) (fun c22 => ?_)
                · skip
                  replace q40 := (if_neg c22).symm.trans q40
                  obtain rfl := Option.some.inj q40
                  exact J27 _ rfl _ _ _ (lv_sub hl [2, 3, 4, 5, 6, 0, 7, 8] rfl) hP hD hS
                · skip
                  replace q40 := (if_pos c22).symm.trans q40
                  refine lv_aload_n hx hb dX7_read_90 rfl (lv_at hl 2 rfl) ?_
                  refine xget (ref := "FriezeFolk") (C := RX7) (T := TX7) (N := 9) (ci := 7) (v := .ref (tra 0)) hx hb hts inX7 hown hK hP 0 rfl rfl 1 (by decide) k1 rfl rfl dX7_read_91 ?_
                  refine lv_aload hx hb dX7_read_94 (lv_at hl 6 rfl) ?_
                  refine lv_iload hx hb dX7_read_96 (lv_at hl 1 rfl) ?_
                  obtain ⟨v23, q23, h42⟩ := obn q40
                  clear q40
                  refine xVi (As := [.int (j + ((2 : Int32) * s18.2.2.1))]) (ci := 6) ⟨hx, hb, hml, hown, hts⟩ (k_X6_cellAt l D ca roa ro (j + ((2 : Int32) * s18.2.2.1)) _ q23) (cwV 1 hts gX7_read_X6_cellAt rfl rfl rfl (by decide +kernel) ⟨Nat.le_of_ble_eq_true rfl, Nat.le_of_ble_eq_true rfl⟩) hK hA hP hD hS dX7_read_98 rfl hl.1 [14, 15] [0, 1, 2, 3, 4, 5, 6, 7, 8, 9, 10, 11, 12, 13] [0, 1, 2, 3, 4, 5, 6, 7, 8, 9, 10, 11, 12, 13, 14, 15] rfl rfl (wr := ((cF ffa (ha 0) (tra 0) r2 r3 r4 r5 r6 rosa ff) ++ (cH ca ha h) ++ (cH ca tra s18.2.2.2) ++ (cAR ca rosa ros))) rfl rfl (by decide) (wn := ((cF ffa (ha 0) (tra 0) r2 r3 r4 r5 r6 rosa ff) ++ (cH ca ha h) ++ (cH ca tra s18.2.2.2) ++ (cAR ca rosa ros) ++ (cW ca roa ro))) rfl rfl rfl rfl rfl rfl (Nat.le_of_ble_eq_true rfl) (fun H locs hP hD hS => ?_)
                  refine lv_aload hx hb dX7_read_101 (lv_at hl 6 rfl) ?_
                  refine lv_iload hx hb dX7_read_103 (lv_at hl 1 rfl) ?_
                  refine lv_iconst (v := (1 : Int32)) hx hb dX7_read_105 (by decide) ?_
                  refine lv_iadd hx hb dX7_read_106 ?_
                  obtain ⟨v24, q24, h43⟩ := obn h42
                  clear h42
                  refine xVi (As := [.int ((j + ((2 : Int32) * s18.2.2.1)) + (1 : Int32))]) (ci := 6) ⟨hx, hb, hml, hown, hts⟩ (k_X6_cellAt l D ca roa ro ((j + ((2 : Int32) * s18.2.2.1)) + (1 : Int32)) _ q24) (cwV 1 hts gX7_read_X6_cellAt rfl rfl rfl (by decide +kernel) ⟨Nat.le_of_ble_eq_true rfl, Nat.le_of_ble_eq_true rfl⟩) hK hA hP hD hS dX7_read_107 rfl hl.1 [14, 15] [0, 1, 2, 3, 4, 5, 6, 7, 8, 9, 10, 11, 12, 13] [0, 1, 2, 3, 4, 5, 6, 7, 8, 9, 10, 11, 12, 13, 14, 15] rfl rfl (wr := ((cF ffa (ha 0) (tra 0) r2 r3 r4 r5 r6 rosa ff) ++ (cH ca ha h) ++ (cH ca tra s18.2.2.2) ++ (cAR ca rosa ros))) rfl rfl (by decide) (wn := ((cF ffa (ha 0) (tra 0) r2 r3 r4 r5 r6 rosa ff) ++ (cH ca ha h) ++ (cH ca tra s18.2.2.2) ++ (cAR ca rosa ros) ++ (cW ca roa ro))) rfl rfl rfl rfl rfl rfl (Nat.le_of_ble_eq_true rfl) (fun H locs hP hD hS => ?_)
                  obtain ⟨v25, q25, h44⟩ := obn h43
                  clear h43
                  refine xVi (As := [.int v23, .int v24]) (ci := 0) ⟨hx, hb, hml, hown, hts⟩ (k_X0_addBlock l D ca tra s18.2.2.2 v23 v24 _ q25) (cwV 2 hts gX7_read_X0_addBlock rfl rfl rfl (by decide +kernel) ⟨Nat.le_of_ble_eq_true rfl, Nat.le_of_ble_eq_true rfl⟩) hK hA hP hD hS dX7_read_110 rfl hl.1 [7, 8, 9, 10, 11, 12] [0, 1, 2, 3, 4, 5, 6, 13, 14, 15] [0, 1, 2, 3, 4, 5, 6, 10, 11, 12, 13, 14, 15, 7, 8, 9] rfl rfl (wr := ((cF ffa (ha 0) (tra 0) r2 r3 r4 r5 r6 rosa ff) ++ (cH ca ha h) ++ (cAR ca rosa ros) ++ (cW ca roa ro))) rfl rfl (by decide) (wn := ((cF ffa (ha 0) (tra 0) r2 r3 r4 r5 r6 rosa ff) ++ (cH ca ha h) ++ (cH ca tra v25.2) ++ (cAR ca rosa ros) ++ (cW ca roa ro))) rfl rfl rfl rfl rfl rfl (Nat.le_of_ble_eq_true rfl) (fun H locs hP hD hS => ?_)
                  refine lv_if_ge (tgt := 122) hx hb dX7_read_113 (by decide) (fun c26 => ?_) (fun c26 => ?_)
                  · skip
                    replace h44 := (if_pos c26).symm.trans h44
                    refine lv_iinc (v := (s18.2.1 + (1 : Int32))) (lv' := [(7, .int (s18.2.1 + (1 : Int32))), (6, .int v21), (9, .int (j + ((2 : Int32) * s18.2.2.1))), (0, .ref ffa), (2, .int i), (3, .int j), (4, .int n), (5, .ref (roa 0)), (8, .int s18.2.2.1)]) hx hb dX7_read_122 hl (k := 7) rfl rfl (by decide) rfl (fun ls hl => ?_)
                    obtain rfl := Option.some.inj h44
                    exact J27 _ rfl _ _ _ (lv_sub hl [3, 4, 5, 6, 7, 1, 0, 8] rfl) hP hD hS
                  · skip
                    replace h44 := (if_neg c26).symm.trans h44
                    refine lv_bipush (v := (-20 : Int32)) hx hb dX7_read_116 (by decide) ?_
                    refine lv_iload hx hb dX7_read_118 (lv_at hl 8 rfl) ?_
                    refine lv_isub hx hb dX7_read_120 ?_
                    obtain rfl := Option.some.inj h44
                    replace h41 := (esc_r _ _).symm.trans h41
                    have h45 := ho29 _ (Option.some.inj h41).symm
                    subst h45
                    replace h34 := (esc_r _ _).symm.trans h34
                    obtain rfl := Option.some.inj h34
                    exact hret _ _ _ _ (vp_nar_int _) hP hD hS dX7_read_121
          · skip
            replace hm := (if_neg c5).symm.trans hm
            refine lv_iconst (v := (-1 : Int32)) hx hb dX7_read_33 (by decide) ?_
            obtain rfl := Option.some.inj hm
            exact hret _ _ _ _ (vp_nar_int _) hP hD hS dX7_read_34

def mX7_loseImages : Option (Int32 × Int32) :=
  some ((0 : Int32), (0 : Int32))
abbrev rmX7_loseImages : Room := { frames := 1, cells := 0, slots := 0, locals := 21 }
set_option maxHeartbeats 4000000 in
set_option maxRecDepth 100000 in
theorem k_X7_loseImages (l : Launch) (D : va_G) (ca : Nat → ClassId) (ffa : Nat) (r0 r1 r3 r4 r5 r6 r7 : Nat) (imsa : Nat) (ims : Nat → Option Nat) (i0h : Nat) (i0a : Nat) (i1h : Nat) (i1a : Nat) (ff : Int32) (i0 : Int32) (i1 : Int32) (o : Int32 × Int32) (hsel_i0 : ims 0 = some i0a) (hsel_i1 : ims 1 = some i1a) (hm : mX7_loseImages  = some o) : KV l yX7_loseImages wsX7_loseImages rmX7_loseImages D ca [.ref ffa] ((cF ffa r0 r1 imsa r3 r4 r5 r6 r7 ff) ++ (cAI ca imsa ims) ++ (cIm i0h i0a i0) ++ (cIm i1h i1a i1)) ((cF ffa r0 r1 imsa r3 r4 r5 r6 r7 ff) ++ (cAI ca imsa ims) ++ (cIm i0h i0a o.1) ++ (cIm i1h i1a o.2)) := by
  refine KV.of (cc := cX7_loseImages) (n := 3) (plainFor_of_name (by decide)) rfl (Nat.le_of_ble_eq_true rfl) ?_
  intro p e s m below meth c A Z hx hb hml hts hown hA hK hP hD hS hret ls hl
  have hown : s.vm.findClass RX7 = some m.cls := hown
  have hl : lv_has ls 3 [(0, .ref ffa)] := hl
  have inX1 : ∀ w ∈ wsX10, w ∈ wsX7_loseImages := by decide +kernel
  have inX7 : ∀ w ∈ wsX70, w ∈ wsX7_loseImages := by decide +kernel
  have k1 := hts (.fieldLink RX7 22 "FriezeFolk" "images" "[LFriezeFolk$Image;") (by decide +kernel)
  have k2 := hts (.fieldLink RX7 251 "FriezeFolk$Image" "held" "Z") (by decide +kernel)
  unfold mX7_loseImages at hm
  refine lv_iconst (v := (0 : Int32)) hx hb dX7_loseImages_0 (by decide) ?_
  refine lv_istore_n (lv' := [(1, .int (0 : Int32)), (0, .ref ffa)]) hx hb dX7_loseImages_1 rfl hl (by decide) rfl (fun ls hl => ?_)
  refine lv_iload_n hx hb dX7_loseImages_2 rfl (lv_at hl 0 rfl) ?_
  refine lv_aload_n hx hb dX7_loseImages_3 rfl (lv_at hl 1 rfl) ?_
  refine xget (ref := "FriezeFolk") (C := RX7) (T := TX7) (N := 9) (ci := 7) (v := .ref imsa) hx hb hts inX7 hown hK hP 0 rfl rfl 2 (by decide) k1 rfl rfl dX7_loseImages_4 ?_
  refine va_alen (v := (2 : Int32)) hx hb hK hP 1 4 rfl rfl rfl dX7_loseImages_7 ?_
  refine lv_icmp_ge (tgt := 32) hx hb dX7_loseImages_8 (by decide) (fun c1 => absurd c1 (by decide)) (fun c1 => ?_)
  refine lv_aload_n hx hb dX7_loseImages_11 rfl (lv_at hl 1 rfl) ?_
  refine lv_iload_n hx hb dX7_loseImages_12 rfl (lv_at hl 0 rfl) ?_
  refine xVq (As := [.int (0 : Int32)]) (ci := 7) (r := some i0a) ⟨hx, hb, hml, hown, hts⟩ (k_X7_imageOf l D ca ffa r0 r1 r3 r4 r5 r6 r7 imsa ims ff (0 : Int32) _ (sel_some (by decide) (hsel_i0))) (cwV 1 hts gX7_loseImages_X7_imageOf rfl rfl rfl (by decide +kernel) ⟨Nat.le_of_ble_eq_true rfl, Nat.le_of_ble_eq_true rfl⟩) hK hA hP hD hS dX7_loseImages_13 rfl hl.1 [0, 1] [2, 3] [2, 3, 0, 1] rfl rfl (wr := ((cIm i0h i0a i0) ++ (cIm i1h i1a i1))) rfl rfl (by decide) (wn := ((cF ffa r0 r1 imsa r3 r4 r5 r6 r7 ff) ++ (cAI ca imsa ims) ++ (cIm i0h i0a i0) ++ (cIm i1h i1a i1))) rfl rfl rfl rfl rfl rfl (Nat.le_of_ble_eq_true rfl) (fun H locs hP hD hS => ?_)
  refine lv_astore_n (lv' := [(2, .ref i0a), (1, .int (0 : Int32)), (0, .ref ffa)]) hx hb dX7_loseImages_16 rfl hl (by decide) rfl (fun ls hl => ?_)
  refine lv_aload_n hx hb dX7_loseImages_17 rfl (lv_at hl 0 rfl) ?_
  refine lv_ifnull hx hb dX7_loseImages_18 ?_
  refine lv_aload_n hx hb dX7_loseImages_21 rfl (lv_at hl 0 rfl) ?_
  refine lv_iconst (v := (0 : Int32)) hx hb dX7_loseImages_22 (by decide) ?_
  refine xput (ref := "FriezeFolk$Image") (C := RX1) (T := TX1) (N := 2) (ci := 1) (v := .int (0 : Int32)) (ty := .boolean) hx hb hts inX1 tyX1 tyX1_ok nmX1 hown hK hP hD hS 2 rfl rfl 1 (by decide) k2 rfl rfl (by decide +kernel) rfl rfl (Nat.le_of_ble_eq_true rfl) dX7_loseImages_23 (wn := ((cF ffa r0 r1 imsa r3 r4 r5 r6 r7 ff) ++ (cAI ca imsa ims) ++ (cIm i0h i0a (0 : Int32)) ++ (cIm i1h i1a i1))) rfl (fun H locs hP hD hS => ?_)
  refine lv_iinc (v := ((0 : Int32) + (1 : Int32))) (lv' := [(1, .int ((0 : Int32) + (1 : Int32))), (2, .ref i0a), (0, .ref ffa)]) hx hb dX7_loseImages_26 hl (k := 1) rfl rfl (by decide) rfl (fun ls hl => ?_)
  refine lv_goto (tgt := 2) hx hb dX7_loseImages_29 (by decide) ?_
  refine lv_iload_n hx hb dX7_loseImages_2 rfl (lv_at hl 0 rfl) ?_
  refine lv_aload_n hx hb dX7_loseImages_3 rfl (lv_at hl 2 rfl) ?_
  refine xget (ref := "FriezeFolk") (C := RX7) (T := TX7) (N := 9) (ci := 7) (v := .ref imsa) hx hb hts inX7 hown hK hP 0 rfl rfl 2 (by decide) k1 rfl rfl dX7_loseImages_4 ?_
  refine va_alen (v := (2 : Int32)) hx hb hK hP 1 4 rfl rfl rfl dX7_loseImages_7 ?_
  refine lv_icmp_ge (tgt := 32) hx hb dX7_loseImages_8 (by decide) (fun c3 => absurd c3 (by decide)) (fun c3 => ?_)
  refine lv_aload_n hx hb dX7_loseImages_11 rfl (lv_at hl 2 rfl) ?_
  refine lv_iload_n hx hb dX7_loseImages_12 rfl (lv_at hl 0 rfl) ?_
  refine xVq (As := [.int ((0 : Int32) + (1 : Int32))]) (ci := 7) (r := some i1a) ⟨hx, hb, hml, hown, hts⟩ (k_X7_imageOf l D ca ffa r0 r1 r3 r4 r5 r6 r7 imsa ims ff ((0 : Int32) + (1 : Int32)) _ (sel_some (by decide) (hsel_i1))) (cwV 1 hts gX7_loseImages_X7_imageOf rfl rfl rfl (by decide +kernel) ⟨Nat.le_of_ble_eq_true rfl, Nat.le_of_ble_eq_true rfl⟩) hK hA hP hD hS dX7_loseImages_13 rfl hl.1 [0, 1] [2, 3] [2, 3, 0, 1] rfl rfl (wr := ((cIm i0h i0a (0 : Int32)) ++ (cIm i1h i1a i1))) rfl rfl (by decide) (wn := ((cF ffa r0 r1 imsa r3 r4 r5 r6 r7 ff) ++ (cAI ca imsa ims) ++ (cIm i0h i0a (0 : Int32)) ++ (cIm i1h i1a i1))) rfl rfl rfl rfl rfl rfl (Nat.le_of_ble_eq_true rfl) (fun H locs hP hD hS => ?_)
  refine lv_astore_n (lv' := [(2, .ref i1a), (1, .int ((0 : Int32) + (1 : Int32))), (0, .ref ffa)]) hx hb dX7_loseImages_16 rfl hl (by decide) rfl (fun ls hl => ?_)
  refine lv_aload_n hx hb dX7_loseImages_17 rfl (lv_at hl 0 rfl) ?_
  refine lv_ifnull hx hb dX7_loseImages_18 ?_
  refine lv_aload_n hx hb dX7_loseImages_21 rfl (lv_at hl 0 rfl) ?_
  refine lv_iconst (v := (0 : Int32)) hx hb dX7_loseImages_22 (by decide) ?_
  refine xput (ref := "FriezeFolk$Image") (C := RX1) (T := TX1) (N := 2) (ci := 1) (v := .int (0 : Int32)) (ty := .boolean) hx hb hts inX1 tyX1 tyX1_ok nmX1 hown hK hP hD hS 3 rfl rfl 1 (by decide) k2 rfl rfl (by decide +kernel) rfl rfl (Nat.le_of_ble_eq_true rfl) dX7_loseImages_23 (wn := ((cF ffa r0 r1 imsa r3 r4 r5 r6 r7 ff) ++ (cAI ca imsa ims) ++ (cIm i0h i0a (0 : Int32)) ++ (cIm i1h i1a (0 : Int32)))) rfl (fun H locs hP hD hS => ?_)
  refine lv_iinc (v := (((0 : Int32) + (1 : Int32)) + (1 : Int32))) (lv' := [(1, .int (((0 : Int32) + (1 : Int32)) + (1 : Int32))), (2, .ref i1a), (0, .ref ffa)]) hx hb dX7_loseImages_26 hl (k := 1) rfl rfl (by decide) rfl (fun ls hl => ?_)
  refine lv_goto (tgt := 2) hx hb dX7_loseImages_29 (by decide) ?_
  refine lv_iload_n hx hb dX7_loseImages_2 rfl (lv_at hl 0 rfl) ?_
  refine lv_aload_n hx hb dX7_loseImages_3 rfl (lv_at hl 2 rfl) ?_
  refine xget (ref := "FriezeFolk") (C := RX7) (T := TX7) (N := 9) (ci := 7) (v := .ref imsa) hx hb hts inX7 hown hK hP 0 rfl rfl 2 (by decide) k1 rfl rfl dX7_loseImages_4 ?_
  refine va_alen (v := (2 : Int32)) hx hb hK hP 1 4 rfl rfl rfl dX7_loseImages_7 ?_
  refine lv_icmp_ge (tgt := 32) hx hb dX7_loseImages_8 (by decide) (fun c5 => ?_) (fun c5 => absurd (by decide) c5)
  obtain rfl := Option.some.inj hm
  exact hret _ _ _ _ hP hD hS dX7_loseImages_32

def mX7_imagesHeld (i0 : Int32) (i1 : Int32) : Option (Int32) :=
  Option.bind (
    if i0 = 0 then
      some (0 : Int32)
    else
      some ((0 : Int32) + (1 : Int32))) fun (v4 : Int32) =>
  Option.bind (
    if i1 = 0 then
      some v4
    else
      some (v4 + (1 : Int32))) fun (v8 : Int32) =>
  some v8
abbrev rmX7_imagesHeld : Room := { frames := 1, cells := 0, slots := 0, locals := 21 }
set_option maxHeartbeats 4000000 in
set_option maxRecDepth 100000 in
theorem k_X7_imagesHeld (l : Launch) (D : va_G) (ca : Nat → ClassId) (ffa : Nat) (r0 r1 r3 r4 r5 r6 r7 : Nat) (imsa : Nat) (ims : Nat → Option Nat) (i0h : Nat) (i0a : Nat) (i1h : Nat) (i1a : Nat) (ff : Int32) (i0 : Int32) (i1 : Int32) (o : Int32) (hsel_i0 : ims 0 = some i0a) (hsel_i1 : ims 1 = some i1a) (hm : mX7_imagesHeld i0 i1 = some o) : KI l yX7_imagesHeld wsX7_imagesHeld rmX7_imagesHeld D ca [.ref ffa] ((cF ffa r0 r1 imsa r3 r4 r5 r6 r7 ff) ++ (cAI ca imsa ims) ++ (cIm i0h i0a i0) ++ (cIm i1h i1a i1)) ((cF ffa r0 r1 imsa r3 r4 r5 r6 r7 ff) ++ (cAI ca imsa ims) ++ (cIm i0h i0a i0) ++ (cIm i1h i1a i1)) o := by
  refine KI.of (cc := cX7_imagesHeld) (n := 4) (plainFor_of_name (by decide)) rfl (Nat.le_of_ble_eq_true rfl) ?_
  intro p e s m below meth c A Z hx hb hml hts hown hA hK hP hD hS hret ls hl
  have hown : s.vm.findClass RX7 = some m.cls := hown
  have hl : lv_has ls 4 [(0, .ref ffa)] := hl
  have inX1 : ∀ w ∈ wsX10, w ∈ wsX7_imagesHeld := by decide +kernel
  have inX7 : ∀ w ∈ wsX70, w ∈ wsX7_imagesHeld := by decide +kernel
  have k1 := hts (.fieldLink RX7 22 "FriezeFolk" "images" "[LFriezeFolk$Image;") (by decide +kernel)
  have k2 := hts (.fieldLink RX7 251 "FriezeFolk$Image" "held" "Z") (by decide +kernel)
  unfold mX7_imagesHeld at hm
  refine lv_iconst (v := (0 : Int32)) hx hb dX7_imagesHeld_0 (by decide) ?_
  refine lv_istore_n (lv' := [(1, .int (0 : Int32)), (0, .ref ffa)]) hx hb dX7_imagesHeld_1 rfl hl (by decide) rfl (fun ls hl => ?_)
  refine lv_iconst (v := (0 : Int32)) hx hb dX7_imagesHeld_2 (by decide) ?_
  refine lv_istore_n (lv' := [(2, .int (0 : Int32)), (1, .int (0 : Int32)), (0, .ref ffa)]) hx hb dX7_imagesHeld_3 rfl hl (by decide) rfl (fun ls hl => ?_)
  refine lv_iload_n hx hb dX7_imagesHeld_4 rfl (lv_at hl 0 rfl) ?_
  refine lv_aload_n hx hb dX7_imagesHeld_5 rfl (lv_at hl 2 rfl) ?_
  refine xget (ref := "FriezeFolk") (C := RX7) (T := TX7) (N := 9) (ci := 7) (v := .ref imsa) hx hb hts inX7 hown hK hP 0 rfl rfl 2 (by decide) k1 rfl rfl dX7_imagesHeld_6 ?_
  refine va_alen (v := (2 : Int32)) hx hb hK hP 1 4 rfl rfl rfl dX7_imagesHeld_9 ?_
  refine lv_icmp_ge (tgt := 39) hx hb dX7_imagesHeld_10 (by decide) (fun c1 => absurd c1 (by decide)) (fun c1 => ?_)
  refine lv_aload_n hx hb dX7_imagesHeld_13 rfl (lv_at hl 2 rfl) ?_
  refine lv_iload_n hx hb dX7_imagesHeld_14 rfl (lv_at hl 0 rfl) ?_
  refine xVq (As := [.int (0 : Int32)]) (ci := 7) (r := some i0a) ⟨hx, hb, hml, hown, hts⟩ (k_X7_imageOf l D ca ffa r0 r1 r3 r4 r5 r6 r7 imsa ims ff (0 : Int32) _ (sel_some (by decide) (hsel_i0))) (cwV 1 hts gX7_imagesHeld_X7_imageOf rfl rfl rfl (by decide +kernel) ⟨Nat.le_of_ble_eq_true rfl, Nat.le_of_ble_eq_true rfl⟩) hK hA hP hD hS dX7_imagesHeld_15 rfl hl.1 [0, 1] [2, 3] [2, 3, 0, 1] rfl rfl (wr := ((cIm i0h i0a i0) ++ (cIm i1h i1a i1))) rfl rfl (by decide) (wn := ((cF ffa r0 r1 imsa r3 r4 r5 r6 r7 ff) ++ (cAI ca imsa ims) ++ (cIm i0h i0a i0) ++ (cIm i1h i1a i1))) rfl rfl rfl rfl rfl rfl (Nat.le_of_ble_eq_true rfl) (fun H locs hP hD hS => ?_)
  refine lv_astore_n (lv' := [(3, .ref i0a), (2, .int (0 : Int32)), (1, .int (0 : Int32)), (0, .ref ffa)]) hx hb dX7_imagesHeld_18 rfl hl (by decide) rfl (fun ls hl => ?_)
  refine lv_aload_n hx hb dX7_imagesHeld_19 rfl (lv_at hl 0 rfl) ?_
  refine lv_ifnull hx hb dX7_imagesHeld_20 ?_
  refine lv_aload_n hx hb dX7_imagesHeld_23 rfl (lv_at hl 0 rfl) ?_
  refine xget (ref := "FriezeFolk$Image") (C := RX1) (T := TX1) (N := 2) (ci := 1) (v := .int i0) hx hb hts inX1 hown hK hP 2 rfl rfl 1 (by decide) k2 rfl rfl dX7_imagesHeld_24 ?_
  obtain ⟨v4, q10, h11⟩ := obn hm
  clear hm
  have J4 : ∀ (ls : Array Slot) (H : Heap) (locs : List Loc), lv_has ls 4 [(0, .ref ffa), (1, .int v4), (2, .int (0 : Int32))] → va_P D vwCl ((cF ffa r0 r1 imsa r3 r4 r5 r6 r7 ff) ++ (cAI ca imsa ims) ++ (cIm i0h i0a i0) ++ (cIm i1h i1a i1)) H → va_D A ((cF ffa r0 r1 imsa r3 r4 r5 r6 r7 ff) ++ (cAI ca imsa ims) ++ (cIm i0h i0a i0) ++ (cIm i1h i1a i1)) → va_S A s.heap H locs → W p l e rmX7_imagesHeld s m ([.ref ffa] : List Value).toArray below meth c H locs 0 0 Z (F0 m 33 ls []) := by
    intro ls H locs hl hP hD hS
    refine lv_iinc (v := ((0 : Int32) + (1 : Int32))) (lv' := [(2, .int ((0 : Int32) + (1 : Int32))), (0, .ref ffa), (1, .int v4)]) hx hb dX7_imagesHeld_33 hl (k := 2) rfl rfl (by decide) rfl (fun ls hl => ?_)
    refine lv_goto (tgt := 4) hx hb dX7_imagesHeld_36 (by decide) ?_
    refine lv_iload_n hx hb dX7_imagesHeld_4 rfl (lv_at hl 0 rfl) ?_
    refine lv_aload_n hx hb dX7_imagesHeld_5 rfl (lv_at hl 1 rfl) ?_
    refine xget (ref := "FriezeFolk") (C := RX7) (T := TX7) (N := 9) (ci := 7) (v := .ref imsa) hx hb hts inX7 hown hK hP 0 rfl rfl 2 (by decide) k1 rfl rfl dX7_imagesHeld_6 ?_
    refine va_alen (v := (2 : Int32)) hx hb hK hP 1 4 rfl rfl rfl dX7_imagesHeld_9 ?_
    refine lv_icmp_ge (tgt := 39) hx hb dX7_imagesHeld_10 (by decide) (fun c5 => absurd c5 (by decide)) (fun c5 => ?_)
    refine lv_aload_n hx hb dX7_imagesHeld_13 rfl (lv_at hl 1 rfl) ?_
    refine lv_iload_n hx hb dX7_imagesHeld_14 rfl (lv_at hl 0 rfl) ?_
    refine xVq (As := [.int ((0 : Int32) + (1 : Int32))]) (ci := 7) (r := some i1a) ⟨hx, hb, hml, hown, hts⟩ (k_X7_imageOf l D ca ffa r0 r1 r3 r4 r5 r6 r7 imsa ims ff ((0 : Int32) + (1 : Int32)) _ (sel_some (by decide) (hsel_i1))) (cwV 1 hts gX7_imagesHeld_X7_imageOf rfl rfl rfl (by decide +kernel) ⟨Nat.le_of_ble_eq_true rfl, Nat.le_of_ble_eq_true rfl⟩) hK hA hP hD hS dX7_imagesHeld_15 rfl hl.1 [0, 1] [2, 3] [2, 3, 0, 1] rfl rfl (wr := ((cIm i0h i0a i0) ++ (cIm i1h i1a i1))) rfl rfl (by decide) (wn := ((cF ffa r0 r1 imsa r3 r4 r5 r6 r7 ff) ++ (cAI ca imsa ims) ++ (cIm i0h i0a i0) ++ (cIm i1h i1a i1))) rfl rfl rfl rfl rfl rfl (Nat.le_of_ble_eq_true rfl) (fun H locs hP hD hS => ?_)
    refine lv_astore_n (lv' := [(3, .ref i1a), (2, .int ((0 : Int32) + (1 : Int32))), (0, .ref ffa), (1, .int v4)]) hx hb dX7_imagesHeld_18 rfl hl (by decide) rfl (fun ls hl => ?_)
    refine lv_aload_n hx hb dX7_imagesHeld_19 rfl (lv_at hl 0 rfl) ?_
    refine lv_ifnull hx hb dX7_imagesHeld_20 ?_
    refine lv_aload_n hx hb dX7_imagesHeld_23 rfl (lv_at hl 0 rfl) ?_
    refine xget (ref := "FriezeFolk$Image") (C := RX1) (T := TX1) (N := 2) (ci := 1) (v := .int i1) hx hb hts inX1 hown hK hP 3 rfl rfl 1 (by decide) k2 rfl rfl dX7_imagesHeld_24 ?_
    obtain ⟨v8, q12, h13⟩ := obn h11
    clear h11
    have J8 : ∀ (ls : Array Slot) (H : Heap) (locs : List Loc), lv_has ls 4 [(0, .ref ffa), (1, .int v8), (2, .int ((0 : Int32) + (1 : Int32)))] → va_P D vwCl ((cF ffa r0 r1 imsa r3 r4 r5 r6 r7 ff) ++ (cAI ca imsa ims) ++ (cIm i0h i0a i0) ++ (cIm i1h i1a i1)) H → va_D A ((cF ffa r0 r1 imsa r3 r4 r5 r6 r7 ff) ++ (cAI ca imsa ims) ++ (cIm i0h i0a i0) ++ (cIm i1h i1a i1)) → va_S A s.heap H locs → W p l e rmX7_imagesHeld s m ([.ref ffa] : List Value).toArray below meth c H locs 0 0 Z (F0 m 33 ls []) := by
      intro ls H locs hl hP hD hS
      refine lv_iinc (v := (((0 : Int32) + (1 : Int32)) + (1 : Int32))) (lv' := [(2, .int (((0 : Int32) + (1 : Int32)) + (1 : Int32))), (0, .ref ffa), (1, .int v8)]) hx hb dX7_imagesHeld_33 hl (k := 2) rfl rfl (by decide) rfl (fun ls hl => ?_)
      refine lv_goto (tgt := 4) hx hb dX7_imagesHeld_36 (by decide) ?_
      refine lv_iload_n hx hb dX7_imagesHeld_4 rfl (lv_at hl 0 rfl) ?_
      refine lv_aload_n hx hb dX7_imagesHeld_5 rfl (lv_at hl 1 rfl) ?_
      refine xget (ref := "FriezeFolk") (C := RX7) (T := TX7) (N := 9) (ci := 7) (v := .ref imsa) hx hb hts inX7 hown hK hP 0 rfl rfl 2 (by decide) k1 rfl rfl dX7_imagesHeld_6 ?_
      refine va_alen (v := (2 : Int32)) hx hb hK hP 1 4 rfl rfl rfl dX7_imagesHeld_9 ?_
      refine lv_icmp_ge (tgt := 39) hx hb dX7_imagesHeld_10 (by decide) (fun c9 => ?_) (fun c9 => absurd (by decide) c9)
      refine lv_iload_n hx hb dX7_imagesHeld_39 rfl (lv_at hl 2 rfl) ?_
      obtain rfl := Option.some.inj h13
      exact hret _ _ _ _ (vp_nar_int _) hP hD hS dX7_imagesHeld_40
    refine lv_if_eq (tgt := 33) hx hb dX7_imagesHeld_27 (by decide) (fun c7 => ?_) (fun c7 => ?_)
    · skip
      replace q12 := (if_pos c7).symm.trans q12
      obtain rfl := Option.some.inj q12
      exact J8 _ _ _ (lv_sub hl [2, 3, 1] rfl) hP hD hS
    · skip
      replace q12 := (if_neg c7).symm.trans q12
      refine lv_iinc (v := (v4 + (1 : Int32))) (lv' := [(1, .int (v4 + (1 : Int32))), (3, .ref i1a), (2, .int ((0 : Int32) + (1 : Int32))), (0, .ref ffa)]) hx hb dX7_imagesHeld_30 hl (k := 3) rfl rfl (by decide) rfl (fun ls hl => ?_)
      obtain rfl := Option.some.inj q12
      exact J8 _ _ _ (lv_sub hl [3, 0, 2] rfl) hP hD hS
  refine lv_if_eq (tgt := 33) hx hb dX7_imagesHeld_27 (by decide) (fun c3 => ?_) (fun c3 => ?_)
  · skip
    replace q10 := (if_pos c3).symm.trans q10
    obtain rfl := Option.some.inj q10
    exact J4 _ _ _ (lv_sub hl [3, 2, 1] rfl) hP hD hS
  · skip
    replace q10 := (if_neg c3).symm.trans q10
    refine lv_iinc (v := ((0 : Int32) + (1 : Int32))) (lv' := [(1, .int ((0 : Int32) + (1 : Int32))), (3, .ref i0a), (2, .int (0 : Int32)), (0, .ref ffa)]) hx hb dX7_imagesHeld_30 hl (k := 2) rfl rfl (by decide) rfl (fun ls hl => ?_)
    obtain rfl := Option.some.inj q10
    exact J4 _ _ _ (lv_sub hl [3, 0, 2] rfl) hP hD hS

def mX7_cellsOfFirst (ro : GS) : Option (Int32) :=
  if (ro.2 1) = (-4 : Int32) then
    some (-4 : Int32)
  else
    some (ro.2 2)
abbrev rmX7_cellsOfFirst : Room := { frames := 1, cells := 0, slots := 0, locals := 21 }
set_option maxHeartbeats 4000000 in
set_option maxRecDepth 100000 in
theorem k_X7_cellsOfFirst (l : Launch) (D : va_G) (ca : Nat → ClassId) (ffa : Nat) (r0 r1 r2 r3 r4 r5 r6 : Nat) (rosa : Nat) (ros : Nat → Option Nat) (roa : Nat → Nat) (ff : Int32) (ro : GS) (o : Int32) (hsel_ro : ros 0 = some (roa 0)) (hm : mX7_cellsOfFirst ro = some o) : KI l yX7_cellsOfFirst wsX7_cellsOfFirst rmX7_cellsOfFirst D ca [.ref ffa] ((cF ffa r0 r1 r2 r3 r4 r5 r6 rosa ff) ++ (cAR ca rosa ros) ++ (cW ca roa ro)) ((cF ffa r0 r1 r2 r3 r4 r5 r6 rosa ff) ++ (cAR ca rosa ros) ++ (cW ca roa ro)) o := by
  refine KI.of (cc := cX7_cellsOfFirst) (n := 2) (plainFor_of_name (by decide)) rfl (Nat.le_of_ble_eq_true rfl) ?_
  intro p e s m below meth c A Z hx hb hml hts hown hA hK hP hD hS hret ls hl
  have hown : s.vm.findClass RX7 = some m.cls := hown
  have hl : lv_has ls 2 [(0, .ref ffa)] := hl
  have inX6 : ∀ w ∈ wsX60, w ∈ wsX7_cellsOfFirst := by decide +kernel
  have k1 := hts (.fieldLink RX7 263 "FriezeFolk$Row" "lane" "I") (by decide +kernel)
  have k2 := hts (.fieldLink RX7 297 "FriezeFolk$Row" "size" "I") (by decide +kernel)
  unfold mX7_cellsOfFirst at hm
  refine lv_aload_n hx hb dX7_cellsOfFirst_0 rfl (lv_at hl 0 rfl) ?_
  refine lv_iconst (v := (0 : Int32)) hx hb dX7_cellsOfFirst_1 (by decide) ?_
  refine xVq (As := [.int (0 : Int32)]) (ci := 7) (r := some (roa 0)) ⟨hx, hb, hml, hown, hts⟩ (k_X7_rowOf l D ca ffa r0 r1 r2 r3 r4 r5 r6 rosa ros ff (0 : Int32) _ (sel_some (by decide) (hsel_ro))) (cwV 1 hts gX7_cellsOfFirst_X7_rowOf rfl rfl rfl (by decide +kernel) ⟨Nat.le_of_ble_eq_true rfl, Nat.le_of_ble_eq_true rfl⟩) hK hA hP hD hS dX7_cellsOfFirst_2 rfl hl.1 [0, 1] [2, 3] [2, 3, 0, 1] rfl rfl (wr := ((cW ca roa ro))) rfl rfl (by decide) (wn := ((cF ffa r0 r1 r2 r3 r4 r5 r6 rosa ff) ++ (cAR ca rosa ros) ++ (cW ca roa ro))) rfl rfl rfl rfl rfl rfl (Nat.le_of_ble_eq_true rfl) (fun H locs hP hD hS => ?_)
  refine lv_astore_n (lv' := [(1, .ref (roa 0)), (0, .ref ffa)]) hx hb dX7_cellsOfFirst_5 rfl hl (by decide) rfl (fun ls hl => ?_)
  refine lv_aload_n hx hb dX7_cellsOfFirst_6 rfl (lv_at hl 0 rfl) ?_
  refine lv_ifnull hx hb dX7_cellsOfFirst_7 ?_
  refine lv_aload_n hx hb dX7_cellsOfFirst_10 rfl (lv_at hl 0 rfl) ?_
  refine xget (ref := "FriezeFolk$Row") (C := RX6) (T := TX6) (N := 3) (ci := 6) (v := .int (ro.2 1)) hx hb hts inX6 hown hK hP 2 rfl rfl 1 (by decide) k1 rfl rfl dX7_cellsOfFirst_11 ?_
  refine lv_bipush (v := (-4 : Int32)) hx hb dX7_cellsOfFirst_14 (by decide) ?_
  refine lv_icmp_ne (tgt := 24) hx hb dX7_cellsOfFirst_16 (by decide) (fun c2 => ?_) (fun c2 => ?_)
  · skip
    replace hm := (if_neg c2).symm.trans hm
    refine lv_aload_n hx hb dX7_cellsOfFirst_24 rfl (lv_at hl 0 rfl) ?_
    refine xget (ref := "FriezeFolk$Row") (C := RX6) (T := TX6) (N := 3) (ci := 6) (v := .int (ro.2 2)) hx hb hts inX6 hown hK hP 2 rfl rfl 2 (by decide) k2 rfl rfl dX7_cellsOfFirst_25 ?_
    obtain rfl := Option.some.inj hm
    exact hret _ _ _ _ (vp_nar_int _) hP hD hS dX7_cellsOfFirst_28
  · skip
    replace hm := (if_pos c2).symm.trans hm
    refine lv_bipush (v := (-4 : Int32)) hx hb dX7_cellsOfFirst_19 (by decide) ?_
    refine lv_goto (tgt := 28) hx hb dX7_cellsOfFirst_21 (by decide) ?_
    obtain rfl := Option.some.inj hm
    exact hret _ _ _ _ (vp_nar_int _) hP hD hS dX7_cellsOfFirst_28

def mX7_count (h : GS) (rd : GS) (me : GS) (i0 : Int32) (i1 : Int32) (ro : GS) (w : Int32) : Option (Int32) :=
  if w = (0 : Int32) then
    some (me.2 2)
  else
  if w = (1 : Int32) then
    Option.bind (mX7_imagesHeld i0 i1) fun v3 =>
    some v3
  else
  if w = (2 : Int32) then
    some (rd.2 2)
  else
  if w = (3 : Int32) then
    Option.bind (mX7_cellsOfFirst ro) fun v6 =>
    some v6
  else
  if w = (4 : Int32) then
    Option.bind (mX0_warmthOfAll h) fun v8 =>
    some v8
  else
  if w = (5 : Int32) then
    Option.bind (mX0_fadeOfAll h) fun v10 =>
    some v10
  else
    some (-1 : Int32)
abbrev rmX7_count : Room := { frames := 2, cells := 0, slots := 0, locals := 44 }
set_option maxHeartbeats 4000000 in
set_option maxRecDepth 100000 in
theorem k_X7_count (l : Launch) (D : va_G) (ca : Nat → ClassId) (ffa : Nat) (r1 r5 r6 : Nat) (ha : Nat → Nat) (imsa : Nat) (ims : Nat → Option Nat) (rdh : Nat) (rda : Nat → Nat) (mea : Nat → Nat) (rosa : Nat) (ros : Nat → Option Nat) (i0h : Nat) (i0a : Nat) (i1h : Nat) (i1a : Nat) (roa : Nat → Nat) (ff : Int32) (h : GS) (rd : GS) (me : GS) (i0 : Int32) (i1 : Int32) (ro : GS) (w : Int32) (o : Int32) (hsel_i0 : ims 0 = some i0a) (hsel_i1 : ims 1 = some i1a) (hsel_ro : ros 0 = some (roa 0)) (hm : mX7_count h rd me i0 i1 ro w = some o) : KI l yX7_count wsX7_count rmX7_count D ca [.ref ffa, .int w] ((cF ffa (ha 0) r1 imsa (rda 0) (mea 0) r5 r6 rosa ff) ++ (cH ca ha h) ++ (cAI ca imsa ims) ++ (cR ca rdh rda rd) ++ (cM ca mea me) ++ (cAR ca rosa ros) ++ (cIm i0h i0a i0) ++ (cIm i1h i1a i1) ++ (cW ca roa ro)) ((cF ffa (ha 0) r1 imsa (rda 0) (mea 0) r5 r6 rosa ff) ++ (cH ca ha h) ++ (cAI ca imsa ims) ++ (cR ca rdh rda rd) ++ (cM ca mea me) ++ (cAR ca rosa ros) ++ (cIm i0h i0a i0) ++ (cIm i1h i1a i1) ++ (cW ca roa ro)) o := by
  refine KI.of (cc := cX7_count) (n := 2) (plainFor_of_name (by decide)) rfl (Nat.le_of_ble_eq_true rfl) ?_
  intro p e s m below meth c A Z hx hb hml hts hown hA hK hP hD hS hret ls hl
  have hown : s.vm.findClass RX7 = some m.cls := hown
  have hl : lv_has ls 2 [(0, .ref ffa), (1, .int w)] := hl
  have inX3 : ∀ w ∈ wsX30, w ∈ wsX7_count := by decide +kernel
  have inX5 : ∀ w ∈ wsX50, w ∈ wsX7_count := by decide +kernel
  have inX7 : ∀ w ∈ wsX70, w ∈ wsX7_count := by decide +kernel
  have k1 := hts (.fieldLink RX7 36 "FriezeFolk" "memory" "LFriezeFolk$Memory;") (by decide +kernel)
  have k2 := hts (.fieldLink RX7 89 "FriezeFolk$Memory" "size" "I") (by decide +kernel)
  have k3 := hts (.fieldLink RX7 29 "FriezeFolk" "reader" "LFriezeFolk$Reader;") (by decide +kernel)
  have k4 := hts (.fieldLink RX7 69 "FriezeFolk$Reader" "size" "I") (by decide +kernel)
  have k5 := hts (.fieldLink RX7 10 "FriezeFolk" "hall" "LFriezeFolk$Hall;") (by decide +kernel)
  unfold mX7_count at hm
  refine lv_iload_n hx hb dX7_count_0 rfl (lv_at hl 1 rfl) ?_
  by_cases c1 : w = (0 : Int32)
  · replace hm := (if_pos c1).symm.trans hm
    refine lv_tableIn (tgt := 40) hx hb dX7_count_1 (by rw [c1]; decide) (by rw [c1]; decide) (by rw [c1] <;> rfl) (by decide) ?_
    refine lv_aload_n hx hb dX7_count_40 rfl (lv_at hl 0 rfl) ?_
    refine xget (ref := "FriezeFolk") (C := RX7) (T := TX7) (N := 9) (ci := 7) (v := .ref (mea 0)) hx hb hts inX7 hown hK hP 0 rfl rfl 4 (by decide) k1 rfl rfl dX7_count_41 ?_
    refine xget (ref := "FriezeFolk$Memory") (C := RX3) (T := TX3) (N := 3) (ci := 3) (v := .int (me.2 2)) hx hb hts inX3 hown hK hP 10 rfl rfl 2 (by decide) k2 rfl rfl dX7_count_44 ?_
    obtain rfl := Option.some.inj hm
    exact hret _ _ _ _ (vp_nar_int _) hP hD hS dX7_count_47
  replace hm := (if_neg c1).symm.trans hm
  have ec1 : ¬ (w).toInt = 0 := fun z => c1 (Int32.toInt_inj.mp (z.trans (by decide)))
  by_cases c2 : w = (1 : Int32)
  · replace hm := (if_pos c2).symm.trans hm
    refine lv_tableIn (tgt := 48) hx hb dX7_count_1 (by rw [c2]; decide) (by rw [c2]; decide) (by rw [c2] <;> rfl) (by decide) ?_
    refine lv_aload_n hx hb dX7_count_48 rfl (lv_at hl 0 rfl) ?_
    obtain ⟨v3, q3, h11⟩ := obn hm
    clear hm
    refine xVi (As := []) (ci := 7) ⟨hx, hb, hml, hown, hts⟩ (k_X7_imagesHeld l D ca ffa (ha 0) r1 (rda 0) (mea 0) r5 r6 rosa imsa ims i0h i0a i1h i1a ff i0 i1 _ hsel_i0 hsel_i1 q3) (cwV 0 hts gX7_count_X7_imagesHeld rfl rfl rfl (by decide +kernel) ⟨Nat.le_of_ble_eq_true rfl, Nat.le_of_ble_eq_true rfl⟩) hK hA hP hD hS dX7_count_49 rfl hl.1 [0, 7, 14, 15] [1, 2, 3, 4, 5, 6, 8, 9, 10, 11, 12, 13, 16, 17] [14, 0, 1, 2, 3, 4, 5, 15, 6, 7, 8, 9, 10, 11, 16, 17, 12, 13] rfl rfl (wr := ((cH ca ha h) ++ (cR ca rdh rda rd) ++ (cM ca mea me) ++ (cAR ca rosa ros) ++ (cW ca roa ro))) rfl rfl (by decide) (wn := ((cF ffa (ha 0) r1 imsa (rda 0) (mea 0) r5 r6 rosa ff) ++ (cH ca ha h) ++ (cAI ca imsa ims) ++ (cR ca rdh rda rd) ++ (cM ca mea me) ++ (cAR ca rosa ros) ++ (cIm i0h i0a i0) ++ (cIm i1h i1a i1) ++ (cW ca roa ro))) rfl rfl rfl rfl rfl rfl (Nat.le_of_ble_eq_true rfl) (fun H locs hP hD hS => ?_)
    obtain rfl := Option.some.inj h11
    exact hret _ _ _ _ (vp_nar_int _) hP hD hS dX7_count_52
  replace hm := (if_neg c2).symm.trans hm
  have ec2 : ¬ (w).toInt = 1 := fun z => c2 (Int32.toInt_inj.mp (z.trans (by decide)))
  by_cases c4 : w = (2 : Int32)
  · replace hm := (if_pos c4).symm.trans hm
    refine lv_tableIn (tgt := 53) hx hb dX7_count_1 (by rw [c4]; decide) (by rw [c4]; decide) (by rw [c4] <;> rfl) (by decide) ?_
    refine lv_aload_n hx hb dX7_count_53 rfl (lv_at hl 0 rfl) ?_
    refine xget (ref := "FriezeFolk") (C := RX7) (T := TX7) (N := 9) (ci := 7) (v := .ref (rda 0)) hx hb hts inX7 hown hK hP 0 rfl rfl 3 (by decide) k3 rfl rfl dX7_count_54 ?_
    refine xget (ref := "FriezeFolk$Reader") (C := RX5) (T := TX5) (N := 10) (ci := 5) (v := .int (rd.2 2)) hx hb hts inX5 hown hK hP 8 rfl rfl 2 (by decide) k4 rfl rfl dX7_count_57 ?_
    obtain rfl := Option.some.inj hm
    exact hret _ _ _ _ (vp_nar_int _) hP hD hS dX7_count_60
  replace hm := (if_neg c4).symm.trans hm
  have ec4 : ¬ (w).toInt = 2 := fun z => c4 (Int32.toInt_inj.mp (z.trans (by decide)))
  by_cases c5 : w = (3 : Int32)
  · replace hm := (if_pos c5).symm.trans hm
    refine lv_tableIn (tgt := 61) hx hb dX7_count_1 (by rw [c5]; decide) (by rw [c5]; decide) (by rw [c5] <;> rfl) (by decide) ?_
    refine lv_aload_n hx hb dX7_count_61 rfl (lv_at hl 0 rfl) ?_
    obtain ⟨v6, q6, h12⟩ := obn hm
    clear hm
    refine xVi (As := []) (ci := 7) ⟨hx, hb, hml, hown, hts⟩ (k_X7_cellsOfFirst l D ca ffa (ha 0) r1 imsa (rda 0) (mea 0) r5 r6 rosa ros roa ff ro _ hsel_ro q6) (cwV 0 hts gX7_count_X7_cellsOfFirst rfl rfl rfl (by decide +kernel) ⟨Nat.le_of_ble_eq_true rfl, Nat.le_of_ble_eq_true rfl⟩) hK hA hP hD hS dX7_count_62 rfl hl.1 [0, 13, 16, 17] [1, 2, 3, 4, 5, 6, 7, 8, 9, 10, 11, 12, 14, 15] [14, 0, 1, 2, 3, 4, 5, 6, 7, 8, 9, 10, 11, 15, 12, 13, 16, 17] rfl rfl (wr := ((cH ca ha h) ++ (cAI ca imsa ims) ++ (cR ca rdh rda rd) ++ (cM ca mea me) ++ (cIm i0h i0a i0) ++ (cIm i1h i1a i1))) rfl rfl (by decide) (wn := ((cF ffa (ha 0) r1 imsa (rda 0) (mea 0) r5 r6 rosa ff) ++ (cH ca ha h) ++ (cAI ca imsa ims) ++ (cR ca rdh rda rd) ++ (cM ca mea me) ++ (cAR ca rosa ros) ++ (cIm i0h i0a i0) ++ (cIm i1h i1a i1) ++ (cW ca roa ro))) rfl rfl rfl rfl rfl rfl (Nat.le_of_ble_eq_true rfl) (fun H locs hP hD hS => ?_)
    obtain rfl := Option.some.inj h12
    exact hret _ _ _ _ (vp_nar_int _) hP hD hS dX7_count_65
  replace hm := (if_neg c5).symm.trans hm
  have ec5 : ¬ (w).toInt = 3 := fun z => c5 (Int32.toInt_inj.mp (z.trans (by decide)))
  by_cases c7 : w = (4 : Int32)
  · replace hm := (if_pos c7).symm.trans hm
    refine lv_tableIn (tgt := 66) hx hb dX7_count_1 (by rw [c7]; decide) (by rw [c7]; decide) (by rw [c7] <;> rfl) (by decide) ?_
    refine lv_aload_n hx hb dX7_count_66 rfl (lv_at hl 0 rfl) ?_
    refine xget (ref := "FriezeFolk") (C := RX7) (T := TX7) (N := 9) (ci := 7) (v := .ref (ha 0)) hx hb hts inX7 hown hK hP 0 rfl rfl 0 (by decide) k5 rfl rfl dX7_count_67 ?_
    obtain ⟨v8, q8, h13⟩ := obn hm
    clear hm
    refine xVi (As := []) (ci := 0) ⟨hx, hb, hml, hown, hts⟩ (k_X0_warmthOfAll l D ca ha h _ q8) (cwV 0 hts gX7_count_X0_warmthOfAll rfl rfl rfl (by decide +kernel) ⟨Nat.le_of_ble_eq_true rfl, Nat.le_of_ble_eq_true rfl⟩) hK hA hP hD hS dX7_count_70 rfl hl.1 [1, 2, 3, 4, 5, 6] [0, 7, 8, 9, 10, 11, 12, 13, 14, 15, 16, 17] [0, 12, 13, 14, 15, 16, 17, 1, 2, 3, 4, 5, 6, 7, 8, 9, 10, 11] rfl rfl (wr := ((cF ffa (ha 0) r1 imsa (rda 0) (mea 0) r5 r6 rosa ff) ++ (cAI ca imsa ims) ++ (cR ca rdh rda rd) ++ (cM ca mea me) ++ (cAR ca rosa ros) ++ (cIm i0h i0a i0) ++ (cIm i1h i1a i1) ++ (cW ca roa ro))) rfl rfl (by decide) (wn := ((cF ffa (ha 0) r1 imsa (rda 0) (mea 0) r5 r6 rosa ff) ++ (cH ca ha h) ++ (cAI ca imsa ims) ++ (cR ca rdh rda rd) ++ (cM ca mea me) ++ (cAR ca rosa ros) ++ (cIm i0h i0a i0) ++ (cIm i1h i1a i1) ++ (cW ca roa ro))) rfl rfl rfl rfl rfl rfl (Nat.le_of_ble_eq_true rfl) (fun H locs hP hD hS => ?_)
    obtain rfl := Option.some.inj h13
    exact hret _ _ _ _ (vp_nar_int _) hP hD hS dX7_count_73
  replace hm := (if_neg c7).symm.trans hm
  have ec7 : ¬ (w).toInt = 4 := fun z => c7 (Int32.toInt_inj.mp (z.trans (by decide)))
  by_cases c9 : w = (5 : Int32)
  · replace hm := (if_pos c9).symm.trans hm
    refine lv_tableIn (tgt := 74) hx hb dX7_count_1 (by rw [c9]; decide) (by rw [c9]; decide) (by rw [c9] <;> rfl) (by decide) ?_
    refine lv_aload_n hx hb dX7_count_74 rfl (lv_at hl 0 rfl) ?_
    refine xget (ref := "FriezeFolk") (C := RX7) (T := TX7) (N := 9) (ci := 7) (v := .ref (ha 0)) hx hb hts inX7 hown hK hP 0 rfl rfl 0 (by decide) k5 rfl rfl dX7_count_75 ?_
    obtain ⟨v10, q10, h14⟩ := obn hm
    clear hm
    refine xVi (As := []) (ci := 0) ⟨hx, hb, hml, hown, hts⟩ (k_X0_fadeOfAll l D ca ha h _ q10) (cwV 0 hts gX7_count_X0_fadeOfAll rfl rfl rfl (by decide +kernel) ⟨Nat.le_of_ble_eq_true rfl, Nat.le_of_ble_eq_true rfl⟩) hK hA hP hD hS dX7_count_78 rfl hl.1 [1, 2, 3, 4, 5, 6] [0, 7, 8, 9, 10, 11, 12, 13, 14, 15, 16, 17] [0, 12, 13, 14, 15, 16, 17, 1, 2, 3, 4, 5, 6, 7, 8, 9, 10, 11] rfl rfl (wr := ((cF ffa (ha 0) r1 imsa (rda 0) (mea 0) r5 r6 rosa ff) ++ (cAI ca imsa ims) ++ (cR ca rdh rda rd) ++ (cM ca mea me) ++ (cAR ca rosa ros) ++ (cIm i0h i0a i0) ++ (cIm i1h i1a i1) ++ (cW ca roa ro))) rfl rfl (by decide) (wn := ((cF ffa (ha 0) r1 imsa (rda 0) (mea 0) r5 r6 rosa ff) ++ (cH ca ha h) ++ (cAI ca imsa ims) ++ (cR ca rdh rda rd) ++ (cM ca mea me) ++ (cAR ca rosa ros) ++ (cIm i0h i0a i0) ++ (cIm i1h i1a i1) ++ (cW ca roa ro))) rfl rfl rfl rfl rfl rfl (Nat.le_of_ble_eq_true rfl) (fun H locs hP hD hS => ?_)
    obtain rfl := Option.some.inj h14
    exact hret _ _ _ _ (vp_nar_int _) hP hD hS dX7_count_81
  replace hm := (if_neg c9).symm.trans hm
  have ec9 : ¬ (w).toInt = 5 := fun z => c9 (Int32.toInt_inj.mp (z.trans (by decide)))
  refine lv_tableOut (tgt := 82) hx hb dX7_count_1 (by omega) (by decide) ?_
  refine lv_iconst (v := (-1 : Int32)) hx hb dX7_count_82 (by decide) ?_
  obtain rfl := Option.some.inj hm
  exact hret _ _ _ _ (vp_nar_int _) hP hD hS dX7_count_83
