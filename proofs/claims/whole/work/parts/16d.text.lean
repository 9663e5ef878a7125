def chO (i : Nat) (k : Int32) : Option Int32 := if k < 0 ∨ txL.getD i 0 ≤ k.toNatClampNeg then none else some (chv i k.toNatClampNeg)
theorem k_charAt (aS aV aT : Nat → Nat) (l : Launch) (D : va_G) (ca : Nat → ClassId) (i : Nat) (hi : i < 8) (k v : Int32) (h : chO i k = some v) : KIa aS aV aT l yJ0_charAt_5068e wsJ0_charAt_5068e rmJ0_charAt_5068e D ca [.ref (aS i), .int k] [] [] v := by
  unfold chO at h; split at h
  · cases h
  · rename_i hc
    obtain rfl := Option.some.inj h
    exact k_J0_charAt_5068e aS aV aT l D ca i hi k hc
theorem xtab {p : Program} {l : Launch} {e : Env} {R : Room} {s : State} {m : MethodId} {args : Array Value} {below : List Frame} {meth : Method} {c : Code} {H : Heap} {locs : List Loc} {Q : State → Prop} {cc : ByteArray} {pc : Nat} {ls : Array Slot} {rest : List Value} {A : Nat → Prop} {t : Nat} {f : Nat → Int32} (hx : p.tables.exec = Jvm.exec) (hb : c.code = cc) (hT : va_T .int t 8 (fun j => .int (f j)) A s s.heap) (hS : va_S A s.heap H locs) {i v : Int32} (h : ald 8 f i = some v) (hdg : decode cc pc = .ok (.iaload, 1))
    (kk : W p l e R s m args below meth c H locs 0 0 Q (F0 m (pc + 1) ls (.int v :: rest))) : W p l e R s m args below meth c H locs 0 0 Q (F0 m pc ls (.int i :: .ref t :: rest)) := by
  obtain ⟨h1, rfl⟩ := ald_s h
  exact va_ti hx hb hT hS h1 rfl hdg kk
def mX5_isWord_l24 (g : GS) (wi : Nat) (s2 : Int32) : Option ((Int32) ⊕ ((Int32) ⊕ (Int32))) :=
  if (nI (txL.getD wi 0)) ≤ s2 then
    some (.inr (.inl s2))
  else
    Option.bind (mX5_byteAt g ((g.2 6) + s2)) fun v4 =>
    Option.bind (chO wi s2) fun v5 =>
    if v4 = v5 then
      some (.inl (s2 + (1 : Int32)))
    else
      some (.inr (.inr (0 : Int32)))

def mX5_isWord (g : GS) (wi : Nat) : Option (Int32) :=
  if ((g.2 7) - (g.2 6)) = (nI (txL.getD wi 0)) then
    Option.bind (whO (mX5_isWord_l24 g wi) FU (0 : Int32)) fun e7 => esc e7 fun t8 =>
    some (1 : Int32)
  else
    some (0 : Int32)
abbrev rmX5_isWord : Room := { frames := 4, cells := 0, slots := 0, locals := 85 }
set_option maxHeartbeats 4000000 in
set_option maxRecDepth 100000 in
theorem k_X5_isWord (aS aV aT : Nat → Nat) (l : Launch) (D : va_G) (ca : Nat → ClassId) (gh : Nat) (ga : Nat → Nat) (g : GS) (wi : Nat) (hwi : wi < 8) (o : Int32) (hm : mX5_isWord g wi = some o) : KIa aS aV aT l yX5_isWord wsX5_isWord rmX5_isWord D ca [.ref (ga 0), .ref (aS wi)] (cR ca gh ga g) (cR ca gh ga g) o := by
  refine KIa.of (cc := cX5_isWord) (n := 3) (plainFor_of_name (by decide)) rfl (Nat.le_of_ble_eq_true rfl) ?_
  intro p e s m below meth c A Z hx hb hml hts hown hA hK hP hD hS hAm hRS hret ls hl
  have hown : s.vm.findClass RX5 = some m.cls := hown
  have hl : lv_has ls 3 [(0, .ref (ga 0)), (1, .ref (aS wi))] := hl
  have inX5 : ∀ w ∈ wsX50, w ∈ wsX5_isWord := by decide +kernel
  have k1 := hts (.fieldLink RX5 38 "FriezeFolk$Reader" "stop" "I") (by decide +kernel)
  have k2 := hts (.fieldLink RX5 35 "FriezeFolk$Reader" "start" "I") (by decide +kernel)
  unfold mX5_isWord at hm
  refine lv_aload_n hx hb dX5_isWord_0 rfl (lv_at hl 1 rfl) ?_
  refine lv_ifnull hx hb dX5_isWord_1 ?_
  refine lv_aload_n hx hb dX5_isWord_4 rfl (lv_at hl 0 rfl) ?_
  refine xget (ref := "FriezeFolk$Reader") (C := RX5) (T := TX5) (N := 10) (ci := 5) (v := .int (g.2 7)) hx hb hts inX5 hown hK hP 0 rfl rfl 7 (by decide) k1 rfl rfl dX5_isWord_5 ?_
  refine lv_aload_n hx hb dX5_isWord_8 rfl (lv_at hl 0 rfl) ?_
  refine xget (ref := "FriezeFolk$Reader") (C := RX5) (T := TX5) (N := 10) (ci := 5) (v := .int (g.2 6)) hx hb hts inX5 hown hK hP 0 rfl rfl 6 (by decide) k2 rfl rfl dX5_isWord_9 ?_
  refine lv_isub hx hb dX5_isWord_12 ?_
  refine lv_aload_n hx hb dX5_isWord_13 rfl (lv_at hl 1 rfl) ?_
  refine xVia (As := []) ⟨hx, hb, hml, hown, hts⟩ (k_J0_length_8abf5 aS aV aT l D ca wi hwi) (cwV 0 hts gX5_isWord_J0_length_8abf5 rfl rfl rfl (by decide +kernel) ⟨Nat.le_of_ble_eq_true rfl, Nat.le_of_ble_eq_true rfl⟩) hK hA hP hD hS hAm hRS dX5_isWord_14 rfl hl.1 [] [0, 1] [0, 1] rfl rfl (wr := (cR ca gh ga g)) rfl rfl (by decide) (wn := (cR ca gh ga g)) rfl rfl (vk_recv hAm.2.2.1 hwi hS) rfl (Nat.le_of_ble_eq_true rfl) (fun H locs hP hD hS => ?_)
  refine lv_icmp_eq (tgt := 22) hx hb dX5_isWord_17 (by decide) (fun c1 => ?_) (fun c1 => ?_)
  · skip
    replace hm := (if_pos c1).symm.trans hm
    refine lv_iconst (v := (0 : Int32)) hx hb dX5_isWord_22 (by decide) ?_
    refine lv_istore_n (lv' := [(2, .int (0 : Int32)), (0, .ref (ga 0)), (1, .ref (aS wi))]) hx hb dX5_isWord_23 rfl hl (by decide) rfl (fun ls hl => ?_)
    obtain ⟨e7, w9, h10⟩ := obn hm
    clear hm
    have AF7 : ∀ t8, e7 = .inl t8 → ∀ (ls : Array Slot) (H : Heap) (locs : List Loc), lv_has ls 3 [] → va_P D vwCl (cR ca gh ga g) H → va_D A (cR ca gh ga g) → va_S A s.heap H locs → W p l e rmX5_isWord s m ([.ref (ga 0), .ref (aS wi)] : List Value).toArray below meth c H locs 0 0 Z (F0 m 58 ls []) := by
      intro t8 ht ls H locs hl hP hD hS
      subst ht
      replace h10 := (esc_l _ _).symm.trans h10
      refine lv_iconst (v := (1 : Int32)) hx hb dX5_isWord_58 (by decide) ?_
      obtain rfl := Option.some.inj h10
      exact hret _ _ _ _ nar1 hP hD hS dX5_isWord_59
    refine whO_walk (I := fun s2 => ∀ (ls : Array Slot) (H : Heap) (locs : List Loc), lv_has ls 3 [(0, .ref (ga 0)), (1, .ref (aS wi)), (2, .int s2)] → va_P D vwCl (cR ca gh ga g) H → va_D A (cR ca gh ga g) → va_S A s.heap H locs → W p l e rmX5_isWord s m ([.ref (ga 0), .ref (aS wi)] : List Value).toArray below meth c H locs 0 0 Z (F0 m 24 ls [])) ?_ _ _ w9 _ _ _ (lv_sub hl [1, 2, 0] rfl) hP hD hS
    clear w9
    intro s2 o7 h11 hi7 ho7 ls H locs hl hP hD hS
    unfold mX5_isWord_l24 at h11
    refine lv_iload_n hx hb dX5_isWord_24 rfl (lv_at hl 2 rfl) ?_
    refine lv_aload_n hx hb dX5_isWord_25 rfl (lv_at hl 1 rfl) ?_
    refine xVia (As := []) ⟨hx, hb, hml, hown, hts⟩ (k_J0_length_8abf5 aS aV aT l D ca wi hwi) (cwV 0 hts gX5_isWord_J0_length_8abf5 rfl rfl rfl (by decide +kernel) ⟨Nat.le_of_ble_eq_true rfl, Nat.le_of_ble_eq_true rfl⟩) hK hA hP hD hS hAm hRS dX5_isWord_26 rfl hl.1 [] [0, 1] [0, 1] rfl rfl (wr := (cR ca gh ga g)) rfl rfl (by decide) (wn := (cR ca gh ga g)) rfl rfl (vk_recv hAm.2.2.1 hwi hS) rfl (Nat.le_of_ble_eq_true rfl) (fun H locs hP hD hS => ?_)
    refine lv_icmp_ge (tgt := 58) hx hb dX5_isWord_29 (by decide) (fun c3 => ?_) (fun c3 => ?_)
    · skip
      replace h11 := (if_pos c3).symm.trans h11
      have h12 := ho7 _ (Option.some.inj h11).symm
      subst h12
      exact AF7 _ rfl _ _ _ (lv_sub hl [] rfl) hP hD hS
    · skip
      replace h11 := (if_neg c3).symm.trans h11
      refine lv_aload_n hx hb dX5_isWord_32 rfl (lv_at hl 0 rfl) ?_
      refine lv_aload_n hx hb dX5_isWord_33 rfl (lv_at hl 0 rfl) ?_
      refine xget (ref := "FriezeFolk$Reader") (C := RX5) (T := TX5) (N := 10) (ci := 5) (v := .int (g.2 6)) hx hb hts inX5 hown hK hP 0 rfl rfl 6 (by decide) k2 rfl rfl dX5_isWord_34 ?_
      refine lv_iload_n hx hb dX5_isWord_37 rfl (lv_at hl 2 rfl) ?_
      refine lv_iadd hx hb dX5_isWord_38 ?_
      obtain ⟨v4, q4, h13⟩ := obn h11
      clear h11
      refine xVi (As := [.int ((g.2 6) + s2)]) (ci := 5) ⟨hx, hb, hml, hown, hts⟩ (k_X5_byteAt l D ca gh ga g ((g.2 6) + s2) _ q4) (cwV 1 hts gX5_isWord_X5_byteAt rfl rfl rfl (by decide +kernel) ⟨Nat.le_of_ble_eq_true rfl, Nat.le_of_ble_eq_true rfl⟩) hK hA hP hD hS dX5_isWord_39 rfl hl.1 [0, 1] [] [0, 1] rfl rfl (wr := []) rfl rfl (by decide) (wn := (cR ca gh ga g)) rfl rfl rfl rfl rfl rfl (Nat.le_of_ble_eq_true rfl) (fun H locs hP hD hS => ?_)
      refine lv_aload_n hx hb dX5_isWord_42 rfl (lv_at hl 1 rfl) ?_
      refine lv_iload_n hx hb dX5_isWord_43 rfl (lv_at hl 2 rfl) ?_
      obtain ⟨v5, q5, h14⟩ := obn h13
      clear h13
      refine xVia (As := [.int s2]) ⟨hx, hb, hml, hown, hts⟩ (k_charAt aS aV aT l D ca wi hwi s2 v5 q5) (cwV 1 hts gX5_isWord_J0_charAt_5068e rfl rfl rfl (by decide +kernel) ⟨Nat.le_of_ble_eq_true rfl, Nat.le_of_ble_eq_true rfl⟩) hK hA hP hD hS hAm hRS dX5_isWord_44 rfl hl.1 [] [0, 1] [0, 1] rfl rfl (wr := (cR ca gh ga g)) rfl rfl (by decide) (wn := (cR ca gh ga g)) rfl rfl (vk_recv hAm.2.2.1 hwi hS) rfl (Nat.le_of_ble_eq_true rfl) (fun H locs hP hD hS => ?_)
      refine lv_icmp_eq (tgt := 52) hx hb dX5_isWord_47 (by decide) (fun c6 => ?_) (fun c6 => ?_)
      · skip
        replace h14 := (if_pos c6).symm.trans h14
        refine lv_iinc (v := (s2 + (1 : Int32))) (lv' := [(2, .int (s2 + (1 : Int32))), (0, .ref (ga 0)), (1, .ref (aS wi))]) hx hb dX5_isWord_52 hl (k := 2) rfl rfl (by decide) rfl (fun ls hl => ?_)
        refine lv_goto (tgt := 24) hx hb dX5_isWord_55 (by decide) ?_
        exact hi7 _ (Option.some.inj h14).symm _ _ _ (lv_sub hl [1, 2, 0] rfl) hP hD hS
      · skip
        replace h14 := (if_neg c6).symm.trans h14
        refine lv_iconst (v := (0 : Int32)) hx hb dX5_isWord_50 (by decide) ?_
        have h15 := ho7 _ (Option.some.inj h14).symm
        subst h15
        replace h10 := (esc_r _ _).symm.trans h10
        obtain rfl := Option.some.inj h10
        exact hret _ _ _ _ nar0 hP hD hS dX5_isWord_51
  · skip
    replace hm := (if_neg c1).symm.trans hm
    refine lv_iconst (v := (0 : Int32)) hx hb dX5_isWord_20 (by decide) ?_
    obtain rfl := Option.some.inj hm
    exact hret _ _ _ _ nar0 hP hD hS dX5_isWord_21

def mX5_lineNamed (g : GS) : Option (Int32) :=
  Option.bind (mX5_isWord g 0) fun v1 =>
  if v1 = 0 then
    Option.bind (mX5_isWord g 1) fun v3 =>
    if v3 = 0 then
      Option.bind (mX5_isWord g 2) fun v5 =>
      if v5 = 0 then
        Option.bind (mX5_isWord g 3) fun v7 =>
        if v7 = 0 then
          Option.bind (mX5_isWord g 4) fun v9 =>
          if v9 = 0 then
            Option.bind (mX5_isWord g 5) fun v11 =>
            if v11 = 0 then
              Option.bind (mX5_isWord g 6) fun v13 =>
              if v13 = 0 then
                Option.bind (mX5_isWord g 7) fun v15 =>
                if v15 = 0 then
                  some (-4 : Int32)
                else
                  some (7 : Int32)
              else
                some (6 : Int32)
            else
              some (5 : Int32)
          else
            some (4 : Int32)
        else
          some (3 : Int32)
      else
        some (2 : Int32)
    else
      some (1 : Int32)
  else
    some (0 : Int32)
abbrev rmX5_lineNamed : Room := { frames := 5, cells := 0, slots := 0, locals := 107 }
set_option maxHeartbeats 4000000 in
set_option maxRecDepth 100000 in
theorem k_X5_lineNamed (aS aV aT : Nat → Nat) (l : Launch) (D : va_G) (ca : Nat → ClassId) (gh : Nat) (ga : Nat → Nat) (g : GS) (o : Int32) (hm : mX5_lineNamed g = some o) : KIa aS aV aT l yX5_lineNamed wsX5_lineNamed rmX5_lineNamed D ca [.ref (ga 0)] (cR ca gh ga g) (cR ca gh ga g) o := by
  refine KIa.of (cc := cX5_lineNamed) (n := 1) (plainFor_of_name (by decide)) rfl (Nat.le_of_ble_eq_true rfl) ?_
  intro p e s m below meth c A Z hx hb hml hts hown hA hK hP hD hS hAm hRS hret ls hl
  have hown : s.vm.findClass RX5 = some m.cls := hown
  have hl : lv_has ls 1 [(0, .ref (ga 0))] := hl
  unfold mX5_lineNamed at hm
  refine lv_aload_n hx hb dX5_lineNamed_0 rfl (lv_at hl 0 rfl) ?_
  refine va_ldcS hx hb hown (hRS 0 (by decide)) dX5_lineNamed_1 ?_
  obtain ⟨v1, q1, h17⟩ := obn hm
  clear hm
  refine xVia (As := [.ref (aS 0)]) ⟨hx, hb, hml, hown, hts⟩ (k_X5_isWord aS aV aT l D ca gh ga g 0 (by decide) _ q1) (cwV 1 hts gX5_lineNamed_X5_isWord rfl rfl rfl (by decide +kernel) ⟨Nat.le_of_ble_eq_true rfl, Nat.le_of_ble_eq_true rfl⟩) hK hA hP hD hS hAm hRS dX5_lineNamed_3 rfl hl.1 [0, 1] [] [0, 1] rfl rfl (wr := []) rfl rfl (by decide) (wn := (cR ca gh ga g)) rfl rfl (va_recv (ci := 5) (q0 := 0) hK hP rfl rfl) rfl (Nat.le_of_ble_eq_true rfl) (fun H locs hP hD hS => ?_)
  refine lv_if_eq (tgt := 11) hx hb dX5_lineNamed_6 (by decide) (fun c2 => ?_) (fun c2 => ?_)
  · skip
    replace h17 := (if_pos c2).symm.trans h17
    refine lv_aload_n hx hb dX5_lineNamed_11 rfl (lv_at hl 0 rfl) ?_
    refine va_ldcS hx hb hown (hRS 1 (by decide)) dX5_lineNamed_12 ?_
    obtain ⟨v3, q3, h18⟩ := obn h17
    clear h17
    refine xVia (As := [.ref (aS 1)]) ⟨hx, hb, hml, hown, hts⟩ (k_X5_isWord aS aV aT l D ca gh ga g 1 (by decide) _ q3) (cwV 1 hts gX5_lineNamed_X5_isWord rfl rfl rfl (by decide +kernel) ⟨Nat.le_of_ble_eq_true rfl, Nat.le_of_ble_eq_true rfl⟩) hK hA hP hD hS hAm hRS dX5_lineNamed_14 rfl hl.1 [0, 1] [] [0, 1] rfl rfl (wr := []) rfl rfl (by decide) (wn := (cR ca gh ga g)) rfl rfl (va_recv (ci := 5) (q0 := 0) hK hP rfl rfl) rfl (Nat.le_of_ble_eq_true rfl) (fun H locs hP hD hS => ?_)
    refine lv_if_eq (tgt := 22) hx hb dX5_lineNamed_17 (by decide) (fun c4 => ?_) (fun c4 => ?_)
    · skip
      replace h18 := (if_pos c4).symm.trans h18
      refine lv_aload_n hx hb dX5_lineNamed_22 rfl (lv_at hl 0 rfl) ?_
      refine va_ldcS hx hb hown (hRS 2 (by decide)) dX5_lineNamed_23 ?_
      obtain ⟨v5, q5, h19⟩ := obn h18
      clear h18
      refine xVia (As := [.ref (aS 2)]) ⟨hx, hb, hml, hown, hts⟩ (k_X5_isWord aS aV aT l D ca gh ga g 2 (by decide) _ q5) (cwV 1 hts gX5_lineNamed_X5_isWord rfl rfl rfl (by decide +kernel) ⟨Nat.le_of_ble_eq_true rfl, Nat.le_of_ble_eq_true rfl⟩) hK hA hP hD hS hAm hRS dX5_lineNamed_25 rfl hl.1 [0, 1] [] [0, 1] rfl rfl (wr := []) rfl rfl (by decide) (wn := (cR ca gh ga g)) rfl rfl (va_recv (ci := 5) (q0 := 0) hK hP rfl rfl) rfl (Nat.le_of_ble_eq_true rfl) (fun H locs hP hD hS => ?_)
      refine lv_if_eq (tgt := 33) hx hb dX5_lineNamed_28 (by decide) (fun c6 => ?_) (fun c6 => ?_)
      · skip
        replace h19 := (if_pos c6).symm.trans h19
        refine lv_aload_n hx hb dX5_lineNamed_33 rfl (lv_at hl 0 rfl) ?_
        refine va_ldcS hx hb hown (hRS 3 (by decide)) dX5_lineNamed_34 ?_
        obtain ⟨v7, q7, h20⟩ := obn h19
        clear h19
        refine xVia (As := [.ref (aS 3)]) ⟨hx, hb, hml, hown, hts⟩ (k_X5_isWord aS aV aT l D ca gh ga g 3 (by decide) _ q7) (cwV 1 hts gX5_lineNamed_X5_isWord rfl rfl rfl (by decide +kernel) ⟨Nat.le_of_ble_eq_true rfl, Nat.le_of_ble_eq_true rfl⟩) hK hA hP hD hS hAm hRS dX5_lineNamed_36 rfl hl.1 [0, 1] [] [0, 1] rfl rfl (wr := []) rfl rfl (by decide) (wn := (cR ca gh ga g)) rfl rfl (va_recv (ci := 5) (q0 := 0) hK hP rfl rfl) rfl (Nat.le_of_ble_eq_true rfl) (fun H locs hP hD hS => ?_)
        refine lv_if_eq (tgt := 44) hx hb dX5_lineNamed_39 (by decide) (fun c8 => ?_) (fun c8 => ?_)
        · skip
          replace h20 := (if_pos c8).symm.trans h20
          refine lv_aload_n hx hb dX5_lineNamed_44 rfl (lv_at hl 0 rfl) ?_
          refine va_ldcS hx hb hown (hRS 4 (by decide)) dX5_lineNamed_45 ?_
          obtain ⟨v9, q9, h21⟩ := obn h20
          clear h20
          refine xVia (As := [.ref (aS 4)]) ⟨hx, hb, hml, hown, hts⟩ (k_X5_isWord aS aV aT l D ca gh ga g 4 (by decide) _ q9) (cwV 1 hts gX5_lineNamed_X5_isWord rfl rfl rfl (by decide +kernel) ⟨Nat.le_of_ble_eq_true rfl, Nat.le_of_ble_eq_true rfl⟩) hK hA hP hD hS hAm hRS dX5_lineNamed_47 rfl hl.1 [0, 1] [] [0, 1] rfl rfl (wr := []) rfl rfl (by decide) (wn := (cR ca gh ga g)) rfl rfl (va_recv (ci := 5) (q0 := 0) hK hP rfl rfl) rfl (Nat.le_of_ble_eq_true rfl) (fun H locs hP hD hS => ?_)
          refine lv_if_eq (tgt := 55) hx hb dX5_lineNamed_50 (by decide) (fun c10 => ?_) (fun c10 => ?_)
          · skip
            replace h21 := (if_pos c10).symm.trans h21
            refine lv_aload_n hx hb dX5_lineNamed_55 rfl (lv_at hl 0 rfl) ?_
            refine va_ldcS hx hb hown (hRS 5 (by decide)) dX5_lineNamed_56 ?_
            obtain ⟨v11, q11, h22⟩ := obn h21
            clear h21
            refine xVia (As := [.ref (aS 5)]) ⟨hx, hb, hml, hown, hts⟩ (k_X5_isWord aS aV aT l D ca gh ga g 5 (by decide) _ q11) (cwV 1 hts gX5_lineNamed_X5_isWord rfl rfl rfl (by decide +kernel) ⟨Nat.le_of_ble_eq_true rfl, Nat.le_of_ble_eq_true rfl⟩) hK hA hP hD hS hAm hRS dX5_lineNamed_58 rfl hl.1 [0, 1] [] [0, 1] rfl rfl (wr := []) rfl rfl (by decide) (wn := (cR ca gh ga g)) rfl rfl (va_recv (ci := 5) (q0 := 0) hK hP rfl rfl) rfl (Nat.le_of_ble_eq_true rfl) (fun H locs hP hD hS => ?_)
            refine lv_if_eq (tgt := 66) hx hb dX5_lineNamed_61 (by decide) (fun c12 => ?_) (fun c12 => ?_)
            · skip
              replace h22 := (if_pos c12).symm.trans h22
              refine lv_aload_n hx hb dX5_lineNamed_66 rfl (lv_at hl 0 rfl) ?_
              refine va_ldcS hx hb hown (hRS 6 (by decide)) dX5_lineNamed_67 ?_
              obtain ⟨v13, q13, h23⟩ := obn h22
              clear h22
              refine xVia (As := [.ref (aS 6)]) ⟨hx, hb, hml, hown, hts⟩ (k_X5_isWord aS aV aT l D ca gh ga g 6 (by decide) _ q13) (cwV 1 hts gX5_lineNamed_X5_isWord rfl rfl rfl (by decide +kernel) ⟨Nat.le_of_ble_eq_true rfl, Nat.le_of_ble_eq_true rfl⟩) hK hA hP hD hS hAm hRS dX5_lineNamed_69 rfl hl.1 [0, 1] [] [0, 1] rfl rfl (wr := []) rfl rfl (by decide) (wn := (cR ca gh ga g)) rfl rfl (va_recv (ci := 5) (q0 := 0) hK hP rfl rfl) rfl (Nat.le_of_ble_eq_true rfl) (fun H locs hP hD hS => ?_)
              refine lv_if_eq (tgt := 78) hx hb dX5_lineNamed_72 (by decide) (fun c14 => ?_) (fun c14 => ?_)
              · skip
                replace h23 := (if_pos c14).symm.trans h23
                refine lv_aload_n hx hb dX5_lineNamed_78 rfl (lv_at hl 0 rfl) ?_
                refine va_ldcS hx hb hown (hRS 7 (by decide)) dX5_lineNamed_79 ?_
                obtain ⟨v15, q15, h24⟩ := obn h23
                clear h23
                refine xVia (As := [.ref (aS 7)]) ⟨hx, hb, hml, hown, hts⟩ (k_X5_isWord aS aV aT l D ca gh ga g 7 (by decide) _ q15) (cwV 1 hts gX5_lineNamed_X5_isWord rfl rfl rfl (by decide +kernel) ⟨Nat.le_of_ble_eq_true rfl, Nat.le_of_ble_eq_true rfl⟩) hK hA hP hD hS hAm hRS dX5_lineNamed_81 rfl hl.1 [0, 1] [] [0, 1] rfl rfl (wr := []) rfl rfl (by decide) (wn := (cR ca gh ga g)) rfl rfl (va_recv (ci := 5) (q0 := 0) hK hP rfl rfl) rfl (Nat.le_of_ble_eq_true rfl) (fun H locs hP hD hS => ?_)
                refine lv_if_eq (tgt := 92) hx hb dX5_lineNamed_84 (by decide) (fun c16 => ?_) (fun c16 => ?_)
                · skip
                  replace h24 := (if_pos c16).symm.trans h24
                  refine lv_bipush (v := (-4 : Int32)) hx hb dX5_lineNamed_92 (by decide) ?_
                  obtain rfl := Option.some.inj h24
                  exact hret _ _ _ _ (vp_nar_int _) hP hD hS dX5_lineNamed_94
                · skip
                  replace h24 := (if_neg c16).symm.trans h24
                  refine lv_bipush (v := (7 : Int32)) hx hb dX5_lineNamed_87 (by decide) ?_
                  refine lv_goto (tgt := 94) hx hb dX5_lineNamed_89 (by decide) ?_
                  obtain rfl := Option.some.inj h24
                  exact hret _ _ _ _ (vp_nar_int _) hP hD hS dX5_lineNamed_94
              · skip
                replace h23 := (if_neg c14).symm.trans h23
                refine lv_bipush (v := (6 : Int32)) hx hb dX5_lineNamed_75 (by decide) ?_
                obtain rfl := Option.some.inj h23
                exact hret _ _ _ _ (vp_nar_int _) hP hD hS dX5_lineNamed_77
            · skip
              replace h22 := (if_neg c12).symm.trans h22
              refine lv_iconst (v := (5 : Int32)) hx hb dX5_lineNamed_64 (by decide) ?_
              obtain rfl := Option.some.inj h22
              exact hret _ _ _ _ (vp_nar_int _) hP hD hS dX5_lineNamed_65
          · skip
            replace h21 := (if_neg c10).symm.trans h21
            refine lv_iconst (v := (4 : Int32)) hx hb dX5_lineNamed_53 (by decide) ?_
            obtain rfl := Option.some.inj h21
            exact hret _ _ _ _ (vp_nar_int _) hP hD hS dX5_lineNamed_54
        · skip
          replace h20 := (if_neg c8).symm.trans h20
          refine lv_iconst (v := (3 : Int32)) hx hb dX5_lineNamed_42 (by decide) ?_
          obtain rfl := Option.some.inj h20
          exact hret _ _ _ _ (vp_nar_int _) hP hD hS dX5_lineNamed_43
      · skip
        replace h19 := (if_neg c6).symm.trans h19
        refine lv_iconst (v := (2 : Int32)) hx hb dX5_lineNamed_31 (by decide) ?_
        obtain rfl := Option.some.inj h19
        exact hret _ _ _ _ (vp_nar_int _) hP hD hS dX5_lineNamed_32
    · skip
      replace h18 := (if_neg c4).symm.trans h18
      refine lv_iconst (v := (1 : Int32)) hx hb dX5_lineNamed_20 (by decide) ?_
      obtain rfl := Option.some.inj h18
      exact hret _ _ _ _ (vp_nar_int _) hP hD hS dX5_lineNamed_21
  · skip
    replace h17 := (if_neg c2).symm.trans h17
    refine lv_iconst (v := (0 : Int32)) hx hb dX5_lineNamed_9 (by decide) ?_
    obtain rfl := Option.some.inj h17
    exact hret _ _ _ _ (vp_nar_int _) hP hD hS dX5_lineNamed_10

def mX5_takeLine (g : GS) (t : GS) : Option (Int32 × GS × GS) :=
  Option.bind (
    if (g.2 5) = (1 : Int32) then
      Option.bind (mX5_lineNamed g) fun v2 =>
      some v2
    else
      some (-4 : Int32)) fun (v3 : Int32) =>
  if v3 < 0 then
    Option.bind (mX5_refuse g (2 : Int32)) fun v5 =>
    Option.bind (rtZ v5.1) fun z6 =>
    some (z6, v5.2, t)
  else
    if v3 < (8 : Int32) then
      Option.bind (mX5_isSecond g v3) fun v7 =>
      if v7 = 0 then
        Option.bind (mX5_isTooMany t v3) fun v9 =>
        if v9 = 0 then
          Option.bind (ald 8 (tabF 0) v3) fun v11 =>
          Option.bind (ald 8 (tabF 1) v3) fun v12 =>
          Option.bind (mX5_takeNumber g v11 v12) fun v13 =>
          if v13.1 = 0 then
            some ((0 : Int32), v13.2, t)
          else
            Option.bind (mX5_hasTwo v3) fun v15 =>
            Option.bind (
              if v15 = 0 then
                some (.inl v13.2)
              else
                Option.bind (ald 8 (tabF 2) v3) fun v17 =>
                Option.bind (ald 8 (tabF 3) v3) fun v18 =>
                Option.bind (mX5_takeNumber v13.2 v17 v18) fun v19 =>
                if v19.1 = 0 then
                  some (.inr ((0 : Int32), v19.2, t))
                else
                  some (.inl v19.2)) fun (v21 : (GS) ⊕ (Int32 × GS × GS)) => esc v21 fun t22 =>
            Option.bind (mX5_nextToken t22) fun v23 =>
            if (v23.2 5) = (3 : Int32) then
              Option.bind (mX5_tell v23 t v3 (v13.2.2 8) (t22.2 8)) fun v25 =>
              some ((1 : Int32), v25.1, v25.2)
            else
              Option.bind (mX5_refuse v23 (2 : Int32)) fun v26 =>
              Option.bind (rtZ v26.1) fun z7 =>
              some (z7, v26.2, t)
        else
          Option.bind (mX5_refuse g (5 : Int32)) fun v27 =>
          Option.bind (rtZ v27.1) fun z8 =>
          some (z8, v27.2, t)
      else
        Option.bind (mX5_refuse g (4 : Int32)) fun v28 =>
        Option.bind (rtZ v28.1) fun z9 =>
        some (z9, v28.2, t)
    else
      Option.bind (mX5_refuse g (2 : Int32)) fun v29 =>
      Option.bind (rtZ v29.1) fun z10 =>
      some (z10, v29.2, t)
abbrev rmX5_takeLine : Room := { frames := 6, cells := 0, slots := 0, locals := 127 }
set_option maxHeartbeats 4000000 in
set_option maxRecDepth 100000 in
theorem k_X5_takeLine (aS aV aT : Nat → Nat) (l : Launch) (D : va_G) (ca : Nat → ClassId) (ga : Nat → Nat) (ta : Nat → Nat) (g : GS) (t : GS) (o : Int32 × GS × GS) (hm : mX5_takeLine g t = some o) : KIa aS aV aT l yX5_takeLine wsX5_takeLine rmX5_takeLine D ca [.ref (ga 0)] ((cR ca (ta 0) ga g) ++ (cH ca ta t)) ((cR ca (ta 0) ga o.2.1) ++ (cH ca ta o.2.2)) o.1 := by
  refine KIa.of (cc := cX5_takeLine) (n := 4) (plainFor_of_name (by decide)) rfl (Nat.le_of_ble_eq_true rfl) ?_
  intro p e s m below meth c A Z hx hb hml hts hown hA hK hP hD hS hAm hRS hret ls hl
  have hown : s.vm.findClass RX5 = some m.cls := hown
  have hl : lv_has ls 4 [(0, .ref (ga 0))] := hl
  have inX5 : ∀ w ∈ wsX50, w ∈ wsX5_takeLine := by decide +kernel
  have k1 := hts (.fieldLink RX5 32 "FriezeFolk$Reader" "token" "I") (by decide +kernel)
  have k2 := hts (.fieldLink RX5 71 "FriezeFolk$Reader" "FIRST_LEAST" "[I") (by decide +kernel)
  have k3 := hts (.fieldLink RX5 75 "FriezeFolk$Reader" "FIRST_MOST" "[I") (by decide +kernel)
  have k4 := hts (.fieldLink RX5 41 "FriezeFolk$Reader" "number" "I") (by decide +kernel)
  have k5 := hts (.fieldLink RX5 85 "FriezeFolk$Reader" "SECOND_LEAST" "[I") (by decide +kernel)
  have k6 := hts (.fieldLink RX5 88 "FriezeFolk$Reader" "SECOND_MOST" "[I") (by decide +kernel)
  unfold mX5_takeLine at hm
  refine lv_aload_n hx hb dX5_takeLine_0 rfl (lv_at hl 0 rfl) ?_
  refine xget (ref := "FriezeFolk$Reader") (C := RX5) (T := TX5) (N := 10) (ci := 5) (v := .int (g.2 5)) hx hb hts inX5 hown hK hP 0 rfl rfl 5 (by decide) k1 rfl rfl dX5_takeLine_1 ?_
  refine lv_iconst (v := (1 : Int32)) hx hb dX5_takeLine_4 (by decide) ?_
  obtain ⟨v3, q30, h31⟩ := obn hm
  clear hm
  have J3 : ∀ (ls : Array Slot) (H : Heap) (locs : List Loc), lv_has ls 4 [(0, .ref (ga 0))] → va_P D vwCl ((cR ca (ta 0) ga g) ++ (cH ca ta t)) H → va_D A ((cR ca (ta 0) ga g) ++ (cH ca ta t)) → va_S A s.heap H locs → W p l e rmX5_takeLine s m ([.ref (ga 0)] : List Value).toArray below meth c H locs 0 0 Z (F0 m 17 ls [.int v3]) := by
    intro ls H locs hl hP hD hS
    refine lv_istore_n (lv' := [(1, .int v3), (0, .ref (ga 0))]) hx hb dX5_takeLine_17 rfl hl (by decide) rfl (fun ls hl => ?_)
    refine lv_iload_n hx hb dX5_takeLine_18 rfl (lv_at hl 0 rfl) ?_
    refine lv_if_lt (tgt := 28) hx hb dX5_takeLine_19 (by decide) (fun c4 => ?_) (fun c4 => ?_)
    · skip
      replace h31 := (if_pos c4).symm.trans h31
      refine lv_aload_n hx hb dX5_takeLine_28 rfl (lv_at hl 1 rfl) ?_
      refine lv_iconst (v := (2 : Int32)) hx hb dX5_takeLine_29 (by decide) ?_
      obtain ⟨v5, q5, h32⟩ := obn h31
      clear h31
      refine xVi (As := [.int (2 : Int32)]) (ci := 5) ⟨hx, hb, hml, hown, hts⟩ (k_X5_refuse l D ca (ta 0) ga g (2 : Int32) _ q5) (cwV 1 hts gX5_takeLine_X5_refuse rfl rfl rfl (by decide +kernel) ⟨Nat.le_of_ble_eq_true rfl, Nat.le_of_ble_eq_true rfl⟩) hK hA hP hD hS dX5_takeLine_30 rfl hl.1 [0, 1] [2, 3, 4, 5, 6, 7] [6, 7, 0, 1, 2, 3, 4, 5] rfl rfl (wr := ((cH ca ta t))) rfl rfl (by decide) (wn := ((cR ca (ta 0) ga v5.2) ++ (cH ca ta t))) rfl rfl rfl rfl rfl rfl (Nat.le_of_ble_eq_true rfl) (fun H locs hP hD hS => ?_)
      obtain ⟨z6, h33, h34⟩ := obn h32
      obtain ⟨rfl, hnz⟩ := rtZ_s h33
      obtain rfl := Option.some.inj h34
      exact hret _ _ _ _ hnz hP hD hS dX5_takeLine_33
    · skip
      replace h31 := (if_neg c4).symm.trans h31
      refine lv_iload_n hx hb dX5_takeLine_22 rfl (lv_at hl 0 rfl) ?_
      refine lv_bipush (v := (8 : Int32)) hx hb dX5_takeLine_23 (by decide) ?_
      refine lv_icmp_lt (tgt := 34) hx hb dX5_takeLine_25 (by decide) (fun c6 => ?_) (fun c6 => ?_)
      · skip
        replace h31 := (if_pos c6).symm.trans h31
        refine lv_aload_n hx hb dX5_takeLine_34 rfl (lv_at hl 1 rfl) ?_
        refine lv_iload_n hx hb dX5_takeLine_35 rfl (lv_at hl 0 rfl) ?_
        obtain ⟨v7, q7, h35⟩ := obn h31
        clear h31
        refine xVi (As := [.int v3]) (ci := 5) ⟨hx, hb, hml, hown, hts⟩ (k_X5_isSecond l D ca (ta 0) ga g v3 _ q7) (cwV 1 hts gX5_takeLine_X5_isSecond rfl rfl rfl (by decide +kernel) ⟨Nat.le_of_ble_eq_true rfl, Nat.le_of_ble_eq_true rfl⟩) hK hA hP hD hS dX5_takeLine_36 rfl hl.1 [0, 1] [2, 3, 4, 5, 6, 7] [6, 7, 0, 1, 2, 3, 4, 5] rfl rfl (wr := ((cH ca ta t))) rfl rfl (by decide) (wn := ((cR ca (ta 0) ga g) ++ (cH ca ta t))) rfl rfl rfl rfl rfl rfl (Nat.le_of_ble_eq_true rfl) (fun H locs hP hD hS => ?_)
        refine lv_if_eq (tgt := 48) hx hb dX5_takeLine_39 (by decide) (fun c8 => ?_) (fun c8 => ?_)
        · skip
          replace h35 := (if_pos c8).symm.trans h35
          refine lv_aload_n hx hb dX5_takeLine_48 rfl (lv_at hl 1 rfl) ?_
          refine lv_iload_n hx hb dX5_takeLine_49 rfl (lv_at hl 0 rfl) ?_
          obtain ⟨v9, q9, h36⟩ := obn h35
          clear h35
          refine xVi (As := [.int v3]) (ci := 5) ⟨hx, hb, hml, hown, hts⟩ (k_X5_isTooMany l D ca ga ta g t v3 _ q9) (cwV 1 hts gX5_takeLine_X5_isTooMany rfl rfl rfl (by decide +kernel) ⟨Nat.le_of_ble_eq_true rfl, Nat.le_of_ble_eq_true rfl⟩) hK hA hP hD hS dX5_takeLine_50 rfl hl.1 [0, 1, 2, 3, 4, 5, 6, 7] [] [0, 1, 2, 3, 4, 5, 6, 7] rfl rfl (wr := []) rfl rfl (by decide) (wn := ((cR ca (ta 0) ga g) ++ (cH ca ta t))) rfl rfl rfl rfl rfl rfl (Nat.le_of_ble_eq_true rfl) (fun H locs hP hD hS => ?_)
          refine lv_if_eq (tgt := 62) hx hb dX5_takeLine_53 (by decide) (fun c10 => ?_) (fun c10 => ?_)
          · skip
            replace h36 := (if_pos c10).symm.trans h36
            refine lv_aload_n hx hb dX5_takeLine_62 rfl (lv_at hl 1 rfl) ?_
            refine va_gets (v := .ref (aT 0)) hx hb (hAm.2.2.2 0 (by decide)).1 hS hown k2 (fun _ h => h) dX5_takeLine_63 ?_
            refine lv_iload_n hx hb dX5_takeLine_66 rfl (lv_at hl 0 rfl) ?_
            obtain ⟨v11, q11, h37⟩ := obn h36
            clear h36
            refine xtab hx hb (hAm.2.2.2 0 (by decide)).2 hS q11 dX5_takeLine_67 ?_
            refine va_gets (v := .ref (aT 1)) hx hb (hAm.2.2.2 1 (by decide)).1 hS hown k3 (fun _ h => h) dX5_takeLine_68 ?_
            refine lv_iload_n hx hb dX5_takeLine_71 rfl (lv_at hl 0 rfl) ?_
            obtain ⟨v12, q12, h38⟩ := obn h37
            clear h37
            refine xtab hx hb (hAm.2.2.2 1 (by decide)).2 hS q12 dX5_takeLine_72 ?_
            obtain ⟨v13, q13, h39⟩ := obn h38
            clear h38
            refine xVi (As := [.int v11, .int v12]) (ci := 5) ⟨hx, hb, hml, hown, hts⟩ (k_X5_takeNumber l D ca (ta 0) ga g v11 v12 _ q13) (cwV 2 hts gX5_takeLine_X5_takeNumber rfl rfl rfl (by decide +kernel) ⟨Nat.le_of_ble_eq_true rfl, Nat.le_of_ble_eq_true rfl⟩) hK hA hP hD hS dX5_takeLine_73 rfl hl.1 [0, 1] [2, 3, 4, 5, 6, 7] [6, 7, 0, 1, 2, 3, 4, 5] rfl rfl (wr := ((cH ca ta t))) rfl rfl (by decide) (wn := ((cR ca (ta 0) ga v13.2) ++ (cH ca ta t))) rfl rfl rfl rfl rfl rfl (Nat.le_of_ble_eq_true rfl) (fun H locs hP hD hS => ?_)
            refine lv_if_ne (tgt := 81) hx hb dX5_takeLine_76 (by decide) (fun c14 => ?_) (fun c14 => ?_)
            · skip
              replace h39 := (if_neg c14).symm.trans h39
              refine lv_aload_n hx hb dX5_takeLine_81 rfl (lv_at hl 1 rfl) ?_
              refine xget (ref := "FriezeFolk$Reader") (C := RX5) (T := TX5) (N := 10) (ci := 5) (v := .int (v13.2.2 8)) hx hb hts inX5 hown hK hP 0 rfl rfl 8 (by decide) k4 rfl rfl dX5_takeLine_82 ?_
              refine lv_istore_n (lv' := [(2, .int (v13.2.2 8)), (1, .int v3), (0, .ref (ga 0))]) hx hb dX5_takeLine_85 rfl hl (by decide) rfl (fun ls hl => ?_)
              refine lv_aload_n hx hb dX5_takeLine_86 rfl (lv_at hl 2 rfl) ?_
              refine lv_iload_n hx hb dX5_takeLine_87 rfl (lv_at hl 1 rfl) ?_
              obtain ⟨v15, q15, h40⟩ := obn h39
              clear h39
              refine xVi (As := [.int v3]) (ci := 5) ⟨hx, hb, hml, hown, hts⟩ (k_X5_hasTwo l D ca (ta 0) ga v13.2 v3 _ q15) (cwV 1 hts gX5_takeLine_X5_hasTwo rfl rfl rfl (by decide +kernel) ⟨Nat.le_of_ble_eq_true rfl, Nat.le_of_ble_eq_true rfl⟩) hK hA hP hD hS dX5_takeLine_88 rfl hl.1 [0, 1] [2, 3, 4, 5, 6, 7] [6, 7, 0, 1, 2, 3, 4, 5] rfl rfl (wr := ((cH ca ta t))) rfl rfl (by decide) (wn := ((cR ca (ta 0) ga v13.2) ++ (cH ca ta t))) rfl rfl rfl rfl rfl rfl (Nat.le_of_ble_eq_true rfl) (fun H locs hP hD hS => ?_)
              obtain ⟨v21, q41, h42⟩ := obn h40
              clear h40
              have J21 : ∀ t22, v21 = .inl t22 → ∀ (ls : Array Slot) (H : Heap) (locs : List Loc), lv_has ls 4 [(0, .ref (ga 0)), (1, .int v3), (2, .int (v13.2.2 8))] → va_P D vwCl ((cR ca (ta 0) ga t22) ++ (cH ca ta t)) H → va_D A ((cR ca (ta 0) ga t22) ++ (cH ca ta t)) → va_S A s.heap H locs → W p l e rmX5_takeLine s m ([.ref (ga 0)] : List Value).toArray below meth c H locs 0 0 Z (F0 m 113 ls []) := by
                intro t22 ht ls H locs hl hP hD hS
                subst ht
                replace h42 := (esc_l _ _).symm.trans h42
                refine lv_aload_n hx hb dX5_takeLine_113 rfl (lv_at hl 0 rfl) ?_
                refine xget (ref := "FriezeFolk$Reader") (C := RX5) (T := TX5) (N := 10) (ci := 5) (v := .int (t22.2 8)) hx hb hts inX5 hown hK hP 0 rfl rfl 8 (by decide) k4 rfl rfl dX5_takeLine_114 ?_
                refine lv_istore_n (lv' := [(3, .int (t22.2 8)), (0, .ref (ga 0)), (1, .int v3), (2, .int (v13.2.2 8))]) hx hb dX5_takeLine_117 rfl hl (by decide) rfl (fun ls hl => ?_)
                refine lv_aload_n hx hb dX5_takeLine_118 rfl (lv_at hl 1 rfl) ?_
                obtain ⟨v23, q23, h43⟩ := obn h42
                clear h42
                refine xVv (As := []) (ci := 5) ⟨hx, hb, hml, hown, hts⟩ (k_X5_nextToken l D ca (ta 0) ga t22 _ q23) (cwV 0 hts gX5_takeLine_X5_nextToken rfl rfl rfl (by decide +kernel) ⟨Nat.le_of_ble_eq_true rfl, Nat.le_of_ble_eq_true rfl⟩) hK hA hP hD hS dX5_takeLine_119 rfl hl.1 [0, 1] [2, 3, 4, 5, 6, 7] [6, 7, 0, 1, 2, 3, 4, 5] rfl rfl (wr := ((cH ca ta t))) rfl rfl (by decide) (wn := ((cR ca (ta 0) ga v23) ++ (cH ca ta t))) rfl rfl rfl rfl rfl rfl (Nat.le_of_ble_eq_true rfl) (fun H locs hP hD hS => ?_)
                refine lv_aload_n hx hb dX5_takeLine_122 rfl (lv_at hl 1 rfl) ?_
                refine xget (ref := "FriezeFolk$Reader") (C := RX5) (T := TX5) (N := 10) (ci := 5) (v := .int (v23.2 5)) hx hb hts inX5 hown hK hP 0 rfl rfl 5 (by decide) k1 rfl rfl dX5_takeLine_123 ?_
                refine lv_iconst (v := (3 : Int32)) hx hb dX5_takeLine_126 (by decide) ?_
                refine lv_icmp_eq (tgt := 136) hx hb dX5_takeLine_127 (by decide) (fun c24 => ?_) (fun c24 => ?_)
                · skip
                  replace h43 := (if_pos c24).symm.trans h43
                  refine lv_aload_n hx hb dX5_takeLine_136 rfl (lv_at hl 1 rfl) ?_
                  refine lv_iload_n hx hb dX5_takeLine_137 rfl (lv_at hl 2 rfl) ?_
                  refine lv_iload_n hx hb dX5_takeLine_138 rfl (lv_at hl 3 rfl) ?_
                  refine lv_iload_n hx hb dX5_takeLine_139 rfl (lv_at hl 0 rfl) ?_
                  obtain ⟨v25, q25, h44⟩ := obn h43
                  clear h43
                  refine xVv (As := [.int v3, .int (v13.2.2 8), .int (t22.2 8)]) (ci := 5) ⟨hx, hb, hml, hown, hts⟩ (k_X5_tell l D ca ga ta v23 t v3 (v13.2.2 8) (t22.2 8) _ q25) (cwV 3 hts gX5_takeLine_X5_tell rfl rfl rfl (by decide +kernel) ⟨Nat.le_of_ble_eq_true rfl, Nat.le_of_ble_eq_true rfl⟩) hK hA hP hD hS dX5_takeLine_140 rfl hl.1 [0, 1, 2, 3, 4, 5, 6, 7] [] [0, 1, 2, 3, 4, 5, 6, 7] rfl rfl (wr := []) rfl rfl (by decide) (wn := ((cR ca (ta 0) ga v25.1) ++ (cH ca ta v25.2))) rfl rfl rfl rfl rfl rfl (Nat.le_of_ble_eq_true rfl) (fun H locs hP hD hS => ?_)
                  refine lv_iconst (v := (1 : Int32)) hx hb dX5_takeLine_143 (by decide) ?_
                  obtain rfl := Option.some.inj h44
                  exact hret _ _ _ _ nar1 hP hD hS dX5_takeLine_144
                · skip
                  replace h43 := (if_neg c24).symm.trans h43
                  refine lv_aload_n hx hb dX5_takeLine_130 rfl (lv_at hl 1 rfl) ?_
                  refine lv_iconst (v := (2 : Int32)) hx hb dX5_takeLine_131 (by decide) ?_
                  obtain ⟨v26, q26, h45⟩ := obn h43
                  clear h43
                  refine xVi (As := [.int (2 : Int32)]) (ci := 5) ⟨hx, hb, hml, hown, hts⟩ (k_X5_refuse l D ca (ta 0) ga v23 (2 : Int32) _ q26) (cwV 1 hts gX5_takeLine_X5_refuse rfl rfl rfl (by decide +kernel) ⟨Nat.le_of_ble_eq_true rfl, Nat.le_of_ble_eq_true rfl⟩) hK hA hP hD hS dX5_takeLine_132 rfl hl.1 [0, 1] [2, 3, 4, 5, 6, 7] [6, 7, 0, 1, 2, 3, 4, 5] rfl rfl (wr := ((cH ca ta t))) rfl rfl (by decide) (wn := ((cR ca (ta 0) ga v26.2) ++ (cH ca ta t))) rfl rfl rfl rfl rfl rfl (Nat.le_of_ble_eq_true rfl) (fun H locs hP hD hS => ?_)
                  obtain ⟨z7, h46, h47⟩ := obn h45
                  obtain ⟨rfl, hnz⟩ := rtZ_s h46
                  obtain rfl := Option.some.inj h47
                  exact hret _ _ _ _ hnz hP hD hS dX5_takeLine_135
              refine lv_if_eq (tgt := 113) hx hb dX5_takeLine_91 (by decide) (fun c16 => ?_) (fun c16 => ?_)
              · skip
                replace q41 := (if_pos c16).symm.trans q41
                obtain rfl := Option.some.inj q41
                exact J21 _ rfl _ _ _ (lv_sub hl [2, 1, 0] rfl) hP hD hS
              · skip
                replace q41 := (if_neg c16).symm.trans q41
                refine lv_aload_n hx hb dX5_takeLine_94 rfl (lv_at hl 2 rfl) ?_
                refine va_gets (v := .ref (aT 2)) hx hb (hAm.2.2.2 2 (by decide)).1 hS hown k5 (fun _ h => h) dX5_takeLine_95 ?_
                refine lv_iload_n hx hb dX5_takeLine_98 rfl (lv_at hl 1 rfl) ?_
                obtain ⟨v17, q17, h48⟩ := obn q41
                clear q41
                refine xtab hx hb (hAm.2.2.2 2 (by decide)).2 hS q17 dX5_takeLine_99 ?_
                refine va_gets (v := .ref (aT 3)) hx hb (hAm.2.2.2 3 (by decide)).1 hS hown k6 (fun _ h => h) dX5_takeLine_100 ?_
                refine lv_iload_n hx hb dX5_takeLine_103 rfl (lv_at hl 1 rfl) ?_
                obtain ⟨v18, q18, h49⟩ := obn h48
                clear h48
                refine xtab hx hb (hAm.2.2.2 3 (by decide)).2 hS q18 dX5_takeLine_104 ?_
                obtain ⟨v19, q19, h50⟩ := obn h49
                clear h49
                refine xVi (As := [.int v17, .int v18]) (ci := 5) ⟨hx, hb, hml, hown, hts⟩ (k_X5_takeNumber l D ca (ta 0) ga v13.2 v17 v18 _ q19) (cwV 2 hts gX5_takeLine_X5_takeNumber rfl rfl rfl (by decide +kernel) ⟨Nat.le_of_ble_eq_true rfl, Nat.le_of_ble_eq_true rfl⟩) hK hA hP hD hS dX5_takeLine_105 rfl hl.1 [0, 1] [2, 3, 4, 5, 6, 7] [6, 7, 0, 1, 2, 3, 4, 5] rfl rfl (wr := ((cH ca ta t))) rfl rfl (by decide) (wn := ((cR ca (ta 0) ga v19.2) ++ (cH ca ta t))) rfl rfl rfl rfl rfl rfl (Nat.le_of_ble_eq_true rfl) (fun H locs hP hD hS => ?_)
                refine lv_if_ne (tgt := 113) hx hb dX5_takeLine_108 (by decide) (fun c20 => ?_) (fun c20 => ?_)
                · skip
                  replace h50 := (if_neg c20).symm.trans h50
                  obtain rfl := Option.some.inj h50
                  exact J21 _ rfl _ _ _ (lv_sub hl [2, 1, 0] rfl) hP hD hS
                · skip
                  replace h50 := (if_pos c20).symm.trans h50
                  refine lv_iconst (v := (0 : Int32)) hx hb dX5_takeLine_111 (by decide) ?_
                  obtain rfl := Option.some.inj h50
                  replace h42 := (esc_r _ _).symm.trans h42
                  obtain rfl := Option.some.inj h42
                  exact hret _ _ _ _ nar0 hP hD hS dX5_takeLine_112
            · skip
              replace h39 := (if_pos c14).symm.trans h39
              refine lv_iconst (v := (0 : Int32)) hx hb dX5_takeLine_79 (by decide) ?_
              obtain rfl := Option.some.inj h39
              exact hret _ _ _ _ nar0 hP hD hS dX5_takeLine_80
          · skip
            replace h36 := (if_neg c10).symm.trans h36
            refine lv_aload_n hx hb dX5_takeLine_56 rfl (lv_at hl 1 rfl) ?_
            refine lv_iconst (v := (5 : Int32)) hx hb dX5_takeLine_57 (by decide) ?_
            obtain ⟨v27, q27, h51⟩ := obn h36
            clear h36
            refine xVi (As := [.int (5 : Int32)]) (ci := 5) ⟨hx, hb, hml, hown, hts⟩ (k_X5_refuse l D ca (ta 0) ga g (5 : Int32) _ q27) (cwV 1 hts gX5_takeLine_X5_refuse rfl rfl rfl (by decide +kernel) ⟨Nat.le_of_ble_eq_true rfl, Nat.le_of_ble_eq_true rfl⟩) hK hA hP hD hS dX5_takeLine_58 rfl hl.1 [0, 1] [2, 3, 4, 5, 6, 7] [6, 7, 0, 1, 2, 3, 4, 5] rfl rfl (wr := ((cH ca ta t))) rfl rfl (by decide) (wn := ((cR ca (ta 0) ga v27.2) ++ (cH ca ta t))) rfl rfl rfl rfl rfl rfl (Nat.le_of_ble_eq_true rfl) (fun H locs hP hD hS => ?_)
            obtain ⟨z8, h52, h53⟩ := obn h51
            obtain ⟨rfl, hnz⟩ := rtZ_s h52
            obtain rfl := Option.some.inj h53
            exact hret _ _ _ _ hnz hP hD hS dX5_takeLine_61
        · skip
          replace h35 := (if_neg c8).symm.trans h35
          refine lv_aload_n hx hb dX5_takeLine_42 rfl (lv_at hl 1 rfl) ?_
          refine lv_iconst (v := (4 : Int32)) hx hb dX5_takeLine_43 (by decide) ?_
          obtain ⟨v28, q28, h54⟩ := obn h35
          clear h35
          refine xVi (As := [.int (4 : Int32)]) (ci := 5) ⟨hx, hb, hml, hown, hts⟩ (k_X5_refuse l D ca (ta 0) ga g (4 : Int32) _ q28) (cwV 1 hts gX5_takeLine_X5_refuse rfl rfl rfl (by decide +kernel) ⟨Nat.le_of_ble_eq_true rfl, Nat.le_of_ble_eq_true rfl⟩) hK hA hP hD hS dX5_takeLine_44 rfl hl.1 [0, 1] [2, 3, 4, 5, 6, 7] [6, 7, 0, 1, 2, 3, 4, 5] rfl rfl (wr := ((cH ca ta t))) rfl rfl (by decide) (wn := ((cR ca (ta 0) ga v28.2) ++ (cH ca ta t))) rfl rfl rfl rfl rfl rfl (Nat.le_of_ble_eq_true rfl) (fun H locs hP hD hS => ?_)
          obtain ⟨z9, h55, h56⟩ := obn h54
          obtain ⟨rfl, hnz⟩ := rtZ_s h55
          obtain rfl := Option.some.inj h56
          exact hret _ _ _ _ hnz hP hD hS dX5_takeLine_47
      · skip
        replace h31 := (if_neg c6).symm.trans h31
        refine lv_aload_n hx hb dX5_takeLine_28 rfl (lv_at hl 1 rfl) ?_
        refine lv_iconst (v := (2 : Int32)) hx hb dX5_takeLine_29 (by decide) ?_
        obtain ⟨v29, q29, h57⟩ := obn h31
        clear h31
        refine xVi (As := [.int (2 : Int32)]) (ci := 5) ⟨hx, hb, hml, hown, hts⟩ (k_X5_refuse l D ca (ta 0) ga g (2 : Int32) _ q29) (cwV 1 hts gX5_takeLine_X5_refuse rfl rfl rfl (by decide +kernel) ⟨Nat.le_of_ble_eq_true rfl, Nat.le_of_ble_eq_true rfl⟩) hK hA hP hD hS dX5_takeLine_30 rfl hl.1 [0, 1] [2, 3, 4, 5, 6, 7] [6, 7, 0, 1, 2, 3, 4, 5] rfl rfl (wr := ((cH ca ta t))) rfl rfl (by decide) (wn := ((cR ca (ta 0) ga v29.2) ++ (cH ca ta t))) rfl rfl rfl rfl rfl rfl (Nat.le_of_ble_eq_true rfl) (fun H locs hP hD hS => ?_)
        obtain ⟨z10, h58, h59⟩ := obn h57
        obtain ⟨rfl, hnz⟩ := rtZ_s h58
        obtain rfl := Option.some.inj h59
        exact hret _ _ _ _ hnz hP hD hS dX5_takeLine_33
  refine lv_icmp_ne (tgt := 15) hx hb dX5_takeLine_5 (by decide) (fun c1 => ?_) (fun c1 => ?_)
  · skip
    replace q30 := (if_neg c1).symm.trans q30
    refine lv_bipush (v := (-4 : Int32)) hx hb dX5_takeLine_15 (by decide) ?_
    obtain rfl := Option.some.inj q30
    exact J3 _ _ _ (lv_sub hl [0] rfl) hP hD hS
  · skip
    replace q30 := (if_pos c1).symm.trans q30
    refine lv_aload_n hx hb dX5_takeLine_8 rfl (lv_at hl 0 rfl) ?_
    obtain ⟨v2, q2, h60⟩ := obn q30
    clear q30
    refine xVia (As := []) ⟨hx, hb, hml, hown, hts⟩ (k_X5_lineNamed aS aV aT l D ca (ta 0) ga g _ q2) (cwV 0 hts gX5_takeLine_X5_lineNamed rfl rfl rfl (by decide +kernel) ⟨Nat.le_of_ble_eq_true rfl, Nat.le_of_ble_eq_true rfl⟩) hK hA hP hD hS hAm hRS dX5_takeLine_9 rfl hl.1 [0, 1] [2, 3, 4, 5, 6, 7] [6, 7, 0, 1, 2, 3, 4, 5] rfl rfl (wr := ((cH ca ta t))) rfl rfl (by decide) (wn := ((cR ca (ta 0) ga g) ++ (cH ca ta t))) rfl rfl (va_recv (ci := 5) (q0 := 0) hK hP rfl rfl) rfl (Nat.le_of_ble_eq_true rfl) (fun H locs hP hD hS => ?_)
    refine lv_goto (tgt := 17) hx hb dX5_takeLine_12 (by decide) ?_
    obtain rfl := Option.some.inj h60
    exact J3 _ _ _ (lv_sub hl [0] rfl) hP hD hS
def mX5_takeAll_l31 (s8 : Int32 × Int32 × GS × GS) : Option ((Int32 × Int32 × GS × GS) ⊕ ((Int32 × Int32 × GS × GS) ⊕ (Int32 × GS × GS))) :=
  if (160 : Int32) ≤ s8.2.1 then
    some (.inr (.inl (s8.1, s8.2.1, s8.2.2.1, s8.2.2.2)))
  else
    Option.bind (mX5_nextToken s8.2.2.1) fun v10 =>
    if (v10.2 5) = 0 then
      some (.inr (.inr (s8.1, v10, s8.2.2.2)))
    else
      Option.bind (mX5_takeLine v10 s8.2.2.2) fun v12 =>
      if v12.1 = 0 then
        some (.inr (.inr (s8.1, v12.2.1, v12.2.2)))
      else
        some (.inl ((s8.1 + (1 : Int32)), (s8.2.1 + (1 : Int32)), v12.2.1, v12.2.2))

def mX5_takeAll (g : GS) (t : GS) : Option (Int32 × GS × GS) :=
  Option.bind (mX0_clear t) fun v1 =>
  Option.bind (whO (mX5_takeAll_l31) FU ((0 : Int32), (0 : Int32), (sI (sI (sI (sI g 3 (0 : Int32)) 4 (0 : Int32)) 7 (0 : Int32)) 9 (0 : Int32)), v1)) fun e14 => esc e14 fun t15 =>
  some (t15.1, t15.2.2.1, t15.2.2.2)
abbrev rmX5_takeAll : Room := { frames := 7, cells := 0, slots := 0, locals := 150 }
set_option maxHeartbeats 4000000 in
set_option maxRecDepth 100000 in
theorem k_X5_takeAll (aS aV aT : Nat → Nat) (l : Launch) (D : va_G) (ca : Nat → ClassId) (ga : Nat → Nat) (ta : Nat → Nat) (g : GS) (t : GS) (o : Int32 × GS × GS) (hm : mX5_takeAll g t = some o) : KIa aS aV aT l yX5_takeAll wsX5_takeAll rmX5_takeAll D ca [.ref (ga 0)] ((cR ca (ta 0) ga g) ++ (cH ca ta t)) ((cR ca (ta 0) ga o.2.1) ++ (cH ca ta o.2.2)) o.1 := by
  refine KIa.of (cc := cX5_takeAll) (n := 3) (plainFor_of_name (by decide)) rfl (Nat.le_of_ble_eq_true rfl) ?_
  intro p e s m below meth c A Z hx hb hml hts hown hA hK hP hD hS hAm hRS hret ls hl
  have hown : s.vm.findClass RX5 = some m.cls := hown
  have hl : lv_has ls 3 [(0, .ref (ga 0))] := hl
  have inX5 : ∀ w ∈ wsX50, w ∈ wsX5_takeAll := by decide +kernel
  have k1 := hts (.fieldLink RX5 12 "FriezeFolk$Reader" "told" "LFriezeFolk$Hall;") (by decide +kernel)
  have k2 := hts (.fieldLink RX5 26 "FriezeFolk$Reader" "fault" "I") (by decide +kernel)
  have k3 := hts (.fieldLink RX5 29 "FriezeFolk$Reader" "faultAt" "I") (by decide +kernel)
  have k4 := hts (.fieldLink RX5 38 "FriezeFolk$Reader" "stop" "I") (by decide +kernel)
  have k5 := hts (.fieldLink RX5 44 "FriezeFolk$Reader" "linesTold" "I") (by decide +kernel)
  have k6 := hts (.fieldLink RX5 32 "FriezeFolk$Reader" "token" "I") (by decide +kernel)
  unfold mX5_takeAll at hm
  refine lv_aload_n hx hb dX5_takeAll_0 rfl (lv_at hl 0 rfl) ?_
  refine xget (ref := "FriezeFolk$Reader") (C := RX5) (T := TX5) (N := 10) (ci := 5) (v := .ref (ta 0)) hx hb hts inX5 hown hK hP 0 rfl rfl 0 (by decide) k1 rfl rfl dX5_takeAll_1 ?_
  obtain ⟨v1, q1, h16⟩ := obn hm
  clear hm
  refine xVv (As := []) (ci := 0) ⟨hx, hb, hml, hown, hts⟩ (k_X0_clear l D ca ta t _ q1) (cwV 0 hts gX5_takeAll_X0_clear rfl rfl rfl (by decide +kernel) ⟨Nat.le_of_ble_eq_true rfl, Nat.le_of_ble_eq_true rfl⟩) hK hA hP hD hS dX5_takeAll_4 rfl hl.1 [2, 3, 4, 5, 6, 7] [0, 1] [0, 1, 2, 3, 4, 5, 6, 7] rfl rfl (wr := ((cR ca (ta 0) ga g))) rfl rfl (by decide) (wn := ((cR ca (ta 0) ga g) ++ (cH ca ta v1))) rfl rfl rfl rfl rfl rfl (Nat.le_of_ble_eq_true rfl) (fun H locs hP hD hS => ?_)
  refine lv_aload_n hx hb dX5_takeAll_7 rfl (lv_at hl 0 rfl) ?_
  refine lv_iconst (v := (0 : Int32)) hx hb dX5_takeAll_8 (by decide) ?_
  refine xput (ref := "FriezeFolk$Reader") (C := RX5) (T := TX5) (N := 10) (ci := 5) (v := .int (0 : Int32)) (ty := .int) hx hb hts inX5 tyX5 tyX5_ok nmX5 hown hK hP hD hS 0 rfl rfl 3 (by decide) k2 rfl rfl (by decide +kernel) rfl rfl (Nat.le_of_ble_eq_true rfl) dX5_takeAll_9 (wn := ((cR ca (ta 0) ga (sI g 3 (0 : Int32))) ++ (cH ca ta v1))) rfl (fun H locs hP hD hS => ?_)
  refine lv_aload_n hx hb dX5_takeAll_12 rfl (lv_at hl 0 rfl) ?_
  refine lv_iconst (v := (0 : Int32)) hx hb dX5_takeAll_13 (by decide) ?_
  refine xput (ref := "FriezeFolk$Reader") (C := RX5) (T := TX5) (N := 10) (ci := 5) (v := .int (0 : Int32)) (ty := .int) hx hb hts inX5 tyX5 tyX5_ok nmX5 hown hK hP hD hS 0 rfl rfl 4 (by decide) k3 rfl rfl (by decide +kernel) rfl rfl (Nat.le_of_ble_eq_true rfl) dX5_takeAll_14 (wn := ((cR ca (ta 0) ga (sI (sI g 3 (0 : Int32)) 4 (0 : Int32))) ++ (cH ca ta v1))) rfl (fun H locs hP hD hS => ?_)
  refine lv_aload_n hx hb dX5_takeAll_17 rfl (lv_at hl 0 rfl) ?_
  refine lv_iconst (v := (0 : Int32)) hx hb dX5_takeAll_18 (by decide) ?_
  refine xput (ref := "FriezeFolk$Reader") (C := RX5) (T := TX5) (N := 10) (ci := 5) (v := .int (0 : Int32)) (ty := .int) hx hb hts inX5 tyX5 tyX5_ok nmX5 hown hK hP hD hS 0 rfl rfl 7 (by decide) k4 rfl rfl (by decide +kernel) rfl rfl (Nat.le_of_ble_eq_true rfl) dX5_takeAll_19 (wn := ((cR ca (ta 0) ga (sI (sI (sI g 3 (0 : Int32)) 4 (0 : Int32)) 7 (0 : Int32))) ++ (cH ca ta v1))) rfl (fun H locs hP hD hS => ?_)
  refine lv_aload_n hx hb dX5_takeAll_22 rfl (lv_at hl 0 rfl) ?_
  refine lv_iconst (v := (0 : Int32)) hx hb dX5_takeAll_23 (by decide) ?_
  refine xput (ref := "FriezeFolk$Reader") (C := RX5) (T := TX5) (N := 10) (ci := 5) (v := .int (0 : Int32)) (ty := .int) hx hb hts inX5 tyX5 tyX5_ok nmX5 hown hK hP hD hS 0 rfl rfl 9 (by decide) k5 rfl rfl (by decide +kernel) rfl rfl (Nat.le_of_ble_eq_true rfl) dX5_takeAll_24 (wn := ((cR ca (ta 0) ga (sI (sI (sI (sI g 3 (0 : Int32)) 4 (0 : Int32)) 7 (0 : Int32)) 9 (0 : Int32))) ++ (cH ca ta v1))) rfl (fun H locs hP hD hS => ?_)
  refine lv_iconst (v := (0 : Int32)) hx hb dX5_takeAll_27 (by decide) ?_
  refine lv_istore_n (lv' := [(1, .int (0 : Int32)), (0, .ref (ga 0))]) hx hb dX5_takeAll_28 rfl hl (by decide) rfl (fun ls hl => ?_)
  refine lv_iconst (v := (0 : Int32)) hx hb dX5_takeAll_29 (by decide) ?_
  refine lv_istore_n (lv' := [(2, .int (0 : Int32)), (1, .int (0 : Int32)), (0, .ref (ga 0))]) hx hb dX5_takeAll_30 rfl hl (by decide) rfl (fun ls hl => ?_)
  obtain ⟨e14, w17, h18⟩ := obn h16
  clear h16
  have AF14 : ∀ t15, e14 = .inl t15 → ∀ (ls : Array Slot) (H : Heap) (locs : List Loc), lv_has ls 3 [(1, .int t15.1)] → va_P D vwCl ((cR ca (ta 0) ga t15.2.2.1) ++ (cH ca ta t15.2.2.2)) H → va_D A ((cR ca (ta 0) ga t15.2.2.1) ++ (cH ca ta t15.2.2.2)) → va_S A s.heap H locs → W p l e rmX5_takeAll s m ([.ref (ga 0)] : List Value).toArray below meth c H locs 0 0 Z (F0 m 67 ls []) := by
    intro t15 ht ls H locs hl hP hD hS
    subst ht
    replace h18 := (esc_l _ _).symm.trans h18
    refine lv_iload_n hx hb dX5_takeAll_67 rfl (lv_at hl 0 rfl) ?_
    obtain rfl := Option.some.inj h18
    exact hret _ _ _ _ (vp_nar_int _) hP hD hS dX5_takeAll_68
  refine whO_walk (I := fun s8 => ∀ (ls : Array Slot) (H : Heap) (locs : List Loc), lv_has ls 3 [(0, .ref (ga 0)), (1, .int s8.1), (2, .int s8.2.1)] → va_P D vwCl ((cR ca (ta 0) ga s8.2.2.1) ++ (cH ca ta s8.2.2.2)) H → va_D A ((cR ca (ta 0) ga s8.2.2.1) ++ (cH ca ta s8.2.2.2)) → va_S A s.heap H locs → W p l e rmX5_takeAll s m ([.ref (ga 0)] : List Value).toArray below meth c H locs 0 0 Z (F0 m 31 ls [])) ?_ _ _ w17 _ _ _ (lv_sub hl [2, 1, 0] rfl) hP hD hS
  clear w17
  intro s8 o14 h19 hi14 ho14 ls H locs hl hP hD hS
  unfold mX5_takeAll_l31 at h19
  refine lv_iload_n hx hb dX5_takeAll_31 rfl (lv_at hl 2 rfl) ?_
  refine lv_sipush (v := (160 : Int32)) hx hb dX5_takeAll_32 (by decide) ?_
  refine lv_icmp_ge (tgt := 67) hx hb dX5_takeAll_35 (by decide) (fun c9 => ?_) (fun c9 => ?_)
  · skip
    replace h19 := (if_pos c9).symm.trans h19
    have h20 := ho14 _ (Option.some.inj h19).symm
    subst h20
    exact AF14 _ rfl _ _ _ (lv_sub hl [1] rfl) hP hD hS
  · skip
    replace h19 := (if_neg c9).symm.trans h19
    refine lv_aload_n hx hb dX5_takeAll_38 rfl (lv_at hl 0 rfl) ?_
    obtain ⟨v10, q10, h21⟩ := obn h19
    clear h19
    refine xVv (As := []) (ci := 5) ⟨hx, hb, hml, hown, hts⟩ (k_X5_nextToken l D ca (ta 0) ga s8.2.2.1 _ q10) (cwV 0 hts gX5_takeAll_X5_nextToken rfl rfl rfl (by decide +kernel) ⟨Nat.le_of_ble_eq_true rfl, Nat.le_of_ble_eq_true rfl⟩) hK hA hP hD hS dX5_takeAll_39 rfl hl.1 [0, 1] [2, 3, 4, 5, 6, 7] [6, 7, 0, 1, 2, 3, 4, 5] rfl rfl (wr := ((cH ca ta s8.2.2.2))) rfl rfl (by decide) (wn := ((cR ca (ta 0) ga v10) ++ (cH ca ta s8.2.2.2))) rfl rfl rfl rfl rfl rfl (Nat.le_of_ble_eq_true rfl) (fun H locs hP hD hS => ?_)
    refine lv_aload_n hx hb dX5_takeAll_42 rfl (lv_at hl 0 rfl) ?_
    refine xget (ref := "FriezeFolk$Reader") (C := RX5) (T := TX5) (N := 10) (ci := 5) (v := .int (v10.2 5)) hx hb hts inX5 hown hK hP 0 rfl rfl 5 (by decide) k6 rfl rfl dX5_takeAll_43 ?_
    refine lv_if_eq (tgt := 56) hx hb dX5_takeAll_46 (by decide) (fun c11 => ?_) (fun c11 => ?_)
    · skip
      replace h21 := (if_pos c11).symm.trans h21
      refine lv_iload_n hx hb dX5_takeAll_56 rfl (lv_at hl 1 rfl) ?_
      have h22 := ho14 _ (Option.some.inj h21).symm
      subst h22
      replace h18 := (esc_r _ _).symm.trans h18
      obtain rfl := Option.some.inj h18
      exact hret _ _ _ _ (vp_nar_int _) hP hD hS dX5_takeAll_57
    · skip
      replace h21 := (if_neg c11).symm.trans h21
      refine lv_aload_n hx hb dX5_takeAll_49 rfl (lv_at hl 0 rfl) ?_
      obtain ⟨v12, q12, h23⟩ := obn h21
      clear h21
      refine xVia (As := []) ⟨hx, hb, hml, hown, hts⟩ (k_X5_takeLine aS aV aT l D ca ga ta v10 s8.2.2.2 _ q12) (cwV 0 hts gX5_takeAll_X5_takeLine rfl rfl rfl (by decide +kernel) ⟨Nat.le_of_ble_eq_true rfl, Nat.le_of_ble_eq_true rfl⟩) hK hA hP hD hS hAm hRS dX5_takeAll_50 rfl hl.1 [0, 1, 2, 3, 4, 5, 6, 7] [] [0, 1, 2, 3, 4, 5, 6, 7] rfl rfl (wr := []) rfl rfl (by decide) (wn := ((cR ca (ta 0) ga v12.2.1) ++ (cH ca ta v12.2.2))) rfl rfl (va_recv (ci := 5) (q0 := 0) hK hP rfl rfl) rfl (Nat.le_of_ble_eq_true rfl) (fun H locs hP hD hS => ?_)
      refine lv_if_ne (tgt := 58) hx hb dX5_takeAll_53 (by decide) (fun c13 => ?_) (fun c13 => ?_)
      · skip
        replace h23 := (if_neg c13).symm.trans h23
        refine lv_iinc (v := (s8.1 + (1 : Int32))) (lv' := [(1, .int (s8.1 + (1 : Int32))), (0, .ref (ga 0)), (2, .int s8.2.1)]) hx hb dX5_takeAll_58 hl (k := 1) rfl rfl (by decide) rfl (fun ls hl => ?_)
        refine lv_iinc (v := (s8.2.1 + (1 : Int32))) (lv' := [(2, .int (s8.2.1 + (1 : Int32))), (1, .int (s8.1 + (1 : Int32))), (0, .ref (ga 0))]) hx hb dX5_takeAll_61 hl (k := 2) rfl rfl (by decide) rfl (fun ls hl => ?_)
        refine lv_goto (tgt := 31) hx hb dX5_takeAll_64 (by decide) ?_
        exact hi14 _ (Option.some.inj h23).symm _ _ _ (lv_sub hl [2, 1, 0] rfl) hP hD hS
      · skip
        replace h23 := (if_pos c13).symm.trans h23
        refine lv_iload_n hx hb dX5_takeAll_56 rfl (lv_at hl 1 rfl) ?_
        have h24 := ho14 _ (Option.some.inj h23).symm
        subst h24
        replace h18 := (esc_r _ _).symm.trans h18
        obtain rfl := Option.some.inj h18
        exact hret _ _ _ _ (vp_nar_int _) hP hD hS dX5_takeAll_57

def mX7_text (h : GS) (rd : GS) (t : GS) (me : GS) (i0 : Int32) (i1 : Int32) : Option (Int32 × GS × GS × GS × GS × Int32 × Int32) :=
  Option.bind (mX5_takeAll rd t) fun v1 =>
  if ((sI v1.2.1 2 (0 : Int32)).2 3) = 0 then
    Option.bind (mX0_copy h v1.2.2) fun v3 =>
    Option.bind (mX7_loseImages ) fun v4 =>
    some (v1.1, v3, (sI v1.2.1 2 (0 : Int32)), v1.2.2, (sI me 2 (0 : Int32)), v4.1, v4.2)
  else
    some (((-10 : Int32) - ((sI v1.2.1 2 (0 : Int32)).2 4)), h, (sI v1.2.1 2 (0 : Int32)), v1.2.2, me, i0, i1)
abbrev rmX7_text : Room := { frames := 8, cells := 0, slots := 0, locals := 172 }
set_option maxHeartbeats 4000000 in
set_option maxRecDepth 100000 in
theorem k_X7_text (aS aV aT : Nat → Nat) (l : Launch) (D : va_G) (ca : Nat → ClassId) (ffa : Nat) (r1 r5 r6 r7 : Nat) (ha : Nat → Nat) (imsa : Nat) (ims : Nat → Option Nat) (rda : Nat → Nat) (ta : Nat → Nat) (mea : Nat → Nat) (i0h : Nat) (i0a : Nat) (i1h : Nat) (i1a : Nat) (ff : Int32) (h : GS) (rd : GS) (t : GS) (me : GS) (i0 : Int32) (i1 : Int32) (o : Int32 × GS × GS × GS × GS × Int32 × Int32) (hsel_i0 : ims 0 = some i0a) (hsel_i1 : ims 1 = some i1a) (hm : mX7_text h rd t me i0 i1 = some o) : KIa aS aV aT l yX7_text wsX7_text rmX7_text D ca [.ref ffa] ((cF ffa (ha 0) r1 imsa (rda 0) (mea 0) r5 r6 r7 ff) ++ (cH ca ha h) ++ (cAI ca imsa ims) ++ (cR ca (ta 0) rda rd) ++ (cH ca ta t) ++ (cM ca mea me) ++ (cIm i0h i0a i0) ++ (cIm i1h i1a i1)) ((cF ffa (ha 0) r1 imsa (rda 0) (mea 0) r5 r6 r7 ff) ++ (cH ca ha o.2.1) ++ (cAI ca imsa ims) ++ (cR ca (ta 0) rda o.2.2.1) ++ (cH ca ta o.2.2.2.1) ++ (cM ca mea o.2.2.2.2.1) ++ (cIm i0h i0a o.2.2.2.2.2.1) ++ (cIm i1h i1a o.2.2.2.2.2.2)) o.1 := by
  refine KIa.of (cc := cX7_text) (n := 2) (plainFor_of_name (by decide)) rfl (Nat.le_of_ble_eq_true rfl) ?_
  intro p e s m below meth c A Z hx hb hml hts hown hA hK hP hD hS hAm hRS hret ls hl
  have hown : s.vm.findClass RX7 = some m.cls := hown
  have hl : lv_has ls 2 [(0, .ref ffa)] := hl
  have inX3 : ∀ w ∈ wsX30, w ∈ wsX7_text := by decide +kernel
  have inX5 : ∀ w ∈ wsX50, w ∈ wsX7_text := by decide +kernel
  have inX7 : ∀ w ∈ wsX70, w ∈ wsX7_text := by decide +kernel
  have k1 := hts (.fieldLink RX7 29 "FriezeFolk" "reader" "LFriezeFolk$Reader;") (by decide +kernel)
  have k2 := hts (.fieldLink RX7 69 "FriezeFolk$Reader" "size" "I") (by decide +kernel)
  have k3 := hts (.fieldLink RX7 76 "FriezeFolk$Reader" "fault" "I") (by decide +kernel)
  have k4 := hts (.fieldLink RX7 79 "FriezeFolk$Reader" "faultAt" "I") (by decide +kernel)
  have k5 := hts (.fieldLink RX7 10 "FriezeFolk" "hall" "LFriezeFolk$Hall;") (by decide +kernel)
  have k6 := hts (.fieldLink RX7 82 "FriezeFolk$Reader" "told" "LFriezeFolk$Hall;") (by decide +kernel)
  have k7 := hts (.fieldLink RX7 36 "FriezeFolk" "memory" "LFriezeFolk$Memory;") (by decide +kernel)
  have k8 := hts (.fieldLink RX7 89 "FriezeFolk$Memory" "size" "I") (by decide +kernel)
  unfold mX7_text at hm
  refine lv_aload_n hx hb dX7_text_0 rfl (lv_at hl 0 rfl) ?_
  refine xget (ref := "FriezeFolk") (C := RX7) (T := TX7) (N := 9) (ci := 7) (v := .ref (rda 0)) hx hb hts inX7 hown hK hP 0 rfl rfl 3 (by decide) k1 rfl rfl dX7_text_1 ?_
  obtain ⟨v1, q1, h5⟩ := obn hm
  clear hm
  refine xVia (As := []) ⟨hx, hb, hml, hown, hts⟩ (k_X5_takeAll aS aV aT l D ca rda ta rd t _ q1) (cwV 0 hts gX7_text_X5_takeAll rfl rfl rfl (by decide +kernel) ⟨Nat.le_of_ble_eq_true rfl, Nat.le_of_ble_eq_true rfl⟩) hK hA hP hD hS hAm hRS dX7_text_4 rfl hl.1 [8, 9, 10, 11, 12, 13, 14, 15] [0, 1, 2, 3, 4, 5, 6, 7, 16, 17, 18, 19, 20] [0, 1, 2, 3, 4, 5, 6, 7, 13, 14, 15, 16, 17, 18, 19, 20, 8, 9, 10, 11, 12] rfl rfl (wr := ((cF ffa (ha 0) r1 imsa (rda 0) (mea 0) r5 r6 r7 ff) ++ (cH ca ha h) ++ (cAI ca imsa ims) ++ (cM ca mea me) ++ (cIm i0h i0a i0) ++ (cIm i1h i1a i1))) rfl rfl (by decide) (wn := ((cF ffa (ha 0) r1 imsa (rda 0) (mea 0) r5 r6 r7 ff) ++ (cH ca ha h) ++ (cAI ca imsa ims) ++ (cR ca (ta 0) rda v1.2.1) ++ (cH ca ta v1.2.2) ++ (cM ca mea me) ++ (cIm i0h i0a i0) ++ (cIm i1h i1a i1))) rfl rfl (va_recv (ci := 5) (q0 := 8) hK hP rfl rfl) rfl (Nat.le_of_ble_eq_true rfl) (fun H locs hP hD hS => ?_)
  refine lv_istore_n (lv' := [(1, .int v1.1), (0, .ref ffa)]) hx hb dX7_text_7 rfl hl (by decide) rfl (fun ls hl => ?_)
  refine lv_aload_n hx hb dX7_text_8 rfl (lv_at hl 1 rfl) ?_
  refine xget (ref := "FriezeFolk") (C := RX7) (T := TX7) (N := 9) (ci := 7) (v := .ref (rda 0)) hx hb hts inX7 hown hK hP 0 rfl rfl 3 (by decide) k1 rfl rfl dX7_text_9 ?_
  refine lv_iconst (v := (0 : Int32)) hx hb dX7_text_12 (by decide) ?_
  refine xput (ref := "FriezeFolk$Reader") (C := RX5) (T := TX5) (N := 10) (ci := 5) (v := .int (0 : Int32)) (ty := .int) hx hb hts inX5 tyX5 tyX5_ok nmX5 hown hK hP hD hS 8 rfl rfl 2 (by decide) k2 rfl rfl (by decide +kernel) rfl rfl (Nat.le_of_ble_eq_true rfl) dX7_text_13 (wn := ((cF ffa (ha 0) r1 imsa (rda 0) (mea 0) r5 r6 r7 ff) ++ (cH ca ha h) ++ (cAI ca imsa ims) ++ (cR ca (ta 0) rda (sI v1.2.1 2 (0 : Int32))) ++ (cH ca ta v1.2.2) ++ (cM ca mea me) ++ (cIm i0h i0a i0) ++ (cIm i1h i1a i1))) rfl (fun H locs hP hD hS => ?_)
  refine lv_aload_n hx hb dX7_text_16 rfl (lv_at hl 1 rfl) ?_
  refine xget (ref := "FriezeFolk") (C := RX7) (T := TX7) (N := 9) (ci := 7) (v := .ref (rda 0)) hx hb hts inX7 hown hK hP 0 rfl rfl 3 (by decide) k1 rfl rfl dX7_text_17 ?_
  refine xget (ref := "FriezeFolk$Reader") (C := RX5) (T := TX5) (N := 10) (ci := 5) (v := .int ((sI v1.2.1 2 (0 : Int32)).2 3)) hx hb hts inX5 hown hK hP 8 rfl rfl 3 (by decide) k3 rfl rfl dX7_text_20 ?_
  refine lv_if_eq (tgt := 37) hx hb dX7_text_23 (by decide) (fun c2 => ?_) (fun c2 => ?_)
  · skip
    replace h5 := (if_pos c2).symm.trans h5
    refine lv_aload_n hx hb dX7_text_37 rfl (lv_at hl 1 rfl) ?_
    refine xget (ref := "FriezeFolk") (C := RX7) (T := TX7) (N := 9) (ci := 7) (v := .ref (ha 0)) hx hb hts inX7 hown hK hP 0 rfl rfl 0 (by decide) k5 rfl rfl dX7_text_38 ?_
    refine lv_aload_n hx hb dX7_text_41 rfl (lv_at hl 1 rfl) ?_
    refine xget (ref := "FriezeFolk") (C := RX7) (T := TX7) (N := 9) (ci := 7) (v := .ref (rda 0)) hx hb hts inX7 hown hK hP 0 rfl rfl 3 (by decide) k1 rfl rfl dX7_text_42 ?_
    refine xget (ref := "FriezeFolk$Reader") (C := RX5) (T := TX5) (N := 10) (ci := 5) (v := .ref (ta 0)) hx hb hts inX5 hown hK hP 8 rfl rfl 0 (by decide) k6 rfl rfl dX7_text_45 ?_
    obtain ⟨v3, q3, h6⟩ := obn h5
    clear h5
    refine xVv (As := [.ref (ta 0)]) (ci := 0) ⟨hx, hb, hml, hown, hts⟩ (k_X0_copy l D ca ha ta h v1.2.2 _ q3) (cwV 1 hts gX7_text_X0_copy rfl rfl rfl (by decide +kernel) ⟨Nat.le_of_ble_eq_true rfl, Nat.le_of_ble_eq_true rfl⟩) hK hA hP hD hS dX7_text_48 rfl hl.1 [1, 2, 3, 4, 5, 6, 10, 11, 12, 13, 14, 15] [0, 7, 8, 9, 16, 17, 18, 19, 20] [0, 9, 10, 11, 12, 13, 14, 1, 2, 3, 15, 16, 17, 18, 19, 20, 4, 5, 6, 7, 8] rfl rfl (wr := ((cF ffa (ha 0) r1 imsa (rda 0) (mea 0) r5 r6 r7 ff) ++ (cAI ca imsa ims) ++ (cR ca (ta 0) rda (sI v1.2.1 2 (0 : Int32))) ++ (cM ca mea me) ++ (cIm i0h i0a i0) ++ (cIm i1h i1a i1))) rfl rfl (by decide) (wn := ((cF ffa (ha 0) r1 imsa (rda 0) (mea 0) r5 r6 r7 ff) ++ (cH ca ha v3) ++ (cAI ca imsa ims) ++ (cR ca (ta 0) rda (sI v1.2.1 2 (0 : Int32))) ++ (cH ca ta v1.2.2) ++ (cM ca mea me) ++ (cIm i0h i0a i0) ++ (cIm i1h i1a i1))) rfl rfl rfl rfl rfl rfl (Nat.le_of_ble_eq_true rfl) (fun H locs hP hD hS => ?_)
    refine lv_aload_n hx hb dX7_text_51 rfl (lv_at hl 1 rfl) ?_
    refine xget (ref := "FriezeFolk") (C := RX7) (T := TX7) (N := 9) (ci := 7) (v := .ref (mea 0)) hx hb hts inX7 hown hK hP 0 rfl rfl 4 (by decide) k7 rfl rfl dX7_text_52 ?_
    refine lv_iconst (v := (0 : Int32)) hx hb dX7_text_55 (by decide) ?_
    refine xput (ref := "FriezeFolk$Memory") (C := RX3) (T := TX3) (N := 3) (ci := 3) (v := .int (0 : Int32)) (ty := .int) hx hb hts inX3 tyX3 tyX3_ok nmX3 hown hK hP hD hS 16 rfl rfl 2 (by decide) k8 rfl rfl (by decide +kernel) rfl rfl (Nat.le_of_ble_eq_true rfl) dX7_text_56 (wn := ((cF ffa (ha 0) r1 imsa (rda 0) (mea 0) r5 r6 r7 ff) ++ (cH ca ha v3) ++ (cAI ca imsa ims) ++ (cR ca (ta 0) rda (sI v1.2.1 2 (0 : Int32))) ++ (cH ca ta v1.2.2) ++ (cM ca mea (sI me 2 (0 : Int32))) ++ (cIm i0h i0a i0) ++ (cIm i1h i1a i1))) rfl (fun H locs hP hD hS => ?_)
    refine lv_aload_n hx hb dX7_text_59 rfl (lv_at hl 1 rfl) ?_
    obtain ⟨v4, q4, h7⟩ := obn h6
    clear h6
    refine xVv (As := []) (ci := 7) ⟨hx, hb, hml, hown, hts⟩ (k_X7_loseImages l D ca ffa (ha 0) r1 (rda 0) (mea 0) r5 r6 r7 imsa ims i0h i0a i1h i1a ff i0 i1 _ hsel_i0 hsel_i1 q4) (cwV 0 hts gX7_text_X7_loseImages rfl rfl rfl (by decide +kernel) ⟨Nat.le_of_ble_eq_true rfl, Nat.le_of_ble_eq_true rfl⟩) hK hA hP hD hS dX7_text_60 rfl hl.1 [0, 7, 19, 20] [1, 2, 3, 4, 5, 6, 8, 9, 10, 11, 12, 13, 14, 15, 16, 17, 18] [17, 0, 1, 2, 3, 4, 5, 18, 6, 7, 8, 9, 10, 11, 12, 13, 14, 15, 16, 19, 20] rfl rfl (wr := ((cH ca ha v3) ++ (cR ca (ta 0) rda (sI v1.2.1 2 (0 : Int32))) ++ (cH ca ta v1.2.2) ++ (cM ca mea (sI me 2 (0 : Int32))))) rfl rfl (by decide) (wn := ((cF ffa (ha 0) r1 imsa (rda 0) (mea 0) r5 r6 r7 ff) ++ (cH ca ha v3) ++ (cAI ca imsa ims) ++ (cR ca (ta 0) rda (sI v1.2.1 2 (0 : Int32))) ++ (cH ca ta v1.2.2) ++ (cM ca mea (sI me 2 (0 : Int32))) ++ (cIm i0h i0a v4.1) ++ (cIm i1h i1a v4.2))) rfl rfl rfl rfl rfl rfl (Nat.le_of_ble_eq_true rfl) (fun H locs hP hD hS => ?_)
    refine lv_iload_n hx hb dX7_text_63 rfl (lv_at hl 0 rfl) ?_
    obtain rfl := Option.some.inj h7
    exact hret _ _ _ _ (vp_nar_int _) hP hD hS dX7_text_64
  · skip
    replace h5 := (if_neg c2).symm.trans h5
    refine lv_bipush (v := (-10 : Int32)) hx hb dX7_text_26 (by decide) ?_
    refine lv_aload_n hx hb dX7_text_28 rfl (lv_at hl 1 rfl) ?_
    refine xget (ref := "FriezeFolk") (C := RX7) (T := TX7) (N := 9) (ci := 7) (v := .ref (rda 0)) hx hb hts inX7 hown hK hP 0 rfl rfl 3 (by decide) k1 rfl rfl dX7_text_29 ?_
    refine xget (ref := "FriezeFolk$Reader") (C := RX5) (T := TX5) (N := 10) (ci := 5) (v := .int ((sI v1.2.1 2 (0 : Int32)).2 4)) hx hb hts inX5 hown hK hP 8 rfl rfl 4 (by decide) k4 rfl rfl dX7_text_32 ?_
    refine lv_isub hx hb dX7_text_35 ?_
    obtain rfl := Option.some.inj h5
    exact hret _ _ _ _ (vp_nar_int _) hP hD hS dX7_text_36
