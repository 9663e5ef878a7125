def mX8_yearsGo_l10 (n : Int32) (s5 : Int32 × GS) : Option ((Int32 × GS) ⊕ (Int32 × GS)) :=
  if n ≤ s5.1 then
    some (.inr (s5.1, s5.2))
  else
    Option.bind (mX8_yearOn s5.2 (160 : Int32)) fun v7 =>
    some (.inl ((s5.1 + (1 : Int32)), v7))

def mX8_yearsGo (g : GS) (j : Int32) (n : Int32) : Option (GS) :=
  Option.bind (mX8_copies g j (160 : Int32)) fun v1 =>
  Option.bind (whO (mX8_yearsGo_l10 n) FU ((0 : Int32), v1)) fun e8 =>
  some e8.2
abbrev rmX8_yearsGo : Room := { frames := 2, cells := 0, slots := 0, locals := 44 }
set_option maxHeartbeats 4000000 in
set_option maxRecDepth 100000 in
theorem k_X8_yearsGo (l : Launch) (D : va_G) (ca : Nat → ClassId) (ga : Nat → Nat) (g : GS) (j : Int32) (n : Int32) (o : GS) (hm : mX8_yearsGo g j n = some o) : KV l yX8_yearsGo wsX8_yearsGo rmX8_yearsGo D ca [.ref (ga 0), .int j, .int n] (cO ca ga g) (cO ca ga o) := by
  refine KV.of (cc := cX8_yearsGo) (n := 4) (plainFor_of_name (by decide)) rfl (Nat.le_of_ble_eq_true rfl) ?_
  intro p e s m below meth c A Z hx hb hml hts hown hA hK hP hD hS hret ls hl
  have hown : s.vm.findClass RX8 = some m.cls := hown
  have hl : lv_has ls 4 [(0, .ref (ga 0)), (1, .int j), (2, .int n)] := hl
  unfold mX8_yearsGo at hm
  refine lv_aload_n hx hb dX8_yearsGo_0 rfl (lv_at hl 0 rfl) ?_
  refine lv_iload_n hx hb dX8_yearsGo_1 rfl (lv_at hl 1 rfl) ?_
  refine lv_sipush (v := (160 : Int32)) hx hb dX8_yearsGo_2 (by decide) ?_
  obtain ⟨v1, q1, h9⟩ := obn hm
  clear hm
  refine xVv (As := [.int j, .int (160 : Int32)]) (ci := 8) ⟨hx, hb, hml, hown, hts⟩ (k_X8_copies l D ca ga g j (160 : Int32) _ q1) (cwV 2 hts gX8_yearsGo_X8_copies rfl rfl rfl (by decide +kernel) ⟨Nat.le_of_ble_eq_true rfl, Nat.le_of_ble_eq_true rfl⟩) hK hA hP hD hS dX8_yearsGo_5 rfl hl.1 [0, 1, 2, 3, 4, 5, 6, 7, 8, 9, 10, 11, 12, 13] [] [0, 1, 2, 3, 4, 5, 6, 7, 8, 9, 10, 11, 12, 13] rfl rfl (wr := []) rfl rfl (by decide) (wn := (cO ca ga v1)) rfl rfl rfl rfl rfl rfl (Nat.le_of_ble_eq_true rfl) (fun H locs hP hD hS => ?_)
  refine lv_iconst (v := (0 : Int32)) hx hb dX8_yearsGo_8 (by decide) ?_
  refine lv_istore_n (lv' := [(3, .int (0 : Int32)), (0, .ref (ga 0)), (1, .int j), (2, .int n)]) hx hb dX8_yearsGo_9 rfl hl (by decide) rfl (fun ls hl => ?_)
  obtain ⟨e8, w10, h11⟩ := obn h9
  clear h9
  have AF8 : ∀ (ls : Array Slot) (H : Heap) (locs : List Loc), lv_has ls 4 [] → va_P D vwCl (cO ca ga e8.2) H → va_D A (cO ca ga e8.2) → va_S A s.heap H locs → W p l e rmX8_yearsGo s m ([.ref (ga 0), .int j, .int n] : List Value).toArray below meth c H locs 0 0 Z (F0 m 28 ls []) := by
    intro ls H locs hl hP hD hS
    obtain rfl := Option.some.inj h11
    exact hret _ _ _ _ hP hD hS dX8_yearsGo_28
  refine whO_walk (I := fun s5 => ∀ (ls : Array Slot) (H : Heap) (locs : List Loc), lv_has ls 4 [(0, .ref (ga 0)), (2, .int n), (3, .int s5.1)] → va_P D vwCl (cO ca ga s5.2) H → va_D A (cO ca ga s5.2) → va_S A s.heap H locs → W p l e rmX8_yearsGo s m ([.ref (ga 0), .int j, .int n] : List Value).toArray below meth c H locs 0 0 Z (F0 m 10 ls [])) ?_ _ _ w10 _ _ _ (lv_sub hl [1, 3, 0] rfl) hP hD hS
  clear w10
  intro s5 o8 h12 hi8 ho8 ls H locs hl hP hD hS
  unfold mX8_yearsGo_l10 at h12
  refine lv_iload_n hx hb dX8_yearsGo_10 rfl (lv_at hl 2 rfl) ?_
  refine lv_iload_n hx hb dX8_yearsGo_11 rfl (lv_at hl 1 rfl) ?_
  refine lv_icmp_ge (tgt := 28) hx hb dX8_yearsGo_12 (by decide) (fun c6 => ?_) (fun c6 => ?_)
  · skip
    replace h12 := (if_pos c6).symm.trans h12
    have h13 := ho8 _ (Option.some.inj h12).symm
    subst h13
    exact AF8 _ _ _ (lv_sub hl [] rfl) hP hD hS
  · skip
    replace h12 := (if_neg c6).symm.trans h12
    refine lv_aload_n hx hb dX8_yearsGo_15 rfl (lv_at hl 0 rfl) ?_
    refine lv_sipush (v := (160 : Int32)) hx hb dX8_yearsGo_16 (by decide) ?_
    obtain ⟨v7, q7, h14⟩ := obn h12
    clear h12
    refine xVv (As := [.int (160 : Int32)]) (ci := 8) ⟨hx, hb, hml, hown, hts⟩ (k_X8_yearOn l D ca ga s5.2 (160 : Int32) _ q7) (cwV 1 hts gX8_yearsGo_X8_yearOn rfl rfl rfl (by decide +kernel) ⟨Nat.le_of_ble_eq_true rfl, Nat.le_of_ble_eq_true rfl⟩) hK hA hP hD hS dX8_yearsGo_19 rfl hl.1 [0, 1, 2, 3, 4, 5, 6, 7, 8, 9, 10, 11, 12, 13] [] [0, 1, 2, 3, 4, 5, 6, 7, 8, 9, 10, 11, 12, 13] rfl rfl (wr := []) rfl rfl (by decide) (wn := (cO ca ga v7)) rfl rfl rfl rfl rfl rfl (Nat.le_of_ble_eq_true rfl) (fun H locs hP hD hS => ?_)
    refine lv_iinc (v := (s5.1 + (1 : Int32))) (lv' := [(3, .int (s5.1 + (1 : Int32))), (0, .ref (ga 0)), (2, .int n)]) hx hb dX8_yearsGo_22 hl (k := 2) rfl rfl (by decide) rfl (fun ls hl => ?_)
    refine lv_goto (tgt := 10) hx hb dX8_yearsGo_25 (by decide) ?_
    exact hi8 _ (Option.some.inj h14).symm _ _ _ (lv_sub hl [1, 2, 0] rfl) hP hD hS
def mX8_runs_l40 (v5 : GS) (s6 : Int32 × Int32 × Int32) : Option ((Int32 × Int32 × Int32) ⊕ (Int32 × Int32 × Int32)) :=
  Option.bind (mX8_longOn v5 (160 : Int32)) fun v7 =>
  if v7 ≤ s6.2.2 then
    some (.inr (s6.1, s6.2.1, s6.2.2))
  else
    Option.bind (mX8_frankOn v5 (160 : Int32) s6.2.2) fun v9 =>
    Option.bind (
      if v9 = 0 then
        some ((1 : Int32) <<< (s6.2.2 &&& 31))
      else
        some (0 : Int32)) fun (v11 : Int32) =>
    Option.bind (mX8_frankOn v5 (160 : Int32) s6.2.2) fun v12 =>
    Option.bind (mX8_frankOn v5 (160 : Int32) s6.2.1) fun v13 =>
    Option.bind (
      if v12 ≤ v13 then
        some s6.2.1
      else
        some s6.2.2) fun (v15 : Int32) =>
    some (.inl ((s6.1 ||| v11), v15, (s6.2.2 + (1 : Int32))))

def mX8_runs (g : GS) (n : Int32) (w : Int32) : Option (Int32 × GS) :=
  Option.bind (mX8_in n.toInt64 (0 : Int64) (60 : Int64)) fun v1 =>
  if v1 = 0 then
    some ((-1 : Int32), g)
  else
    Option.bind (mX8_in w.toInt64 (0 : Int64) (3 : Int64)) fun v3 =>
    if v3 = 0 then
      some ((-1 : Int32), g)
    else
      Option.bind (mX8_yearsGo g (0 : Int32) n) fun v5 =>
      Option.bind (whO (mX8_runs_l40 v5) FU ((0 : Int32), (0 : Int32), (0 : Int32))) fun e16 =>
      if w = 0 then
        Option.bind (mX8_frankOfAll v5 (160 : Int32)) fun v21 =>
        some (v21, v5)
      else
        if w = (1 : Int32) then
          some (e16.1, v5)
        else
          if w = (2 : Int32) then
            some (e16.2.1, v5)
          else
            Option.bind (mX8_frankOn v5 (160 : Int32) e16.2.1) fun v20 =>
            some (v20, v5)
abbrev rmX8_runs : Room := { frames := 3, cells := 0, slots := 0, locals := 73 }
set_option maxHeartbeats 4000000 in
set_option maxRecDepth 100000 in
theorem k_X8_runs (l : Launch) (D : va_G) (ca : Nat → ClassId) (ga : Nat → Nat) (g : GS) (n : Int32) (w : Int32) (o : Int32 × GS) (hm : mX8_runs g n w = some o) : KI l yX8_runs wsX8_runs rmX8_runs D ca [.ref (ga 0), .int n, .int w] (cO ca ga g) (cO ca ga o.2) o.1 := by
  refine KI.of (cc := cX8_runs) (n := 6) (plainFor_of_name (by decide)) rfl (Nat.le_of_ble_eq_true rfl) ?_
  intro p e s m below meth c A Z hx hb hml hts hown hA hK hP hD hS hret ls hl
  have hown : s.vm.findClass RX8 = some m.cls := hown
  have hl : lv_has ls 6 [(0, .ref (ga 0)), (1, .int n), (2, .int w)] := hl
  have k1 := hts (.constantLong RX8 174 (60 : Int64)) (by decide +kernel)
  have k2 := hts (.constantLong RX8 138 (3 : Int64)) (by decide +kernel)
  unfold mX8_runs at hm
  refine lv_iload_n hx hb dX8_runs_0 rfl (lv_at hl 1 rfl) ?_
  refine lv_i2l (v := n.toInt64) hx hb dX8_runs_1 rfl ?_
  refine lv_lconst (v := (0 : Int64)) hx hb dX8_runs_2 (by decide) ?_
  refine lv_ldc2 hx hb hown k1 dX8_runs_3 ?_
  obtain ⟨v1, q1, h22⟩ := obn hm
  clear hm
  refine xSi (As := [.long n.toInt64, .long (0 : Int64), .long (60 : Int64)]) ⟨hx, hb, hml, hown, hts⟩ (k_X8_in l D ca  n.toInt64 (0 : Int64) (60 : Int64) _ q1) (va_cwS 3 hts gX8_runs_X8_in rfl rfl rfl (by decide +kernel) ⟨Nat.le_of_ble_eq_true rfl, Nat.le_of_ble_eq_true rfl⟩) hK hA hP hD hS dX8_runs_6 rfl hl.1 [] [0, 1, 2, 3, 4, 5, 6, 7, 8, 9, 10, 11, 12, 13] [0, 1, 2, 3, 4, 5, 6, 7, 8, 9, 10, 11, 12, 13] rfl rfl (wr := ((cO ca ga g))) rfl rfl (by decide) (wn := (cO ca ga g)) rfl rfl rfl (Nat.le_of_ble_eq_true rfl) (fun H locs hP hD hS => ?_)
  refine lv_if_eq (tgt := 24) hx hb dX8_runs_9 (by decide) (fun c2 => ?_) (fun c2 => ?_)
  · skip
    replace h22 := (if_pos c2).symm.trans h22
    refine lv_iconst (v := (-1 : Int32)) hx hb dX8_runs_24 (by decide) ?_
    obtain rfl := Option.some.inj h22
    exact hret _ _ _ _ (vp_nar_int _) hP hD hS dX8_runs_25
  · skip
    replace h22 := (if_neg c2).symm.trans h22
    refine lv_iload_n hx hb dX8_runs_12 rfl (lv_at hl 2 rfl) ?_
    refine lv_i2l (v := w.toInt64) hx hb dX8_runs_13 rfl ?_
    refine lv_lconst (v := (0 : Int64)) hx hb dX8_runs_14 (by decide) ?_
    refine lv_ldc2 hx hb hown k2 dX8_runs_15 ?_
    obtain ⟨v3, q3, h23⟩ := obn h22
    clear h22
    refine xSi (As := [.long w.toInt64, .long (0 : Int64), .long (3 : Int64)]) ⟨hx, hb, hml, hown, hts⟩ (k_X8_in l D ca  w.toInt64 (0 : Int64) (3 : Int64) _ q3) (va_cwS 3 hts gX8_runs_X8_in rfl rfl rfl (by decide +kernel) ⟨Nat.le_of_ble_eq_true rfl, Nat.le_of_ble_eq_true rfl⟩) hK hA hP hD hS dX8_runs_18 rfl hl.1 [] [0, 1, 2, 3, 4, 5, 6, 7, 8, 9, 10, 11, 12, 13] [0, 1, 2, 3, 4, 5, 6, 7, 8, 9, 10, 11, 12, 13] rfl rfl (wr := ((cO ca ga g))) rfl rfl (by decide) (wn := (cO ca ga g)) rfl rfl rfl (Nat.le_of_ble_eq_true rfl) (fun H locs hP hD hS => ?_)
    refine lv_if_ne (tgt := 26) hx hb dX8_runs_21 (by decide) (fun c4 => ?_) (fun c4 => ?_)
    · skip
      replace h23 := (if_neg c4).symm.trans h23
      refine lv_aload_n hx hb dX8_runs_26 rfl (lv_at hl 0 rfl) ?_
      refine lv_iconst (v := (0 : Int32)) hx hb dX8_runs_27 (by decide) ?_
      refine lv_iload_n hx hb dX8_runs_28 rfl (lv_at hl 1 rfl) ?_
      obtain ⟨v5, q5, h24⟩ := obn h23
      clear h23
      refine xVv (As := [.int (0 : Int32), .int n]) (ci := 8) ⟨hx, hb, hml, hown, hts⟩ (k_X8_yearsGo l D ca ga g (0 : Int32) n _ q5) (cwV 2 hts gX8_runs_X8_yearsGo rfl rfl rfl (by decide +kernel) ⟨Nat.le_of_ble_eq_true rfl, Nat.le_of_ble_eq_true rfl⟩) hK hA hP hD hS dX8_runs_29 rfl hl.1 [0, 1, 2, 3, 4, 5, 6, 7, 8, 9, 10, 11, 12, 13] [] [0, 1, 2, 3, 4, 5, 6, 7, 8, 9, 10, 11, 12, 13] rfl rfl (wr := []) rfl rfl (by decide) (wn := (cO ca ga v5)) rfl rfl rfl rfl rfl rfl (Nat.le_of_ble_eq_true rfl) (fun H locs hP hD hS => ?_)
      refine lv_iconst (v := (0 : Int32)) hx hb dX8_runs_32 (by decide) ?_
      refine lv_istore_n (lv' := [(3, .int (0 : Int32)), (0, .ref (ga 0)), (1, .int n), (2, .int w)]) hx hb dX8_runs_33 rfl hl (by decide) rfl (fun ls hl => ?_)
      refine lv_iconst (v := (0 : Int32)) hx hb dX8_runs_34 (by decide) ?_
      refine lv_istore (lv' := [(4, .int (0 : Int32)), (3, .int (0 : Int32)), (0, .ref (ga 0)), (1, .int n), (2, .int w)]) hx hb dX8_runs_35 hl (by decide) rfl (fun ls hl => ?_)
      refine lv_iconst (v := (0 : Int32)) hx hb dX8_runs_37 (by decide) ?_
      refine lv_istore (lv' := [(5, .int (0 : Int32)), (4, .int (0 : Int32)), (3, .int (0 : Int32)), (0, .ref (ga 0)), (1, .int n), (2, .int w)]) hx hb dX8_runs_38 hl (by decide) rfl (fun ls hl => ?_)
      obtain ⟨e16, w25, h26⟩ := obn h24
      clear h24
      have AF16 : ∀ (ls : Array Slot) (H : Heap) (locs : List Loc), lv_has ls 6 [(0, .ref (ga 0)), (2, .int w), (3, .int e16.1), (4, .int e16.2.1)] → va_P D vwCl (cO ca ga v5) H → va_D A (cO ca ga v5) → va_S A s.heap H locs → W p l e rmX8_runs s m ([.ref (ga 0), .int n, .int w] : List Value).toArray below meth c H locs 0 0 Z (F0 m 111 ls []) := by
        intro ls H locs hl hP hD hS
        refine lv_iload_n hx hb dX8_runs_111 rfl (lv_at hl 1 rfl) ?_
        refine lv_if_ne (tgt := 125) hx hb dX8_runs_112 (by decide) (fun c17 => ?_) (fun c17 => ?_)
        · skip
          replace h26 := (if_neg c17).symm.trans h26
          refine lv_iload_n hx hb dX8_runs_125 rfl (lv_at hl 1 rfl) ?_
          refine lv_iconst (v := (1 : Int32)) hx hb dX8_runs_126 (by decide) ?_
          refine lv_icmp_ne (tgt := 134) hx hb dX8_runs_127 (by decide) (fun c18 => ?_) (fun c18 => ?_)
          · skip
            replace h26 := (if_neg c18).symm.trans h26
            refine lv_iload_n hx hb dX8_runs_134 rfl (lv_at hl 1 rfl) ?_
            refine lv_iconst (v := (2 : Int32)) hx hb dX8_runs_135 (by decide) ?_
            refine lv_icmp_ne (tgt := 144) hx hb dX8_runs_136 (by decide) (fun c19 => ?_) (fun c19 => ?_)
            · skip
              replace h26 := (if_neg c19).symm.trans h26
              refine lv_aload_n hx hb dX8_runs_144 rfl (lv_at hl 0 rfl) ?_
              refine lv_sipush (v := (160 : Int32)) hx hb dX8_runs_145 (by decide) ?_
              refine lv_iload hx hb dX8_runs_148 (lv_at hl 3 rfl) ?_
              obtain ⟨v20, q20, h27⟩ := obn h26
              clear h26
              refine xVi (As := [.int (160 : Int32), .int e16.2.1]) (ci := 8) ⟨hx, hb, hml, hown, hts⟩ (k_X8_frankOn l D ca ga v5 (160 : Int32) e16.2.1 _ q20) (cwV 2 hts gX8_runs_X8_frankOn rfl rfl rfl (by decide +kernel) ⟨Nat.le_of_ble_eq_true rfl, Nat.le_of_ble_eq_true rfl⟩) hK hA hP hD hS dX8_runs_150 rfl hl.1 [0, 1, 2, 3, 4, 5, 6, 7, 8, 9, 10, 11, 12, 13] [] [0, 1, 2, 3, 4, 5, 6, 7, 8, 9, 10, 11, 12, 13] rfl rfl (wr := []) rfl rfl (by decide) (wn := (cO ca ga v5)) rfl rfl rfl rfl rfl rfl (Nat.le_of_ble_eq_true rfl) (fun H locs hP hD hS => ?_)
              obtain rfl := Option.some.inj h27
              exact hret _ _ _ _ (vp_nar_int _) hP hD hS dX8_runs_153
            · skip
              replace h26 := (if_pos c19).symm.trans h26
              refine lv_iload hx hb dX8_runs_139 (lv_at hl 3 rfl) ?_
              refine lv_goto (tgt := 153) hx hb dX8_runs_141 (by decide) ?_
              obtain rfl := Option.some.inj h26
              exact hret _ _ _ _ (vp_nar_int _) hP hD hS dX8_runs_153
          · skip
            replace h26 := (if_pos c18).symm.trans h26
            refine lv_iload_n hx hb dX8_runs_130 rfl (lv_at hl 2 rfl) ?_
            refine lv_goto (tgt := 153) hx hb dX8_runs_131 (by decide) ?_
            obtain rfl := Option.some.inj h26
            exact hret _ _ _ _ (vp_nar_int _) hP hD hS dX8_runs_153
        · skip
          replace h26 := (if_pos c17).symm.trans h26
          refine lv_aload_n hx hb dX8_runs_115 rfl (lv_at hl 0 rfl) ?_
          refine lv_sipush (v := (160 : Int32)) hx hb dX8_runs_116 (by decide) ?_
          obtain ⟨v21, q21, h28⟩ := obn h26
          clear h26
          refine xVi (As := [.int (160 : Int32)]) (ci := 8) ⟨hx, hb, hml, hown, hts⟩ (k_X8_frankOfAll l D ca ga v5 (160 : Int32) _ q21) (cwV 1 hts gX8_runs_X8_frankOfAll rfl rfl rfl (by decide +kernel) ⟨Nat.le_of_ble_eq_true rfl, Nat.le_of_ble_eq_true rfl⟩) hK hA hP hD hS dX8_runs_119 rfl hl.1 [0, 1, 2, 3, 4, 5, 6, 7, 8, 9, 10, 11, 12, 13] [] [0, 1, 2, 3, 4, 5, 6, 7, 8, 9, 10, 11, 12, 13] rfl rfl (wr := []) rfl rfl (by decide) (wn := (cO ca ga v5)) rfl rfl rfl rfl rfl rfl (Nat.le_of_ble_eq_true rfl) (fun H locs hP hD hS => ?_)
          refine lv_goto (tgt := 153) hx hb dX8_runs_122 (by decide) ?_
          obtain rfl := Option.some.inj h28
          exact hret _ _ _ _ (vp_nar_int _) hP hD hS dX8_runs_153
      refine whO_walk (I := fun s6 => ∀ (ls : Array Slot) (H : Heap) (locs : List Loc), lv_has ls 6 [(0, .ref (ga 0)), (2, .int w), (3, .int s6.1), (4, .int s6.2.1), (5, .int s6.2.2)] → va_P D vwCl (cO ca ga v5) H → va_D A (cO ca ga v5) → va_S A s.heap H locs → W p l e rmX8_runs s m ([.ref (ga 0), .int n, .int w] : List Value).toArray below meth c H locs 0 0 Z (F0 m 40 ls [])) ?_ _ _ w25 _ _ _ (lv_sub hl [3, 5, 2, 1, 0] rfl) hP hD hS
      clear w25
      intro s6 o16 h29 hi16 ho16 ls H locs hl hP hD hS
      unfold mX8_runs_l40 at h29
      refine lv_iload hx hb dX8_runs_40 (lv_at hl 4 rfl) ?_
      refine lv_aload_n hx hb dX8_runs_42 rfl (lv_at hl 0 rfl) ?_
      refine lv_sipush (v := (160 : Int32)) hx hb dX8_runs_43 (by decide) ?_
      obtain ⟨v7, q7, h30⟩ := obn h29
      clear h29
      refine xVi (As := [.int (160 : Int32)]) (ci := 8) ⟨hx, hb, hml, hown, hts⟩ (k_X8_longOn l D ca ga v5 (160 : Int32) _ q7) (cwV 1 hts gX8_runs_X8_longOn rfl rfl rfl (by decide +kernel) ⟨Nat.le_of_ble_eq_true rfl, Nat.le_of_ble_eq_true rfl⟩) hK hA hP hD hS dX8_runs_46 rfl hl.1 [0, 1, 2, 3, 4, 5, 6, 7, 8, 9, 10, 11, 12, 13] [] [0, 1, 2, 3, 4, 5, 6, 7, 8, 9, 10, 11, 12, 13] rfl rfl (wr := []) rfl rfl (by decide) (wn := (cO ca ga v5)) rfl rfl rfl rfl rfl rfl (Nat.le_of_ble_eq_true rfl) (fun H locs hP hD hS => ?_)
      refine lv_icmp_ge (tgt := 111) hx hb dX8_runs_49 (by decide) (fun c8 => ?_) (fun c8 => ?_)
      · skip
        replace h30 := (if_pos c8).symm.trans h30
        have h31 := ho16 _ (Option.some.inj h30).symm
        subst h31
        exact AF16 _ _ _ (lv_sub hl [0, 1, 2, 3] rfl) hP hD hS
      · skip
        replace h30 := (if_neg c8).symm.trans h30
        refine lv_iload_n hx hb dX8_runs_52 rfl (lv_at hl 2 rfl) ?_
        refine lv_aload_n hx hb dX8_runs_53 rfl (lv_at hl 0 rfl) ?_
        refine lv_sipush (v := (160 : Int32)) hx hb dX8_runs_54 (by decide) ?_
        refine lv_iload hx hb dX8_runs_57 (lv_at hl 4 rfl) ?_
        obtain ⟨v9, q9, h32⟩ := obn h30
        clear h30
        refine xVi (As := [.int (160 : Int32), .int s6.2.2]) (ci := 8) ⟨hx, hb, hml, hown, hts⟩ (k_X8_frankOn l D ca ga v5 (160 : Int32) s6.2.2 _ q9) (cwV 2 hts gX8_runs_X8_frankOn rfl rfl rfl (by decide +kernel) ⟨Nat.le_of_ble_eq_true rfl, Nat.le_of_ble_eq_true rfl⟩) hK hA hP hD hS dX8_runs_59 rfl hl.1 [0, 1, 2, 3, 4, 5, 6, 7, 8, 9, 10, 11, 12, 13] [] [0, 1, 2, 3, 4, 5, 6, 7, 8, 9, 10, 11, 12, 13] rfl rfl (wr := []) rfl rfl (by decide) (wn := (cO ca ga v5)) rfl rfl rfl rfl rfl rfl (Nat.le_of_ble_eq_true rfl) (fun H locs hP hD hS => ?_)
        obtain ⟨v11, q33, h34⟩ := obn h32
        clear h32
        have J11 : ∀ (ls : Array Slot) (H : Heap) (locs : List Loc), lv_has ls 6 [(0, .ref (ga 0)), (2, .int w), (4, .int s6.2.1), (5, .int s6.2.2)] → va_P D vwCl (cO ca ga v5) H → va_D A (cO ca ga v5) → va_S A s.heap H locs → W p l e rmX8_runs s m ([.ref (ga 0), .int n, .int w] : List Value).toArray below meth c H locs 0 0 Z (F0 m 73 ls [.int v11, .int s6.1]) := by
          intro ls H locs hl hP hD hS
          refine lv_ior hx hb dX8_runs_73 ?_
          refine lv_istore_n (lv' := [(3, .int (s6.1 ||| v11)), (0, .ref (ga 0)), (2, .int w), (4, .int s6.2.1), (5, .int s6.2.2)]) hx hb dX8_runs_74 rfl hl (by decide) rfl (fun ls hl => ?_)
          refine lv_aload_n hx hb dX8_runs_75 rfl (lv_at hl 1 rfl) ?_
          refine lv_sipush (v := (160 : Int32)) hx hb dX8_runs_76 (by decide) ?_
          refine lv_iload hx hb dX8_runs_79 (lv_at hl 4 rfl) ?_
          obtain ⟨v12, q12, h35⟩ := obn h34
          clear h34
          refine xVi (As := [.int (160 : Int32), .int s6.2.2]) (ci := 8) ⟨hx, hb, hml, hown, hts⟩ (k_X8_frankOn l D ca ga v5 (160 : Int32) s6.2.2 _ q12) (cwV 2 hts gX8_runs_X8_frankOn rfl rfl rfl (by decide +kernel) ⟨Nat.le_of_ble_eq_true rfl, Nat.le_of_ble_eq_true rfl⟩) hK hA hP hD hS dX8_runs_81 rfl hl.1 [0, 1, 2, 3, 4, 5, 6, 7, 8, 9, 10, 11, 12, 13] [] [0, 1, 2, 3, 4, 5, 6, 7, 8, 9, 10, 11, 12, 13] rfl rfl (wr := []) rfl rfl (by decide) (wn := (cO ca ga v5)) rfl rfl rfl rfl rfl rfl (Nat.le_of_ble_eq_true rfl) (fun H locs hP hD hS => ?_)
          refine lv_aload_n hx hb dX8_runs_84 rfl (lv_at hl 1 rfl) ?_
          refine lv_sipush (v := (160 : Int32)) hx hb dX8_runs_85 (by decide) ?_
          refine lv_iload hx hb dX8_runs_88 (lv_at hl 3 rfl) ?_
          obtain ⟨v13, q13, h36⟩ := obn h35
          clear h35
          refine xVi (As := [.int (160 : Int32), .int s6.2.1]) (ci := 8) ⟨hx, hb, hml, hown, hts⟩ (k_X8_frankOn l D ca ga v5 (160 : Int32) s6.2.1 _ q13) (cwV 2 hts gX8_runs_X8_frankOn rfl rfl rfl (by decide +kernel) ⟨Nat.le_of_ble_eq_true rfl, Nat.le_of_ble_eq_true rfl⟩) hK hA hP hD hS dX8_runs_90 rfl hl.1 [0, 1, 2, 3, 4, 5, 6, 7, 8, 9, 10, 11, 12, 13] [] [0, 1, 2, 3, 4, 5, 6, 7, 8, 9, 10, 11, 12, 13] rfl rfl (wr := []) rfl rfl (by decide) (wn := (cO ca ga v5)) rfl rfl rfl rfl rfl rfl (Nat.le_of_ble_eq_true rfl) (fun H locs hP hD hS => ?_)
          obtain ⟨v15, q37, h38⟩ := obn h36
          clear h36
          have J15 : ∀ (ls : Array Slot) (H : Heap) (locs : List Loc), lv_has ls 6 [(0, .ref (ga 0)), (2, .int w), (3, .int (s6.1 ||| v11)), (5, .int s6.2.2)] → va_P D vwCl (cO ca ga v5) H → va_D A (cO ca ga v5) → va_S A s.heap H locs → W p l e rmX8_runs s m ([.ref (ga 0), .int n, .int w] : List Value).toArray below meth c H locs 0 0 Z (F0 m 103 ls [.int v15]) := by
            intro ls H locs hl hP hD hS
            refine lv_istore (lv' := [(4, .int v15), (0, .ref (ga 0)), (2, .int w), (3, .int (s6.1 ||| v11)), (5, .int s6.2.2)]) hx hb dX8_runs_103 hl (by decide) rfl (fun ls hl => ?_)
            refine lv_iinc (v := (s6.2.2 + (1 : Int32))) (lv' := [(5, .int (s6.2.2 + (1 : Int32))), (4, .int v15), (0, .ref (ga 0)), (2, .int w), (3, .int (s6.1 ||| v11))]) hx hb dX8_runs_105 hl (k := 4) rfl rfl (by decide) rfl (fun ls hl => ?_)
            refine lv_goto (tgt := 40) hx hb dX8_runs_108 (by decide) ?_
            exact hi16 _ (Option.some.inj h38).symm _ _ _ (lv_sub hl [2, 3, 4, 1, 0] rfl) hP hD hS
          refine lv_icmp_le (tgt := 101) hx hb dX8_runs_93 (by decide) (fun c14 => ?_) (fun c14 => ?_)
          · skip
            replace q37 := (if_pos c14).symm.trans q37
            refine lv_iload hx hb dX8_runs_101 (lv_at hl 3 rfl) ?_
            obtain rfl := Option.some.inj q37
            exact J15 _ _ _ (lv_sub hl [1, 2, 0, 4] rfl) hP hD hS
          · skip
            replace q37 := (if_neg c14).symm.trans q37
            refine lv_iload hx hb dX8_runs_96 (lv_at hl 4 rfl) ?_
            refine lv_goto (tgt := 103) hx hb dX8_runs_98 (by decide) ?_
            obtain rfl := Option.some.inj q37
            exact J15 _ _ _ (lv_sub hl [1, 2, 0, 4] rfl) hP hD hS
        refine lv_if_ne (tgt := 72) hx hb dX8_runs_62 (by decide) (fun c10 => ?_) (fun c10 => ?_)
        · skip
          replace q33 := (if_neg c10).symm.trans q33
          refine lv_iconst (v := (0 : Int32)) hx hb dX8_runs_72 (by decide) ?_
          obtain rfl := Option.some.inj q33
          exact J11 _ _ _ (lv_sub hl [0, 1, 3, 4] rfl) hP hD hS
        · skip
          replace q33 := (if_pos c10).symm.trans q33
          refine lv_iconst (v := (1 : Int32)) hx hb dX8_runs_65 (by decide) ?_
          refine lv_iload hx hb dX8_runs_66 (lv_at hl 4 rfl) ?_
          refine lv_ishl hx hb dX8_runs_68 ?_
          refine lv_goto (tgt := 73) hx hb dX8_runs_69 (by decide) ?_
          obtain rfl := Option.some.inj q33
          exact J11 _ _ _ (lv_sub hl [0, 1, 3, 4] rfl) hP hD hS
    · skip
      replace h23 := (if_pos c4).symm.trans h23
      refine lv_iconst (v := (-1 : Int32)) hx hb dX8_runs_24 (by decide) ?_
      obtain rfl := Option.some.inj h23
      exact hret _ _ _ _ (vp_nar_int _) hP hD hS dX8_runs_25

def mX8_ahead (g : GS) (i : Int32) (n : Int32) : Option (Int32 × GS) :=
  Option.bind (mX8_isPlace g i) fun v1 =>
  if v1 = 0 then
    some ((-1 : Int32), g)
  else
    Option.bind (mX8_in n.toInt64 (0 : Int64) (60 : Int64)) fun v3 =>
    if v3 = 0 then
      some ((-1 : Int32), g)
    else
      Option.bind (mX8_yearsGo g (0 : Int32) n) fun v5 =>
      Option.bind (mX8_frankOn v5 (160 : Int32) i) fun v6 =>
      some (v6, v5)
abbrev rmX8_ahead : Room := { frames := 3, cells := 0, slots := 0, locals := 67 }
set_option maxHeartbeats 4000000 in
set_option maxRecDepth 100000 in
theorem k_X8_ahead (l : Launch) (D : va_G) (ca : Nat → ClassId) (ga : Nat → Nat) (g : GS) (i : Int32) (n : Int32) (o : Int32 × GS) (hm : mX8_ahead g i n = some o) : KI l yX8_ahead wsX8_ahead rmX8_ahead D ca [.ref (ga 0), .int i, .int n] (cO ca ga g) (cO ca ga o.2) o.1 := by
  refine KI.of (cc := cX8_ahead) (n := 3) (plainFor_of_name (by decide)) rfl (Nat.le_of_ble_eq_true rfl) ?_
  intro p e s m below meth c A Z hx hb hml hts hown hA hK hP hD hS hret ls hl
  have hown : s.vm.findClass RX8 = some m.cls := hown
  have hl : lv_has ls 3 [(0, .ref (ga 0)), (1, .int i), (2, .int n)] := hl
  have k1 := hts (.constantLong RX8 174 (60 : Int64)) (by decide +kernel)
  unfold mX8_ahead at hm
  refine lv_aload_n hx hb dX8_ahead_0 rfl (lv_at hl 0 rfl) ?_
  refine lv_iload_n hx hb dX8_ahead_1 rfl (lv_at hl 1 rfl) ?_
  obtain ⟨v1, q1, h7⟩ := obn hm
  clear hm
  refine xVi (As := [.int i]) (ci := 8) ⟨hx, hb, hml, hown, hts⟩ (k_X8_isPlace l D ca ga g i _ q1) (cwV 1 hts gX8_ahead_X8_isPlace rfl rfl rfl (by decide +kernel) ⟨Nat.le_of_ble_eq_true rfl, Nat.le_of_ble_eq_true rfl⟩) hK hA hP hD hS dX8_ahead_2 rfl hl.1 [0, 1, 2, 3, 4, 5, 6, 7, 8, 9, 10, 11, 12, 13] [] [0, 1, 2, 3, 4, 5, 6, 7, 8, 9, 10, 11, 12, 13] rfl rfl (wr := []) rfl rfl (by decide) (wn := (cO ca ga g)) rfl rfl rfl rfl rfl rfl (Nat.le_of_ble_eq_true rfl) (fun H locs hP hD hS => ?_)
  refine lv_if_eq (tgt := 20) hx hb dX8_ahead_5 (by decide) (fun c2 => ?_) (fun c2 => ?_)
  · skip
    replace h7 := (if_pos c2).symm.trans h7
    refine lv_iconst (v := (-1 : Int32)) hx hb dX8_ahead_20 (by decide) ?_
    obtain rfl := Option.some.inj h7
    exact hret _ _ _ _ (vp_nar_int _) hP hD hS dX8_ahead_21
  · skip
    replace h7 := (if_neg c2).symm.trans h7
    refine lv_iload_n hx hb dX8_ahead_8 rfl (lv_at hl 2 rfl) ?_
    refine lv_i2l (v := n.toInt64) hx hb dX8_ahead_9 rfl ?_
    refine lv_lconst (v := (0 : Int64)) hx hb dX8_ahead_10 (by decide) ?_
    refine lv_ldc2 hx hb hown k1 dX8_ahead_11 ?_
    obtain ⟨v3, q3, h8⟩ := obn h7
    clear h7
    refine xSi (As := [.long n.toInt64, .long (0 : Int64), .long (60 : Int64)]) ⟨hx, hb, hml, hown, hts⟩ (k_X8_in l D ca  n.toInt64 (0 : Int64) (60 : Int64) _ q3) (va_cwS 3 hts gX8_ahead_X8_in rfl rfl rfl (by decide +kernel) ⟨Nat.le_of_ble_eq_true rfl, Nat.le_of_ble_eq_true rfl⟩) hK hA hP hD hS dX8_ahead_14 rfl hl.1 [] [0, 1, 2, 3, 4, 5, 6, 7, 8, 9, 10, 11, 12, 13] [0, 1, 2, 3, 4, 5, 6, 7, 8, 9, 10, 11, 12, 13] rfl rfl (wr := ((cO ca ga g))) rfl rfl (by decide) (wn := (cO ca ga g)) rfl rfl rfl (Nat.le_of_ble_eq_true rfl) (fun H locs hP hD hS => ?_)
    refine lv_if_ne (tgt := 22) hx hb dX8_ahead_17 (by decide) (fun c4 => ?_) (fun c4 => ?_)
    · skip
      replace h8 := (if_neg c4).symm.trans h8
      refine lv_aload_n hx hb dX8_ahead_22 rfl (lv_at hl 0 rfl) ?_
      refine lv_iconst (v := (0 : Int32)) hx hb dX8_ahead_23 (by decide) ?_
      refine lv_iload_n hx hb dX8_ahead_24 rfl (lv_at hl 2 rfl) ?_
      obtain ⟨v5, q5, h9⟩ := obn h8
      clear h8
      refine xVv (As := [.int (0 : Int32), .int n]) (ci := 8) ⟨hx, hb, hml, hown, hts⟩ (k_X8_yearsGo l D ca ga g (0 : Int32) n _ q5) (cwV 2 hts gX8_ahead_X8_yearsGo rfl rfl rfl (by decide +kernel) ⟨Nat.le_of_ble_eq_true rfl, Nat.le_of_ble_eq_true rfl⟩) hK hA hP hD hS dX8_ahead_25 rfl hl.1 [0, 1, 2, 3, 4, 5, 6, 7, 8, 9, 10, 11, 12, 13] [] [0, 1, 2, 3, 4, 5, 6, 7, 8, 9, 10, 11, 12, 13] rfl rfl (wr := []) rfl rfl (by decide) (wn := (cO ca ga v5)) rfl rfl rfl rfl rfl rfl (Nat.le_of_ble_eq_true rfl) (fun H locs hP hD hS => ?_)
      refine lv_aload_n hx hb dX8_ahead_28 rfl (lv_at hl 0 rfl) ?_
      refine lv_sipush (v := (160 : Int32)) hx hb dX8_ahead_29 (by decide) ?_
      refine lv_iload_n hx hb dX8_ahead_32 rfl (lv_at hl 1 rfl) ?_
      obtain ⟨v6, q6, h10⟩ := obn h9
      clear h9
      refine xVi (As := [.int (160 : Int32), .int i]) (ci := 8) ⟨hx, hb, hml, hown, hts⟩ (k_X8_frankOn l D ca ga v5 (160 : Int32) i _ q6) (cwV 2 hts gX8_ahead_X8_frankOn rfl rfl rfl (by decide +kernel) ⟨Nat.le_of_ble_eq_true rfl, Nat.le_of_ble_eq_true rfl⟩) hK hA hP hD hS dX8_ahead_33 rfl hl.1 [0, 1, 2, 3, 4, 5, 6, 7, 8, 9, 10, 11, 12, 13] [] [0, 1, 2, 3, 4, 5, 6, 7, 8, 9, 10, 11, 12, 13] rfl rfl (wr := []) rfl rfl (by decide) (wn := (cO ca ga v5)) rfl rfl rfl rfl rfl rfl (Nat.le_of_ble_eq_true rfl) (fun H locs hP hD hS => ?_)
      obtain rfl := Option.some.inj h10
      exact hret _ _ _ _ (vp_nar_int _) hP hD hS dX8_ahead_36
    · skip
      replace h8 := (if_pos c4).symm.trans h8
      refine lv_iconst (v := (-1 : Int32)) hx hb dX8_ahead_20 (by decide) ?_
      obtain rfl := Option.some.inj h8
      exact hret _ _ _ _ (vp_nar_int _) hP hD hS dX8_ahead_21
def mX8_fades_l20 (i : Int32) (s9 : Int32 × GS) : Option ((Int32 × GS) ⊕ ((Int32 × GS) ⊕ (Int32 × GS))) :=
  if (60 : Int32) < s9.1 then
    some (.inr (.inl (s9.1, s9.2)))
  else
    Option.bind (mX8_frankOn s9.2 (160 : Int32) i) fun v11 =>
    if v11 = 0 then
      some (.inr (.inr (s9.1, s9.2)))
    else
      Option.bind (mX8_yearOn s9.2 (160 : Int32)) fun v13 =>
      some (.inl ((s9.1 + (1 : Int32)), v13))

def mX8_fades (g : GS) (i : Int32) : Option (Int32 × GS) :=
  Option.bind (mX8_isPlace g i) fun v1 =>
  if v1 = 0 then
    some ((-1 : Int32), g)
  else
    Option.bind (mX8_copies g (0 : Int32) (160 : Int32)) fun v3 =>
    Option.bind (whO (mX8_fades_l20 i) FU ((0 : Int32), v3)) fun e14 => esc e14 fun t15 =>
    some ((-4 : Int32), t15.2)
abbrev rmX8_fades : Room := { frames := 2, cells := 0, slots := 0, locals := 50 }
set_option maxHeartbeats 4000000 in
set_option maxRecDepth 100000 in
theorem k_X8_fades (l : Launch) (D : va_G) (ca : Nat → ClassId) (ga : Nat → Nat) (g : GS) (i : Int32) (o : Int32 × GS) (hm : mX8_fades g i = some o) : KI l yX8_fades wsX8_fades rmX8_fades D ca [.ref (ga 0), .int i] (cO ca ga g) (cO ca ga o.2) o.1 := by
  refine KI.of (cc := cX8_fades) (n := 3) (plainFor_of_name (by decide)) rfl (Nat.le_of_ble_eq_true rfl) ?_
  intro p e s m below meth c A Z hx hb hml hts hown hA hK hP hD hS hret ls hl
  have hown : s.vm.findClass RX8 = some m.cls := hown
  have hl : lv_has ls 3 [(0, .ref (ga 0)), (1, .int i)] := hl
  unfold mX8_fades at hm
  refine lv_aload_n hx hb dX8_fades_0 rfl (lv_at hl 0 rfl) ?_
  refine lv_iload_n hx hb dX8_fades_1 rfl (lv_at hl 1 rfl) ?_
  obtain ⟨v1, q1, h16⟩ := obn hm
  clear hm
  refine xVi (As := [.int i]) (ci := 8) ⟨hx, hb, hml, hown, hts⟩ (k_X8_isPlace l D ca ga g i _ q1) (cwV 1 hts gX8_fades_X8_isPlace rfl rfl rfl (by decide +kernel) ⟨Nat.le_of_ble_eq_true rfl, Nat.le_of_ble_eq_true rfl⟩) hK hA hP hD hS dX8_fades_2 rfl hl.1 [0, 1, 2, 3, 4, 5, 6, 7, 8, 9, 10, 11, 12, 13] [] [0, 1, 2, 3, 4, 5, 6, 7, 8, 9, 10, 11, 12, 13] rfl rfl (wr := []) rfl rfl (by decide) (wn := (cO ca ga g)) rfl rfl rfl rfl rfl rfl (Nat.le_of_ble_eq_true rfl) (fun H locs hP hD hS => ?_)
  refine lv_if_ne (tgt := 10) hx hb dX8_fades_5 (by decide) (fun c2 => ?_) (fun c2 => ?_)
  · skip
    replace h16 := (if_neg c2).symm.trans h16
    refine lv_aload_n hx hb dX8_fades_10 rfl (lv_at hl 0 rfl) ?_
    refine lv_iconst (v := (0 : Int32)) hx hb dX8_fades_11 (by decide) ?_
    refine lv_sipush (v := (160 : Int32)) hx hb dX8_fades_12 (by decide) ?_
    obtain ⟨v3, q3, h17⟩ := obn h16
    clear h16
    refine xVv (As := [.int (0 : Int32), .int (160 : Int32)]) (ci := 8) ⟨hx, hb, hml, hown, hts⟩ (k_X8_copies l D ca ga g (0 : Int32) (160 : Int32) _ q3) (cwV 2 hts gX8_fades_X8_copies rfl rfl rfl (by decide +kernel) ⟨Nat.le_of_ble_eq_true rfl, Nat.le_of_ble_eq_true rfl⟩) hK hA hP hD hS dX8_fades_15 rfl hl.1 [0, 1, 2, 3, 4, 5, 6, 7, 8, 9, 10, 11, 12, 13] [] [0, 1, 2, 3, 4, 5, 6, 7, 8, 9, 10, 11, 12, 13] rfl rfl (wr := []) rfl rfl (by decide) (wn := (cO ca ga v3)) rfl rfl rfl rfl rfl rfl (Nat.le_of_ble_eq_true rfl) (fun H locs hP hD hS => ?_)
    refine lv_iconst (v := (0 : Int32)) hx hb dX8_fades_18 (by decide) ?_
    refine lv_istore_n (lv' := [(2, .int (0 : Int32)), (0, .ref (ga 0)), (1, .int i)]) hx hb dX8_fades_19 rfl hl (by decide) rfl (fun ls hl => ?_)
    obtain ⟨e14, w18, h19⟩ := obn h17
    clear h17
    have AF14 : ∀ t15, e14 = .inl t15 → ∀ (ls : Array Slot) (H : Heap) (locs : List Loc), lv_has ls 3 [] → va_P D vwCl (cO ca ga t15.2) H → va_D A (cO ca ga t15.2) → va_S A s.heap H locs → W p l e rmX8_fades s m ([.ref (ga 0), .int i] : List Value).toArray below meth c H locs 0 0 Z (F0 m 52 ls []) := by
      intro t15 ht ls H locs hl hP hD hS
      subst ht
      replace h19 := (esc_l _ _).symm.trans h19
      refine lv_bipush (v := (-4 : Int32)) hx hb dX8_fades_52 (by decide) ?_
      obtain rfl := Option.some.inj h19
      exact hret _ _ _ _ (vp_nar_int _) hP hD hS dX8_fades_54
    refine whO_walk (I := fun s9 => ∀ (ls : Array Slot) (H : Heap) (locs : List Loc), lv_has ls 3 [(0, .ref (ga 0)), (1, .int i), (2, .int s9.1)] → va_P D vwCl (cO ca ga s9.2) H → va_D A (cO ca ga s9.2) → va_S A s.heap H locs → W p l e rmX8_fades s m ([.ref (ga 0), .int i] : List Value).toArray below meth c H locs 0 0 Z (F0 m 20 ls [])) ?_ _ _ w18 _ _ _ (lv_sub hl [1, 2, 0] rfl) hP hD hS
    clear w18
    intro s9 o14 h20 hi14 ho14 ls H locs hl hP hD hS
    unfold mX8_fades_l20 at h20
    refine lv_iload_n hx hb dX8_fades_20 rfl (lv_at hl 2 rfl) ?_
    refine lv_bipush (v := (60 : Int32)) hx hb dX8_fades_21 (by decide) ?_
    refine lv_icmp_gt (tgt := 52) hx hb dX8_fades_23 (by decide) (fun c10 => ?_) (fun c10 => ?_)
    · skip
      replace h20 := (if_pos c10).symm.trans h20
      have h21 := ho14 _ (Option.some.inj h20).symm
      subst h21
      exact AF14 _ rfl _ _ _ (lv_sub hl [] rfl) hP hD hS
    · skip
      replace h20 := (if_neg c10).symm.trans h20
      refine lv_aload_n hx hb dX8_fades_26 rfl (lv_at hl 0 rfl) ?_
      refine lv_sipush (v := (160 : Int32)) hx hb dX8_fades_27 (by decide) ?_
      refine lv_iload_n hx hb dX8_fades_30 rfl (lv_at hl 1 rfl) ?_
      obtain ⟨v11, q11, h22⟩ := obn h20
      clear h20
      refine xVi (As := [.int (160 : Int32), .int i]) (ci := 8) ⟨hx, hb, hml, hown, hts⟩ (k_X8_frankOn l D ca ga s9.2 (160 : Int32) i _ q11) (cwV 2 hts gX8_fades_X8_frankOn rfl rfl rfl (by decide +kernel) ⟨Nat.le_of_ble_eq_true rfl, Nat.le_of_ble_eq_true rfl⟩) hK hA hP hD hS dX8_fades_31 rfl hl.1 [0, 1, 2, 3, 4, 5, 6, 7, 8, 9, 10, 11, 12, 13] [] [0, 1, 2, 3, 4, 5, 6, 7, 8, 9, 10, 11, 12, 13] rfl rfl (wr := []) rfl rfl (by decide) (wn := (cO ca ga s9.2)) rfl rfl rfl rfl rfl rfl (Nat.le_of_ble_eq_true rfl) (fun H locs hP hD hS => ?_)
      refine lv_if_ne (tgt := 39) hx hb dX8_fades_34 (by decide) (fun c12 => ?_) (fun c12 => ?_)
      · skip
        replace h22 := (if_neg c12).symm.trans h22
        refine lv_aload_n hx hb dX8_fades_39 rfl (lv_at hl 0 rfl) ?_
        refine lv_sipush (v := (160 : Int32)) hx hb dX8_fades_40 (by decide) ?_
        obtain ⟨v13, q13, h23⟩ := obn h22
        clear h22
        refine xVv (As := [.int (160 : Int32)]) (ci := 8) ⟨hx, hb, hml, hown, hts⟩ (k_X8_yearOn l D ca ga s9.2 (160 : Int32) _ q13) (cwV 1 hts gX8_fades_X8_yearOn rfl rfl rfl (by decide +kernel) ⟨Nat.le_of_ble_eq_true rfl, Nat.le_of_ble_eq_true rfl⟩) hK hA hP hD hS dX8_fades_43 rfl hl.1 [0, 1, 2, 3, 4, 5, 6, 7, 8, 9, 10, 11, 12, 13] [] [0, 1, 2, 3, 4, 5, 6, 7, 8, 9, 10, 11, 12, 13] rfl rfl (wr := []) rfl rfl (by decide) (wn := (cO ca ga v13)) rfl rfl rfl rfl rfl rfl (Nat.le_of_ble_eq_true rfl) (fun H locs hP hD hS => ?_)
        refine lv_iinc (v := (s9.1 + (1 : Int32))) (lv' := [(2, .int (s9.1 + (1 : Int32))), (0, .ref (ga 0)), (1, .int i)]) hx hb dX8_fades_46 hl (k := 2) rfl rfl (by decide) rfl (fun ls hl => ?_)
        refine lv_goto (tgt := 20) hx hb dX8_fades_49 (by decide) ?_
        exact hi14 _ (Option.some.inj h23).symm _ _ _ (lv_sub hl [1, 2, 0] rfl) hP hD hS
      · skip
        replace h22 := (if_pos c12).symm.trans h22
        refine lv_iload_n hx hb dX8_fades_37 rfl (lv_at hl 2 rfl) ?_
        have h24 := ho14 _ (Option.some.inj h22).symm
        subst h24
        replace h19 := (esc_r _ _).symm.trans h19
        obtain rfl := Option.some.inj h19
        exact hret _ _ _ _ (vp_nar_int _) hP hD hS dX8_fades_38
  · skip
    replace h16 := (if_pos c2).symm.trans h16
    refine lv_iconst (v := (-1 : Int32)) hx hb dX8_fades_8 (by decide) ?_
    obtain rfl := Option.some.inj h16
    exact hret _ _ _ _ (vp_nar_int _) hP hD hS dX8_fades_9
def mX8_stretch_l52 (g : GS) (n : Int32) (s6 : Int32 × Int32 × Int32) (s8 : Int32 × Int32) : Option ((Int32 × Int32) ⊕ (Int32 × Int32)) :=
  if n ≤ s8.2 then
    some (.inr (s8.1, s8.2))
  else
    Option.bind (mX8_frankOn g (0 : Int32) (s6.2.2 + s8.2)) fun v10 =>
    some (.inl ((s8.1 + v10), (s8.2 + (1 : Int32))))

def mX8_stretch_l38 (g : GS) (n : Int32) (v1 : Int32) (s6 : Int32 × Int32 × Int32) : Option ((Int32 × Int32 × Int32) ⊕ (Int32 × Int32 × Int32)) :=
  if v1 < (s6.2.2 + n) then
    some (.inr (s6.1, s6.2.1, s6.2.2))
  else
    Option.bind (whO (mX8_stretch_l52 g n s6) FU ((0 : Int32), (0 : Int32))) fun e11 =>
    Option.bind (
      if e11.1 ≤ s6.1 then
        some s6.2.1
      else
        some s6.2.2) fun (v13 : Int32) =>
    Option.bind (
      if e11.1 ≤ s6.1 then
        some s6.1
      else
        some e11.1) fun (v15 : Int32) =>
    some (.inl (v15, v13, (s6.2.2 + (1 : Int32))))

def mX8_stretch (g : GS) (n : Int32) (w : Int32) : Option (Int32) :=
  Option.bind (mX8_longOn g (0 : Int32)) fun v1 =>
  Option.bind (mX8_in n.toInt64 (1 : Int64) v1.toInt64) fun v2 =>
  if v2 = 0 then
    some (-1 : Int32)
  else
    Option.bind (mX8_in w.toInt64 (0 : Int64) (1 : Int64)) fun v4 =>
    if v4 = 0 then
      some (-1 : Int32)
    else
      Option.bind (whO (mX8_stretch_l38 g n v1) FU ((-1 : Int32), (0 : Int32), (0 : Int32))) fun e16 =>
      if w = 0 then
        some e16.2.1
      else
        some e16.1
abbrev rmX8_stretch : Room := { frames := 2, cells := 0, slots := 0, locals := 50 }
set_option maxHeartbeats 4000000 in
set_option maxRecDepth 100000 in
theorem k_X8_stretch (l : Launch) (D : va_G) (ca : Nat → ClassId) (ga : Nat → Nat) (g : GS) (n : Int32) (w : Int32) (o : Int32) (hm : mX8_stretch g n w = some o) : KI l yX8_stretch wsX8_stretch rmX8_stretch D ca [.ref (ga 0), .int n, .int w] (cO ca ga g) (cO ca ga g) o := by
  refine KI.of (cc := cX8_stretch) (n := 9) (plainFor_of_name (by decide)) rfl (Nat.le_of_ble_eq_true rfl) ?_
  intro p e s m below meth c A Z hx hb hml hts hown hA hK hP hD hS hret ls hl
  have hown : s.vm.findClass RX8 = some m.cls := hown
  have hl : lv_has ls 9 [(0, .ref (ga 0)), (1, .int n), (2, .int w)] := hl
  unfold mX8_stretch at hm
  refine lv_aload_n hx hb dX8_stretch_0 rfl (lv_at hl 0 rfl) ?_
  refine lv_iconst (v := (0 : Int32)) hx hb dX8_stretch_1 (by decide) ?_
  obtain ⟨v1, q1, h18⟩ := obn hm
  clear hm
  refine xVi (As := [.int (0 : Int32)]) (ci := 8) ⟨hx, hb, hml, hown, hts⟩ (k_X8_longOn l D ca ga g (0 : Int32) _ q1) (cwV 1 hts gX8_stretch_X8_longOn rfl rfl rfl (by decide +kernel) ⟨Nat.le_of_ble_eq_true rfl, Nat.le_of_ble_eq_true rfl⟩) hK hA hP hD hS dX8_stretch_2 rfl hl.1 [0, 1, 2, 3, 4, 5, 6, 7, 8, 9, 10, 11, 12, 13] [] [0, 1, 2, 3, 4, 5, 6, 7, 8, 9, 10, 11, 12, 13] rfl rfl (wr := []) rfl rfl (by decide) (wn := (cO ca ga g)) rfl rfl rfl rfl rfl rfl (Nat.le_of_ble_eq_true rfl) (fun H locs hP hD hS => ?_)
  refine lv_istore_n (lv' := [(3, .int v1), (0, .ref (ga 0)), (1, .int n), (2, .int w)]) hx hb dX8_stretch_5 rfl hl (by decide) rfl (fun ls hl => ?_)
  refine lv_iload_n hx hb dX8_stretch_6 rfl (lv_at hl 2 rfl) ?_
  refine lv_i2l (v := n.toInt64) hx hb dX8_stretch_7 rfl ?_
  refine lv_lconst (v := (1 : Int64)) hx hb dX8_stretch_8 (by decide) ?_
  refine lv_iload_n hx hb dX8_stretch_9 rfl (lv_at hl 0 rfl) ?_
  refine lv_i2l (v := v1.toInt64) hx hb dX8_stretch_10 rfl ?_
  obtain ⟨v2, q2, h19⟩ := obn h18
  clear h18
  refine xSi (As := [.long n.toInt64, .long (1 : Int64), .long v1.toInt64]) ⟨hx, hb, hml, hown, hts⟩ (k_X8_in l D ca  n.toInt64 (1 : Int64) v1.toInt64 _ q2) (va_cwS 3 hts gX8_stretch_X8_in rfl rfl rfl (by decide +kernel) ⟨Nat.le_of_ble_eq_true rfl, Nat.le_of_ble_eq_true rfl⟩) hK hA hP hD hS dX8_stretch_11 rfl hl.1 [] [0, 1, 2, 3, 4, 5, 6, 7, 8, 9, 10, 11, 12, 13] [0, 1, 2, 3, 4, 5, 6, 7, 8, 9, 10, 11, 12, 13] rfl rfl (wr := ((cO ca ga g))) rfl rfl (by decide) (wn := (cO ca ga g)) rfl rfl rfl (Nat.le_of_ble_eq_true rfl) (fun H locs hP hD hS => ?_)
  refine lv_if_eq (tgt := 27) hx hb dX8_stretch_14 (by decide) (fun c3 => ?_) (fun c3 => ?_)
  · skip
    replace h19 := (if_pos c3).symm.trans h19
    refine lv_iconst (v := (-1 : Int32)) hx hb dX8_stretch_27 (by decide) ?_
    obtain rfl := Option.some.inj h19
    exact hret _ _ _ _ (vp_nar_int _) hP hD hS dX8_stretch_28
  · skip
    replace h19 := (if_neg c3).symm.trans h19
    refine lv_iload_n hx hb dX8_stretch_17 rfl (lv_at hl 3 rfl) ?_
    refine lv_i2l (v := w.toInt64) hx hb dX8_stretch_18 rfl ?_
    refine lv_lconst (v := (0 : Int64)) hx hb dX8_stretch_19 (by decide) ?_
    refine lv_lconst (v := (1 : Int64)) hx hb dX8_stretch_20 (by decide) ?_
    obtain ⟨v4, q4, h20⟩ := obn h19
    clear h19
    refine xSi (As := [.long w.toInt64, .long (0 : Int64), .long (1 : Int64)]) ⟨hx, hb, hml, hown, hts⟩ (k_X8_in l D ca  w.toInt64 (0 : Int64) (1 : Int64) _ q4) (va_cwS 3 hts gX8_stretch_X8_in rfl rfl rfl (by decide +kernel) ⟨Nat.le_of_ble_eq_true rfl, Nat.le_of_ble_eq_true rfl⟩) hK hA hP hD hS dX8_stretch_21 rfl hl.1 [] [0, 1, 2, 3, 4, 5, 6, 7, 8, 9, 10, 11, 12, 13] [0, 1, 2, 3, 4, 5, 6, 7, 8, 9, 10, 11, 12, 13] rfl rfl (wr := ((cO ca ga g))) rfl rfl (by decide) (wn := (cO ca ga g)) rfl rfl rfl (Nat.le_of_ble_eq_true rfl) (fun H locs hP hD hS => ?_)
    refine lv_if_ne (tgt := 29) hx hb dX8_stretch_24 (by decide) (fun c5 => ?_) (fun c5 => ?_)
    · skip
      replace h20 := (if_neg c5).symm.trans h20
      refine lv_iconst (v := (-1 : Int32)) hx hb dX8_stretch_29 (by decide) ?_
      refine lv_istore (lv' := [(4, .int (-1 : Int32)), (3, .int v1), (0, .ref (ga 0)), (1, .int n), (2, .int w)]) hx hb dX8_stretch_30 hl (by decide) rfl (fun ls hl => ?_)
      refine lv_iconst (v := (0 : Int32)) hx hb dX8_stretch_32 (by decide) ?_
      refine lv_istore (lv' := [(5, .int (0 : Int32)), (4, .int (-1 : Int32)), (3, .int v1), (0, .ref (ga 0)), (1, .int n), (2, .int w)]) hx hb dX8_stretch_33 hl (by decide) rfl (fun ls hl => ?_)
      refine lv_iconst (v := (0 : Int32)) hx hb dX8_stretch_35 (by decide) ?_
      refine lv_istore (lv' := [(6, .int (0 : Int32)), (5, .int (0 : Int32)), (4, .int (-1 : Int32)), (3, .int v1), (0, .ref (ga 0)), (1, .int n), (2, .int w)]) hx hb dX8_stretch_36 hl (by decide) rfl (fun ls hl => ?_)
      obtain ⟨e16, w21, h22⟩ := obn h20
      clear h20
      have AF16 : ∀ (ls : Array Slot) (H : Heap) (locs : List Loc), lv_has ls 9 [(2, .int w), (4, .int e16.1), (5, .int e16.2.1)] → va_P D vwCl (cO ca ga g) H → va_D A (cO ca ga g) → va_S A s.heap H locs → W p l e rmX8_stretch s m ([.ref (ga 0), .int n, .int w] : List Value).toArray below meth c H locs 0 0 Z (F0 m 117 ls []) := by
        intro ls H locs hl hP hD hS
        refine lv_iload_n hx hb dX8_stretch_117 rfl (lv_at hl 0 rfl) ?_
        refine lv_if_ne (tgt := 126) hx hb dX8_stretch_118 (by decide) (fun c17 => ?_) (fun c17 => ?_)
        · skip
          replace h22 := (if_neg c17).symm.trans h22
          refine lv_iload hx hb dX8_stretch_126 (lv_at hl 1 rfl) ?_
          obtain rfl := Option.some.inj h22
          exact hret _ _ _ _ (vp_nar_int _) hP hD hS dX8_stretch_128
        · skip
          replace h22 := (if_pos c17).symm.trans h22
          refine lv_iload hx hb dX8_stretch_121 (lv_at hl 2 rfl) ?_
          refine lv_goto (tgt := 128) hx hb dX8_stretch_123 (by decide) ?_
          obtain rfl := Option.some.inj h22
          exact hret _ _ _ _ (vp_nar_int _) hP hD hS dX8_stretch_128
      refine whO_walk (I := fun s6 => ∀ (ls : Array Slot) (H : Heap) (locs : List Loc), lv_has ls 9 [(0, .ref (ga 0)), (1, .int n), (2, .int w), (3, .int v1), (4, .int s6.1), (5, .int s6.2.1), (6, .int s6.2.2)] → va_P D vwCl (cO ca ga g) H → va_D A (cO ca ga g) → va_S A s.heap H locs → W p l e rmX8_stretch s m ([.ref (ga 0), .int n, .int w] : List Value).toArray below meth c H locs 0 0 Z (F0 m 38 ls [])) ?_ _ _ w21 _ _ _ (lv_sub hl [4, 5, 6, 3, 2, 1, 0] rfl) hP hD hS
      clear w21
      intro s6 o16 h23 hi16 ho16 ls H locs hl hP hD hS
      unfold mX8_stretch_l38 at h23
      refine lv_iload hx hb dX8_stretch_38 (lv_at hl 6 rfl) ?_
      refine lv_iload_n hx hb dX8_stretch_40 rfl (lv_at hl 1 rfl) ?_
      refine lv_iadd hx hb dX8_stretch_41 ?_
      refine lv_iload_n hx hb dX8_stretch_42 rfl (lv_at hl 3 rfl) ?_
      refine lv_icmp_gt (tgt := 117) hx hb dX8_stretch_43 (by decide) (fun c7 => ?_) (fun c7 => ?_)
      · skip
        replace h23 := (if_pos c7).symm.trans h23
        have h24 := ho16 _ (Option.some.inj h23).symm
        subst h24
        exact AF16 _ _ _ (lv_sub hl [2, 4, 5] rfl) hP hD hS
      · skip
        replace h23 := (if_neg c7).symm.trans h23
        refine lv_iconst (v := (0 : Int32)) hx hb dX8_stretch_46 (by decide) ?_
        refine lv_istore (lv' := [(7, .int (0 : Int32)), (0, .ref (ga 0)), (1, .int n), (2, .int w), (3, .int v1), (4, .int s6.1), (5, .int s6.2.1), (6, .int s6.2.2)]) hx hb dX8_stretch_47 hl (by decide) rfl (fun ls hl => ?_)
        refine lv_iconst (v := (0 : Int32)) hx hb dX8_stretch_49 (by decide) ?_
        refine lv_istore (lv' := [(8, .int (0 : Int32)), (7, .int (0 : Int32)), (0, .ref (ga 0)), (1, .int n), (2, .int w), (3, .int v1), (4, .int s6.1), (5, .int s6.2.1), (6, .int s6.2.2)]) hx hb dX8_stretch_50 hl (by decide) rfl (fun ls hl => ?_)
        obtain ⟨e11, w25, h26⟩ := obn h23
        clear h23
        have AF11 : ∀ (ls : Array Slot) (H : Heap) (locs : List Loc), lv_has ls 9 [(0, .ref (ga 0)), (1, .int n), (2, .int w), (3, .int v1), (4, .int s6.1), (5, .int s6.2.1), (6, .int s6.2.2), (7, .int e11.1)] → va_P D vwCl (cO ca ga g) H → va_D A (cO ca ga g) → va_S A s.heap H locs → W p l e rmX8_stretch s m ([.ref (ga 0), .int n, .int w] : List Value).toArray below meth c H locs 0 0 Z (F0 m 79 ls []) := by
          intro ls H locs hl hP hD hS
          refine lv_iload hx hb dX8_stretch_79 (lv_at hl 7 rfl) ?_
          refine lv_iload hx hb dX8_stretch_81 (lv_at hl 4 rfl) ?_
          obtain ⟨v13, q27, h28⟩ := obn h26
          clear h26
          have J13 : ∀ (ls : Array Slot) (H : Heap) (locs : List Loc), lv_has ls 9 [(0, .ref (ga 0)), (1, .int n), (2, .int w), (3, .int v1), (4, .int s6.1), (6, .int s6.2.2), (7, .int e11.1)] → va_P D vwCl (cO ca ga g) H → va_D A (cO ca ga g) → va_S A s.heap H locs → W p l e rmX8_stretch s m ([.ref (ga 0), .int n, .int w] : List Value).toArray below meth c H locs 0 0 Z (F0 m 93 ls [.int v13]) := by
            intro ls H locs hl hP hD hS
            refine lv_istore (lv' := [(5, .int v13), (0, .ref (ga 0)), (1, .int n), (2, .int w), (3, .int v1), (4, .int s6.1), (6, .int s6.2.2), (7, .int e11.1)]) hx hb dX8_stretch_93 hl (by decide) rfl (fun ls hl => ?_)
            refine lv_iload hx hb dX8_stretch_95 (lv_at hl 7 rfl) ?_
            refine lv_iload hx hb dX8_stretch_97 (lv_at hl 5 rfl) ?_
            obtain ⟨v15, q29, h30⟩ := obn h28
            clear h28
            have J15 : ∀ (ls : Array Slot) (H : Heap) (locs : List Loc), lv_has ls 9 [(0, .ref (ga 0)), (1, .int n), (2, .int w), (3, .int v1), (5, .int v13), (6, .int s6.2.2)] → va_P D vwCl (cO ca ga g) H → va_D A (cO ca ga g) → va_S A s.heap H locs → W p l e rmX8_stretch s m ([.ref (ga 0), .int n, .int w] : List Value).toArray below meth c H locs 0 0 Z (F0 m 109 ls [.int v15]) := by
              intro ls H locs hl hP hD hS
              refine lv_istore (lv' := [(4, .int v15), (0, .ref (ga 0)), (1, .int n), (2, .int w), (3, .int v1), (5, .int v13), (6, .int s6.2.2)]) hx hb dX8_stretch_109 hl (by decide) rfl (fun ls hl => ?_)
              refine lv_iinc (v := (s6.2.2 + (1 : Int32))) (lv' := [(6, .int (s6.2.2 + (1 : Int32))), (4, .int v15), (0, .ref (ga 0)), (1, .int n), (2, .int w), (3, .int v1), (5, .int v13)]) hx hb dX8_stretch_111 hl (k := 6) rfl rfl (by decide) rfl (fun ls hl => ?_)
              refine lv_goto (tgt := 38) hx hb dX8_stretch_114 (by decide) ?_
              exact hi16 _ (Option.some.inj h30).symm _ _ _ (lv_sub hl [2, 3, 4, 5, 1, 6, 0] rfl) hP hD hS
            refine lv_icmp_le (tgt := 107) hx hb dX8_stretch_99 (by decide) (fun c14 => ?_) (fun c14 => ?_)
            · skip
              replace q29 := (if_pos c14).symm.trans q29
              refine lv_iload hx hb dX8_stretch_107 (lv_at hl 5 rfl) ?_
              obtain rfl := Option.some.inj q29
              exact J15 _ _ _ (lv_sub hl [1, 2, 3, 4, 0, 6] rfl) hP hD hS
            · skip
              replace q29 := (if_neg c14).symm.trans q29
              refine lv_iload hx hb dX8_stretch_102 (lv_at hl 7 rfl) ?_
              refine lv_goto (tgt := 109) hx hb dX8_stretch_104 (by decide) ?_
              obtain rfl := Option.some.inj q29
              exact J15 _ _ _ (lv_sub hl [1, 2, 3, 4, 0, 6] rfl) hP hD hS
          refine lv_icmp_le (tgt := 91) hx hb dX8_stretch_83 (by decide) (fun c12 => ?_) (fun c12 => ?_)
          · skip
            replace q27 := (if_pos c12).symm.trans q27
            refine lv_iload hx hb dX8_stretch_91 (lv_at hl 5 rfl) ?_
            obtain rfl := Option.some.inj q27
            exact J13 _ _ _ (lv_sub hl [0, 1, 2, 3, 4, 6, 7] rfl) hP hD hS
          · skip
            replace q27 := (if_neg c12).symm.trans q27
            refine lv_iload hx hb dX8_stretch_86 (lv_at hl 6 rfl) ?_
            refine lv_goto (tgt := 93) hx hb dX8_stretch_88 (by decide) ?_
            obtain rfl := Option.some.inj q27
            exact J13 _ _ _ (lv_sub hl [0, 1, 2, 3, 4, 6, 7] rfl) hP hD hS
        refine whO_walk (I := fun s8 => ∀ (ls : Array Slot) (H : Heap) (locs : List Loc), lv_has ls 9 [(0, .ref (ga 0)), (1, .int n), (2, .int w), (3, .int v1), (4, .int s6.1), (5, .int s6.2.1), (6, .int s6.2.2), (7, .int s8.1), (8, .int s8.2)] → va_P D vwCl (cO ca ga g) H → va_D A (cO ca ga g) → va_S A s.heap H locs → W p l e rmX8_stretch s m ([.ref (ga 0), .int n, .int w] : List Value).toArray below meth c H locs 0 0 Z (F0 m 52 ls [])) ?_ _ _ w25 _ _ _ (lv_sub hl [2, 3, 4, 5, 6, 7, 8, 1, 0] rfl) hP hD hS
        clear w25
        intro s8 o11 h31 hi11 ho11 ls H locs hl hP hD hS
        unfold mX8_stretch_l52 at h31
        refine lv_iload hx hb dX8_stretch_52 (lv_at hl 8 rfl) ?_
        refine lv_iload_n hx hb dX8_stretch_54 rfl (lv_at hl 1 rfl) ?_
        refine lv_icmp_ge (tgt := 79) hx hb dX8_stretch_55 (by decide) (fun c9 => ?_) (fun c9 => ?_)
        · skip
          replace h31 := (if_pos c9).symm.trans h31
          have h32 := ho11 _ (Option.some.inj h31).symm
          subst h32
          exact AF11 _ _ _ (lv_sub hl [0, 1, 2, 3, 4, 5, 6, 7] rfl) hP hD hS
        · skip
          replace h31 := (if_neg c9).symm.trans h31
          refine lv_iload hx hb dX8_stretch_58 (lv_at hl 7 rfl) ?_
          refine lv_aload_n hx hb dX8_stretch_60 rfl (lv_at hl 0 rfl) ?_
          refine lv_iconst (v := (0 : Int32)) hx hb dX8_stretch_61 (by decide) ?_
          refine lv_iload hx hb dX8_stretch_62 (lv_at hl 6 rfl) ?_
          refine lv_iload hx hb dX8_stretch_64 (lv_at hl 8 rfl) ?_
          refine lv_iadd hx hb dX8_stretch_66 ?_
          obtain ⟨v10, q10, h33⟩ := obn h31
          clear h31
          refine xVi (As := [.int (0 : Int32), .int (s6.2.2 + s8.2)]) (ci := 8) ⟨hx, hb, hml, hown, hts⟩ (k_X8_frankOn l D ca ga g (0 : Int32) (s6.2.2 + s8.2) _ q10) (cwV 2 hts gX8_stretch_X8_frankOn rfl rfl rfl (by decide +kernel) ⟨Nat.le_of_ble_eq_true rfl, Nat.le_of_ble_eq_true rfl⟩) hK hA hP hD hS dX8_stretch_67 rfl hl.1 [0, 1, 2, 3, 4, 5, 6, 7, 8, 9, 10, 11, 12, 13] [] [0, 1, 2, 3, 4, 5, 6, 7, 8, 9, 10, 11, 12, 13] rfl rfl (wr := []) rfl rfl (by decide) (wn := (cO ca ga g)) rfl rfl rfl rfl rfl rfl (Nat.le_of_ble_eq_true rfl) (fun H locs hP hD hS => ?_)
          refine lv_iadd hx hb dX8_stretch_70 ?_
          refine lv_istore (lv' := [(7, .int (s8.1 + v10)), (0, .ref (ga 0)), (1, .int n), (2, .int w), (3, .int v1), (4, .int s6.1), (5, .int s6.2.1), (6, .int s6.2.2), (8, .int s8.2)]) hx hb dX8_stretch_71 hl (by decide) rfl (fun ls hl => ?_)
          refine lv_iinc (v := (s8.2 + (1 : Int32))) (lv' := [(8, .int (s8.2 + (1 : Int32))), (7, .int (s8.1 + v10)), (0, .ref (ga 0)), (1, .int n), (2, .int w), (3, .int v1), (4, .int s6.1), (5, .int s6.2.1), (6, .int s6.2.2)]) hx hb dX8_stretch_73 hl (k := 8) rfl rfl (by decide) rfl (fun ls hl => ?_)
          refine lv_goto (tgt := 52) hx hb dX8_stretch_76 (by decide) ?_
          exact hi11 _ (Option.some.inj h33).symm _ _ _ (lv_sub hl [2, 3, 4, 5, 6, 7, 8, 1, 0] rfl) hP hD hS
    · skip
      replace h20 := (if_pos c5).symm.trans h20
      refine lv_iconst (v := (-1 : Int32)) hx hb dX8_stretch_27 (by decide) ?_
      obtain rfl := Option.some.inj h20
      exact hret _ _ _ _ (vp_nar_int _) hP hD hS dX8_stretch_28
def mX8_hang_l27 (s12 : Int32 × Int32 × Int32 × GS) : Option ((Int32 × Int32 × Int32 × GS) ⊕ (Int32 × Int32 × Int32 × GS)) :=
  if (6 : Int32) ≤ s12.2.2.1 then
    some (.inr (s12.1, s12.2.1, s12.2.2.1, s12.2.2.2))
  else
    Option.bind (ast 240 (s12.2.2.2.1 0) (214 : Int32) s12.2.2.1) fun f14 =>
    Option.bind (mX8_frankOfAll (sA s12.2.2.2 0 f14) (200 : Int32)) fun v15 =>
    Option.bind (
      if v15 ≤ s12.1 then
        some s12.2.1
      else
        some s12.2.2.1) fun (v17 : Int32) =>
    Option.bind (
      if v15 ≤ s12.1 then
        some s12.1
      else
        some v15) fun (v19 : Int32) =>
    some (.inl (v19, v17, (s12.2.2.1 + (1 : Int32)), (sA s12.2.2.2 0 f14)))

def mX8_hang (g : GS) (w : Int32) : Option (Int32 × GS) :=
  Option.bind (mX8_in w.toInt64 (0 : Int64) (1 : Int64)) fun v1 =>
  if v1 = 0 then
    some ((-1 : Int32), g)
  else
    Option.bind (mX8_copies g (0 : Int32) (200 : Int32)) fun v3 =>
    Option.bind (whO (mX8_hang_l27) FU ((-1 : Int32), (0 : Int32), (0 : Int32), v3)) fun e20 =>
    if w = 0 then
      some (e20.2.1, e20.2.2.2)
    else
      some (e20.1, e20.2.2.2)
abbrev rmX8_hang : Room := { frames := 3, cells := 0, slots := 0, locals := 73 }
set_option maxHeartbeats 4000000 in
set_option maxRecDepth 100000 in
theorem k_X8_hang (l : Launch) (D : va_G) (ca : Nat → ClassId) (ga : Nat → Nat) (g : GS) (w : Int32) (o : Int32 × GS) (hm : mX8_hang g w = some o) : KI l yX8_hang wsX8_hang rmX8_hang D ca [.ref (ga 0), .int w] (cO ca ga g) (cO ca ga o.2) o.1 := by
  refine KI.of (cc := cX8_hang) (n := 6) (plainFor_of_name (by decide)) rfl (Nat.le_of_ble_eq_true rfl) ?_
  intro p e s m below meth c A Z hx hb hml hts hown hA hK hP hD hS hret ls hl
  have hown : s.vm.findClass RX8 = some m.cls := hown
  have hl : lv_has ls 6 [(0, .ref (ga 0)), (1, .int w)] := hl
  have inX8 : ∀ w ∈ wsX80, w ∈ wsX8_hang := by decide +kernel
  have k1 := hts (.fieldLink RX8 7 "FriezeFolkModel" "state" "[I") (by decide +kernel)
  unfold mX8_hang at hm
  refine lv_iload_n hx hb dX8_hang_0 rfl (lv_at hl 1 rfl) ?_
  refine lv_i2l (v := w.toInt64) hx hb dX8_hang_1 rfl ?_
  refine lv_lconst (v := (0 : Int64)) hx hb dX8_hang_2 (by decide) ?_
  refine lv_lconst (v := (1 : Int64)) hx hb dX8_hang_3 (by decide) ?_
  obtain ⟨v1, q1, h22⟩ := obn hm
  clear hm
  refine xSi (As := [.long w.toInt64, .long (0 : Int64), .long (1 : Int64)]) ⟨hx, hb, hml, hown, hts⟩ (k_X8_in l D ca  w.toInt64 (0 : Int64) (1 : Int64) _ q1) (va_cwS 3 hts gX8_hang_X8_in rfl rfl rfl (by decide +kernel) ⟨Nat.le_of_ble_eq_true rfl, Nat.le_of_ble_eq_true rfl⟩) hK hA hP hD hS dX8_hang_4 rfl hl.1 [] [0, 1, 2, 3, 4, 5, 6, 7, 8, 9, 10, 11, 12, 13] [0, 1, 2, 3, 4, 5, 6, 7, 8, 9, 10, 11, 12, 13] rfl rfl (wr := ((cO ca ga g))) rfl rfl (by decide) (wn := (cO ca ga g)) rfl rfl rfl (Nat.le_of_ble_eq_true rfl) (fun H locs hP hD hS => ?_)
  refine lv_if_ne (tgt := 12) hx hb dX8_hang_7 (by decide) (fun c2 => ?_) (fun c2 => ?_)
  · skip
    replace h22 := (if_neg c2).symm.trans h22
    refine lv_iconst (v := (-1 : Int32)) hx hb dX8_hang_12 (by decide) ?_
    refine lv_istore_n (lv' := [(2, .int (-1 : Int32)), (0, .ref (ga 0)), (1, .int w)]) hx hb dX8_hang_13 rfl hl (by decide) rfl (fun ls hl => ?_)
    refine lv_iconst (v := (0 : Int32)) hx hb dX8_hang_14 (by decide) ?_
    refine lv_istore_n (lv' := [(3, .int (0 : Int32)), (2, .int (-1 : Int32)), (0, .ref (ga 0)), (1, .int w)]) hx hb dX8_hang_15 rfl hl (by decide) rfl (fun ls hl => ?_)
    refine lv_aload_n hx hb dX8_hang_16 rfl (lv_at hl 2 rfl) ?_
    refine lv_iconst (v := (0 : Int32)) hx hb dX8_hang_17 (by decide) ?_
    refine lv_sipush (v := (200 : Int32)) hx hb dX8_hang_18 (by decide) ?_
    obtain ⟨v3, q3, h23⟩ := obn h22
    clear h22
    refine xVv (As := [.int (0 : Int32), .int (200 : Int32)]) (ci := 8) ⟨hx, hb, hml, hown, hts⟩ (k_X8_copies l D ca ga g (0 : Int32) (200 : Int32) _ q3) (cwV 2 hts gX8_hang_X8_copies rfl rfl rfl (by decide +kernel) ⟨Nat.le_of_ble_eq_true rfl, Nat.le_of_ble_eq_true rfl⟩) hK hA hP hD hS dX8_hang_21 rfl hl.1 [0, 1, 2, 3, 4, 5, 6, 7, 8, 9, 10, 11, 12, 13] [] [0, 1, 2, 3, 4, 5, 6, 7, 8, 9, 10, 11, 12, 13] rfl rfl (wr := []) rfl rfl (by decide) (wn := (cO ca ga v3)) rfl rfl rfl rfl rfl rfl (Nat.le_of_ble_eq_true rfl) (fun H locs hP hD hS => ?_)
    refine lv_iconst (v := (0 : Int32)) hx hb dX8_hang_24 (by decide) ?_
    refine lv_istore (lv' := [(4, .int (0 : Int32)), (3, .int (0 : Int32)), (2, .int (-1 : Int32)), (0, .ref (ga 0)), (1, .int w)]) hx hb dX8_hang_25 hl (by decide) rfl (fun ls hl => ?_)
    obtain ⟨e20, w24, h25⟩ := obn h23
    clear h23
    have AF20 : ∀ (ls : Array Slot) (H : Heap) (locs : List Loc), lv_has ls 6 [(1, .int w), (2, .int e20.1), (3, .int e20.2.1)] → va_P D vwCl (cO ca ga e20.2.2.2) H → va_D A (cO ca ga e20.2.2.2) → va_S A s.heap H locs → W p l e rmX8_hang s m ([.ref (ga 0), .int w] : List Value).toArray below meth c H locs 0 0 Z (F0 m 85 ls []) := by
      intro ls H locs hl hP hD hS
      refine lv_iload_n hx hb dX8_hang_85 rfl (lv_at hl 0 rfl) ?_
      refine lv_if_ne (tgt := 93) hx hb dX8_hang_86 (by decide) (fun c21 => ?_) (fun c21 => ?_)
      · skip
        replace h25 := (if_neg c21).symm.trans h25
        refine lv_iload_n hx hb dX8_hang_93 rfl (lv_at hl 1 rfl) ?_
        obtain rfl := Option.some.inj h25
        exact hret _ _ _ _ (vp_nar_int _) hP hD hS dX8_hang_94
      · skip
        replace h25 := (if_pos c21).symm.trans h25
        refine lv_iload_n hx hb dX8_hang_89 rfl (lv_at hl 2 rfl) ?_
        refine lv_goto (tgt := 94) hx hb dX8_hang_90 (by decide) ?_
        obtain rfl := Option.some.inj h25
        exact hret _ _ _ _ (vp_nar_int _) hP hD hS dX8_hang_94
    refine whO_walk (I := fun s12 => ∀ (ls : Array Slot) (H : Heap) (locs : List Loc), lv_has ls 6 [(0, .ref (ga 0)), (1, .int w), (2, .int s12.1), (3, .int s12.2.1), (4, .int s12.2.2.1)] → va_P D vwCl (cO ca ga s12.2.2.2) H → va_D A (cO ca ga s12.2.2.2) → va_S A s.heap H locs → W p l e rmX8_hang s m ([.ref (ga 0), .int w] : List Value).toArray below meth c H locs 0 0 Z (F0 m 27 ls [])) ?_ _ _ w24 _ _ _ (lv_sub hl [3, 4, 2, 1, 0] rfl) hP hD hS
    clear w24
    intro s12 o20 h26 hi20 ho20 ls H locs hl hP hD hS
    unfold mX8_hang_l27 at h26
    refine lv_iload hx hb dX8_hang_27 (lv_at hl 4 rfl) ?_
    refine lv_bipush (v := (6 : Int32)) hx hb dX8_hang_29 (by decide) ?_
    refine lv_icmp_ge (tgt := 85) hx hb dX8_hang_31 (by decide) (fun c13 => ?_) (fun c13 => ?_)
    · skip
      replace h26 := (if_pos c13).symm.trans h26
      have h27 := ho20 _ (Option.some.inj h26).symm
      subst h27
      exact AF20 _ _ _ (lv_sub hl [1, 2, 3] rfl) hP hD hS
    · skip
      replace h26 := (if_neg c13).symm.trans h26
      refine lv_aload_n hx hb dX8_hang_34 rfl (lv_at hl 0 rfl) ?_
      refine xget (ref := "FriezeFolkModel") (C := RX8) (T := TX8) (N := 24) (ci := 8) (v := .ref (ga 1)) hx hb hts inX8 hown hK hP 0 rfl rfl 0 (by decide) k1 rfl rfl dX8_hang_35 ?_
      refine lv_sipush (v := (214 : Int32)) hx hb dX8_hang_38 (by decide) ?_
      refine lv_iload hx hb dX8_hang_41 (lv_at hl 4 rfl) ?_
      obtain ⟨f14, q14, h28⟩ := obn h26
      clear h26
      refine xast hx hb hK hP hD hS 1 rfl q14 dX8_hang_43 (wn := (cO ca ga (sA s12.2.2.2 0 f14))) rfl (fun H locs hP hD hS => ?_)
      refine lv_aload_n hx hb dX8_hang_44 rfl (lv_at hl 0 rfl) ?_
      refine lv_sipush (v := (200 : Int32)) hx hb dX8_hang_45 (by decide) ?_
      obtain ⟨v15, q15, h29⟩ := obn h28
      clear h28
      refine xVi (As := [.int (200 : Int32)]) (ci := 8) ⟨hx, hb, hml, hown, hts⟩ (k_X8_frankOfAll l D ca ga (sA s12.2.2.2 0 f14) (200 : Int32) _ q15) (cwV 1 hts gX8_hang_X8_frankOfAll rfl rfl rfl (by decide +kernel) ⟨Nat.le_of_ble_eq_true rfl, Nat.le_of_ble_eq_true rfl⟩) hK hA hP hD hS dX8_hang_48 rfl hl.1 [0, 1, 2, 3, 4, 5, 6, 7, 8, 9, 10, 11, 12, 13] [] [0, 1, 2, 3, 4, 5, 6, 7, 8, 9, 10, 11, 12, 13] rfl rfl (wr := []) rfl rfl (by decide) (wn := (cO ca ga (sA s12.2.2.2 0 f14))) rfl rfl rfl rfl rfl rfl (Nat.le_of_ble_eq_true rfl) (fun H locs hP hD hS => ?_)
      refine lv_istore (lv' := [(5, .int v15), (0, .ref (ga 0)), (1, .int w), (2, .int s12.1), (3, .int s12.2.1), (4, .int s12.2.2.1)]) hx hb dX8_hang_51 hl (by decide) rfl (fun ls hl => ?_)
      refine lv_iload hx hb dX8_hang_53 (lv_at hl 0 rfl) ?_
      refine lv_iload_n hx hb dX8_hang_55 rfl (lv_at hl 3 rfl) ?_
      obtain ⟨v17, q30, h31⟩ := obn h29
      clear h29
      have J17 : ∀ (ls : Array Slot) (H : Heap) (locs : List Loc), lv_has ls 6 [(0, .ref (ga 0)), (1, .int w), (2, .int s12.1), (4, .int s12.2.2.1), (5, .int v15)] → va_P D vwCl (cO ca ga (sA s12.2.2.2 0 f14)) H → va_D A (cO ca ga (sA s12.2.2.2 0 f14)) → va_S A s.heap H locs → W p l e rmX8_hang s m ([.ref (ga 0), .int w] : List Value).toArray below meth c H locs 0 0 Z (F0 m 65 ls [.int v17]) := by
        intro ls H locs hl hP hD hS
        refine lv_istore_n (lv' := [(3, .int v17), (0, .ref (ga 0)), (1, .int w), (2, .int s12.1), (4, .int s12.2.2.1), (5, .int v15)]) hx hb dX8_hang_65 rfl hl (by decide) rfl (fun ls hl => ?_)
        refine lv_iload hx hb dX8_hang_66 (lv_at hl 5 rfl) ?_
        refine lv_iload_n hx hb dX8_hang_68 rfl (lv_at hl 3 rfl) ?_
        obtain ⟨v19, q32, h33⟩ := obn h31
        clear h31
        have J19 : ∀ (ls : Array Slot) (H : Heap) (locs : List Loc), lv_has ls 6 [(0, .ref (ga 0)), (1, .int w), (3, .int v17), (4, .int s12.2.2.1)] → va_P D vwCl (cO ca ga (sA s12.2.2.2 0 f14)) H → va_D A (cO ca ga (sA s12.2.2.2 0 f14)) → va_S A s.heap H locs → W p l e rmX8_hang s m ([.ref (ga 0), .int w] : List Value).toArray below meth c H locs 0 0 Z (F0 m 78 ls [.int v19]) := by
          intro ls H locs hl hP hD hS
          refine lv_istore_n (lv' := [(2, .int v19), (0, .ref (ga 0)), (1, .int w), (3, .int v17), (4, .int s12.2.2.1)]) hx hb dX8_hang_78 rfl hl (by decide) rfl (fun ls hl => ?_)
          refine lv_iinc (v := (s12.2.2.1 + (1 : Int32))) (lv' := [(4, .int (s12.2.2.1 + (1 : Int32))), (2, .int v19), (0, .ref (ga 0)), (1, .int w), (3, .int v17)]) hx hb dX8_hang_79 hl (k := 4) rfl rfl (by decide) rfl (fun ls hl => ?_)
          refine lv_goto (tgt := 27) hx hb dX8_hang_82 (by decide) ?_
          exact hi20 _ (Option.some.inj h33).symm _ _ _ (lv_sub hl [2, 3, 1, 4, 0] rfl) hP hD hS
        refine lv_icmp_le (tgt := 77) hx hb dX8_hang_69 (by decide) (fun c18 => ?_) (fun c18 => ?_)
        · skip
          replace q32 := (if_pos c18).symm.trans q32
          refine lv_iload_n hx hb dX8_hang_77 rfl (lv_at hl 3 rfl) ?_
          obtain rfl := Option.some.inj q32
          exact J19 _ _ _ (lv_sub hl [1, 2, 0, 4] rfl) hP hD hS
        · skip
          replace q32 := (if_neg c18).symm.trans q32
          refine lv_iload hx hb dX8_hang_72 (lv_at hl 5 rfl) ?_
          refine lv_goto (tgt := 78) hx hb dX8_hang_74 (by decide) ?_
          obtain rfl := Option.some.inj q32
          exact J19 _ _ _ (lv_sub hl [1, 2, 0, 4] rfl) hP hD hS
      refine lv_icmp_le (tgt := 64) hx hb dX8_hang_56 (by decide) (fun c16 => ?_) (fun c16 => ?_)
      · skip
        replace q30 := (if_pos c16).symm.trans q30
        refine lv_iload_n hx hb dX8_hang_64 rfl (lv_at hl 4 rfl) ?_
        obtain rfl := Option.some.inj q30
        exact J17 _ _ _ (lv_sub hl [1, 2, 3, 5, 0] rfl) hP hD hS
      · skip
        replace q30 := (if_neg c16).symm.trans q30
        refine lv_iload hx hb dX8_hang_59 (lv_at hl 5 rfl) ?_
        refine lv_goto (tgt := 65) hx hb dX8_hang_61 (by decide) ?_
        obtain rfl := Option.some.inj q30
        exact J17 _ _ _ (lv_sub hl [1, 2, 3, 5, 0] rfl) hP hD hS
  · skip
    replace h22 := (if_pos c2).symm.trans h22
    refine lv_iconst (v := (-1 : Int32)) hx hb dX8_hang_10 (by decide) ?_
    obtain rfl := Option.some.inj h22
    exact hret _ _ _ _ (vp_nar_int _) hP hD hS dX8_hang_11
def mX8_shade_l40 (n : Int32) (s15 : Int32 × Int32 × Int32 × GS) : Option ((Int32 × Int32 × Int32 × GS) ⊕ (Int32 × Int32 × Int32 × GS)) :=
  if (12 : Int32) ≤ s15.2.2.1 then
    some (.inr (s15.1, s15.2.1, s15.2.2.1, s15.2.2.2))
  else
    Option.bind (ast 240 (s15.2.2.2.1 0) (215 : Int32) s15.2.2.1) fun f17 =>
    Option.bind (mX8_yearsGo (sA s15.2.2.2 0 f17) (200 : Int32) n) fun v18 =>
    Option.bind (mX8_frankOfAll v18 (160 : Int32)) fun v19 =>
    Option.bind (
      if v19 ≤ s15.1 then
        some s15.2.1
      else
        some s15.2.2.1) fun (v21 : Int32) =>
    Option.bind (
      if v19 ≤ s15.1 then
        some s15.1
      else
        some v19) fun (v23 : Int32) =>
    some (.inl (v23, v21, (s15.2.2.1 + (1 : Int32)), v18))

def mX8_shade (g : GS) (n : Int32) (w : Int32) : Option (Int32 × GS) :=
  Option.bind (mX8_in n.toInt64 (0 : Int64) (60 : Int64)) fun v1 =>
  if v1 = 0 then
    some ((-1 : Int32), g)
  else
    Option.bind (mX8_in w.toInt64 (0 : Int64) (1 : Int64)) fun v3 =>
    if v3 = 0 then
      some ((-1 : Int32), g)
    else
      Option.bind (mX8_copies g (0 : Int32) (200 : Int32)) fun v5 =>
      Option.bind (whO (mX8_shade_l40 n) FU ((-1 : Int32), (0 : Int32), (0 : Int32), v5)) fun e24 =>
      if w = 0 then
        some (e24.2.1, e24.2.2.2)
      else
        some (e24.1, e24.2.2.2)
abbrev rmX8_shade : Room := { frames := 3, cells := 0, slots := 0, locals := 73 }
set_option maxHeartbeats 4000000 in
set_option maxRecDepth 100000 in
theorem k_X8_shade (l : Launch) (D : va_G) (ca : Nat → ClassId) (ga : Nat → Nat) (g : GS) (n : Int32) (w : Int32) (o : Int32 × GS) (hm : mX8_shade g n w = some o) : KI l yX8_shade wsX8_shade rmX8_shade D ca [.ref (ga 0), .int n, .int w] (cO ca ga g) (cO ca ga o.2) o.1 := by
  refine KI.of (cc := cX8_shade) (n := 7) (plainFor_of_name (by decide)) rfl (Nat.le_of_ble_eq_true rfl) ?_
  intro p e s m below meth c A Z hx hb hml hts hown hA hK hP hD hS hret ls hl
  have hown : s.vm.findClass RX8 = some m.cls := hown
  have hl : lv_has ls 7 [(0, .ref (ga 0)), (1, .int n), (2, .int w)] := hl
  have inX8 : ∀ w ∈ wsX80, w ∈ wsX8_shade := by decide +kernel
  have k1 := hts (.constantLong RX8 174 (60 : Int64)) (by decide +kernel)
  have k2 := hts (.fieldLink RX8 7 "FriezeFolkModel" "state" "[I") (by decide +kernel)
  unfold mX8_shade at hm
  refine lv_iload_n hx hb dX8_shade_0 rfl (lv_at hl 1 rfl) ?_
  refine lv_i2l (v := n.toInt64) hx hb dX8_shade_1 rfl ?_
  refine lv_lconst (v := (0 : Int64)) hx hb dX8_shade_2 (by decide) ?_
  refine lv_ldc2 hx hb hown k1 dX8_shade_3 ?_
  obtain ⟨v1, q1, h26⟩ := obn hm
  clear hm
  refine xSi (As := [.long n.toInt64, .long (0 : Int64), .long (60 : Int64)]) ⟨hx, hb, hml, hown, hts⟩ (k_X8_in l D ca  n.toInt64 (0 : Int64) (60 : Int64) _ q1) (va_cwS 3 hts gX8_shade_X8_in rfl rfl rfl (by decide +kernel) ⟨Nat.le_of_ble_eq_true rfl, Nat.le_of_ble_eq_true rfl⟩) hK hA hP hD hS dX8_shade_6 rfl hl.1 [] [0, 1, 2, 3, 4, 5, 6, 7, 8, 9, 10, 11, 12, 13] [0, 1, 2, 3, 4, 5, 6, 7, 8, 9, 10, 11, 12, 13] rfl rfl (wr := ((cO ca ga g))) rfl rfl (by decide) (wn := (cO ca ga g)) rfl rfl rfl (Nat.le_of_ble_eq_true rfl) (fun H locs hP hD hS => ?_)
  refine lv_if_eq (tgt := 22) hx hb dX8_shade_9 (by decide) (fun c2 => ?_) (fun c2 => ?_)
  · skip
    replace h26 := (if_pos c2).symm.trans h26
    refine lv_iconst (v := (-1 : Int32)) hx hb dX8_shade_22 (by decide) ?_
    obtain rfl := Option.some.inj h26
    exact hret _ _ _ _ (vp_nar_int _) hP hD hS dX8_shade_23
  · skip
    replace h26 := (if_neg c2).symm.trans h26
    refine lv_iload_n hx hb dX8_shade_12 rfl (lv_at hl 2 rfl) ?_
    refine lv_i2l (v := w.toInt64) hx hb dX8_shade_13 rfl ?_
    refine lv_lconst (v := (0 : Int64)) hx hb dX8_shade_14 (by decide) ?_
    refine lv_lconst (v := (1 : Int64)) hx hb dX8_shade_15 (by decide) ?_
    obtain ⟨v3, q3, h27⟩ := obn h26
    clear h26
    refine xSi (As := [.long w.toInt64, .long (0 : Int64), .long (1 : Int64)]) ⟨hx, hb, hml, hown, hts⟩ (k_X8_in l D ca  w.toInt64 (0 : Int64) (1 : Int64) _ q3) (va_cwS 3 hts gX8_shade_X8_in rfl rfl rfl (by decide +kernel) ⟨Nat.le_of_ble_eq_true rfl, Nat.le_of_ble_eq_true rfl⟩) hK hA hP hD hS dX8_shade_16 rfl hl.1 [] [0, 1, 2, 3, 4, 5, 6, 7, 8, 9, 10, 11, 12, 13] [0, 1, 2, 3, 4, 5, 6, 7, 8, 9, 10, 11, 12, 13] rfl rfl (wr := ((cO ca ga g))) rfl rfl (by decide) (wn := (cO ca ga g)) rfl rfl rfl (Nat.le_of_ble_eq_true rfl) (fun H locs hP hD hS => ?_)
    refine lv_if_ne (tgt := 24) hx hb dX8_shade_19 (by decide) (fun c4 => ?_) (fun c4 => ?_)
    · skip
      replace h27 := (if_neg c4).symm.trans h27
      refine lv_iconst (v := (-1 : Int32)) hx hb dX8_shade_24 (by decide) ?_
      refine lv_istore_n (lv' := [(3, .int (-1 : Int32)), (0, .ref (ga 0)), (1, .int n), (2, .int w)]) hx hb dX8_shade_25 rfl hl (by decide) rfl (fun ls hl => ?_)
      refine lv_iconst (v := (0 : Int32)) hx hb dX8_shade_26 (by decide) ?_
      refine lv_istore (lv' := [(4, .int (0 : Int32)), (3, .int (-1 : Int32)), (0, .ref (ga 0)), (1, .int n), (2, .int w)]) hx hb dX8_shade_27 hl (by decide) rfl (fun ls hl => ?_)
      refine lv_aload_n hx hb dX8_shade_29 rfl (lv_at hl 2 rfl) ?_
      refine lv_iconst (v := (0 : Int32)) hx hb dX8_shade_30 (by decide) ?_
      refine lv_sipush (v := (200 : Int32)) hx hb dX8_shade_31 (by decide) ?_
      obtain ⟨v5, q5, h28⟩ := obn h27
      clear h27
      refine xVv (As := [.int (0 : Int32), .int (200 : Int32)]) (ci := 8) ⟨hx, hb, hml, hown, hts⟩ (k_X8_copies l D ca ga g (0 : Int32) (200 : Int32) _ q5) (cwV 2 hts gX8_shade_X8_copies rfl rfl rfl (by decide +kernel) ⟨Nat.le_of_ble_eq_true rfl, Nat.le_of_ble_eq_true rfl⟩) hK hA hP hD hS dX8_shade_34 rfl hl.1 [0, 1, 2, 3, 4, 5, 6, 7, 8, 9, 10, 11, 12, 13] [] [0, 1, 2, 3, 4, 5, 6, 7, 8, 9, 10, 11, 12, 13] rfl rfl (wr := []) rfl rfl (by decide) (wn := (cO ca ga v5)) rfl rfl rfl rfl rfl rfl (Nat.le_of_ble_eq_true rfl) (fun H locs hP hD hS => ?_)
      refine lv_iconst (v := (0 : Int32)) hx hb dX8_shade_37 (by decide) ?_
      refine lv_istore (lv' := [(5, .int (0 : Int32)), (4, .int (0 : Int32)), (3, .int (-1 : Int32)), (0, .ref (ga 0)), (1, .int n), (2, .int w)]) hx hb dX8_shade_38 hl (by decide) rfl (fun ls hl => ?_)
      obtain ⟨e24, w29, h30⟩ := obn h28
      clear h28
      have AF24 : ∀ (ls : Array Slot) (H : Heap) (locs : List Loc), lv_has ls 7 [(2, .int w), (3, .int e24.1), (4, .int e24.2.1)] → va_P D vwCl (cO ca ga e24.2.2.2) H → va_D A (cO ca ga e24.2.2.2) → va_S A s.heap H locs → W p l e rmX8_shade s m ([.ref (ga 0), .int n, .int w] : List Value).toArray below meth c H locs 0 0 Z (F0 m 108 ls []) := by
        intro ls H locs hl hP hD hS
        refine lv_iload_n hx hb dX8_shade_108 rfl (lv_at hl 0 rfl) ?_
        refine lv_if_ne (tgt := 117) hx hb dX8_shade_109 (by decide) (fun c25 => ?_) (fun c25 => ?_)
        · skip
          replace h30 := (if_neg c25).symm.trans h30
          refine lv_iload_n hx hb dX8_shade_117 rfl (lv_at hl 1 rfl) ?_
          obtain rfl := Option.some.inj h30
          exact hret _ _ _ _ (vp_nar_int _) hP hD hS dX8_shade_118
        · skip
          replace h30 := (if_pos c25).symm.trans h30
          refine lv_iload hx hb dX8_shade_112 (lv_at hl 2 rfl) ?_
          refine lv_goto (tgt := 118) hx hb dX8_shade_114 (by decide) ?_
          obtain rfl := Option.some.inj h30
          exact hret _ _ _ _ (vp_nar_int _) hP hD hS dX8_shade_118
      refine whO_walk (I := fun s15 => ∀ (ls : Array Slot) (H : Heap) (locs : List Loc), lv_has ls 7 [(0, .ref (ga 0)), (1, .int n), (2, .int w), (3, .int s15.1), (4, .int s15.2.1), (5, .int s15.2.2.1)] → va_P D vwCl (cO ca ga s15.2.2.2) H → va_D A (cO ca ga s15.2.2.2) → va_S A s.heap H locs → W p l e rmX8_shade s m ([.ref (ga 0), .int n, .int w] : List Value).toArray below meth c H locs 0 0 Z (F0 m 40 ls [])) ?_ _ _ w29 _ _ _ (lv_sub hl [3, 4, 5, 2, 1, 0] rfl) hP hD hS
      clear w29
      intro s15 o24 h31 hi24 ho24 ls H locs hl hP hD hS
      unfold mX8_shade_l40 at h31
      refine lv_iload hx hb dX8_shade_40 (lv_at hl 5 rfl) ?_
      refine lv_bipush (v := (12 : Int32)) hx hb dX8_shade_42 (by decide) ?_
      refine lv_icmp_ge (tgt := 108) hx hb dX8_shade_44 (by decide) (fun c16 => ?_) (fun c16 => ?_)
      · skip
        replace h31 := (if_pos c16).symm.trans h31
        have h32 := ho24 _ (Option.some.inj h31).symm
        subst h32
        exact AF24 _ _ _ (lv_sub hl [2, 3, 4] rfl) hP hD hS
      · skip
        replace h31 := (if_neg c16).symm.trans h31
        refine lv_aload_n hx hb dX8_shade_47 rfl (lv_at hl 0 rfl) ?_
        refine xget (ref := "FriezeFolkModel") (C := RX8) (T := TX8) (N := 24) (ci := 8) (v := .ref (ga 1)) hx hb hts inX8 hown hK hP 0 rfl rfl 0 (by decide) k2 rfl rfl dX8_shade_48 ?_
        refine lv_sipush (v := (215 : Int32)) hx hb dX8_shade_51 (by decide) ?_
        refine lv_iload hx hb dX8_shade_54 (lv_at hl 5 rfl) ?_
        obtain ⟨f17, q17, h33⟩ := obn h31
        clear h31
        refine xast hx hb hK hP hD hS 1 rfl q17 dX8_shade_56 (wn := (cO ca ga (sA s15.2.2.2 0 f17))) rfl (fun H locs hP hD hS => ?_)
        refine lv_aload_n hx hb dX8_shade_57 rfl (lv_at hl 0 rfl) ?_
        refine lv_sipush (v := (200 : Int32)) hx hb dX8_shade_58 (by decide) ?_
        refine lv_iload_n hx hb dX8_shade_61 rfl (lv_at hl 1 rfl) ?_
        obtain ⟨v18, q18, h34⟩ := obn h33
        clear h33
        refine xVv (As := [.int (200 : Int32), .int n]) (ci := 8) ⟨hx, hb, hml, hown, hts⟩ (k_X8_yearsGo l D ca ga (sA s15.2.2.2 0 f17) (200 : Int32) n _ q18) (cwV 2 hts gX8_shade_X8_yearsGo rfl rfl rfl (by decide +kernel) ⟨Nat.le_of_ble_eq_true rfl, Nat.le_of_ble_eq_true rfl⟩) hK hA hP hD hS dX8_shade_62 rfl hl.1 [0, 1, 2, 3, 4, 5, 6, 7, 8, 9, 10, 11, 12, 13] [] [0, 1, 2, 3, 4, 5, 6, 7, 8, 9, 10, 11, 12, 13] rfl rfl (wr := []) rfl rfl (by decide) (wn := (cO ca ga v18)) rfl rfl rfl rfl rfl rfl (Nat.le_of_ble_eq_true rfl) (fun H locs hP hD hS => ?_)
        refine lv_aload_n hx hb dX8_shade_65 rfl (lv_at hl 0 rfl) ?_
        refine lv_sipush (v := (160 : Int32)) hx hb dX8_shade_66 (by decide) ?_
        obtain ⟨v19, q19, h35⟩ := obn h34
        clear h34
        refine xVi (As := [.int (160 : Int32)]) (ci := 8) ⟨hx, hb, hml, hown, hts⟩ (k_X8_frankOfAll l D ca ga v18 (160 : Int32) _ q19) (cwV 1 hts gX8_shade_X8_frankOfAll rfl rfl rfl (by decide +kernel) ⟨Nat.le_of_ble_eq_true rfl, Nat.le_of_ble_eq_true rfl⟩) hK hA hP hD hS dX8_shade_69 rfl hl.1 [0, 1, 2, 3, 4, 5, 6, 7, 8, 9, 10, 11, 12, 13] [] [0, 1, 2, 3, 4, 5, 6, 7, 8, 9, 10, 11, 12, 13] rfl rfl (wr := []) rfl rfl (by decide) (wn := (cO ca ga v18)) rfl rfl rfl rfl rfl rfl (Nat.le_of_ble_eq_true rfl) (fun H locs hP hD hS => ?_)
        refine lv_istore (lv' := [(6, .int v19), (0, .ref (ga 0)), (1, .int n), (2, .int w), (3, .int s15.1), (4, .int s15.2.1), (5, .int s15.2.2.1)]) hx hb dX8_shade_72 hl (by decide) rfl (fun ls hl => ?_)
        refine lv_iload hx hb dX8_shade_74 (lv_at hl 0 rfl) ?_
        refine lv_iload_n hx hb dX8_shade_76 rfl (lv_at hl 4 rfl) ?_
        obtain ⟨v21, q36, h37⟩ := obn h35
        clear h35
        have J21 : ∀ (ls : Array Slot) (H : Heap) (locs : List Loc), lv_has ls 7 [(0, .ref (ga 0)), (1, .int n), (2, .int w), (3, .int s15.1), (5, .int s15.2.2.1), (6, .int v19)] → va_P D vwCl (cO ca ga v18) H → va_D A (cO ca ga v18) → va_S A s.heap H locs → W p l e rmX8_shade s m ([.ref (ga 0), .int n, .int w] : List Value).toArray below meth c H locs 0 0 Z (F0 m 87 ls [.int v21]) := by
          intro ls H locs hl hP hD hS
          refine lv_istore (lv' := [(4, .int v21), (0, .ref (ga 0)), (1, .int n), (2, .int w), (3, .int s15.1), (5, .int s15.2.2.1), (6, .int v19)]) hx hb dX8_shade_87 hl (by decide) rfl (fun ls hl => ?_)
          refine lv_iload hx hb dX8_shade_89 (lv_at hl 6 rfl) ?_
          refine lv_iload_n hx hb dX8_shade_91 rfl (lv_at hl 4 rfl) ?_
          obtain ⟨v23, q38, h39⟩ := obn h37
          clear h37
          have J23 : ∀ (ls : Array Slot) (H : Heap) (locs : List Loc), lv_has ls 7 [(0, .ref (ga 0)), (1, .int n), (2, .int w), (4, .int v21), (5, .int s15.2.2.1)] → va_P D vwCl (cO ca ga v18) H → va_D A (cO ca ga v18) → va_S A s.heap H locs → W p l e rmX8_shade s m ([.ref (ga 0), .int n, .int w] : List Value).toArray below meth c H locs 0 0 Z (F0 m 101 ls [.int v23]) := by
            intro ls H locs hl hP hD hS
            refine lv_istore_n (lv' := [(3, .int v23), (0, .ref (ga 0)), (1, .int n), (2, .int w), (4, .int v21), (5, .int s15.2.2.1)]) hx hb dX8_shade_101 rfl hl (by decide) rfl (fun ls hl => ?_)
            refine lv_iinc (v := (s15.2.2.1 + (1 : Int32))) (lv' := [(5, .int (s15.2.2.1 + (1 : Int32))), (3, .int v23), (0, .ref (ga 0)), (1, .int n), (2, .int w), (4, .int v21)]) hx hb dX8_shade_102 hl (k := 5) rfl rfl (by decide) rfl (fun ls hl => ?_)
            refine lv_goto (tgt := 40) hx hb dX8_shade_105 (by decide) ?_
            exact hi24 _ (Option.some.inj h39).symm _ _ _ (lv_sub hl [2, 3, 4, 1, 5, 0] rfl) hP hD hS
          refine lv_icmp_le (tgt := 100) hx hb dX8_shade_92 (by decide) (fun c22 => ?_) (fun c22 => ?_)
          · skip
            replace q38 := (if_pos c22).symm.trans q38
            refine lv_iload_n hx hb dX8_shade_100 rfl (lv_at hl 4 rfl) ?_
            obtain rfl := Option.some.inj q38
            exact J23 _ _ _ (lv_sub hl [1, 2, 3, 0, 5] rfl) hP hD hS
          · skip
            replace q38 := (if_neg c22).symm.trans q38
            refine lv_iload hx hb dX8_shade_95 (lv_at hl 6 rfl) ?_
            refine lv_goto (tgt := 101) hx hb dX8_shade_97 (by decide) ?_
            obtain rfl := Option.some.inj q38
            exact J23 _ _ _ (lv_sub hl [1, 2, 3, 0, 5] rfl) hP hD hS
        refine lv_icmp_le (tgt := 85) hx hb dX8_shade_77 (by decide) (fun c20 => ?_) (fun c20 => ?_)
        · skip
          replace q36 := (if_pos c20).symm.trans q36
          refine lv_iload hx hb dX8_shade_85 (lv_at hl 5 rfl) ?_
          obtain rfl := Option.some.inj q36
          exact J21 _ _ _ (lv_sub hl [1, 2, 3, 4, 6, 0] rfl) hP hD hS
        · skip
          replace q36 := (if_neg c20).symm.trans q36
          refine lv_iload hx hb dX8_shade_80 (lv_at hl 6 rfl) ?_
          refine lv_goto (tgt := 87) hx hb dX8_shade_82 (by decide) ?_
          obtain rfl := Option.some.inj q36
          exact J21 _ _ _ (lv_sub hl [1, 2, 3, 4, 6, 0] rfl) hP hD hS
    · skip
      replace h27 := (if_pos c4).symm.trans h27
      refine lv_iconst (v := (-1 : Int32)) hx hb dX8_shade_22 (by decide) ?_
      obtain rfl := Option.some.inj h27
      exact hret _ _ _ _ (vp_nar_int _) hP hD hS dX8_shade_23
def mX8_swap_l65 (s52 : Int32 × Int32 × Int32 × GS) (s77 : Int32 × Int32 × Int32 × GS) (s87 : Int32 × GS) : Option ((Int32 × GS) ⊕ (Int32 × GS)) :=
  if (12 : Int32) ≤ s87.1 then
    some (.inr (s87.1, s87.2))
  else
    Option.bind (ald 240 (s87.2.1 0) (s87.1 + s77.2.2.1)) fun v89 =>
    Option.bind (ast 240 (s87.2.1 0) (((200 : Int32) + s87.1) + s52.2.2.1) v89) fun f90 =>
    Option.bind (ald 240 ((sA s87.2 0 f90).1 0) (s87.1 + s52.2.2.1)) fun v91 =>
    Option.bind (ast 240 ((sA s87.2 0 f90).1 0) (((200 : Int32) + s87.1) + s77.2.2.1) v91) fun f92 =>
    some (.inl ((s87.1 + (6 : Int32)), (sA (sA s87.2 0 f90) 0 f92)))

def mX8_swap_l42 (s52 : Int32 × Int32 × Int32 × GS) (s77 : Int32 × Int32 × Int32 × GS) : Option ((Int32 × Int32 × Int32 × GS) ⊕ (Int32 × Int32 × Int32 × GS)) :=
  Option.bind (ald 240 (s77.2.2.2.1 0) (12 : Int32)) fun v78 =>
  if v78 ≤ s77.2.2.1 then
    some (.inr (s77.1, s77.2.1, s77.2.2.1, s77.2.2.2))
  else
    Option.bind (mX8_copies s77.2.2.2 (0 : Int32) (200 : Int32)) fun v80 =>
    Option.bind (whO (mX8_swap_l65 s52 s77) FU ((0 : Int32), v80)) fun e93 =>
    Option.bind (mX8_frankOfAll e93.2 (200 : Int32)) fun v94 =>
    Option.bind (
      if v94 ≤ s77.1 then
        some s77.2.1
      else
        some (((10 : Int32) * s52.2.2.1) + s77.2.2.1)) fun (v96 : Int32) =>
    Option.bind (
      if v94 ≤ s77.1 then
        some s77.1
      else
        some v94) fun (v98 : Int32) =>
    some (.inl (v98, v96, (s77.2.2.1 + (1 : Int32)), e93.2))

def mX8_swap_l24 (s52 : Int32 × Int32 × Int32 × GS) : Option ((Int32 × Int32 × Int32 × GS) ⊕ (Int32 × Int32 × Int32 × GS)) :=
  Option.bind (ald 240 (s52.2.2.2.1 0) (12 : Int32)) fun v53 =>
  if v53 ≤ s52.2.2.1 then
    some (.inr (s52.1, s52.2.1, s52.2.2.1, s52.2.2.2))
  else
    Option.bind (whO (mX8_swap_l42 s52) FU (s52.1, s52.2.1, (s52.2.2.1 + (1 : Int32)), s52.2.2.2)) fun e99 =>
    some (.inl (e99.1, e99.2.1, (s52.2.2.1 + (1 : Int32)), e99.2.2.2))

def mX8_swap (g : GS) (w : Int32) : Option (Int32 × GS) :=
  Option.bind (mX8_in w.toInt64 (0 : Int64) (1 : Int64)) fun v1 =>
  if v1 = 0 then
    some ((-1 : Int32), g)
  else
    Option.bind (mX8_frankOfAll g (0 : Int32)) fun v3 =>
    Option.bind (whO (mX8_swap_l24) FU (v3, (-4 : Int32), (0 : Int32), g)) fun e100 =>
    Option.bind (
      if e100.2.1 = (-4 : Int32) then
        some (.inl ())
      else
        if w = 0 then
          some (.inl ())
        else
          some (.inr (e100.1, e100.2.2.2))) fun (v103 : (Unit) ⊕ (Int32 × GS)) => esc v103 fun t104 =>
    some (e100.2.1, e100.2.2.2)
abbrev rmX8_swap : Room := { frames := 3, cells := 0, slots := 0, locals := 73 }
set_option maxHeartbeats 4000000 in
set_option maxRecDepth 100000 in
theorem k_X8_swap (l : Launch) (D : va_G) (ca : Nat → ClassId) (ga : Nat → Nat) (g : GS) (w : Int32) (o : Int32 × GS) (hm : mX8_swap g w = some o) : KI l yX8_swap wsX8_swap rmX8_swap D ca [.ref (ga 0), .int w] (cO ca ga g) (cO ca ga o.2) o.1 := by
  refine KI.of (cc := cX8_swap) (n := 7) (plainFor_of_name (by decide)) rfl (Nat.le_of_ble_eq_true rfl) ?_
  intro p e s m below meth c A Z hx hb hml hts hown hA hK hP hD hS hret ls hl
  have hown : s.vm.findClass RX8 = some m.cls := hown
  have hl : lv_has ls 7 [(0, .ref (ga 0)), (1, .int w)] := hl
  have inX8 : ∀ w ∈ wsX80, w ∈ wsX8_swap := by decide +kernel
  have k1 := hts (.fieldLink RX8 7 "FriezeFolkModel" "state" "[I") (by decide +kernel)
  unfold mX8_swap at hm
  refine lv_iload_n hx hb dX8_swap_0 rfl (lv_at hl 1 rfl) ?_
  refine lv_i2l (v := w.toInt64) hx hb dX8_swap_1 rfl ?_
  refine lv_lconst (v := (0 : Int64)) hx hb dX8_swap_2 (by decide) ?_
  refine lv_lconst (v := (1 : Int64)) hx hb dX8_swap_3 (by decide) ?_
  obtain ⟨v1, q1, h105⟩ := obn hm
  clear hm
  refine xSi (As := [.long w.toInt64, .long (0 : Int64), .long (1 : Int64)]) ⟨hx, hb, hml, hown, hts⟩ (k_X8_in l D ca  w.toInt64 (0 : Int64) (1 : Int64) _ q1) (va_cwS 3 hts gX8_swap_X8_in rfl rfl rfl (by decide +kernel) ⟨Nat.le_of_ble_eq_true rfl, Nat.le_of_ble_eq_true rfl⟩) hK hA hP hD hS dX8_swap_4 rfl hl.1 [] [0, 1, 2, 3, 4, 5, 6, 7, 8, 9, 10, 11, 12, 13] [0, 1, 2, 3, 4, 5, 6, 7, 8, 9, 10, 11, 12, 13] rfl rfl (wr := ((cO ca ga g))) rfl rfl (by decide) (wn := (cO ca ga g)) rfl rfl rfl (Nat.le_of_ble_eq_true rfl) (fun H locs hP hD hS => ?_)
  refine lv_if_ne (tgt := 12) hx hb dX8_swap_7 (by decide) (fun c2 => ?_) (fun c2 => ?_)
  · skip
    replace h105 := (if_neg c2).symm.trans h105
    refine lv_aload_n hx hb dX8_swap_12 rfl (lv_at hl 0 rfl) ?_
    refine lv_iconst (v := (0 : Int32)) hx hb dX8_swap_13 (by decide) ?_
    obtain ⟨v3, q3, h106⟩ := obn h105
    clear h105
    refine xVi (As := [.int (0 : Int32)]) (ci := 8) ⟨hx, hb, hml, hown, hts⟩ (k_X8_frankOfAll l D ca ga g (0 : Int32) _ q3) (cwV 1 hts gX8_swap_X8_frankOfAll rfl rfl rfl (by decide +kernel) ⟨Nat.le_of_ble_eq_true rfl, Nat.le_of_ble_eq_true rfl⟩) hK hA hP hD hS dX8_swap_14 rfl hl.1 [0, 1, 2, 3, 4, 5, 6, 7, 8, 9, 10, 11, 12, 13] [] [0, 1, 2, 3, 4, 5, 6, 7, 8, 9, 10, 11, 12, 13] rfl rfl (wr := []) rfl rfl (by decide) (wn := (cO ca ga g)) rfl rfl rfl rfl rfl rfl (Nat.le_of_ble_eq_true rfl) (fun H locs hP hD hS => ?_)
    refine lv_istore_n (lv' := [(2, .int v3), (0, .ref (ga 0)), (1, .int w)]) hx hb dX8_swap_17 rfl hl (by decide) rfl (fun ls hl => ?_)
    refine lv_bipush (v := (-4 : Int32)) hx hb dX8_swap_18 (by decide) ?_
    refine lv_istore_n (lv' := [(3, .int (-4 : Int32)), (2, .int v3), (0, .ref (ga 0)), (1, .int w)]) hx hb dX8_swap_20 rfl hl (by decide) rfl (fun ls hl => ?_)
    refine lv_iconst (v := (0 : Int32)) hx hb dX8_swap_21 (by decide) ?_
    refine lv_istore (lv' := [(4, .int (0 : Int32)), (3, .int (-4 : Int32)), (2, .int v3), (0, .ref (ga 0)), (1, .int w)]) hx hb dX8_swap_22 hl (by decide) rfl (fun ls hl => ?_)
    obtain ⟨e100, w107, h108⟩ := obn h106
    clear h106
    have AF100 : ∀ (ls : Array Slot) (H : Heap) (locs : List Loc), lv_has ls 7 [(1, .int w), (2, .int e100.1), (3, .int e100.2.1)] → va_P D vwCl (cO ca ga e100.2.2.2) H → va_D A (cO ca ga e100.2.2.2) → va_S A s.heap H locs → W p l e rmX8_swap s m ([.ref (ga 0), .int w] : List Value).toArray below meth c H locs 0 0 Z (F0 m 179 ls []) := by
      intro ls H locs hl hP hD hS
      refine lv_iload_n hx hb dX8_swap_179 rfl (lv_at hl 2 rfl) ?_
      refine lv_bipush (v := (-4 : Int32)) hx hb dX8_swap_180 (by decide) ?_
      obtain ⟨v103, q109, h110⟩ := obn h108
      clear h108
      have J103 : ∀ t104, v103 = .inl t104 → ∀ (ls : Array Slot) (H : Heap) (locs : List Loc), lv_has ls 7 [(3, .int e100.2.1)] → va_P D vwCl (cO ca ga e100.2.2.2) H → va_D A (cO ca ga e100.2.2.2) → va_S A s.heap H locs → W p l e rmX8_swap s m ([.ref (ga 0), .int w] : List Value).toArray below meth c H locs 0 0 Z (F0 m 189 ls []) := by
        intro t104 ht ls H locs hl hP hD hS
        subst ht
        replace h110 := (esc_l _ _).symm.trans h110
        refine lv_iload_n hx hb dX8_swap_189 rfl (lv_at hl 0 rfl) ?_
        refine lv_goto (tgt := 194) hx hb dX8_swap_190 (by decide) ?_
        obtain rfl := Option.some.inj h110
        exact hret _ _ _ _ (vp_nar_int _) hP hD hS dX8_swap_194
      refine lv_icmp_eq (tgt := 189) hx hb dX8_swap_182 (by decide) (fun c101 => ?_) (fun c101 => ?_)
      · skip
        replace q109 := (if_pos c101).symm.trans q109
        obtain rfl := Option.some.inj q109
        exact J103 _ rfl _ _ _ (lv_sub hl [2] rfl) hP hD hS
      · skip
        replace q109 := (if_neg c101).symm.trans q109
        refine lv_iload_n hx hb dX8_swap_185 rfl (lv_at hl 0 rfl) ?_
        refine lv_if_ne (tgt := 193) hx hb dX8_swap_186 (by decide) (fun c102 => ?_) (fun c102 => ?_)
        · skip
          replace q109 := (if_neg c102).symm.trans q109
          refine lv_iload_n hx hb dX8_swap_193 rfl (lv_at hl 1 rfl) ?_
          obtain rfl := Option.some.inj q109
          replace h110 := (esc_r _ _).symm.trans h110
          obtain rfl := Option.some.inj h110
          exact hret _ _ _ _ (vp_nar_int _) hP hD hS dX8_swap_194
        · skip
          replace q109 := (if_pos c102).symm.trans q109
          obtain rfl := Option.some.inj q109
          exact J103 _ rfl _ _ _ (lv_sub hl [2] rfl) hP hD hS
    refine whO_walk (I := fun s52 => ∀ (ls : Array Slot) (H : Heap) (locs : List Loc), lv_has ls 7 [(0, .ref (ga 0)), (1, .int w), (2, .int s52.1), (3, .int s52.2.1), (4, .int s52.2.2.1)] → va_P D vwCl (cO ca ga s52.2.2.2) H → va_D A (cO ca ga s52.2.2.2) → va_S A s.heap H locs → W p l e rmX8_swap s m ([.ref (ga 0), .int w] : List Value).toArray below meth c H locs 0 0 Z (F0 m 24 ls [])) ?_ _ _ w107 _ _ _ (lv_sub hl [3, 4, 2, 1, 0] rfl) hP hD hS
    clear w107
    intro s52 o100 h111 hi100 ho100 ls H locs hl hP hD hS
    unfold mX8_swap_l24 at h111
    refine lv_iload hx hb dX8_swap_24 (lv_at hl 4 rfl) ?_
    refine lv_aload_n hx hb dX8_swap_26 rfl (lv_at hl 0 rfl) ?_
    refine xget (ref := "FriezeFolkModel") (C := RX8) (T := TX8) (N := 24) (ci := 8) (v := .ref (ga 1)) hx hb hts inX8 hown hK hP 0 rfl rfl 0 (by decide) k1 rfl rfl dX8_swap_27 ?_
    refine lv_bipush (v := (12 : Int32)) hx hb dX8_swap_30 (by decide) ?_
    obtain ⟨v53, q53, h112⟩ := obn h111
    clear h111
    refine xald hx hb hK hP 1 rfl q53 dX8_swap_32 ?_
    refine lv_icmp_ge (tgt := 179) hx hb dX8_swap_33 (by decide) (fun c54 => ?_) (fun c54 => ?_)
    · skip
      replace h112 := (if_pos c54).symm.trans h112
      have h113 := ho100 _ (Option.some.inj h112).symm
      subst h113
      exact AF100 _ _ _ (lv_sub hl [1, 2, 3] rfl) hP hD hS
    · skip
      replace h112 := (if_neg c54).symm.trans h112
      refine lv_iload hx hb dX8_swap_36 (lv_at hl 4 rfl) ?_
      refine lv_iconst (v := (1 : Int32)) hx hb dX8_swap_38 (by decide) ?_
      refine lv_iadd hx hb dX8_swap_39 ?_
      refine lv_istore (lv' := [(5, .int (s52.2.2.1 + (1 : Int32))), (0, .ref (ga 0)), (1, .int w), (2, .int s52.1), (3, .int s52.2.1), (4, .int s52.2.2.1)]) hx hb dX8_swap_40 hl (by decide) rfl (fun ls hl => ?_)
      obtain ⟨e99, w114, h115⟩ := obn h112
      clear h112
      have AF99 : ∀ (ls : Array Slot) (H : Heap) (locs : List Loc), lv_has ls 7 [(0, .ref (ga 0)), (1, .int w), (2, .int e99.1), (3, .int e99.2.1), (4, .int s52.2.2.1)] → va_P D vwCl (cO ca ga e99.2.2.2) H → va_D A (cO ca ga e99.2.2.2) → va_S A s.heap H locs → W p l e rmX8_swap s m ([.ref (ga 0), .int w] : List Value).toArray below meth c H locs 0 0 Z (F0 m 173 ls []) := by
        intro ls H locs hl hP hD hS
        refine lv_iinc (v := (s52.2.2.1 + (1 : Int32))) (lv' := [(4, .int (s52.2.2.1 + (1 : Int32))), (0, .ref (ga 0)), (1, .int w), (2, .int e99.1), (3, .int e99.2.1)]) hx hb dX8_swap_173 hl (k := 4) rfl rfl (by decide) rfl (fun ls hl => ?_)
        refine lv_goto (tgt := 24) hx hb dX8_swap_176 (by decide) ?_
        exact hi100 _ (Option.some.inj h115).symm _ _ _ (lv_sub hl [1, 2, 3, 4, 0] rfl) hP hD hS
      refine whO_walk (I := fun s77 => ∀ (ls : Array Slot) (H : Heap) (locs : List Loc), lv_has ls 7 [(0, .ref (ga 0)), (1, .int w), (2, .int s77.1), (3, .int s77.2.1), (4, .int s52.2.2.1), (5, .int s77.2.2.1)] → va_P D vwCl (cO ca ga s77.2.2.2) H → va_D A (cO ca ga s77.2.2.2) → va_S A s.heap H locs → W p l e rmX8_swap s m ([.ref (ga 0), .int w] : List Value).toArray below meth c H locs 0 0 Z (F0 m 42 ls [])) ?_ _ _ w114 _ _ _ (lv_sub hl [1, 2, 3, 4, 5, 0] rfl) hP hD hS
      clear w114
      intro s77 o99 h116 hi99 ho99 ls H locs hl hP hD hS
      unfold mX8_swap_l42 at h116
      refine lv_iload hx hb dX8_swap_42 (lv_at hl 5 rfl) ?_
      refine lv_aload_n hx hb dX8_swap_44 rfl (lv_at hl 0 rfl) ?_
      refine xget (ref := "FriezeFolkModel") (C := RX8) (T := TX8) (N := 24) (ci := 8) (v := .ref (ga 1)) hx hb hts inX8 hown hK hP 0 rfl rfl 0 (by decide) k1 rfl rfl dX8_swap_45 ?_
      refine lv_bipush (v := (12 : Int32)) hx hb dX8_swap_48 (by decide) ?_
      obtain ⟨v78, q78, h117⟩ := obn h116
      clear h116
      refine xald hx hb hK hP 1 rfl q78 dX8_swap_50 ?_
      refine lv_icmp_ge (tgt := 173) hx hb dX8_swap_51 (by decide) (fun c79 => ?_) (fun c79 => ?_)
      · skip
        replace h117 := (if_pos c79).symm.trans h117
        have h118 := ho99 _ (Option.some.inj h117).symm
        subst h118
        exact AF99 _ _ _ (lv_sub hl [0, 1, 2, 3, 4] rfl) hP hD hS
      · skip
        replace h117 := (if_neg c79).symm.trans h117
        refine lv_aload_n hx hb dX8_swap_54 rfl (lv_at hl 0 rfl) ?_
        refine lv_iconst (v := (0 : Int32)) hx hb dX8_swap_55 (by decide) ?_
        refine lv_sipush (v := (200 : Int32)) hx hb dX8_swap_56 (by decide) ?_
        obtain ⟨v80, q80, h119⟩ := obn h117
        clear h117
        refine xVv (As := [.int (0 : Int32), .int (200 : Int32)]) (ci := 8) ⟨hx, hb, hml, hown, hts⟩ (k_X8_copies l D ca ga s77.2.2.2 (0 : Int32) (200 : Int32) _ q80) (cwV 2 hts gX8_swap_X8_copies rfl rfl rfl (by decide +kernel) ⟨Nat.le_of_ble_eq_true rfl, Nat.le_of_ble_eq_true rfl⟩) hK hA hP hD hS dX8_swap_59 rfl hl.1 [0, 1, 2, 3, 4, 5, 6, 7, 8, 9, 10, 11, 12, 13] [] [0, 1, 2, 3, 4, 5, 6, 7, 8, 9, 10, 11, 12, 13] rfl rfl (wr := []) rfl rfl (by decide) (wn := (cO ca ga v80)) rfl rfl rfl rfl rfl rfl (Nat.le_of_ble_eq_true rfl) (fun H locs hP hD hS => ?_)
        refine lv_iconst (v := (0 : Int32)) hx hb dX8_swap_62 (by decide) ?_
        refine lv_istore (lv' := [(6, .int (0 : Int32)), (0, .ref (ga 0)), (1, .int w), (2, .int s77.1), (3, .int s77.2.1), (4, .int s52.2.2.1), (5, .int s77.2.2.1)]) hx hb dX8_swap_63 hl (by decide) rfl (fun ls hl => ?_)
        obtain ⟨e93, w120, h121⟩ := obn h119
        clear h119
        have AF93 : ∀ (ls : Array Slot) (H : Heap) (locs : List Loc), lv_has ls 7 [(0, .ref (ga 0)), (1, .int w), (2, .int s77.1), (3, .int s77.2.1), (4, .int s52.2.2.1), (5, .int s77.2.2.1)] → va_P D vwCl (cO ca ga e93.2) H → va_D A (cO ca ga e93.2) → va_S A s.heap H locs → W p l e rmX8_swap s m ([.ref (ga 0), .int w] : List Value).toArray below meth c H locs 0 0 Z (F0 m 126 ls []) := by
          intro ls H locs hl hP hD hS
          refine lv_aload_n hx hb dX8_swap_126 rfl (lv_at hl 0 rfl) ?_
          refine lv_sipush (v := (200 : Int32)) hx hb dX8_swap_127 (by decide) ?_
          obtain ⟨v94, q94, h122⟩ := obn h121
          clear h121
          refine xVi (As := [.int (200 : Int32)]) (ci := 8) ⟨hx, hb, hml, hown, hts⟩ (k_X8_frankOfAll l D ca ga e93.2 (200 : Int32) _ q94) (cwV 1 hts gX8_swap_X8_frankOfAll rfl rfl rfl (by decide +kernel) ⟨Nat.le_of_ble_eq_true rfl, Nat.le_of_ble_eq_true rfl⟩) hK hA hP hD hS dX8_swap_130 rfl hl.1 [0, 1, 2, 3, 4, 5, 6, 7, 8, 9, 10, 11, 12, 13] [] [0, 1, 2, 3, 4, 5, 6, 7, 8, 9, 10, 11, 12, 13] rfl rfl (wr := []) rfl rfl (by decide) (wn := (cO ca ga e93.2)) rfl rfl rfl rfl rfl rfl (Nat.le_of_ble_eq_true rfl) (fun H locs hP hD hS => ?_)
          refine lv_istore (lv' := [(6, .int v94), (0, .ref (ga 0)), (1, .int w), (2, .int s77.1), (3, .int s77.2.1), (4, .int s52.2.2.1), (5, .int s77.2.2.1)]) hx hb dX8_swap_133 hl (by decide) rfl (fun ls hl => ?_)
          refine lv_iload hx hb dX8_swap_135 (lv_at hl 0 rfl) ?_
          refine lv_iload_n hx hb dX8_swap_137 rfl (lv_at hl 3 rfl) ?_
          obtain ⟨v96, q123, h124⟩ := obn h122
          clear h122
          have J96 : ∀ (ls : Array Slot) (H : Heap) (locs : List Loc), lv_has ls 7 [(0, .ref (ga 0)), (1, .int w), (2, .int s77.1), (4, .int s52.2.2.1), (5, .int s77.2.2.1), (6, .int v94)] → va_P D vwCl (cO ca ga e93.2) H → va_D A (cO ca ga e93.2) → va_S A s.heap H locs → W p l e rmX8_swap s m ([.ref (ga 0), .int w] : List Value).toArray below meth c H locs 0 0 Z (F0 m 153 ls [.int v96]) := by
            intro ls H locs hl hP hD hS
            refine lv_istore_n (lv' := [(3, .int v96), (0, .ref (ga 0)), (1, .int w), (2, .int s77.1), (4, .int s52.2.2.1), (5, .int s77.2.2.1), (6, .int v94)]) hx hb dX8_swap_153 rfl hl (by decide) rfl (fun ls hl => ?_)
            refine lv_iload hx hb dX8_swap_154 (lv_at hl 6 rfl) ?_
            refine lv_iload_n hx hb dX8_swap_156 rfl (lv_at hl 3 rfl) ?_
            obtain ⟨v98, q125, h126⟩ := obn h124
            clear h124
            have J98 : ∀ (ls : Array Slot) (H : Heap) (locs : List Loc), lv_has ls 7 [(0, .ref (ga 0)), (1, .int w), (3, .int v96), (4, .int s52.2.2.1), (5, .int s77.2.2.1)] → va_P D vwCl (cO ca ga e93.2) H → va_D A (cO ca ga e93.2) → va_S A s.heap H locs → W p l e rmX8_swap s m ([.ref (ga 0), .int w] : List Value).toArray below meth c H locs 0 0 Z (F0 m 166 ls [.int v98]) := by
              intro ls H locs hl hP hD hS
              refine lv_istore_n (lv' := [(2, .int v98), (0, .ref (ga 0)), (1, .int w), (3, .int v96), (4, .int s52.2.2.1), (5, .int s77.2.2.1)]) hx hb dX8_swap_166 rfl hl (by decide) rfl (fun ls hl => ?_)
              refine lv_iinc (v := (s77.2.2.1 + (1 : Int32))) (lv' := [(5, .int (s77.2.2.1 + (1 : Int32))), (2, .int v98), (0, .ref (ga 0)), (1, .int w), (3, .int v96), (4, .int s52.2.2.1)]) hx hb dX8_swap_167 hl (k := 5) rfl rfl (by decide) rfl (fun ls hl => ?_)
              refine lv_goto (tgt := 42) hx hb dX8_swap_170 (by decide) ?_
              exact hi99 _ (Option.some.inj h126).symm _ _ _ (lv_sub hl [2, 3, 1, 4, 5, 0] rfl) hP hD hS
            refine lv_icmp_le (tgt := 165) hx hb dX8_swap_157 (by decide) (fun c97 => ?_) (fun c97 => ?_)
            · skip
              replace q125 := (if_pos c97).symm.trans q125
              refine lv_iload_n hx hb dX8_swap_165 rfl (lv_at hl 3 rfl) ?_
              obtain rfl := Option.some.inj q125
              exact J98 _ _ _ (lv_sub hl [1, 2, 0, 4, 5] rfl) hP hD hS
            · skip
              replace q125 := (if_neg c97).symm.trans q125
              refine lv_iload hx hb dX8_swap_160 (lv_at hl 6 rfl) ?_
              refine lv_goto (tgt := 166) hx hb dX8_swap_162 (by decide) ?_
              obtain rfl := Option.some.inj q125
              exact J98 _ _ _ (lv_sub hl [1, 2, 0, 4, 5] rfl) hP hD hS
          refine lv_icmp_le (tgt := 152) hx hb dX8_swap_138 (by decide) (fun c95 => ?_) (fun c95 => ?_)
          · skip
            replace q123 := (if_pos c95).symm.trans q123
            refine lv_iload_n hx hb dX8_swap_152 rfl (lv_at hl 4 rfl) ?_
            obtain rfl := Option.some.inj q123
            exact J96 _ _ _ (lv_sub hl [1, 2, 3, 5, 6, 0] rfl) hP hD hS
          · skip
            replace q123 := (if_neg c95).symm.trans q123
            refine lv_bipush (v := (10 : Int32)) hx hb dX8_swap_141 (by decide) ?_
            refine lv_iload hx hb dX8_swap_143 (lv_at hl 5 rfl) ?_
            refine lv_imul hx hb dX8_swap_145 ?_
            refine lv_iload hx hb dX8_swap_146 (lv_at hl 6 rfl) ?_
            refine lv_iadd hx hb dX8_swap_148 ?_
            refine lv_goto (tgt := 153) hx hb dX8_swap_149 (by decide) ?_
            obtain rfl := Option.some.inj q123
            exact J96 _ _ _ (lv_sub hl [1, 2, 3, 5, 6, 0] rfl) hP hD hS
        refine whO_walk (I := fun s87 => ∀ (ls : Array Slot) (H : Heap) (locs : List Loc), lv_has ls 7 [(0, .ref (ga 0)), (1, .int w), (2, .int s77.1), (3, .int s77.2.1), (4, .int s52.2.2.1), (5, .int s77.2.2.1), (6, .int s87.1)] → va_P D vwCl (cO ca ga s87.2) H → va_D A (cO ca ga s87.2) → va_S A s.heap H locs → W p l e rmX8_swap s m ([.ref (ga 0), .int w] : List Value).toArray below meth c H locs 0 0 Z (F0 m 65 ls [])) ?_ _ _ w120 _ _ _ (lv_sub hl [1, 2, 3, 4, 5, 6, 0] rfl) hP hD hS
        clear w120
        intro s87 o93 h127 hi93 ho93 ls H locs hl hP hD hS
        unfold mX8_swap_l65 at h127
        refine lv_iload hx hb dX8_swap_65 (lv_at hl 6 rfl) ?_
        refine lv_bipush (v := (12 : Int32)) hx hb dX8_swap_67 (by decide) ?_
        refine lv_icmp_ge (tgt := 126) hx hb dX8_swap_69 (by decide) (fun c88 => ?_) (fun c88 => ?_)
        · skip
          replace h127 := (if_pos c88).symm.trans h127
          have h128 := ho93 _ (Option.some.inj h127).symm
          subst h128
          exact AF93 _ _ _ (lv_sub hl [0, 1, 2, 3, 4, 5] rfl) hP hD hS
        · skip
          replace h127 := (if_neg c88).symm.trans h127
          refine lv_aload_n hx hb dX8_swap_72 rfl (lv_at hl 0 rfl) ?_
          refine xget (ref := "FriezeFolkModel") (C := RX8) (T := TX8) (N := 24) (ci := 8) (v := .ref (ga 1)) hx hb hts inX8 hown hK hP 0 rfl rfl 0 (by decide) k1 rfl rfl dX8_swap_73 ?_
          refine lv_sipush (v := (200 : Int32)) hx hb dX8_swap_76 (by decide) ?_
          refine lv_iload hx hb dX8_swap_79 (lv_at hl 6 rfl) ?_
          refine lv_iadd hx hb dX8_swap_81 ?_
          refine lv_iload hx hb dX8_swap_82 (lv_at hl 4 rfl) ?_
          refine lv_iadd hx hb dX8_swap_84 ?_
          refine lv_aload_n hx hb dX8_swap_85 rfl (lv_at hl 0 rfl) ?_
          refine xget (ref := "FriezeFolkModel") (C := RX8) (T := TX8) (N := 24) (ci := 8) (v := .ref (ga 1)) hx hb hts inX8 hown hK hP 0 rfl rfl 0 (by decide) k1 rfl rfl dX8_swap_86 ?_
          refine lv_iload hx hb dX8_swap_89 (lv_at hl 6 rfl) ?_
          refine lv_iload hx hb dX8_swap_91 (lv_at hl 5 rfl) ?_
          refine lv_iadd hx hb dX8_swap_93 ?_
          obtain ⟨v89, q89, h129⟩ := obn h127
          clear h127
          refine xald hx hb hK hP 1 rfl q89 dX8_swap_94 ?_
          obtain ⟨f90, q90, h130⟩ := obn h129
          clear h129
          refine xast hx hb hK hP hD hS 1 rfl q90 dX8_swap_95 (wn := (cO ca ga (sA s87.2 0 f90))) rfl (fun H locs hP hD hS => ?_)
          refine lv_aload_n hx hb dX8_swap_96 rfl (lv_at hl 0 rfl) ?_
          refine xget (ref := "FriezeFolkModel") (C := RX8) (T := TX8) (N := 24) (ci := 8) (v := .ref (ga 1)) hx hb hts inX8 hown hK hP 0 rfl rfl 0 (by decide) k1 rfl rfl dX8_swap_97 ?_
          refine lv_sipush (v := (200 : Int32)) hx hb dX8_swap_100 (by decide) ?_
          refine lv_iload hx hb dX8_swap_103 (lv_at hl 6 rfl) ?_
          refine lv_iadd hx hb dX8_swap_105 ?_
          refine lv_iload hx hb dX8_swap_106 (lv_at hl 5 rfl) ?_
          refine lv_iadd hx hb dX8_swap_108 ?_
          refine lv_aload_n hx hb dX8_swap_109 rfl (lv_at hl 0 rfl) ?_
          refine xget (ref := "FriezeFolkModel") (C := RX8) (T := TX8) (N := 24) (ci := 8) (v := .ref (ga 1)) hx hb hts inX8 hown hK hP 0 rfl rfl 0 (by decide) k1 rfl rfl dX8_swap_110 ?_
          refine lv_iload hx hb dX8_swap_113 (lv_at hl 6 rfl) ?_
          refine lv_iload hx hb dX8_swap_115 (lv_at hl 4 rfl) ?_
          refine lv_iadd hx hb dX8_swap_117 ?_
          obtain ⟨v91, q91, h131⟩ := obn h130
          clear h130
          refine xald hx hb hK hP 1 rfl q91 dX8_swap_118 ?_
          obtain ⟨f92, q92, h132⟩ := obn h131
          clear h131
          refine xast hx hb hK hP hD hS 1 rfl q92 dX8_swap_119 (wn := (cO ca ga (sA (sA s87.2 0 f90) 0 f92))) rfl (fun H locs hP hD hS => ?_)
          refine lv_iinc (v := (s87.1 + (6 : Int32))) (lv' := [(6, .int (s87.1 + (6 : Int32))), (0, .ref (ga 0)), (1, .int w), (2, .int s77.1), (3, .int s77.2.1), (4, .int s52.2.2.1), (5, .int s77.2.2.1)]) hx hb dX8_swap_120 hl (k := 6) rfl rfl (by decide) rfl (fun ls hl => ?_)
          refine lv_goto (tgt := 65) hx hb dX8_swap_123 (by decide) ?_
          exact hi93 _ (Option.some.inj h132).symm _ _ _ (lv_sub hl [1, 2, 3, 4, 5, 6, 0] rfl) hP hD hS
  · skip
    replace h105 := (if_pos c2).symm.trans h105
    refine lv_iconst (v := (-1 : Int32)) hx hb dX8_swap_10 (by decide) ?_
    obtain rfl := Option.some.inj h105
    exact hret _ _ _ _ (vp_nar_int _) hP hD hS dX8_swap_11

def mX8_isSame (g : GS) (i : Int32) (j : Int32) (u : Int32) (w : Int32) : Option (Int32) :=
  Option.bind (mX8_whoOn g i j) fun v1 =>
  Option.bind (mX8_whoOn g u w) fun v2 =>
  Option.bind (ald 240 (g.1 0) (i + v1)) fun v3 =>
  Option.bind (ald 240 (g.1 0) (u + v2)) fun v4 =>
  if v3 = v4 then
    Option.bind (ald 240 (g.1 0) ((i + (6 : Int32)) + v1)) fun v6 =>
    Option.bind (ald 240 (g.1 0) ((u + (6 : Int32)) + v2)) fun v7 =>
    if v6 = v7 then
      some (1 : Int32)
    else
      some (0 : Int32)
  else
    some (0 : Int32)
abbrev rmX8_isSame : Room := { frames := 1, cells := 0, slots := 0, locals := 23 }
set_option maxHeartbeats 4000000 in
set_option maxRecDepth 100000 in
theorem k_X8_isSame (l : Launch) (D : va_G) (ca : Nat → ClassId) (ga : Nat → Nat) (g : GS) (i : Int32) (j : Int32) (u : Int32) (w : Int32) (o : Int32) (hm : mX8_isSame g i j u w = some o) : KI l yX8_isSame wsX8_isSame rmX8_isSame D ca [.ref (ga 0), .int i, .int j, .int u, .int w] (cO ca ga g) (cO ca ga g) o := by
  refine KI.of (cc := cX8_isSame) (n := 7) (plainFor_of_name (by decide)) rfl (Nat.le_of_ble_eq_true rfl) ?_
  intro p e s m below meth c A Z hx hb hml hts hown hA hK hP hD hS hret ls hl
  have hown : s.vm.findClass RX8 = some m.cls := hown
  have hl : lv_has ls 7 [(0, .ref (ga 0)), (1, .int i), (2, .int j), (3, .int u), (4, .int w)] := hl
  have inX8 : ∀ w ∈ wsX80, w ∈ wsX8_isSame := by decide +kernel
  have k1 := hts (.fieldLink RX8 7 "FriezeFolkModel" "state" "[I") (by decide +kernel)
  unfold mX8_isSame at hm
  refine lv_aload_n hx hb dX8_isSame_0 rfl (lv_at hl 0 rfl) ?_
  refine lv_iload_n hx hb dX8_isSame_1 rfl (lv_at hl 1 rfl) ?_
  refine lv_iload_n hx hb dX8_isSame_2 rfl (lv_at hl 2 rfl) ?_
  obtain ⟨v1, q1, h9⟩ := obn hm
  clear hm
  refine xVi (As := [.int i, .int j]) (ci := 8) ⟨hx, hb, hml, hown, hts⟩ (k_X8_whoOn l D ca ga g i j _ q1) (cwV 2 hts gX8_isSame_X8_whoOn rfl rfl rfl (by decide +kernel) ⟨Nat.le_of_ble_eq_true rfl, Nat.le_of_ble_eq_true rfl⟩) hK hA hP hD hS dX8_isSame_3 rfl hl.1 [0, 1, 2, 3, 4, 5, 6, 7, 8, 9, 10, 11, 12, 13] [] [0, 1, 2, 3, 4, 5, 6, 7, 8, 9, 10, 11, 12, 13] rfl rfl (wr := []) rfl rfl (by decide) (wn := (cO ca ga g)) rfl rfl rfl rfl rfl rfl (Nat.le_of_ble_eq_true rfl) (fun H locs hP hD hS => ?_)
  refine lv_istore (lv' := [(5, .int v1), (0, .ref (ga 0)), (1, .int i), (2, .int j), (3, .int u), (4, .int w)]) hx hb dX8_isSame_6 hl (by decide) rfl (fun ls hl => ?_)
  refine lv_aload_n hx hb dX8_isSame_8 rfl (lv_at hl 1 rfl) ?_
  refine lv_iload_n hx hb dX8_isSame_9 rfl (lv_at hl 4 rfl) ?_
  refine lv_iload hx hb dX8_isSame_10 (lv_at hl 5 rfl) ?_
  obtain ⟨v2, q2, h10⟩ := obn h9
  clear h9
  refine xVi (As := [.int u, .int w]) (ci := 8) ⟨hx, hb, hml, hown, hts⟩ (k_X8_whoOn l D ca ga g u w _ q2) (cwV 2 hts gX8_isSame_X8_whoOn rfl rfl rfl (by decide +kernel) ⟨Nat.le_of_ble_eq_true rfl, Nat.le_of_ble_eq_true rfl⟩) hK hA hP hD hS dX8_isSame_12 rfl hl.1 [0, 1, 2, 3, 4, 5, 6, 7, 8, 9, 10, 11, 12, 13] [] [0, 1, 2, 3, 4, 5, 6, 7, 8, 9, 10, 11, 12, 13] rfl rfl (wr := []) rfl rfl (by decide) (wn := (cO ca ga g)) rfl rfl rfl rfl rfl rfl (Nat.le_of_ble_eq_true rfl) (fun H locs hP hD hS => ?_)
  refine lv_istore (lv' := [(6, .int v2), (5, .int v1), (0, .ref (ga 0)), (1, .int i), (2, .int j), (3, .int u), (4, .int w)]) hx hb dX8_isSame_15 hl (by decide) rfl (fun ls hl => ?_)
  refine lv_aload_n hx hb dX8_isSame_17 rfl (lv_at hl 2 rfl) ?_
  refine xget (ref := "FriezeFolkModel") (C := RX8) (T := TX8) (N := 24) (ci := 8) (v := .ref (ga 1)) hx hb hts inX8 hown hK hP 0 rfl rfl 0 (by decide) k1 rfl rfl dX8_isSame_18 ?_
  refine lv_iload_n hx hb dX8_isSame_21 rfl (lv_at hl 3 rfl) ?_
  refine lv_iload hx hb dX8_isSame_22 (lv_at hl 1 rfl) ?_
  refine lv_iadd hx hb dX8_isSame_24 ?_
  obtain ⟨v3, q3, h11⟩ := obn h10
  clear h10
  refine xald hx hb hK hP 1 rfl q3 dX8_isSame_25 ?_
  refine lv_aload_n hx hb dX8_isSame_26 rfl (lv_at hl 2 rfl) ?_
  refine xget (ref := "FriezeFolkModel") (C := RX8) (T := TX8) (N := 24) (ci := 8) (v := .ref (ga 1)) hx hb hts inX8 hown hK hP 0 rfl rfl 0 (by decide) k1 rfl rfl dX8_isSame_27 ?_
  refine lv_iload_n hx hb dX8_isSame_30 rfl (lv_at hl 5 rfl) ?_
  refine lv_iload hx hb dX8_isSame_31 (lv_at hl 0 rfl) ?_
  refine lv_iadd hx hb dX8_isSame_33 ?_
  obtain ⟨v4, q4, h12⟩ := obn h11
  clear h11
  refine xald hx hb hK hP 1 rfl q4 dX8_isSame_34 ?_
  refine lv_icmp_ne (tgt := 69) hx hb dX8_isSame_35 (by decide) (fun c5 => ?_) (fun c5 => ?_)
  · skip
    replace h12 := (if_neg c5).symm.trans h12
    refine lv_iconst (v := (0 : Int32)) hx hb dX8_isSame_69 (by decide) ?_
    obtain rfl := Option.some.inj h12
    exact hret _ _ _ _ nar0 hP hD hS dX8_isSame_70
  · skip
    replace h12 := (if_pos c5).symm.trans h12
    refine lv_aload_n hx hb dX8_isSame_38 rfl (lv_at hl 2 rfl) ?_
    refine xget (ref := "FriezeFolkModel") (C := RX8) (T := TX8) (N := 24) (ci := 8) (v := .ref (ga 1)) hx hb hts inX8 hown hK hP 0 rfl rfl 0 (by decide) k1 rfl rfl dX8_isSame_39 ?_
    refine lv_iload_n hx hb dX8_isSame_42 rfl (lv_at hl 3 rfl) ?_
    refine lv_bipush (v := (6 : Int32)) hx hb dX8_isSame_43 (by decide) ?_
    refine lv_iadd hx hb dX8_isSame_45 ?_
    refine lv_iload hx hb dX8_isSame_46 (lv_at hl 1 rfl) ?_
    refine lv_iadd hx hb dX8_isSame_48 ?_
    obtain ⟨v6, q6, h13⟩ := obn h12
    clear h12
    refine xald hx hb hK hP 1 rfl q6 dX8_isSame_49 ?_
    refine lv_aload_n hx hb dX8_isSame_50 rfl (lv_at hl 2 rfl) ?_
    refine xget (ref := "FriezeFolkModel") (C := RX8) (T := TX8) (N := 24) (ci := 8) (v := .ref (ga 1)) hx hb hts inX8 hown hK hP 0 rfl rfl 0 (by decide) k1 rfl rfl dX8_isSame_51 ?_
    refine lv_iload_n hx hb dX8_isSame_54 rfl (lv_at hl 5 rfl) ?_
    refine lv_bipush (v := (6 : Int32)) hx hb dX8_isSame_55 (by decide) ?_
    refine lv_iadd hx hb dX8_isSame_57 ?_
    refine lv_iload hx hb dX8_isSame_58 (lv_at hl 0 rfl) ?_
    refine lv_iadd hx hb dX8_isSame_60 ?_
    obtain ⟨v7, q7, h14⟩ := obn h13
    clear h13
    refine xald hx hb hK hP 1 rfl q7 dX8_isSame_61 ?_
    refine lv_icmp_ne (tgt := 69) hx hb dX8_isSame_62 (by decide) (fun c8 => ?_) (fun c8 => ?_)
    · skip
      replace h14 := (if_neg c8).symm.trans h14
      refine lv_iconst (v := (0 : Int32)) hx hb dX8_isSame_69 (by decide) ?_
      obtain rfl := Option.some.inj h14
      exact hret _ _ _ _ nar0 hP hD hS dX8_isSame_70
    · skip
      replace h14 := (if_pos c8).symm.trans h14
      refine lv_iconst (v := (1 : Int32)) hx hb dX8_isSame_65 (by decide) ?_
      refine lv_goto (tgt := 70) hx hb dX8_isSame_66 (by decide) ?_
      obtain rfl := Option.some.inj h14
      exact hret _ _ _ _ nar1 hP hD hS dX8_isSame_70
def mX8_period_l31 (g : GS) (v3 : Int32) (s4 : Int32) (s6 : Int32 × Int32) : Option ((Int32 × Int32) ⊕ (Int32 × Int32)) :=
  if v3 ≤ (s6.2 + s4) then
    some (.inr (s6.1, s6.2))
  else
    Option.bind (
      if s6.1 = 0 then
        some (0 : Int32)
      else
        Option.bind (mX8_isSame g (0 : Int32) s6.2 (0 : Int32) (s6.2 + s4)) fun v9 =>
        if v9 = 0 then
          some (0 : Int32)
        else
          some (1 : Int32)) fun (v11 : Int32) =>
    some (.inl (v11, (s6.2 + (1 : Int32))))

def mX8_period_l21 (g : GS) (v3 : Int32) (s4 : Int32) : Option ((Int32) ⊕ ((Int32) ⊕ (Int32))) :=
  if v3 ≤ s4 then
    some (.inr (.inl s4))
  else
    Option.bind (whO (mX8_period_l31 g v3 s4) FU ((1 : Int32), (0 : Int32))) fun e12 =>
    if e12.1 = 0 then
      some (.inl (s4 + (1 : Int32)))
    else
      some (.inr (.inr s4))

def mX8_period (g : GS) : Option (Int32) :=
  Option.bind (ald 240 (g.1 0) (12 : Int32)) fun v1 =>
  if v1 = 0 then
    some (-2 : Int32)
  else
    Option.bind (mX8_longOn g (0 : Int32)) fun v3 =>
    Option.bind (whO (mX8_period_l21 g v3) FU (1 : Int32)) fun e14 => esc e14 fun t15 =>
    some v3
abbrev rmX8_period : Room := { frames := 2, cells := 0, slots := 0, locals := 49 }
set_option maxHeartbeats 4000000 in
set_option maxRecDepth 100000 in
theorem k_X8_period (l : Launch) (D : va_G) (ca : Nat → ClassId) (ga : Nat → Nat) (g : GS) (o : Int32) (hm : mX8_period g = some o) : KI l yX8_period wsX8_period rmX8_period D ca [.ref (ga 0)] (cO ca ga g) (cO ca ga g) o := by
  refine KI.of (cc := cX8_period) (n := 5) (plainFor_of_name (by decide)) rfl (Nat.le_of_ble_eq_true rfl) ?_
  intro p e s m below meth c A Z hx hb hml hts hown hA hK hP hD hS hret ls hl
  have hown : s.vm.findClass RX8 = some m.cls := hown
  have hl : lv_has ls 5 [(0, .ref (ga 0))] := hl
  have inX8 : ∀ w ∈ wsX80, w ∈ wsX8_period := by decide +kernel
  have k1 := hts (.fieldLink RX8 7 "FriezeFolkModel" "state" "[I") (by decide +kernel)
  unfold mX8_period at hm
  refine lv_aload_n hx hb dX8_period_0 rfl (lv_at hl 0 rfl) ?_
  refine xget (ref := "FriezeFolkModel") (C := RX8) (T := TX8) (N := 24) (ci := 8) (v := .ref (ga 1)) hx hb hts inX8 hown hK hP 0 rfl rfl 0 (by decide) k1 rfl rfl dX8_period_1 ?_
  refine lv_bipush (v := (12 : Int32)) hx hb dX8_period_4 (by decide) ?_
  obtain ⟨v1, q1, h16⟩ := obn hm
  clear hm
  refine xald hx hb hK hP 1 rfl q1 dX8_period_6 ?_
  refine lv_if_ne (tgt := 13) hx hb dX8_period_7 (by decide) (fun c2 => ?_) (fun c2 => ?_)
  · skip
    replace h16 := (if_neg c2).symm.trans h16
    refine lv_aload_n hx hb dX8_period_13 rfl (lv_at hl 0 rfl) ?_
    refine lv_iconst (v := (0 : Int32)) hx hb dX8_period_14 (by decide) ?_
    obtain ⟨v3, q3, h17⟩ := obn h16
    clear h16
    refine xVi (As := [.int (0 : Int32)]) (ci := 8) ⟨hx, hb, hml, hown, hts⟩ (k_X8_longOn l D ca ga g (0 : Int32) _ q3) (cwV 1 hts gX8_period_X8_longOn rfl rfl rfl (by decide +kernel) ⟨Nat.le_of_ble_eq_true rfl, Nat.le_of_ble_eq_true rfl⟩) hK hA hP hD hS dX8_period_15 rfl hl.1 [0, 1, 2, 3, 4, 5, 6, 7, 8, 9, 10, 11, 12, 13] [] [0, 1, 2, 3, 4, 5, 6, 7, 8, 9, 10, 11, 12, 13] rfl rfl (wr := []) rfl rfl (by decide) (wn := (cO ca ga g)) rfl rfl rfl rfl rfl rfl (Nat.le_of_ble_eq_true rfl) (fun H locs hP hD hS => ?_)
    refine lv_istore_n (lv' := [(1, .int v3), (0, .ref (ga 0))]) hx hb dX8_period_18 rfl hl (by decide) rfl (fun ls hl => ?_)
    refine lv_iconst (v := (1 : Int32)) hx hb dX8_period_19 (by decide) ?_
    refine lv_istore_n (lv' := [(2, .int (1 : Int32)), (1, .int v3), (0, .ref (ga 0))]) hx hb dX8_period_20 rfl hl (by decide) rfl (fun ls hl => ?_)
    obtain ⟨e14, w18, h19⟩ := obn h17
    clear h17
    have AF14 : ∀ t15, e14 = .inl t15 → ∀ (ls : Array Slot) (H : Heap) (locs : List Loc), lv_has ls 5 [(1, .int v3)] → va_P D vwCl (cO ca ga g) H → va_D A (cO ca ga g) → va_S A s.heap H locs → W p l e rmX8_period s m ([.ref (ga 0)] : List Value).toArray below meth c H locs 0 0 Z (F0 m 82 ls []) := by
      intro t15 ht ls H locs hl hP hD hS
      subst ht
      replace h19 := (esc_l _ _).symm.trans h19
      refine lv_iload_n hx hb dX8_period_82 rfl (lv_at hl 0 rfl) ?_
      obtain rfl := Option.some.inj h19
      exact hret _ _ _ _ (vp_nar_int _) hP hD hS dX8_period_83
    refine whO_walk (I := fun s4 => ∀ (ls : Array Slot) (H : Heap) (locs : List Loc), lv_has ls 5 [(0, .ref (ga 0)), (1, .int v3), (2, .int s4)] → va_P D vwCl (cO ca ga g) H → va_D A (cO ca ga g) → va_S A s.heap H locs → W p l e rmX8_period s m ([.ref (ga 0)] : List Value).toArray below meth c H locs 0 0 Z (F0 m 21 ls [])) ?_ _ _ w18 _ _ _ (lv_sub hl [2, 1, 0] rfl) hP hD hS
    clear w18
    intro s4 o14 h20 hi14 ho14 ls H locs hl hP hD hS
    unfold mX8_period_l21 at h20
    refine lv_iload_n hx hb dX8_period_21 rfl (lv_at hl 2 rfl) ?_
    refine lv_iload_n hx hb dX8_period_22 rfl (lv_at hl 1 rfl) ?_
    refine lv_icmp_ge (tgt := 82) hx hb dX8_period_23 (by decide) (fun c5 => ?_) (fun c5 => ?_)
    · skip
      replace h20 := (if_pos c5).symm.trans h20
      have h21 := ho14 _ (Option.some.inj h20).symm
      subst h21
      exact AF14 _ rfl _ _ _ (lv_sub hl [1] rfl) hP hD hS
    · skip
      replace h20 := (if_neg c5).symm.trans h20
      refine lv_iconst (v := (1 : Int32)) hx hb dX8_period_26 (by decide) ?_
      refine lv_istore_n (lv' := [(3, .int (1 : Int32)), (0, .ref (ga 0)), (1, .int v3), (2, .int s4)]) hx hb dX8_period_27 rfl hl (by decide) rfl (fun ls hl => ?_)
      refine lv_iconst (v := (0 : Int32)) hx hb dX8_period_28 (by decide) ?_
      refine lv_istore (lv' := [(4, .int (0 : Int32)), (3, .int (1 : Int32)), (0, .ref (ga 0)), (1, .int v3), (2, .int s4)]) hx hb dX8_period_29 hl (by decide) rfl (fun ls hl => ?_)
      obtain ⟨e12, w22, h23⟩ := obn h20
      clear h20
      have AF12 : ∀ (ls : Array Slot) (H : Heap) (locs : List Loc), lv_has ls 5 [(0, .ref (ga 0)), (1, .int v3), (2, .int s4), (3, .int e12.1)] → va_P D vwCl (cO ca ga g) H → va_D A (cO ca ga g) → va_S A s.heap H locs → W p l e rmX8_period s m ([.ref (ga 0)] : List Value).toArray below meth c H locs 0 0 Z (F0 m 70 ls []) := by
        intro ls H locs hl hP hD hS
        refine lv_iload_n hx hb dX8_period_70 rfl (lv_at hl 3 rfl) ?_
        refine lv_if_eq (tgt := 76) hx hb dX8_period_71 (by decide) (fun c13 => ?_) (fun c13 => ?_)
        · skip
          replace h23 := (if_pos c13).symm.trans h23
          refine lv_iinc (v := (s4 + (1 : Int32))) (lv' := [(2, .int (s4 + (1 : Int32))), (0, .ref (ga 0)), (1, .int v3), (3, .int e12.1)]) hx hb dX8_period_76 hl (k := 2) rfl rfl (by decide) rfl (fun ls hl => ?_)
          refine lv_goto (tgt := 21) hx hb dX8_period_79 (by decide) ?_
          exact hi14 _ (Option.some.inj h23).symm _ _ _ (lv_sub hl [1, 2, 0] rfl) hP hD hS
        · skip
          replace h23 := (if_neg c13).symm.trans h23
          refine lv_iload_n hx hb dX8_period_74 rfl (lv_at hl 2 rfl) ?_
          have h24 := ho14 _ (Option.some.inj h23).symm
          subst h24
          replace h19 := (esc_r _ _).symm.trans h19
          obtain rfl := Option.some.inj h19
          exact hret _ _ _ _ (vp_nar_int _) hP hD hS dX8_period_75
      refine whO_walk (I := fun s6 => ∀ (ls : Array Slot) (H : Heap) (locs : List Loc), lv_has ls 5 [(0, .ref (ga 0)), (1, .int v3), (2, .int s4), (3, .int s6.1), (4, .int s6.2)] → va_P D vwCl (cO ca ga g) H → va_D A (cO ca ga g) → va_S A s.heap H locs → W p l e rmX8_period s m ([.ref (ga 0)] : List Value).toArray below meth c H locs 0 0 Z (F0 m 31 ls [])) ?_ _ _ w22 _ _ _ (lv_sub hl [2, 3, 4, 1, 0] rfl) hP hD hS
      clear w22
      intro s6 o12 h25 hi12 ho12 ls H locs hl hP hD hS
      unfold mX8_period_l31 at h25
      refine lv_iload hx hb dX8_period_31 (lv_at hl 4 rfl) ?_
      refine lv_iload_n hx hb dX8_period_33 rfl (lv_at hl 2 rfl) ?_
      refine lv_iadd hx hb dX8_period_34 ?_
      refine lv_iload_n hx hb dX8_period_35 rfl (lv_at hl 1 rfl) ?_
      refine lv_icmp_ge (tgt := 70) hx hb dX8_period_36 (by decide) (fun c7 => ?_) (fun c7 => ?_)
      · skip
        replace h25 := (if_pos c7).symm.trans h25
        have h26 := ho12 _ (Option.some.inj h25).symm
        subst h26
        exact AF12 _ _ _ (lv_sub hl [0, 1, 2, 3] rfl) hP hD hS
      · skip
        replace h25 := (if_neg c7).symm.trans h25
        refine lv_iload_n hx hb dX8_period_39 rfl (lv_at hl 3 rfl) ?_
        obtain ⟨v11, q27, h28⟩ := obn h25
        clear h25
        have J11 : ∀ (ls : Array Slot) (H : Heap) (locs : List Loc), lv_has ls 5 [(0, .ref (ga 0)), (1, .int v3), (2, .int s4), (4, .int s6.2)] → va_P D vwCl (cO ca ga g) H → va_D A (cO ca ga g) → va_S A s.heap H locs → W p l e rmX8_period s m ([.ref (ga 0)] : List Value).toArray below meth c H locs 0 0 Z (F0 m 63 ls [.int v11]) := by
          intro ls H locs hl hP hD hS
          refine lv_istore_n (lv' := [(3, .int v11), (0, .ref (ga 0)), (1, .int v3), (2, .int s4), (4, .int s6.2)]) hx hb dX8_period_63 rfl hl (by decide) rfl (fun ls hl => ?_)
          refine lv_iinc (v := (s6.2 + (1 : Int32))) (lv' := [(4, .int (s6.2 + (1 : Int32))), (3, .int v11), (0, .ref (ga 0)), (1, .int v3), (2, .int s4)]) hx hb dX8_period_64 hl (k := 4) rfl rfl (by decide) rfl (fun ls hl => ?_)
          refine lv_goto (tgt := 31) hx hb dX8_period_67 (by decide) ?_
          exact hi12 _ (Option.some.inj h28).symm _ _ _ (lv_sub hl [2, 3, 4, 1, 0] rfl) hP hD hS
        refine lv_if_eq (tgt := 62) hx hb dX8_period_40 (by decide) (fun c8 => ?_) (fun c8 => ?_)
        · skip
          replace q27 := (if_pos c8).symm.trans q27
          refine lv_iconst (v := (0 : Int32)) hx hb dX8_period_62 (by decide) ?_
          obtain rfl := Option.some.inj q27
          exact J11 _ _ _ (lv_sub hl [0, 1, 2, 4] rfl) hP hD hS
        · skip
          replace q27 := (if_neg c8).symm.trans q27
          refine lv_aload_n hx hb dX8_period_43 rfl (lv_at hl 0 rfl) ?_
          refine lv_iconst (v := (0 : Int32)) hx hb dX8_period_44 (by decide) ?_
          refine lv_iload hx hb dX8_period_45 (lv_at hl 4 rfl) ?_
          refine lv_iconst (v := (0 : Int32)) hx hb dX8_period_47 (by decide) ?_
          refine lv_iload hx hb dX8_period_48 (lv_at hl 4 rfl) ?_
          refine lv_iload_n hx hb dX8_period_50 rfl (lv_at hl 2 rfl) ?_
          refine lv_iadd hx hb dX8_period_51 ?_
          obtain ⟨v9, q9, h29⟩ := obn q27
          clear q27
          refine xVi (As := [.int (0 : Int32), .int s6.2, .int (0 : Int32), .int (s6.2 + s4)]) (ci := 8) ⟨hx, hb, hml, hown, hts⟩ (k_X8_isSame l D ca ga g (0 : Int32) s6.2 (0 : Int32) (s6.2 + s4) _ q9) (cwV 4 hts gX8_period_X8_isSame rfl rfl rfl (by decide +kernel) ⟨Nat.le_of_ble_eq_true rfl, Nat.le_of_ble_eq_true rfl⟩) hK hA hP hD hS dX8_period_52 rfl hl.1 [0, 1, 2, 3, 4, 5, 6, 7, 8, 9, 10, 11, 12, 13] [] [0, 1, 2, 3, 4, 5, 6, 7, 8, 9, 10, 11, 12, 13] rfl rfl (wr := []) rfl rfl (by decide) (wn := (cO ca ga g)) rfl rfl rfl rfl rfl rfl (Nat.le_of_ble_eq_true rfl) (fun H locs hP hD hS => ?_)
          refine lv_if_eq (tgt := 62) hx hb dX8_period_55 (by decide) (fun c10 => ?_) (fun c10 => ?_)
          · skip
            replace h29 := (if_pos c10).symm.trans h29
            refine lv_iconst (v := (0 : Int32)) hx hb dX8_period_62 (by decide) ?_
            obtain rfl := Option.some.inj h29
            exact J11 _ _ _ (lv_sub hl [0, 1, 2, 4] rfl) hP hD hS
          · skip
            replace h29 := (if_neg c10).symm.trans h29
            refine lv_iconst (v := (1 : Int32)) hx hb dX8_period_58 (by decide) ?_
            refine lv_goto (tgt := 63) hx hb dX8_period_59 (by decide) ?_
            obtain rfl := Option.some.inj h29
            exact J11 _ _ _ (lv_sub hl [0, 1, 2, 4] rfl) hP hD hS
  · skip
    replace h16 := (if_pos c2).symm.trans h16
    refine lv_bipush (v := (-2 : Int32)) hx hb dX8_period_10 (by decide) ?_
    obtain rfl := Option.some.inj h16
    exact hret _ _ _ _ (vp_nar_int _) hP hD hS dX8_period_12
def mX8_alike_l45 (s17 : Int32 × Int32 × GS) (f19 : (Nat → Int32)) (s20 : Int32 × Int32) : Option ((Int32 × Int32) ⊕ (Int32 × Int32)) :=
  Option.bind (mX8_longOn (sA s17.2.2 0 f19) (0 : Int32)) fun v21 =>
  if v21 ≤ s20.2 then
    some (.inr (s20.1, s20.2))
  else
    Option.bind (
      if s20.1 = 0 then
        some (0 : Int32)
      else
        Option.bind (mX8_isSame (sA s17.2.2 0 f19) (0 : Int32) s20.2 (200 : Int32) s20.2) fun v24 =>
        if v24 = 0 then
          some (0 : Int32)
        else
          some (1 : Int32)) fun (v26 : Int32) =>
    some (.inl (v26, (s20.2 + (1 : Int32))))

def mX8_alike_l25 (s17 : Int32 × Int32 × GS) : Option ((Int32 × Int32 × GS) ⊕ (Int32 × Int32 × GS)) :=
  if (6 : Int32) ≤ s17.2.1 then
    some (.inr (s17.1, s17.2.1, s17.2.2))
  else
    Option.bind (ast 240 (s17.2.2.1 0) (214 : Int32) s17.2.1) fun f19 =>
    Option.bind (whO (mX8_alike_l45 s17 f19) FU ((1 : Int32), (0 : Int32))) fun e27 =>
    Option.bind (
      if e27.1 = 0 then
        some (0 : Int32)
      else
        some (1 : Int32)) fun (v29 : Int32) =>
    some (.inl ((s17.1 + v29), (s17.2.1 + (1 : Int32)), (sA s17.2.2 0 f19)))

def mX8_alike (g : GS) : Option (Int32 × GS) :=
  Option.bind (ald 240 (g.1 0) (12 : Int32)) fun v1 =>
  if v1 = 0 then
    some ((-2 : Int32), g)
  else
    Option.bind (mX8_copies g (0 : Int32) (200 : Int32)) fun v3 =>
    Option.bind (whO (mX8_alike_l25) FU ((0 : Int32), (0 : Int32), v3)) fun e30 =>
    some (e30.1, e30.2.2)
abbrev rmX8_alike : Room := { frames := 2, cells := 0, slots := 0, locals := 49 }
set_option maxHeartbeats 4000000 in
set_option maxRecDepth 100000 in
theorem k_X8_alike (l : Launch) (D : va_G) (ca : Nat → ClassId) (ga : Nat → Nat) (g : GS) (o : Int32 × GS) (hm : mX8_alike g = some o) : KI l yX8_alike wsX8_alike rmX8_alike D ca [.ref (ga 0)] (cO ca ga g) (cO ca ga o.2) o.1 := by
  refine KI.of (cc := cX8_alike) (n := 5) (plainFor_of_name (by decide)) rfl (Nat.le_of_ble_eq_true rfl) ?_
  intro p e s m below meth c A Z hx hb hml hts hown hA hK hP hD hS hret ls hl
  have hown : s.vm.findClass RX8 = some m.cls := hown
  have hl : lv_has ls 5 [(0, .ref (ga 0))] := hl
  have inX8 : ∀ w ∈ wsX80, w ∈ wsX8_alike := by decide +kernel
  have k1 := hts (.fieldLink RX8 7 "FriezeFolkModel" "state" "[I") (by decide +kernel)
  unfold mX8_alike at hm
  refine lv_aload_n hx hb dX8_alike_0 rfl (lv_at hl 0 rfl) ?_
  refine xget (ref := "FriezeFolkModel") (C := RX8) (T := TX8) (N := 24) (ci := 8) (v := .ref (ga 1)) hx hb hts inX8 hown hK hP 0 rfl rfl 0 (by decide) k1 rfl rfl dX8_alike_1 ?_
  refine lv_bipush (v := (12 : Int32)) hx hb dX8_alike_4 (by decide) ?_
  obtain ⟨v1, q1, h31⟩ := obn hm
  clear hm
  refine xald hx hb hK hP 1 rfl q1 dX8_alike_6 ?_
  refine lv_if_ne (tgt := 13) hx hb dX8_alike_7 (by decide) (fun c2 => ?_) (fun c2 => ?_)
  · skip
    replace h31 := (if_neg c2).symm.trans h31
    refine lv_iconst (v := (0 : Int32)) hx hb dX8_alike_13 (by decide) ?_
    refine lv_istore_n (lv' := [(1, .int (0 : Int32)), (0, .ref (ga 0))]) hx hb dX8_alike_14 rfl hl (by decide) rfl (fun ls hl => ?_)
    refine lv_aload_n hx hb dX8_alike_15 rfl (lv_at hl 1 rfl) ?_
    refine lv_iconst (v := (0 : Int32)) hx hb dX8_alike_16 (by decide) ?_
    refine lv_sipush (v := (200 : Int32)) hx hb dX8_alike_17 (by decide) ?_
    obtain ⟨v3, q3, h32⟩ := obn h31
    clear h31
    refine xVv (As := [.int (0 : Int32), .int (200 : Int32)]) (ci := 8) ⟨hx, hb, hml, hown, hts⟩ (k_X8_copies l D ca ga g (0 : Int32) (200 : Int32) _ q3) (cwV 2 hts gX8_alike_X8_copies rfl rfl rfl (by decide +kernel) ⟨Nat.le_of_ble_eq_true rfl, Nat.le_of_ble_eq_true rfl⟩) hK hA hP hD hS dX8_alike_20 rfl hl.1 [0, 1, 2, 3, 4, 5, 6, 7, 8, 9, 10, 11, 12, 13] [] [0, 1, 2, 3, 4, 5, 6, 7, 8, 9, 10, 11, 12, 13] rfl rfl (wr := []) rfl rfl (by decide) (wn := (cO ca ga v3)) rfl rfl rfl rfl rfl rfl (Nat.le_of_ble_eq_true rfl) (fun H locs hP hD hS => ?_)
    refine lv_iconst (v := (0 : Int32)) hx hb dX8_alike_23 (by decide) ?_
    refine lv_istore_n (lv' := [(2, .int (0 : Int32)), (1, .int (0 : Int32)), (0, .ref (ga 0))]) hx hb dX8_alike_24 rfl hl (by decide) rfl (fun ls hl => ?_)
    obtain ⟨e30, w33, h34⟩ := obn h32
    clear h32
    have AF30 : ∀ (ls : Array Slot) (H : Heap) (locs : List Loc), lv_has ls 5 [(1, .int e30.1)] → va_P D vwCl (cO ca ga e30.2.2) H → va_D A (cO ca ga e30.2.2) → va_S A s.heap H locs → W p l e rmX8_alike s m ([.ref (ga 0)] : List Value).toArray below meth c H locs 0 0 Z (F0 m 104 ls []) := by
      intro ls H locs hl hP hD hS
      refine lv_iload_n hx hb dX8_alike_104 rfl (lv_at hl 0 rfl) ?_
      obtain rfl := Option.some.inj h34
      exact hret _ _ _ _ (vp_nar_int _) hP hD hS dX8_alike_105
    refine whO_walk (I := fun s17 => ∀ (ls : Array Slot) (H : Heap) (locs : List Loc), lv_has ls 5 [(0, .ref (ga 0)), (1, .int s17.1), (2, .int s17.2.1)] → va_P D vwCl (cO ca ga s17.2.2) H → va_D A (cO ca ga s17.2.2) → va_S A s.heap H locs → W p l e rmX8_alike s m ([.ref (ga 0)] : List Value).toArray below meth c H locs 0 0 Z (F0 m 25 ls [])) ?_ _ _ w33 _ _ _ (lv_sub hl [2, 1, 0] rfl) hP hD hS
    clear w33
    intro s17 o30 h35 hi30 ho30 ls H locs hl hP hD hS
    unfold mX8_alike_l25 at h35
    refine lv_iload_n hx hb dX8_alike_25 rfl (lv_at hl 2 rfl) ?_
    refine lv_bipush (v := (6 : Int32)) hx hb dX8_alike_26 (by decide) ?_
    refine lv_icmp_ge (tgt := 104) hx hb dX8_alike_28 (by decide) (fun c18 => ?_) (fun c18 => ?_)
    · skip
      replace h35 := (if_pos c18).symm.trans h35
      have h36 := ho30 _ (Option.some.inj h35).symm
      subst h36
      exact AF30 _ _ _ (lv_sub hl [1] rfl) hP hD hS
    · skip
      replace h35 := (if_neg c18).symm.trans h35
      refine lv_aload_n hx hb dX8_alike_31 rfl (lv_at hl 0 rfl) ?_
      refine xget (ref := "FriezeFolkModel") (C := RX8) (T := TX8) (N := 24) (ci := 8) (v := .ref (ga 1)) hx hb hts inX8 hown hK hP 0 rfl rfl 0 (by decide) k1 rfl rfl dX8_alike_32 ?_
      refine lv_sipush (v := (214 : Int32)) hx hb dX8_alike_35 (by decide) ?_
      refine lv_iload_n hx hb dX8_alike_38 rfl (lv_at hl 2 rfl) ?_
      obtain ⟨f19, q19, h37⟩ := obn h35
      clear h35
      refine xast hx hb hK hP hD hS 1 rfl q19 dX8_alike_39 (wn := (cO ca ga (sA s17.2.2 0 f19))) rfl (fun H locs hP hD hS => ?_)
      refine lv_iconst (v := (1 : Int32)) hx hb dX8_alike_40 (by decide) ?_
      refine lv_istore_n (lv' := [(3, .int (1 : Int32)), (0, .ref (ga 0)), (1, .int s17.1), (2, .int s17.2.1)]) hx hb dX8_alike_41 rfl hl (by decide) rfl (fun ls hl => ?_)
      refine lv_iconst (v := (0 : Int32)) hx hb dX8_alike_42 (by decide) ?_
      refine lv_istore (lv' := [(4, .int (0 : Int32)), (3, .int (1 : Int32)), (0, .ref (ga 0)), (1, .int s17.1), (2, .int s17.2.1)]) hx hb dX8_alike_43 hl (by decide) rfl (fun ls hl => ?_)
      obtain ⟨e27, w38, h39⟩ := obn h37
      clear h37
      have AF27 : ∀ (ls : Array Slot) (H : Heap) (locs : List Loc), lv_has ls 5 [(0, .ref (ga 0)), (1, .int s17.1), (2, .int s17.2.1), (3, .int e27.1)] → va_P D vwCl (cO ca ga (sA s17.2.2 0 f19)) H → va_D A (cO ca ga (sA s17.2.2 0 f19)) → va_S A s.heap H locs → W p l e rmX8_alike s m ([.ref (ga 0)] : List Value).toArray below meth c H locs 0 0 Z (F0 m 86 ls []) := by
        intro ls H locs hl hP hD hS
        refine lv_iload_n hx hb dX8_alike_86 rfl (lv_at hl 1 rfl) ?_
        refine lv_iload_n hx hb dX8_alike_87 rfl (lv_at hl 3 rfl) ?_
        obtain ⟨v29, q40, h41⟩ := obn h39
        clear h39
        have J29 : ∀ (ls : Array Slot) (H : Heap) (locs : List Loc), lv_has ls 5 [(0, .ref (ga 0)), (2, .int s17.2.1)] → va_P D vwCl (cO ca ga (sA s17.2.2 0 f19)) H → va_D A (cO ca ga (sA s17.2.2 0 f19)) → va_S A s.heap H locs → W p l e rmX8_alike s m ([.ref (ga 0)] : List Value).toArray below meth c H locs 0 0 Z (F0 m 96 ls [.int v29, .int s17.1]) := by
          intro ls H locs hl hP hD hS
          refine lv_iadd hx hb dX8_alike_96 ?_
          refine lv_istore_n (lv' := [(1, .int (s17.1 + v29)), (0, .ref (ga 0)), (2, .int s17.2.1)]) hx hb dX8_alike_97 rfl hl (by decide) rfl (fun ls hl => ?_)
          refine lv_iinc (v := (s17.2.1 + (1 : Int32))) (lv' := [(2, .int (s17.2.1 + (1 : Int32))), (1, .int (s17.1 + v29)), (0, .ref (ga 0))]) hx hb dX8_alike_98 hl (k := 2) rfl rfl (by decide) rfl (fun ls hl => ?_)
          refine lv_goto (tgt := 25) hx hb dX8_alike_101 (by decide) ?_
          exact hi30 _ (Option.some.inj h41).symm _ _ _ (lv_sub hl [2, 1, 0] rfl) hP hD hS
        refine lv_if_eq (tgt := 95) hx hb dX8_alike_88 (by decide) (fun c28 => ?_) (fun c28 => ?_)
        · skip
          replace q40 := (if_pos c28).symm.trans q40
          refine lv_iconst (v := (0 : Int32)) hx hb dX8_alike_95 (by decide) ?_
          obtain rfl := Option.some.inj q40
          exact J29 _ _ _ (lv_sub hl [0, 2] rfl) hP hD hS
        · skip
          replace q40 := (if_neg c28).symm.trans q40
          refine lv_iconst (v := (1 : Int32)) hx hb dX8_alike_91 (by decide) ?_
          refine lv_goto (tgt := 96) hx hb dX8_alike_92 (by decide) ?_
          obtain rfl := Option.some.inj q40
          exact J29 _ _ _ (lv_sub hl [0, 2] rfl) hP hD hS
      refine whO_walk (I := fun s20 => ∀ (ls : Array Slot) (H : Heap) (locs : List Loc), lv_has ls 5 [(0, .ref (ga 0)), (1, .int s17.1), (2, .int s17.2.1), (3, .int s20.1), (4, .int s20.2)] → va_P D vwCl (cO ca ga (sA s17.2.2 0 f19)) H → va_D A (cO ca ga (sA s17.2.2 0 f19)) → va_S A s.heap H locs → W p l e rmX8_alike s m ([.ref (ga 0)] : List Value).toArray below meth c H locs 0 0 Z (F0 m 45 ls [])) ?_ _ _ w38 _ _ _ (lv_sub hl [2, 3, 4, 1, 0] rfl) hP hD hS
      clear w38
      intro s20 o27 h42 hi27 ho27 ls H locs hl hP hD hS
      unfold mX8_alike_l45 at h42
      refine lv_iload hx hb dX8_alike_45 (lv_at hl 4 rfl) ?_
      refine lv_aload_n hx hb dX8_alike_47 rfl (lv_at hl 0 rfl) ?_
      refine lv_iconst (v := (0 : Int32)) hx hb dX8_alike_48 (by decide) ?_
      obtain ⟨v21, q21, h43⟩ := obn h42
      clear h42
      refine xVi (As := [.int (0 : Int32)]) (ci := 8) ⟨hx, hb, hml, hown, hts⟩ (k_X8_longOn l D ca ga (sA s17.2.2 0 f19) (0 : Int32) _ q21) (cwV 1 hts gX8_alike_X8_longOn rfl rfl rfl (by decide +kernel) ⟨Nat.le_of_ble_eq_true rfl, Nat.le_of_ble_eq_true rfl⟩) hK hA hP hD hS dX8_alike_49 rfl hl.1 [0, 1, 2, 3, 4, 5, 6, 7, 8, 9, 10, 11, 12, 13] [] [0, 1, 2, 3, 4, 5, 6, 7, 8, 9, 10, 11, 12, 13] rfl rfl (wr := []) rfl rfl (by decide) (wn := (cO ca ga (sA s17.2.2 0 f19))) rfl rfl rfl rfl rfl rfl (Nat.le_of_ble_eq_true rfl) (fun H locs hP hD hS => ?_)
      refine lv_icmp_ge (tgt := 86) hx hb dX8_alike_52 (by decide) (fun c22 => ?_) (fun c22 => ?_)
      · skip
        replace h43 := (if_pos c22).symm.trans h43
        have h44 := ho27 _ (Option.some.inj h43).symm
        subst h44
        exact AF27 _ _ _ (lv_sub hl [0, 1, 2, 3] rfl) hP hD hS
      · skip
        replace h43 := (if_neg c22).symm.trans h43
        refine lv_iload_n hx hb dX8_alike_55 rfl (lv_at hl 3 rfl) ?_
        obtain ⟨v26, q45, h46⟩ := obn h43
        clear h43
        have J26 : ∀ (ls : Array Slot) (H : Heap) (locs : List Loc), lv_has ls 5 [(0, .ref (ga 0)), (1, .int s17.1), (2, .int s17.2.1), (4, .int s20.2)] → va_P D vwCl (cO ca ga (sA s17.2.2 0 f19)) H → va_D A (cO ca ga (sA s17.2.2 0 f19)) → va_S A s.heap H locs → W p l e rmX8_alike s m ([.ref (ga 0)] : List Value).toArray below meth c H locs 0 0 Z (F0 m 79 ls [.int v26]) := by
          intro ls H locs hl hP hD hS
          refine lv_istore_n (lv' := [(3, .int v26), (0, .ref (ga 0)), (1, .int s17.1), (2, .int s17.2.1), (4, .int s20.2)]) hx hb dX8_alike_79 rfl hl (by decide) rfl (fun ls hl => ?_)
          refine lv_iinc (v := (s20.2 + (1 : Int32))) (lv' := [(4, .int (s20.2 + (1 : Int32))), (3, .int v26), (0, .ref (ga 0)), (1, .int s17.1), (2, .int s17.2.1)]) hx hb dX8_alike_80 hl (k := 4) rfl rfl (by decide) rfl (fun ls hl => ?_)
          refine lv_goto (tgt := 45) hx hb dX8_alike_83 (by decide) ?_
          exact hi27 _ (Option.some.inj h46).symm _ _ _ (lv_sub hl [2, 3, 4, 1, 0] rfl) hP hD hS
        refine lv_if_eq (tgt := 78) hx hb dX8_alike_56 (by decide) (fun c23 => ?_) (fun c23 => ?_)
        · skip
          replace q45 := (if_pos c23).symm.trans q45
          refine lv_iconst (v := (0 : Int32)) hx hb dX8_alike_78 (by decide) ?_
          obtain rfl := Option.some.inj q45
          exact J26 _ _ _ (lv_sub hl [0, 1, 2, 4] rfl) hP hD hS
        · skip
          replace q45 := (if_neg c23).symm.trans q45
          refine lv_aload_n hx hb dX8_alike_59 rfl (lv_at hl 0 rfl) ?_
          refine lv_iconst (v := (0 : Int32)) hx hb dX8_alike_60 (by decide) ?_
          refine lv_iload hx hb dX8_alike_61 (lv_at hl 4 rfl) ?_
          refine lv_sipush (v := (200 : Int32)) hx hb dX8_alike_63 (by decide) ?_
          refine lv_iload hx hb dX8_alike_66 (lv_at hl 4 rfl) ?_
          obtain ⟨v24, q24, h47⟩ := obn q45
          clear q45
          refine xVi (As := [.int (0 : Int32), .int s20.2, .int (200 : Int32), .int s20.2]) (ci := 8) ⟨hx, hb, hml, hown, hts⟩ (k_X8_isSame l D ca ga (sA s17.2.2 0 f19) (0 : Int32) s20.2 (200 : Int32) s20.2 _ q24) (cwV 4 hts gX8_alike_X8_isSame rfl rfl rfl (by decide +kernel) ⟨Nat.le_of_ble_eq_true rfl, Nat.le_of_ble_eq_true rfl⟩) hK hA hP hD hS dX8_alike_68 rfl hl.1 [0, 1, 2, 3, 4, 5, 6, 7, 8, 9, 10, 11, 12, 13] [] [0, 1, 2, 3, 4, 5, 6, 7, 8, 9, 10, 11, 12, 13] rfl rfl (wr := []) rfl rfl (by decide) (wn := (cO ca ga (sA s17.2.2 0 f19))) rfl rfl rfl rfl rfl rfl (Nat.le_of_ble_eq_true rfl) (fun H locs hP hD hS => ?_)
          refine lv_if_eq (tgt := 78) hx hb dX8_alike_71 (by decide) (fun c25 => ?_) (fun c25 => ?_)
          · skip
            replace h47 := (if_pos c25).symm.trans h47
            refine lv_iconst (v := (0 : Int32)) hx hb dX8_alike_78 (by decide) ?_
            obtain rfl := Option.some.inj h47
            exact J26 _ _ _ (lv_sub hl [0, 1, 2, 4] rfl) hP hD hS
          · skip
            replace h47 := (if_neg c25).symm.trans h47
            refine lv_iconst (v := (1 : Int32)) hx hb dX8_alike_74 (by decide) ?_
            refine lv_goto (tgt := 79) hx hb dX8_alike_75 (by decide) ?_
            obtain rfl := Option.some.inj h47
            exact J26 _ _ _ (lv_sub hl [0, 1, 2, 4] rfl) hP hD hS
  · skip
    replace h31 := (if_pos c2).symm.trans h31
    refine lv_bipush (v := (-2 : Int32)) hx hb dX8_alike_10 (by decide) ?_
    obtain rfl := Option.some.inj h31
    exact hret _ _ _ _ (vp_nar_int _) hP hD hS dX8_alike_12
def mX8_covers_l44 (r : Int32) (s69 : Int32 × Int32 × GS) (s103 : Int32 × GS) : Option ((Int32 × GS) ⊕ (Int32 × GS)) :=
  Option.bind (ald 240 (s103.2.1 0) (39 : Int32)) fun v104 =>
  if v104 ≤ s103.1 then
    some (.inr (s103.1, s103.2))
  else
    Option.bind (ald 240 (s103.2.1 0) ((31 : Int32) + s103.1)) fun v106 =>
    Option.bind (
      if (s69.2.1 - v106) < 0 then
        some s103.2
      else
        Option.bind (ald 70 (s103.2.1 14) (s69.2.1 - v106)) fun v108 =>
        if (100000 : Int32) ≤ v108 then
          some s103.2
        else
          Option.bind (ald 70 (s103.2.1 14) (s69.2.1 - v106)) fun v110 =>
          Option.bind (ald 240 (s103.2.1 0) ((35 : Int32) + s103.1)) fun v111 =>
          Option.bind (ald 70 (s103.2.1 15) (s69.2.1 - v106)) fun v112 =>
          Option.bind (
            if s103.1 = r then
              some (1 : Int32)
            else
              some (0 : Int32)) fun (v114 : Int32) =>
          Option.bind (ald 70 (s103.2.1 14) s69.2.1) fun v115 =>
          Option.bind (
            if (v110 + v111) < v115 then
              some (v112 + v114)
            else
              Option.bind (ald 70 (s103.2.1 14) s69.2.1) fun v117 =>
              if (v110 + v111) = v117 then
                Option.bind (ald 70 (s103.2.1 15) s69.2.1) fun v120 =>
                if (v112 + v114) ≤ v120 then
                  Option.bind (ald 70 (s103.2.1 15) s69.2.1) fun v122 =>
                  some v122
                else
                  some (v112 + v114)
              else
                Option.bind (ald 70 (s103.2.1 15) s69.2.1) fun v119 =>
                some v119) fun (v123 : Int32) =>
          Option.bind (ast 70 (s103.2.1 15) s69.2.1 v123) fun f124 =>
          Option.bind (ald 70 ((sA s103.2 15 f124).1 14) s69.2.1) fun v125 =>
          Option.bind (
            if v125 ≤ (v110 + v111) then
              Option.bind (ald 70 ((sA s103.2 15 f124).1 14) s69.2.1) fun v127 =>
              some v127
            else
              some (v110 + v111)) fun (v128 : Int32) =>
          Option.bind (ast 70 ((sA s103.2 15 f124).1 14) s69.2.1 v128) fun f129 =>
          some (sA (sA s103.2 15 f124) 14 f129)) fun (v130 : GS) =>
    some (.inl ((s103.1 + (1 : Int32)), v130))

def mX8_covers_l6 (n : Int32) (r : Int32) (s69 : Int32 × Int32 × GS) : Option ((Int32 × Int32 × GS) ⊕ (Int32 × Int32 × GS)) :=
  if (n + (10 : Int32)) ≤ s69.2.1 then
    some (.inr (s69.1, s69.2.1, s69.2.2))
  else
    Option.bind (
      if s69.2.1 = 0 then
        some (0 : Int32)
      else
        some (100000 : Int32)) fun (v72 : Int32) =>
    Option.bind (ast 70 (s69.2.2.1 14) s69.2.1 v72) fun f73 =>
    Option.bind (ast 70 ((sA s69.2.2 14 f73).1 15) s69.2.1 (0 : Int32)) fun f74 =>
    Option.bind (whO (mX8_covers_l44 r s69) FU ((0 : Int32), (sA (sA s69.2.2 14 f73) 15 f74))) fun e131 =>
    Option.bind (
      if s69.2.1 < n then
        some s69.1
      else
        Option.bind (ald 70 (e131.2.1 14) s69.2.1) fun v133 =>
        if s69.1 ≤ v133 then
          some s69.1
        else
          Option.bind (ald 70 (e131.2.1 14) s69.2.1) fun v135 =>
          some v135) fun (v136 : Int32) =>
    some (.inl (v136, (s69.2.1 + (1 : Int32)), e131.2))

def mX8_covers (g : GS) (n : Int32) (r : Int32) : Option (Int32 × GS) :=
  Option.bind (whO (mX8_covers_l6 n r) FU ((100000 : Int32), (0 : Int32), g)) fun e137 =>
  some (e137.1, e137.2.2)
abbrev rmX8_covers : Room := { frames := 0, cells := 0, slots := 0, locals := 0 }
set_option maxHeartbeats 4000000 in
set_option maxRecDepth 100000 in
theorem k_X8_covers (l : Launch) (D : va_G) (ca : Nat → ClassId) (ga : Nat → Nat) (g : GS) (n : Int32) (r : Int32) (o : Int32 × GS) (hm : mX8_covers g n r = some o) : KI l yX8_covers wsX8_covers rmX8_covers D ca [.ref (ga 0), .int n, .int r] (cO ca ga g) (cO ca ga o.2) o.1 := by
  refine KI.of (cc := cX8_covers) (n := 9) (plainFor_of_name (by decide)) rfl (Nat.le_of_ble_eq_true rfl) ?_
  intro p e s m below meth c A Z hx hb hml hts hown hA hK hP hD hS hret ls hl
  have hown : s.vm.findClass RX8 = some m.cls := hown
  have hl : lv_has ls 9 [(0, .ref (ga 0)), (1, .int n), (2, .int r)] := hl
  have inX8 : ∀ w ∈ wsX80, w ∈ wsX8_covers := by decide +kernel
  have k1 := hts (.constant RX8 183 (100000 : Int32)) (by decide +kernel)
  have k2 := hts (.fieldLink RX8 25 "FriezeFolkModel" "prices" "[I") (by decide +kernel)
  have k3 := hts (.fieldLink RX8 28 "FriezeFolkModel" "ofOne" "[I") (by decide +kernel)
  have k4 := hts (.fieldLink RX8 7 "FriezeFolkModel" "state" "[I") (by decide +kernel)
  unfold mX8_covers at hm
  refine lv_ldc hx hb hown k1 dX8_covers_0 ?_
  refine lv_istore_n (lv' := [(3, .int (100000 : Int32)), (0, .ref (ga 0)), (1, .int n), (2, .int r)]) hx hb dX8_covers_2 rfl hl (by decide) rfl (fun ls hl => ?_)
  refine lv_iconst (v := (0 : Int32)) hx hb dX8_covers_3 (by decide) ?_
  refine lv_istore (lv' := [(4, .int (0 : Int32)), (3, .int (100000 : Int32)), (0, .ref (ga 0)), (1, .int n), (2, .int r)]) hx hb dX8_covers_4 hl (by decide) rfl (fun ls hl => ?_)
  obtain ⟨e137, w138, h139⟩ := obn hm
  clear hm
  have AF137 : ∀ (ls : Array Slot) (H : Heap) (locs : List Loc), lv_has ls 9 [(3, .int e137.1)] → va_P D vwCl (cO ca ga e137.2.2) H → va_D A (cO ca ga e137.2.2) → va_S A s.heap H locs → W p l e rmX8_covers s m ([.ref (ga 0), .int n, .int r] : List Value).toArray below meth c H locs 0 0 Z (F0 m 256 ls []) := by
    intro ls H locs hl hP hD hS
    refine lv_iload_n hx hb dX8_covers_256 rfl (lv_at hl 0 rfl) ?_
    obtain rfl := Option.some.inj h139
    exact hret _ _ _ _ (vp_nar_int _) hP hD hS dX8_covers_257
  refine whO_walk (I := fun s69 => ∀ (ls : Array Slot) (H : Heap) (locs : List Loc), lv_has ls 9 [(0, .ref (ga 0)), (1, .int n), (2, .int r), (3, .int s69.1), (4, .int s69.2.1)] → va_P D vwCl (cO ca ga s69.2.2) H → va_D A (cO ca ga s69.2.2) → va_S A s.heap H locs → W p l e rmX8_covers s m ([.ref (ga 0), .int n, .int r] : List Value).toArray below meth c H locs 0 0 Z (F0 m 6 ls [])) ?_ _ _ w138 _ _ _ (lv_sub hl [2, 3, 4, 1, 0] rfl) hP hD hS
  clear w138
  intro s69 o137 h140 hi137 ho137 ls H locs hl hP hD hS
  unfold mX8_covers_l6 at h140
  refine lv_iload hx hb dX8_covers_6 (lv_at hl 4 rfl) ?_
  refine lv_iload_n hx hb dX8_covers_8 rfl (lv_at hl 1 rfl) ?_
  refine lv_bipush (v := (10 : Int32)) hx hb dX8_covers_9 (by decide) ?_
  refine lv_iadd hx hb dX8_covers_11 ?_
  refine lv_icmp_ge (tgt := 256) hx hb dX8_covers_12 (by decide) (fun c70 => ?_) (fun c70 => ?_)
  · skip
    replace h140 := (if_pos c70).symm.trans h140
    have h141 := ho137 _ (Option.some.inj h140).symm
    subst h141
    exact AF137 _ _ _ (lv_sub hl [3] rfl) hP hD hS
  · skip
    replace h140 := (if_neg c70).symm.trans h140
    refine lv_aload_n hx hb dX8_covers_15 rfl (lv_at hl 0 rfl) ?_
    refine xget (ref := "FriezeFolkModel") (C := RX8) (T := TX8) (N := 24) (ci := 8) (v := .ref (ga 15)) hx hb hts inX8 hown hK hP 0 rfl rfl 14 (by decide) k2 rfl rfl dX8_covers_16 ?_
    refine lv_iload hx hb dX8_covers_19 (lv_at hl 4 rfl) ?_
    refine lv_iload hx hb dX8_covers_21 (lv_at hl 4 rfl) ?_
    obtain ⟨v72, q142, h143⟩ := obn h140
    clear h140
    have J72 : ∀ (ls : Array Slot) (H : Heap) (locs : List Loc), lv_has ls 9 [(0, .ref (ga 0)), (1, .int n), (2, .int r), (3, .int s69.1), (4, .int s69.2.1)] → va_P D vwCl (cO ca ga s69.2.2) H → va_D A (cO ca ga s69.2.2) → va_S A s.heap H locs → W p l e rmX8_covers s m ([.ref (ga 0), .int n, .int r] : List Value).toArray below meth c H locs 0 0 Z (F0 m 32 ls [.int v72, .int s69.2.1, .ref (ga 15)]) := by
      intro ls H locs hl hP hD hS
      obtain ⟨f73, q73, h144⟩ := obn h143
      clear h143
      refine xast hx hb hK hP hD hS 6 rfl q73 dX8_covers_32 (wn := (cO ca ga (sA s69.2.2 14 f73))) rfl (fun H locs hP hD hS => ?_)
      refine lv_aload_n hx hb dX8_covers_33 rfl (lv_at hl 0 rfl) ?_
      refine xget (ref := "FriezeFolkModel") (C := RX8) (T := TX8) (N := 24) (ci := 8) (v := .ref (ga 16)) hx hb hts inX8 hown hK hP 0 rfl rfl 15 (by decide) k3 rfl rfl dX8_covers_34 ?_
      refine lv_iload hx hb dX8_covers_37 (lv_at hl 4 rfl) ?_
      refine lv_iconst (v := (0 : Int32)) hx hb dX8_covers_39 (by decide) ?_
      obtain ⟨f74, q74, h145⟩ := obn h144
      clear h144
      refine xast hx hb hK hP hD hS 7 rfl q74 dX8_covers_40 (wn := (cO ca ga (sA (sA s69.2.2 14 f73) 15 f74))) rfl (fun H locs hP hD hS => ?_)
      refine lv_iconst (v := (0 : Int32)) hx hb dX8_covers_41 (by decide) ?_
      refine lv_istore (lv' := [(5, .int (0 : Int32)), (0, .ref (ga 0)), (1, .int n), (2, .int r), (3, .int s69.1), (4, .int s69.2.1)]) hx hb dX8_covers_42 hl (by decide) rfl (fun ls hl => ?_)
      obtain ⟨e131, w146, h147⟩ := obn h145
      clear h145
      have AF131 : ∀ (ls : Array Slot) (H : Heap) (locs : List Loc), lv_has ls 9 [(0, .ref (ga 0)), (1, .int n), (2, .int r), (3, .int s69.1), (4, .int s69.2.1)] → va_P D vwCl (cO ca ga e131.2) H → va_D A (cO ca ga e131.2) → va_S A s.heap H locs → W p l e rmX8_covers s m ([.ref (ga 0), .int n, .int r] : List Value).toArray below meth c H locs 0 0 Z (F0 m 221 ls []) := by
        intro ls H locs hl hP hD hS
        refine lv_iload hx hb dX8_covers_221 (lv_at hl 4 rfl) ?_
        refine lv_iload_n hx hb dX8_covers_223 rfl (lv_at hl 1 rfl) ?_
        obtain ⟨v136, q148, h149⟩ := obn h147
        clear h147
        have J136 : ∀ (ls : Array Slot) (H : Heap) (locs : List Loc), lv_has ls 9 [(0, .ref (ga 0)), (1, .int n), (2, .int r), (4, .int s69.2.1)] → va_P D vwCl (cO ca ga e131.2) H → va_D A (cO ca ga e131.2) → va_S A s.heap H locs → W p l e rmX8_covers s m ([.ref (ga 0), .int n, .int r] : List Value).toArray below meth c H locs 0 0 Z (F0 m 249 ls [.int v136]) := by
          intro ls H locs hl hP hD hS
          refine lv_istore_n (lv' := [(3, .int v136), (0, .ref (ga 0)), (1, .int n), (2, .int r), (4, .int s69.2.1)]) hx hb dX8_covers_249 rfl hl (by decide) rfl (fun ls hl => ?_)
          refine lv_iinc (v := (s69.2.1 + (1 : Int32))) (lv' := [(4, .int (s69.2.1 + (1 : Int32))), (3, .int v136), (0, .ref (ga 0)), (1, .int n), (2, .int r)]) hx hb dX8_covers_250 hl (k := 4) rfl rfl (by decide) rfl (fun ls hl => ?_)
          refine lv_goto (tgt := 6) hx hb dX8_covers_253 (by decide) ?_
          exact hi137 _ (Option.some.inj h149).symm _ _ _ (lv_sub hl [2, 3, 4, 1, 0] rfl) hP hD hS
        refine lv_icmp_lt (tgt := 248) hx hb dX8_covers_224 (by decide) (fun c132 => ?_) (fun c132 => ?_)
        · skip
          replace q148 := (if_pos c132).symm.trans q148
          refine lv_iload_n hx hb dX8_covers_248 rfl (lv_at hl 3 rfl) ?_
          obtain rfl := Option.some.inj q148
          exact J136 _ _ _ (lv_sub hl [0, 1, 2, 4] rfl) hP hD hS
        · skip
          replace q148 := (if_neg c132).symm.trans q148
          refine lv_aload_n hx hb dX8_covers_227 rfl (lv_at hl 0 rfl) ?_
          refine xget (ref := "FriezeFolkModel") (C := RX8) (T := TX8) (N := 24) (ci := 8) (v := .ref (ga 15)) hx hb hts inX8 hown hK hP 0 rfl rfl 14 (by decide) k2 rfl rfl dX8_covers_228 ?_
          refine lv_iload hx hb dX8_covers_231 (lv_at hl 4 rfl) ?_
          obtain ⟨v133, q133, h150⟩ := obn q148
          clear q148
          refine xald hx hb hK hP 6 rfl q133 dX8_covers_233 ?_
          refine lv_iload_n hx hb dX8_covers_234 rfl (lv_at hl 3 rfl) ?_
          refine lv_icmp_ge (tgt := 248) hx hb dX8_covers_235 (by decide) (fun c134 => ?_) (fun c134 => ?_)
          · skip
            replace h150 := (if_pos c134).symm.trans h150
            refine lv_iload_n hx hb dX8_covers_248 rfl (lv_at hl 3 rfl) ?_
            obtain rfl := Option.some.inj h150
            exact J136 _ _ _ (lv_sub hl [0, 1, 2, 4] rfl) hP hD hS
          · skip
            replace h150 := (if_neg c134).symm.trans h150
            refine lv_aload_n hx hb dX8_covers_238 rfl (lv_at hl 0 rfl) ?_
            refine xget (ref := "FriezeFolkModel") (C := RX8) (T := TX8) (N := 24) (ci := 8) (v := .ref (ga 15)) hx hb hts inX8 hown hK hP 0 rfl rfl 14 (by decide) k2 rfl rfl dX8_covers_239 ?_
            refine lv_iload hx hb dX8_covers_242 (lv_at hl 4 rfl) ?_
            obtain ⟨v135, q135, h151⟩ := obn h150
            clear h150
            refine xald hx hb hK hP 6 rfl q135 dX8_covers_244 ?_
            refine lv_goto (tgt := 249) hx hb dX8_covers_245 (by decide) ?_
            obtain rfl := Option.some.inj h151
            exact J136 _ _ _ (lv_sub hl [0, 1, 2, 4] rfl) hP hD hS
      refine whO_walk (I := fun s103 => ∀ (ls : Array Slot) (H : Heap) (locs : List Loc), lv_has ls 9 [(0, .ref (ga 0)), (1, .int n), (2, .int r), (3, .int s69.1), (4, .int s69.2.1), (5, .int s103.1)] → va_P D vwCl (cO ca ga s103.2) H → va_D A (cO ca ga s103.2) → va_S A s.heap H locs → W p l e rmX8_covers s m ([.ref (ga 0), .int n, .int r] : List Value).toArray below meth c H locs 0 0 Z (F0 m 44 ls [])) ?_ _ _ w146 _ _ _ (lv_sub hl [1, 2, 3, 4, 5, 0] rfl) hP hD hS
      clear w146
      intro s103 o131 h152 hi131 ho131 ls H locs hl hP hD hS
      unfold mX8_covers_l44 at h152
      refine lv_iload hx hb dX8_covers_44 (lv_at hl 5 rfl) ?_
      refine lv_aload_n hx hb dX8_covers_46 rfl (lv_at hl 0 rfl) ?_
      refine xget (ref := "FriezeFolkModel") (C := RX8) (T := TX8) (N := 24) (ci := 8) (v := .ref (ga 1)) hx hb hts inX8 hown hK hP 0 rfl rfl 0 (by decide) k4 rfl rfl dX8_covers_47 ?_
      refine lv_bipush (v := (39 : Int32)) hx hb dX8_covers_50 (by decide) ?_
      obtain ⟨v104, q104, h153⟩ := obn h152
      clear h152
      refine xald hx hb hK hP 1 rfl q104 dX8_covers_52 ?_
      refine lv_icmp_ge (tgt := 221) hx hb dX8_covers_53 (by decide) (fun c105 => ?_) (fun c105 => ?_)
      · skip
        replace h153 := (if_pos c105).symm.trans h153
        have h154 := ho131 _ (Option.some.inj h153).symm
        subst h154
        exact AF131 _ _ _ (lv_sub hl [0, 1, 2, 3, 4] rfl) hP hD hS
      · skip
        replace h153 := (if_neg c105).symm.trans h153
        refine lv_iload hx hb dX8_covers_56 (lv_at hl 4 rfl) ?_
        refine lv_aload_n hx hb dX8_covers_58 rfl (lv_at hl 0 rfl) ?_
        refine xget (ref := "FriezeFolkModel") (C := RX8) (T := TX8) (N := 24) (ci := 8) (v := .ref (ga 1)) hx hb hts inX8 hown hK hP 0 rfl rfl 0 (by decide) k4 rfl rfl dX8_covers_59 ?_
        refine lv_bipush (v := (31 : Int32)) hx hb dX8_covers_62 (by decide) ?_
        refine lv_iload hx hb dX8_covers_64 (lv_at hl 5 rfl) ?_
        refine lv_iadd hx hb dX8_covers_66 ?_
        obtain ⟨v106, q106, h155⟩ := obn h153
        clear h153
        refine xald hx hb hK hP 1 rfl q106 dX8_covers_67 ?_
        refine lv_isub hx hb dX8_covers_68 ?_
        refine lv_istore (lv' := [(6, .int (s69.2.1 - v106)), (0, .ref (ga 0)), (1, .int n), (2, .int r), (3, .int s69.1), (4, .int s69.2.1), (5, .int s103.1)]) hx hb dX8_covers_69 hl (by decide) rfl (fun ls hl => ?_)
        refine lv_iload hx hb dX8_covers_71 (lv_at hl 0 rfl) ?_
        obtain ⟨v130, q156, h157⟩ := obn h155
        clear h155
        have J130 : ∀ (ls : Array Slot) (H : Heap) (locs : List Loc), lv_has ls 9 [(0, .ref (ga 0)), (1, .int n), (2, .int r), (3, .int s69.1), (4, .int s69.2.1), (5, .int s103.1)] → va_P D vwCl (cO ca ga v130) H → va_D A (cO ca ga v130) → va_S A s.heap H locs → W p l e rmX8_covers s m ([.ref (ga 0), .int n, .int r] : List Value).toArray below meth c H locs 0 0 Z (F0 m 215 ls []) := by
          intro ls H locs hl hP hD hS
          refine lv_iinc (v := (s103.1 + (1 : Int32))) (lv' := [(5, .int (s103.1 + (1 : Int32))), (0, .ref (ga 0)), (1, .int n), (2, .int r), (3, .int s69.1), (4, .int s69.2.1)]) hx hb dX8_covers_215 hl (k := 5) rfl rfl (by decide) rfl (fun ls hl => ?_)
          refine lv_goto (tgt := 44) hx hb dX8_covers_218 (by decide) ?_
          exact hi131 _ (Option.some.inj h157).symm _ _ _ (lv_sub hl [1, 2, 3, 4, 5, 0] rfl) hP hD hS
        refine lv_if_lt (tgt := 215) hx hb dX8_covers_73 (by decide) (fun c107 => ?_) (fun c107 => ?_)
        · skip
          replace q156 := (if_pos c107).symm.trans q156
          obtain rfl := Option.some.inj q156
          exact J130 _ _ _ (lv_sub hl [1, 2, 3, 4, 5, 6] rfl) hP hD hS
        · skip
          replace q156 := (if_neg c107).symm.trans q156
          refine lv_aload_n hx hb dX8_covers_76 rfl (lv_at hl 1 rfl) ?_
          refine xget (ref := "FriezeFolkModel") (C := RX8) (T := TX8) (N := 24) (ci := 8) (v := .ref (ga 15)) hx hb hts inX8 hown hK hP 0 rfl rfl 14 (by decide) k2 rfl rfl dX8_covers_77 ?_
          refine lv_iload hx hb dX8_covers_80 (lv_at hl 0 rfl) ?_
          obtain ⟨v108, q108, h158⟩ := obn q156
          clear q156
          refine xald hx hb hK hP 6 rfl q108 dX8_covers_82 ?_
          refine lv_ldc hx hb hown k1 dX8_covers_83 ?_
          refine lv_icmp_ge (tgt := 215) hx hb dX8_covers_85 (by decide) (fun c109 => ?_) (fun c109 => ?_)
          · skip
            replace h158 := (if_pos c109).symm.trans h158
            obtain rfl := Option.some.inj h158
            exact J130 _ _ _ (lv_sub hl [1, 2, 3, 4, 5, 6] rfl) hP hD hS
          · skip
            replace h158 := (if_neg c109).symm.trans h158
            refine lv_aload_n hx hb dX8_covers_88 rfl (lv_at hl 1 rfl) ?_
            refine xget (ref := "FriezeFolkModel") (C := RX8) (T := TX8) (N := 24) (ci := 8) (v := .ref (ga 15)) hx hb hts inX8 hown hK hP 0 rfl rfl 14 (by decide) k2 rfl rfl dX8_covers_89 ?_
            refine lv_iload hx hb dX8_covers_92 (lv_at hl 0 rfl) ?_
            obtain ⟨v110, q110, h159⟩ := obn h158
            clear h158
            refine xald hx hb hK hP 6 rfl q110 dX8_covers_94 ?_
            refine lv_aload_n hx hb dX8_covers_95 rfl (lv_at hl 1 rfl) ?_
            refine xget (ref := "FriezeFolkModel") (C := RX8) (T := TX8) (N := 24) (ci := 8) (v := .ref (ga 1)) hx hb hts inX8 hown hK hP 0 rfl rfl 0 (by decide) k4 rfl rfl dX8_covers_96 ?_
            refine lv_bipush (v := (35 : Int32)) hx hb dX8_covers_99 (by decide) ?_
            refine lv_iload hx hb dX8_covers_101 (lv_at hl 6 rfl) ?_
            refine lv_iadd hx hb dX8_covers_103 ?_
            obtain ⟨v111, q111, h160⟩ := obn h159
            clear h159
            refine xald hx hb hK hP 1 rfl q111 dX8_covers_104 ?_
            refine lv_iadd hx hb dX8_covers_105 ?_
            refine lv_istore (lv' := [(7, .int (v110 + v111)), (6, .int (s69.2.1 - v106)), (0, .ref (ga 0)), (1, .int n), (2, .int r), (3, .int s69.1), (4, .int s69.2.1), (5, .int s103.1)]) hx hb dX8_covers_106 hl (by decide) rfl (fun ls hl => ?_)
            refine lv_aload_n hx hb dX8_covers_108 rfl (lv_at hl 2 rfl) ?_
            refine xget (ref := "FriezeFolkModel") (C := RX8) (T := TX8) (N := 24) (ci := 8) (v := .ref (ga 16)) hx hb hts inX8 hown hK hP 0 rfl rfl 15 (by decide) k3 rfl rfl dX8_covers_109 ?_
            refine lv_iload hx hb dX8_covers_112 (lv_at hl 1 rfl) ?_
            obtain ⟨v112, q112, h161⟩ := obn h160
            clear h160
            refine xald hx hb hK hP 7 rfl q112 dX8_covers_114 ?_
            refine lv_iload hx hb dX8_covers_115 (lv_at hl 7 rfl) ?_
            refine lv_iload_n hx hb dX8_covers_117 rfl (lv_at hl 4 rfl) ?_
            obtain ⟨v114, q162, h163⟩ := obn h161
            clear h161
            have J114 : ∀ (ls : Array Slot) (H : Heap) (locs : List Loc), lv_has ls 9 [(0, .ref (ga 0)), (1, .int n), (2, .int r), (3, .int s69.1), (4, .int s69.2.1), (5, .int s103.1), (7, .int (v110 + v111))] → va_P D vwCl (cO ca ga s103.2) H → va_D A (cO ca ga s103.2) → va_S A s.heap H locs → W p l e rmX8_covers s m ([.ref (ga 0), .int n, .int r] : List Value).toArray below meth c H locs 0 0 Z (F0 m 126 ls [.int v114, .int v112]) := by
              intro ls H locs hl hP hD hS
              refine lv_iadd hx hb dX8_covers_126 ?_
              refine lv_istore (lv' := [(8, .int (v112 + v114)), (0, .ref (ga 0)), (1, .int n), (2, .int r), (3, .int s69.1), (4, .int s69.2.1), (5, .int s103.1), (7, .int (v110 + v111))]) hx hb dX8_covers_127 hl (by decide) rfl (fun ls hl => ?_)
              refine lv_aload_n hx hb dX8_covers_129 rfl (lv_at hl 1 rfl) ?_
              refine xget (ref := "FriezeFolkModel") (C := RX8) (T := TX8) (N := 24) (ci := 8) (v := .ref (ga 16)) hx hb hts inX8 hown hK hP 0 rfl rfl 15 (by decide) k3 rfl rfl dX8_covers_130 ?_
              refine lv_iload hx hb dX8_covers_133 (lv_at hl 5 rfl) ?_
              refine lv_iload hx hb dX8_covers_135 (lv_at hl 7 rfl) ?_
              refine lv_aload_n hx hb dX8_covers_137 rfl (lv_at hl 1 rfl) ?_
              refine xget (ref := "FriezeFolkModel") (C := RX8) (T := TX8) (N := 24) (ci := 8) (v := .ref (ga 15)) hx hb hts inX8 hown hK hP 0 rfl rfl 14 (by decide) k2 rfl rfl dX8_covers_138 ?_
              refine lv_iload hx hb dX8_covers_141 (lv_at hl 5 rfl) ?_
              obtain ⟨v115, q115, h164⟩ := obn h163
              clear h163
              refine xald hx hb hK hP 6 rfl q115 dX8_covers_143 ?_
              obtain ⟨v123, q165, h166⟩ := obn h164
              clear h164
              have J123 : ∀ (ls : Array Slot) (H : Heap) (locs : List Loc), lv_has ls 9 [(0, .ref (ga 0)), (1, .int n), (2, .int r), (3, .int s69.1), (4, .int s69.2.1), (5, .int s103.1), (7, .int (v110 + v111))] → va_P D vwCl (cO ca ga s103.2) H → va_D A (cO ca ga s103.2) → va_S A s.heap H locs → W p l e rmX8_covers s m ([.ref (ga 0), .int n, .int r] : List Value).toArray below meth c H locs 0 0 Z (F0 m 183 ls [.int v123, .int s69.2.1, .ref (ga 16)]) := by
                intro ls H locs hl hP hD hS
                obtain ⟨f124, q124, h167⟩ := obn h166
                clear h166
                refine xast hx hb hK hP hD hS 7 rfl q124 dX8_covers_183 (wn := (cO ca ga (sA s103.2 15 f124))) rfl (fun H locs hP hD hS => ?_)
                refine lv_aload_n hx hb dX8_covers_184 rfl (lv_at hl 0 rfl) ?_
                refine xget (ref := "FriezeFolkModel") (C := RX8) (T := TX8) (N := 24) (ci := 8) (v := .ref (ga 15)) hx hb hts inX8 hown hK hP 0 rfl rfl 14 (by decide) k2 rfl rfl dX8_covers_185 ?_
                refine lv_iload hx hb dX8_covers_188 (lv_at hl 4 rfl) ?_
                refine lv_iload hx hb dX8_covers_190 (lv_at hl 6 rfl) ?_
                refine lv_aload_n hx hb dX8_covers_192 rfl (lv_at hl 0 rfl) ?_
                refine xget (ref := "FriezeFolkModel") (C := RX8) (T := TX8) (N := 24) (ci := 8) (v := .ref (ga 15)) hx hb hts inX8 hown hK hP 0 rfl rfl 14 (by decide) k2 rfl rfl dX8_covers_193 ?_
                refine lv_iload hx hb dX8_covers_196 (lv_at hl 4 rfl) ?_
                obtain ⟨v125, q125, h168⟩ := obn h167
                clear h167
                refine xald hx hb hK hP 6 rfl q125 dX8_covers_198 ?_
                obtain ⟨v128, q169, h170⟩ := obn h168
                clear h168
                have J128 : ∀ (ls : Array Slot) (H : Heap) (locs : List Loc), lv_has ls 9 [(0, .ref (ga 0)), (1, .int n), (2, .int r), (3, .int s69.1), (4, .int s69.2.1), (5, .int s103.1)] → va_P D vwCl (cO ca ga (sA s103.2 15 f124)) H → va_D A (cO ca ga (sA s103.2 15 f124)) → va_S A s.heap H locs → W p l e rmX8_covers s m ([.ref (ga 0), .int n, .int r] : List Value).toArray below meth c H locs 0 0 Z (F0 m 214 ls [.int v128, .int s69.2.1, .ref (ga 15)]) := by
                  intro ls H locs hl hP hD hS
                  obtain ⟨f129, q129, h171⟩ := obn h170
                  clear h170
                  refine xast hx hb hK hP hD hS 6 rfl q129 dX8_covers_214 (wn := (cO ca ga (sA (sA s103.2 15 f124) 14 f129))) rfl (fun H locs hP hD hS => ?_)
                  obtain rfl := Option.some.inj h171
                  exact J130 _ _ _ (lv_sub hl [0, 1, 2, 3, 4, 5] rfl) hP hD hS
                refine lv_icmp_ge (tgt := 207) hx hb dX8_covers_199 (by decide) (fun c126 => ?_) (fun c126 => ?_)
                · skip
                  replace q169 := (if_pos c126).symm.trans q169
                  refine lv_aload_n hx hb dX8_covers_207 rfl (lv_at hl 0 rfl) ?_
                  refine xget (ref := "FriezeFolkModel") (C := RX8) (T := TX8) (N := 24) (ci := 8) (v := .ref (ga 15)) hx hb hts inX8 hown hK hP 0 rfl rfl 14 (by decide) k2 rfl rfl dX8_covers_208 ?_
                  refine lv_iload hx hb dX8_covers_211 (lv_at hl 4 rfl) ?_
                  obtain ⟨v127, q127, h172⟩ := obn q169
                  clear q169
                  refine xald hx hb hK hP 6 rfl q127 dX8_covers_213 ?_
                  obtain rfl := Option.some.inj h172
                  exact J128 _ _ _ (lv_sub hl [0, 1, 2, 3, 4, 5] rfl) hP hD hS
                · skip
                  replace q169 := (if_neg c126).symm.trans q169
                  refine lv_iload hx hb dX8_covers_202 (lv_at hl 6 rfl) ?_
                  refine lv_goto (tgt := 214) hx hb dX8_covers_204 (by decide) ?_
                  obtain rfl := Option.some.inj q169
                  exact J128 _ _ _ (lv_sub hl [0, 1, 2, 3, 4, 5] rfl) hP hD hS
              refine lv_icmp_lt (tgt := 171) hx hb dX8_covers_144 (by decide) (fun c116 => ?_) (fun c116 => ?_)
              · skip
                replace q165 := (if_pos c116).symm.trans q165
                refine lv_iload hx hb dX8_covers_171 (lv_at hl 0 rfl) ?_
                refine lv_goto (tgt := 183) hx hb dX8_covers_173 (by decide) ?_
                obtain rfl := Option.some.inj q165
                exact J123 _ _ _ (lv_sub hl [1, 2, 3, 4, 5, 6, 7] rfl) hP hD hS
              · skip
                replace q165 := (if_neg c116).symm.trans q165
                refine lv_iload hx hb dX8_covers_147 (lv_at hl 7 rfl) ?_
                refine lv_aload_n hx hb dX8_covers_149 rfl (lv_at hl 1 rfl) ?_
                refine xget (ref := "FriezeFolkModel") (C := RX8) (T := TX8) (N := 24) (ci := 8) (v := .ref (ga 15)) hx hb hts inX8 hown hK hP 0 rfl rfl 14 (by decide) k2 rfl rfl dX8_covers_150 ?_
                refine lv_iload hx hb dX8_covers_153 (lv_at hl 5 rfl) ?_
                obtain ⟨v117, q117, h173⟩ := obn q165
                clear q165
                refine xald hx hb hK hP 6 rfl q117 dX8_covers_155 ?_
                refine lv_icmp_ne (tgt := 176) hx hb dX8_covers_156 (by decide) (fun c118 => ?_) (fun c118 => ?_)
                · skip
                  replace h173 := (if_neg c118).symm.trans h173
                  refine lv_aload_n hx hb dX8_covers_176 rfl (lv_at hl 1 rfl) ?_
                  refine xget (ref := "FriezeFolkModel") (C := RX8) (T := TX8) (N := 24) (ci := 8) (v := .ref (ga 16)) hx hb hts inX8 hown hK hP 0 rfl rfl 15 (by decide) k3 rfl rfl dX8_covers_177 ?_
                  refine lv_iload hx hb dX8_covers_180 (lv_at hl 5 rfl) ?_
                  obtain ⟨v119, q119, h174⟩ := obn h173
                  clear h173
                  refine xald hx hb hK hP 7 rfl q119 dX8_covers_182 ?_
                  obtain rfl := Option.some.inj h174
                  exact J123 _ _ _ (lv_sub hl [1, 2, 3, 4, 5, 6, 7] rfl) hP hD hS
                · skip
                  replace h173 := (if_pos c118).symm.trans h173
                  refine lv_iload hx hb dX8_covers_159 (lv_at hl 0 rfl) ?_
                  refine lv_aload_n hx hb dX8_covers_161 rfl (lv_at hl 1 rfl) ?_
                  refine xget (ref := "FriezeFolkModel") (C := RX8) (T := TX8) (N := 24) (ci := 8) (v := .ref (ga 16)) hx hb hts inX8 hown hK hP 0 rfl rfl 15 (by decide) k3 rfl rfl dX8_covers_162 ?_
                  refine lv_iload hx hb dX8_covers_165 (lv_at hl 5 rfl) ?_
                  obtain ⟨v120, q120, h175⟩ := obn h173
                  clear h173
                  refine xald hx hb hK hP 7 rfl q120 dX8_covers_167 ?_
                  refine lv_icmp_le (tgt := 176) hx hb dX8_covers_168 (by decide) (fun c121 => ?_) (fun c121 => ?_)
                  · skip
                    replace h175 := (if_pos c121).symm.trans h175
                    refine lv_aload_n hx hb dX8_covers_176 rfl (lv_at hl 1 rfl) ?_
                    refine xget (ref := "FriezeFolkModel") (C := RX8) (T := TX8) (N := 24) (ci := 8) (v := .ref (ga 16)) hx hb hts inX8 hown hK hP 0 rfl rfl 15 (by decide) k3 rfl rfl dX8_covers_177 ?_
                    refine lv_iload hx hb dX8_covers_180 (lv_at hl 5 rfl) ?_
                    obtain ⟨v122, q122, h176⟩ := obn h175
                    clear h175
                    refine xald hx hb hK hP 7 rfl q122 dX8_covers_182 ?_
                    obtain rfl := Option.some.inj h176
                    exact J123 _ _ _ (lv_sub hl [1, 2, 3, 4, 5, 6, 7] rfl) hP hD hS
                  · skip
                    replace h175 := (if_neg c121).symm.trans h175
                    refine lv_iload hx hb dX8_covers_171 (lv_at hl 0 rfl) ?_
                    refine lv_goto (tgt := 183) hx hb dX8_covers_173 (by decide) ?_
                    obtain rfl := Option.some.inj h175
                    exact J123 _ _ _ (lv_sub hl [1, 2, 3, 4, 5, 6, 7] rfl) hP hD hS
            refine lv_icmp_ne (tgt := 125) hx hb dX8_covers_118 (by decide) (fun c113 => ?_) (fun c113 => ?_)
            · skip
              replace q162 := (if_neg c113).symm.trans q162
              refine lv_iconst (v := (0 : Int32)) hx hb dX8_covers_125 (by decide) ?_
              obtain rfl := Option.some.inj q162
              exact J114 _ _ _ (lv_sub hl [2, 3, 4, 5, 6, 7, 0] rfl) hP hD hS
            · skip
              replace q162 := (if_pos c113).symm.trans q162
              refine lv_iconst (v := (1 : Int32)) hx hb dX8_covers_121 (by decide) ?_
              refine lv_goto (tgt := 126) hx hb dX8_covers_122 (by decide) ?_
              obtain rfl := Option.some.inj q162
              exact J114 _ _ _ (lv_sub hl [2, 3, 4, 5, 6, 7, 0] rfl) hP hD hS
    refine lv_if_ne (tgt := 30) hx hb dX8_covers_23 (by decide) (fun c71 => ?_) (fun c71 => ?_)
    · skip
      replace q142 := (if_neg c71).symm.trans q142
      refine lv_ldc hx hb hown k1 dX8_covers_30 ?_
      obtain rfl := Option.some.inj q142
      exact J72 _ _ _ (lv_sub hl [0, 1, 2, 3, 4] rfl) hP hD hS
    · skip
      replace q142 := (if_pos c71).symm.trans q142
      refine lv_iconst (v := (0 : Int32)) hx hb dX8_covers_26 (by decide) ?_
      refine lv_goto (tgt := 32) hx hb dX8_covers_27 (by decide) ?_
      obtain rfl := Option.some.inj q142
      exact J72 _ _ _ (lv_sub hl [0, 1, 2, 3, 4] rfl) hP hD hS
def mX8_cover_l44 (n : Int32) (v5 : Int32 × GS) (s7 : Int32) : Option ((Int32) ⊕ (Int32)) :=
  Option.bind (ald 70 (v5.2.1 14) (n + s7)) fun v8 =>
  if v8 = v5.1 then
    some (.inr s7)
  else
    some (.inl (s7 + (1 : Int32)))

def mX8_cover (g : GS) (n : Int32) (w : Int32) : Option (Int32 × GS) :=
  Option.bind (mX8_in n.toInt64 (0 : Int64) (60 : Int64)) fun v1 =>
  if v1 = 0 then
    some ((-1 : Int32), g)
  else
    Option.bind (mX8_in w.toInt64 (0 : Int64) (1 : Int64)) fun v3 =>
    if v3 = 0 then
      some ((-1 : Int32), g)
    else
      Option.bind (mX8_covers g n (-4 : Int32)) fun v5 =>
      if v5.1 = (100000 : Int32) then
        some ((-4 : Int32), v5.2)
      else
        Option.bind (whO (mX8_cover_l44 n v5) FU (0 : Int32)) fun e10 =>
        if w = 0 then
          some (v5.1, v5.2)
        else
          some (e10, v5.2)
abbrev rmX8_cover : Room := { frames := 1, cells := 0, slots := 0, locals := 28 }
set_option maxHeartbeats 4000000 in
set_option maxRecDepth 100000 in
theorem k_X8_cover (l : Launch) (D : va_G) (ca : Nat → ClassId) (ga : Nat → Nat) (g : GS) (n : Int32) (w : Int32) (o : Int32 × GS) (hm : mX8_cover g n w = some o) : KI l yX8_cover wsX8_cover rmX8_cover D ca [.ref (ga 0), .int n, .int w] (cO ca ga g) (cO ca ga o.2) o.1 := by
  refine KI.of (cc := cX8_cover) (n := 5) (plainFor_of_name (by decide)) rfl (Nat.le_of_ble_eq_true rfl) ?_
  intro p e s m below meth c A Z hx hb hml hts hown hA hK hP hD hS hret ls hl
  have hown : s.vm.findClass RX8 = some m.cls := hown
  have hl : lv_has ls 5 [(0, .ref (ga 0)), (1, .int n), (2, .int w)] := hl
  have inX8 : ∀ w ∈ wsX80, w ∈ wsX8_cover := by decide +kernel
  have k1 := hts (.constantLong RX8 174 (60 : Int64)) (by decide +kernel)
  have k2 := hts (.constant RX8 183 (100000 : Int32)) (by decide +kernel)
  have k3 := hts (.fieldLink RX8 25 "FriezeFolkModel" "prices" "[I") (by decide +kernel)
  unfold mX8_cover at hm
  refine lv_iload_n hx hb dX8_cover_0 rfl (lv_at hl 1 rfl) ?_
  refine lv_i2l (v := n.toInt64) hx hb dX8_cover_1 rfl ?_
  refine lv_lconst (v := (0 : Int64)) hx hb dX8_cover_2 (by decide) ?_
  refine lv_ldc2 hx hb hown k1 dX8_cover_3 ?_
  obtain ⟨v1, q1, h12⟩ := obn hm
  clear hm
  refine xSi (As := [.long n.toInt64, .long (0 : Int64), .long (60 : Int64)]) ⟨hx, hb, hml, hown, hts⟩ (k_X8_in l D ca  n.toInt64 (0 : Int64) (60 : Int64) _ q1) (va_cwS 3 hts gX8_cover_X8_in rfl rfl rfl (by decide +kernel) ⟨Nat.le_of_ble_eq_true rfl, Nat.le_of_ble_eq_true rfl⟩) hK hA hP hD hS dX8_cover_6 rfl hl.1 [] [0, 1, 2, 3, 4, 5, 6, 7, 8, 9, 10, 11, 12, 13] [0, 1, 2, 3, 4, 5, 6, 7, 8, 9, 10, 11, 12, 13] rfl rfl (wr := ((cO ca ga g))) rfl rfl (by decide) (wn := (cO ca ga g)) rfl rfl rfl (Nat.le_of_ble_eq_true rfl) (fun H locs hP hD hS => ?_)
  refine lv_if_eq (tgt := 22) hx hb dX8_cover_9 (by decide) (fun c2 => ?_) (fun c2 => ?_)
  · skip
    replace h12 := (if_pos c2).symm.trans h12
    refine lv_iconst (v := (-1 : Int32)) hx hb dX8_cover_22 (by decide) ?_
    obtain rfl := Option.some.inj h12
    exact hret _ _ _ _ (vp_nar_int _) hP hD hS dX8_cover_23
  · skip
    replace h12 := (if_neg c2).symm.trans h12
    refine lv_iload_n hx hb dX8_cover_12 rfl (lv_at hl 2 rfl) ?_
    refine lv_i2l (v := w.toInt64) hx hb dX8_cover_13 rfl ?_
    refine lv_lconst (v := (0 : Int64)) hx hb dX8_cover_14 (by decide) ?_
    refine lv_lconst (v := (1 : Int64)) hx hb dX8_cover_15 (by decide) ?_
    obtain ⟨v3, q3, h13⟩ := obn h12
    clear h12
    refine xSi (As := [.long w.toInt64, .long (0 : Int64), .long (1 : Int64)]) ⟨hx, hb, hml, hown, hts⟩ (k_X8_in l D ca  w.toInt64 (0 : Int64) (1 : Int64) _ q3) (va_cwS 3 hts gX8_cover_X8_in rfl rfl rfl (by decide +kernel) ⟨Nat.le_of_ble_eq_true rfl, Nat.le_of_ble_eq_true rfl⟩) hK hA hP hD hS dX8_cover_16 rfl hl.1 [] [0, 1, 2, 3, 4, 5, 6, 7, 8, 9, 10, 11, 12, 13] [0, 1, 2, 3, 4, 5, 6, 7, 8, 9, 10, 11, 12, 13] rfl rfl (wr := ((cO ca ga g))) rfl rfl (by decide) (wn := (cO ca ga g)) rfl rfl rfl (Nat.le_of_ble_eq_true rfl) (fun H locs hP hD hS => ?_)
    refine lv_if_ne (tgt := 24) hx hb dX8_cover_19 (by decide) (fun c4 => ?_) (fun c4 => ?_)
    · skip
      replace h13 := (if_neg c4).symm.trans h13
      refine lv_aload_n hx hb dX8_cover_24 rfl (lv_at hl 0 rfl) ?_
      refine lv_iload_n hx hb dX8_cover_25 rfl (lv_at hl 1 rfl) ?_
      refine lv_bipush (v := (-4 : Int32)) hx hb dX8_cover_26 (by decide) ?_
      obtain ⟨v5, q5, h14⟩ := obn h13
      clear h13
      refine xVi (As := [.int n, .int (-4 : Int32)]) (ci := 8) ⟨hx, hb, hml, hown, hts⟩ (k_X8_covers l D ca ga g n (-4 : Int32) _ q5) (cwV 2 hts gX8_cover_X8_covers rfl rfl rfl (by decide +kernel) ⟨Nat.le_of_ble_eq_true rfl, Nat.le_of_ble_eq_true rfl⟩) hK hA hP hD hS dX8_cover_28 rfl hl.1 [0, 1, 2, 3, 4, 5, 6, 7, 8, 9, 10, 11, 12, 13] [] [0, 1, 2, 3, 4, 5, 6, 7, 8, 9, 10, 11, 12, 13] rfl rfl (wr := []) rfl rfl (by decide) (wn := (cO ca ga v5.2)) rfl rfl rfl rfl rfl rfl (Nat.le_of_ble_eq_true rfl) (fun H locs hP hD hS => ?_)
      refine lv_istore_n (lv' := [(3, .int v5.1), (0, .ref (ga 0)), (1, .int n), (2, .int w)]) hx hb dX8_cover_31 rfl hl (by decide) rfl (fun ls hl => ?_)
      refine lv_iload_n hx hb dX8_cover_32 rfl (lv_at hl 0 rfl) ?_
      refine lv_ldc hx hb hown k2 dX8_cover_33 ?_
      refine lv_icmp_ne (tgt := 41) hx hb dX8_cover_35 (by decide) (fun c6 => ?_) (fun c6 => ?_)
      · skip
        replace h14 := (if_neg c6).symm.trans h14
        refine lv_iconst (v := (0 : Int32)) hx hb dX8_cover_41 (by decide) ?_
        refine lv_istore (lv' := [(4, .int (0 : Int32)), (3, .int v5.1), (0, .ref (ga 0)), (1, .int n), (2, .int w)]) hx hb dX8_cover_42 hl (by decide) rfl (fun ls hl => ?_)
        obtain ⟨e10, w15, h16⟩ := obn h14
        clear h14
        have AF10 : ∀ (ls : Array Slot) (H : Heap) (locs : List Loc), lv_has ls 5 [(2, .int w), (3, .int v5.1), (4, .int e10)] → va_P D vwCl (cO ca ga v5.2) H → va_D A (cO ca ga v5.2) → va_S A s.heap H locs → W p l e rmX8_cover s m ([.ref (ga 0), .int n, .int w] : List Value).toArray below meth c H locs 0 0 Z (F0 m 63 ls []) := by
          intro ls H locs hl hP hD hS
          refine lv_iload_n hx hb dX8_cover_63 rfl (lv_at hl 0 rfl) ?_
          refine lv_if_ne (tgt := 71) hx hb dX8_cover_64 (by decide) (fun c11 => ?_) (fun c11 => ?_)
          · skip
            replace h16 := (if_neg c11).symm.trans h16
            refine lv_iload hx hb dX8_cover_71 (lv_at hl 2 rfl) ?_
            obtain rfl := Option.some.inj h16
            exact hret _ _ _ _ (vp_nar_int _) hP hD hS dX8_cover_73
          · skip
            replace h16 := (if_pos c11).symm.trans h16
            refine lv_iload_n hx hb dX8_cover_67 rfl (lv_at hl 1 rfl) ?_
            refine lv_goto (tgt := 73) hx hb dX8_cover_68 (by decide) ?_
            obtain rfl := Option.some.inj h16
            exact hret _ _ _ _ (vp_nar_int _) hP hD hS dX8_cover_73
        refine whO_walk (I := fun s7 => ∀ (ls : Array Slot) (H : Heap) (locs : List Loc), lv_has ls 5 [(0, .ref (ga 0)), (1, .int n), (2, .int w), (3, .int v5.1), (4, .int s7)] → va_P D vwCl (cO ca ga v5.2) H → va_D A (cO ca ga v5.2) → va_S A s.heap H locs → W p l e rmX8_cover s m ([.ref (ga 0), .int n, .int w] : List Value).toArray below meth c H locs 0 0 Z (F0 m 44 ls [])) ?_ _ _ w15 _ _ _ (lv_sub hl [2, 3, 4, 1, 0] rfl) hP hD hS
        clear w15
        intro s7 o10 h17 hi10 ho10 ls H locs hl hP hD hS
        unfold mX8_cover_l44 at h17
        refine lv_aload_n hx hb dX8_cover_44 rfl (lv_at hl 0 rfl) ?_
        refine xget (ref := "FriezeFolkModel") (C := RX8) (T := TX8) (N := 24) (ci := 8) (v := .ref (ga 15)) hx hb hts inX8 hown hK hP 0 rfl rfl 14 (by decide) k3 rfl rfl dX8_cover_45 ?_
        refine lv_iload_n hx hb dX8_cover_48 rfl (lv_at hl 1 rfl) ?_
        refine lv_iload hx hb dX8_cover_49 (lv_at hl 4 rfl) ?_
        refine lv_iadd hx hb dX8_cover_51 ?_
        obtain ⟨v8, q8, h18⟩ := obn h17
        clear h17
        refine xald hx hb hK hP 6 rfl q8 dX8_cover_52 ?_
        refine lv_iload_n hx hb dX8_cover_53 rfl (lv_at hl 3 rfl) ?_
        refine lv_icmp_eq (tgt := 63) hx hb dX8_cover_54 (by decide) (fun c9 => ?_) (fun c9 => ?_)
        · skip
          replace h18 := (if_pos c9).symm.trans h18
          have h19 := ho10 _ (Option.some.inj h18).symm
          subst h19
          exact AF10 _ _ _ (lv_sub hl [2, 3, 4] rfl) hP hD hS
        · skip
          replace h18 := (if_neg c9).symm.trans h18
          refine lv_iinc (v := (s7 + (1 : Int32))) (lv' := [(4, .int (s7 + (1 : Int32))), (0, .ref (ga 0)), (1, .int n), (2, .int w), (3, .int v5.1)]) hx hb dX8_cover_57 hl (k := 4) rfl rfl (by decide) rfl (fun ls hl => ?_)
          refine lv_goto (tgt := 44) hx hb dX8_cover_60 (by decide) ?_
          exact hi10 _ (Option.some.inj h18).symm _ _ _ (lv_sub hl [1, 2, 3, 4, 0] rfl) hP hD hS
      · skip
        replace h14 := (if_pos c6).symm.trans h14
        refine lv_bipush (v := (-4 : Int32)) hx hb dX8_cover_38 (by decide) ?_
        obtain rfl := Option.some.inj h14
        exact hret _ _ _ _ (vp_nar_int _) hP hD hS dX8_cover_40
    · skip
      replace h13 := (if_pos c4).symm.trans h13
      refine lv_iconst (v := (-1 : Int32)) hx hb dX8_cover_22 (by decide) ?_
      obtain rfl := Option.some.inj h13
      exact hret _ _ _ _ (vp_nar_int _) hP hD hS dX8_cover_23
def mX8_most_l35 (n : Int32) (v5 : Int32 × GS) (s6 : Int32 × Int32) : Option ((Int32 × Int32) ⊕ (Int32 × Int32)) :=
  if (n + (10 : Int32)) ≤ s6.2 then
    some (.inr (s6.1, s6.2))
  else
    Option.bind (ald 70 (v5.2.1 14) s6.2) fun v8 =>
    Option.bind (
      if v8 = v5.1 then
        Option.bind (ald 70 (v5.2.1 15) s6.2) fun v10 =>
        if v10 ≤ s6.1 then
          some s6.1
        else
          Option.bind (ald 70 (v5.2.1 15) s6.2) fun v12 =>
          some v12
      else
        some s6.1) fun (v13 : Int32) =>
    some (.inl (v13, (s6.2 + (1 : Int32))))

def mX8_most (g : GS) (r : Int32) (n : Int32) : Option (Int32 × GS) :=
  Option.bind (mX8_isRoll g r) fun v1 =>
  if v1 = 0 then
    some ((-1 : Int32), g)
  else
    Option.bind (mX8_in n.toInt64 (0 : Int64) (60 : Int64)) fun v3 =>
    if v3 = 0 then
      some ((-1 : Int32), g)
    else
      Option.bind (mX8_covers g n r) fun v5 =>
      Option.bind (whO (mX8_most_l35 n v5) FU ((0 : Int32), n)) fun e14 =>
      some (e14.1, v5.2)
abbrev rmX8_most : Room := { frames := 2, cells := 0, slots := 0, locals := 46 }
set_option maxHeartbeats 4000000 in
set_option maxRecDepth 100000 in
theorem k_X8_most (l : Launch) (D : va_G) (ca : Nat → ClassId) (ga : Nat → Nat) (g : GS) (r : Int32) (n : Int32) (o : Int32 × GS) (hm : mX8_most g r n = some o) : KI l yX8_most wsX8_most rmX8_most D ca [.ref (ga 0), .int r, .int n] (cO ca ga g) (cO ca ga o.2) o.1 := by
  refine KI.of (cc := cX8_most) (n := 6) (plainFor_of_name (by decide)) rfl (Nat.le_of_ble_eq_true rfl) ?_
  intro p e s m below meth c A Z hx hb hml hts hown hA hK hP hD hS hret ls hl
  have hown : s.vm.findClass RX8 = some m.cls := hown
  have hl : lv_has ls 6 [(0, .ref (ga 0)), (1, .int r), (2, .int n)] := hl
  have inX8 : ∀ w ∈ wsX80, w ∈ wsX8_most := by decide +kernel
  have k1 := hts (.constantLong RX8 174 (60 : Int64)) (by decide +kernel)
  have k2 := hts (.fieldLink RX8 25 "FriezeFolkModel" "prices" "[I") (by decide +kernel)
  have k3 := hts (.fieldLink RX8 28 "FriezeFolkModel" "ofOne" "[I") (by decide +kernel)
  unfold mX8_most at hm
  refine lv_aload_n hx hb dX8_most_0 rfl (lv_at hl 0 rfl) ?_
  refine lv_iload_n hx hb dX8_most_1 rfl (lv_at hl 1 rfl) ?_
  obtain ⟨v1, q1, h15⟩ := obn hm
  clear hm
  refine xVi (As := [.int r]) (ci := 8) ⟨hx, hb, hml, hown, hts⟩ (k_X8_isRoll l D ca ga g r _ q1) (cwV 1 hts gX8_most_X8_isRoll rfl rfl rfl (by decide +kernel) ⟨Nat.le_of_ble_eq_true rfl, Nat.le_of_ble_eq_true rfl⟩) hK hA hP hD hS dX8_most_2 rfl hl.1 [0, 1, 2, 3, 4, 5, 6, 7, 8, 9, 10, 11, 12, 13] [] [0, 1, 2, 3, 4, 5, 6, 7, 8, 9, 10, 11, 12, 13] rfl rfl (wr := []) rfl rfl (by decide) (wn := (cO ca ga g)) rfl rfl rfl rfl rfl rfl (Nat.le_of_ble_eq_true rfl) (fun H locs hP hD hS => ?_)
  refine lv_if_eq (tgt := 20) hx hb dX8_most_5 (by decide) (fun c2 => ?_) (fun c2 => ?_)
  · skip
    replace h15 := (if_pos c2).symm.trans h15
    refine lv_iconst (v := (-1 : Int32)) hx hb dX8_most_20 (by decide) ?_
    obtain rfl := Option.some.inj h15
    exact hret _ _ _ _ (vp_nar_int _) hP hD hS dX8_most_21
  · skip
    replace h15 := (if_neg c2).symm.trans h15
    refine lv_iload_n hx hb dX8_most_8 rfl (lv_at hl 2 rfl) ?_
    refine lv_i2l (v := n.toInt64) hx hb dX8_most_9 rfl ?_
    refine lv_lconst (v := (0 : Int64)) hx hb dX8_most_10 (by decide) ?_
    refine lv_ldc2 hx hb hown k1 dX8_most_11 ?_
    obtain ⟨v3, q3, h16⟩ := obn h15
    clear h15
    refine xSi (As := [.long n.toInt64, .long (0 : Int64), .long (60 : Int64)]) ⟨hx, hb, hml, hown, hts⟩ (k_X8_in l D ca  n.toInt64 (0 : Int64) (60 : Int64) _ q3) (va_cwS 3 hts gX8_most_X8_in rfl rfl rfl (by decide +kernel) ⟨Nat.le_of_ble_eq_true rfl, Nat.le_of_ble_eq_true rfl⟩) hK hA hP hD hS dX8_most_14 rfl hl.1 [] [0, 1, 2, 3, 4, 5, 6, 7, 8, 9, 10, 11, 12, 13] [0, 1, 2, 3, 4, 5, 6, 7, 8, 9, 10, 11, 12, 13] rfl rfl (wr := ((cO ca ga g))) rfl rfl (by decide) (wn := (cO ca ga g)) rfl rfl rfl (Nat.le_of_ble_eq_true rfl) (fun H locs hP hD hS => ?_)
    refine lv_if_ne (tgt := 22) hx hb dX8_most_17 (by decide) (fun c4 => ?_) (fun c4 => ?_)
    · skip
      replace h16 := (if_neg c4).symm.trans h16
      refine lv_aload_n hx hb dX8_most_22 rfl (lv_at hl 0 rfl) ?_
      refine lv_iload_n hx hb dX8_most_23 rfl (lv_at hl 2 rfl) ?_
      refine lv_iload_n hx hb dX8_most_24 rfl (lv_at hl 1 rfl) ?_
      obtain ⟨v5, q5, h17⟩ := obn h16
      clear h16
      refine xVi (As := [.int n, .int r]) (ci := 8) ⟨hx, hb, hml, hown, hts⟩ (k_X8_covers l D ca ga g n r _ q5) (cwV 2 hts gX8_most_X8_covers rfl rfl rfl (by decide +kernel) ⟨Nat.le_of_ble_eq_true rfl, Nat.le_of_ble_eq_true rfl⟩) hK hA hP hD hS dX8_most_25 rfl hl.1 [0, 1, 2, 3, 4, 5, 6, 7, 8, 9, 10, 11, 12, 13] [] [0, 1, 2, 3, 4, 5, 6, 7, 8, 9, 10, 11, 12, 13] rfl rfl (wr := []) rfl rfl (by decide) (wn := (cO ca ga v5.2)) rfl rfl rfl rfl rfl rfl (Nat.le_of_ble_eq_true rfl) (fun H locs hP hD hS => ?_)
      refine lv_istore_n (lv' := [(3, .int v5.1), (0, .ref (ga 0)), (1, .int r), (2, .int n)]) hx hb dX8_most_28 rfl hl (by decide) rfl (fun ls hl => ?_)
      refine lv_iconst (v := (0 : Int32)) hx hb dX8_most_29 (by decide) ?_
      refine lv_istore (lv' := [(4, .int (0 : Int32)), (3, .int v5.1), (0, .ref (ga 0)), (1, .int r), (2, .int n)]) hx hb dX8_most_30 hl (by decide) rfl (fun ls hl => ?_)
      refine lv_iload_n hx hb dX8_most_32 rfl (lv_at hl 4 rfl) ?_
      refine lv_istore (lv' := [(5, .int n), (4, .int (0 : Int32)), (3, .int v5.1), (0, .ref (ga 0)), (1, .int r), (2, .int n)]) hx hb dX8_most_33 hl (by decide) rfl (fun ls hl => ?_)
      obtain ⟨e14, w18, h19⟩ := obn h17
      clear h17
      have AF14 : ∀ (ls : Array Slot) (H : Heap) (locs : List Loc), lv_has ls 6 [(4, .int e14.1)] → va_P D vwCl (cO ca ga v5.2) H → va_D A (cO ca ga v5.2) → va_S A s.heap H locs → W p l e rmX8_most s m ([.ref (ga 0), .int r, .int n] : List Value).toArray below meth c H locs 0 0 Z (F0 m 87 ls []) := by
        intro ls H locs hl hP hD hS
        refine lv_iload hx hb dX8_most_87 (lv_at hl 0 rfl) ?_
        obtain rfl := Option.some.inj h19
        exact hret _ _ _ _ (vp_nar_int _) hP hD hS dX8_most_89
      refine whO_walk (I := fun s6 => ∀ (ls : Array Slot) (H : Heap) (locs : List Loc), lv_has ls 6 [(0, .ref (ga 0)), (2, .int n), (3, .int v5.1), (4, .int s6.1), (5, .int s6.2)] → va_P D vwCl (cO ca ga v5.2) H → va_D A (cO ca ga v5.2) → va_S A s.heap H locs → W p l e rmX8_most s m ([.ref (ga 0), .int r, .int n] : List Value).toArray below meth c H locs 0 0 Z (F0 m 35 ls [])) ?_ _ _ w18 _ _ _ (lv_sub hl [3, 5, 2, 1, 0] rfl) hP hD hS
      clear w18
      intro s6 o14 h20 hi14 ho14 ls H locs hl hP hD hS
      unfold mX8_most_l35 at h20
      refine lv_iload hx hb dX8_most_35 (lv_at hl 4 rfl) ?_
      refine lv_iload_n hx hb dX8_most_37 rfl (lv_at hl 1 rfl) ?_
      refine lv_bipush (v := (10 : Int32)) hx hb dX8_most_38 (by decide) ?_
      refine lv_iadd hx hb dX8_most_40 ?_
      refine lv_icmp_ge (tgt := 87) hx hb dX8_most_41 (by decide) (fun c7 => ?_) (fun c7 => ?_)
      · skip
        replace h20 := (if_pos c7).symm.trans h20
        have h21 := ho14 _ (Option.some.inj h20).symm
        subst h21
        exact AF14 _ _ _ (lv_sub hl [3] rfl) hP hD hS
      · skip
        replace h20 := (if_neg c7).symm.trans h20
        refine lv_aload_n hx hb dX8_most_44 rfl (lv_at hl 0 rfl) ?_
        refine xget (ref := "FriezeFolkModel") (C := RX8) (T := TX8) (N := 24) (ci := 8) (v := .ref (ga 15)) hx hb hts inX8 hown hK hP 0 rfl rfl 14 (by decide) k2 rfl rfl dX8_most_45 ?_
        refine lv_iload hx hb dX8_most_48 (lv_at hl 4 rfl) ?_
        obtain ⟨v8, q8, h22⟩ := obn h20
        clear h20
        refine xald hx hb hK hP 6 rfl q8 dX8_most_50 ?_
        refine lv_iload_n hx hb dX8_most_51 rfl (lv_at hl 2 rfl) ?_
        obtain ⟨v13, q23, h24⟩ := obn h22
        clear h22
        have J13 : ∀ (ls : Array Slot) (H : Heap) (locs : List Loc), lv_has ls 6 [(0, .ref (ga 0)), (2, .int n), (3, .int v5.1), (5, .int s6.2)] → va_P D vwCl (cO ca ga v5.2) H → va_D A (cO ca ga v5.2) → va_S A s.heap H locs → W p l e rmX8_most s m ([.ref (ga 0), .int r, .int n] : List Value).toArray below meth c H locs 0 0 Z (F0 m 79 ls [.int v13]) := by
          intro ls H locs hl hP hD hS
          refine lv_istore (lv' := [(4, .int v13), (0, .ref (ga 0)), (2, .int n), (3, .int v5.1), (5, .int s6.2)]) hx hb dX8_most_79 hl (by decide) rfl (fun ls hl => ?_)
          refine lv_iinc (v := (s6.2 + (1 : Int32))) (lv' := [(5, .int (s6.2 + (1 : Int32))), (4, .int v13), (0, .ref (ga 0)), (2, .int n), (3, .int v5.1)]) hx hb dX8_most_81 hl (k := 4) rfl rfl (by decide) rfl (fun ls hl => ?_)
          refine lv_goto (tgt := 35) hx hb dX8_most_84 (by decide) ?_
          exact hi14 _ (Option.some.inj h24).symm _ _ _ (lv_sub hl [2, 3, 4, 1, 0] rfl) hP hD hS
        refine lv_icmp_ne (tgt := 77) hx hb dX8_most_52 (by decide) (fun c9 => ?_) (fun c9 => ?_)
        · skip
          replace q23 := (if_neg c9).symm.trans q23
          refine lv_iload hx hb dX8_most_77 (lv_at hl 3 rfl) ?_
          obtain rfl := Option.some.inj q23
          exact J13 _ _ _ (lv_sub hl [0, 1, 2, 4] rfl) hP hD hS
        · skip
          replace q23 := (if_pos c9).symm.trans q23
          refine lv_aload_n hx hb dX8_most_55 rfl (lv_at hl 0 rfl) ?_
          refine xget (ref := "FriezeFolkModel") (C := RX8) (T := TX8) (N := 24) (ci := 8) (v := .ref (ga 16)) hx hb hts inX8 hown hK hP 0 rfl rfl 15 (by decide) k3 rfl rfl dX8_most_56 ?_
          refine lv_iload hx hb dX8_most_59 (lv_at hl 4 rfl) ?_
          obtain ⟨v10, q10, h25⟩ := obn q23
          clear q23
          refine xald hx hb hK hP 7 rfl q10 dX8_most_61 ?_
          refine lv_iload hx hb dX8_most_62 (lv_at hl 3 rfl) ?_
          refine lv_icmp_le (tgt := 77) hx hb dX8_most_64 (by decide) (fun c11 => ?_) (fun c11 => ?_)
          · skip
            replace h25 := (if_pos c11).symm.trans h25
            refine lv_iload hx hb dX8_most_77 (lv_at hl 3 rfl) ?_
            obtain rfl := Option.some.inj h25
            exact J13 _ _ _ (lv_sub hl [0, 1, 2, 4] rfl) hP hD hS
          · skip
            replace h25 := (if_neg c11).symm.trans h25
            refine lv_aload_n hx hb dX8_most_67 rfl (lv_at hl 0 rfl) ?_
            refine xget (ref := "FriezeFolkModel") (C := RX8) (T := TX8) (N := 24) (ci := 8) (v := .ref (ga 16)) hx hb hts inX8 hown hK hP 0 rfl rfl 15 (by decide) k3 rfl rfl dX8_most_68 ?_
            refine lv_iload hx hb dX8_most_71 (lv_at hl 4 rfl) ?_
            obtain ⟨v12, q12, h26⟩ := obn h25
            clear h25
            refine xald hx hb hK hP 7 rfl q12 dX8_most_73 ?_
            refine lv_goto (tgt := 79) hx hb dX8_most_74 (by decide) ?_
            obtain rfl := Option.some.inj h26
            exact J13 _ _ _ (lv_sub hl [0, 1, 2, 4] rfl) hP hD hS
    · skip
      replace h16 := (if_pos c4).symm.trans h16
      refine lv_iconst (v := (-1 : Int32)) hx hb dX8_most_20 (by decide) ?_
      obtain rfl := Option.some.inj h16
      exact hret _ _ _ _ (vp_nar_int _) hP hD hS dX8_most_21

def mX8_isStretch (g : GS) (x : Int32) (i : Int32) (j : Int32) (w : Int32) : Option (Int32) :=
  Option.bind (mX8_in x.toInt64 (0 : Int64) (10 : Int64)) fun v1 =>
  if v1 = 0 then
    some (0 : Int32)
  else
    Option.bind (mX8_isPlace g i) fun v3 =>
    if v3 = 0 then
      some (0 : Int32)
    else
      Option.bind (mX8_isPlace g j) fun v5 =>
      if v5 = 0 then
        some (0 : Int32)
      else
        if j < i then
          some (0 : Int32)
        else
          Option.bind (mX8_in w.toInt64 (0 : Int64) (1 : Int64)) fun v8 =>
          if v8 = 0 then
            some (0 : Int32)
          else
            some (1 : Int32)
abbrev rmX8_isStretch : Room := { frames := 2, cells := 0, slots := 0, locals := 46 }
set_option maxHeartbeats 4000000 in
set_option maxRecDepth 100000 in
theorem k_X8_isStretch (l : Launch) (D : va_G) (ca : Nat → ClassId) (ga : Nat → Nat) (g : GS) (x : Int32) (i : Int32) (j : Int32) (w : Int32) (o : Int32) (hm : mX8_isStretch g x i j w = some o) : KI l yX8_isStretch wsX8_isStretch rmX8_isStretch D ca [.ref (ga 0), .int x, .int i, .int j, .int w] (cO ca ga g) (cO ca ga g) o := by
  refine KI.of (cc := cX8_isStretch) (n := 5) (plainFor_of_name (by decide)) rfl (Nat.le_of_ble_eq_true rfl) ?_
  intro p e s m below meth c A Z hx hb hml hts hown hA hK hP hD hS hret ls hl
  have hown : s.vm.findClass RX8 = some m.cls := hown
  have hl : lv_has ls 5 [(0, .ref (ga 0)), (1, .int x), (2, .int i), (3, .int j), (4, .int w)] := hl
  have k1 := hts (.constantLong RX8 187 (10 : Int64)) (by decide +kernel)
  unfold mX8_isStretch at hm
  refine lv_iload_n hx hb dX8_isStretch_0 rfl (lv_at hl 1 rfl) ?_
  refine lv_i2l (v := x.toInt64) hx hb dX8_isStretch_1 rfl ?_
  refine lv_lconst (v := (0 : Int64)) hx hb dX8_isStretch_2 (by decide) ?_
  refine lv_ldc2 hx hb hown k1 dX8_isStretch_3 ?_
  obtain ⟨v1, q1, h10⟩ := obn hm
  clear hm
  refine xSi (As := [.long x.toInt64, .long (0 : Int64), .long (10 : Int64)]) ⟨hx, hb, hml, hown, hts⟩ (k_X8_in l D ca  x.toInt64 (0 : Int64) (10 : Int64) _ q1) (va_cwS 3 hts gX8_isStretch_X8_in rfl rfl rfl (by decide +kernel) ⟨Nat.le_of_ble_eq_true rfl, Nat.le_of_ble_eq_true rfl⟩) hK hA hP hD hS dX8_isStretch_6 rfl hl.1 [] [0, 1, 2, 3, 4, 5, 6, 7, 8, 9, 10, 11, 12, 13] [0, 1, 2, 3, 4, 5, 6, 7, 8, 9, 10, 11, 12, 13] rfl rfl (wr := ((cO ca ga g))) rfl rfl (by decide) (wn := (cO ca ga g)) rfl rfl rfl (Nat.le_of_ble_eq_true rfl) (fun H locs hP hD hS => ?_)
  refine lv_if_eq (tgt := 48) hx hb dX8_isStretch_9 (by decide) (fun c2 => ?_) (fun c2 => ?_)
  · skip
    replace h10 := (if_pos c2).symm.trans h10
    refine lv_iconst (v := (0 : Int32)) hx hb dX8_isStretch_48 (by decide) ?_
    obtain rfl := Option.some.inj h10
    exact hret _ _ _ _ nar0 hP hD hS dX8_isStretch_49
  · skip
    replace h10 := (if_neg c2).symm.trans h10
    refine lv_aload_n hx hb dX8_isStretch_12 rfl (lv_at hl 0 rfl) ?_
    refine lv_iload_n hx hb dX8_isStretch_13 rfl (lv_at hl 2 rfl) ?_
    obtain ⟨v3, q3, h11⟩ := obn h10
    clear h10
    refine xVi (As := [.int i]) (ci := 8) ⟨hx, hb, hml, hown, hts⟩ (k_X8_isPlace l D ca ga g i _ q3) (cwV 1 hts gX8_isStretch_X8_isPlace rfl rfl rfl (by decide +kernel) ⟨Nat.le_of_ble_eq_true rfl, Nat.le_of_ble_eq_true rfl⟩) hK hA hP hD hS dX8_isStretch_14 rfl hl.1 [0, 1, 2, 3, 4, 5, 6, 7, 8, 9, 10, 11, 12, 13] [] [0, 1, 2, 3, 4, 5, 6, 7, 8, 9, 10, 11, 12, 13] rfl rfl (wr := []) rfl rfl (by decide) (wn := (cO ca ga g)) rfl rfl rfl rfl rfl rfl (Nat.le_of_ble_eq_true rfl) (fun H locs hP hD hS => ?_)
    refine lv_if_eq (tgt := 48) hx hb dX8_isStretch_17 (by decide) (fun c4 => ?_) (fun c4 => ?_)
    · skip
      replace h11 := (if_pos c4).symm.trans h11
      refine lv_iconst (v := (0 : Int32)) hx hb dX8_isStretch_48 (by decide) ?_
      obtain rfl := Option.some.inj h11
      exact hret _ _ _ _ nar0 hP hD hS dX8_isStretch_49
    · skip
      replace h11 := (if_neg c4).symm.trans h11
      refine lv_aload_n hx hb dX8_isStretch_20 rfl (lv_at hl 0 rfl) ?_
      refine lv_iload_n hx hb dX8_isStretch_21 rfl (lv_at hl 3 rfl) ?_
      obtain ⟨v5, q5, h12⟩ := obn h11
      clear h11
      refine xVi (As := [.int j]) (ci := 8) ⟨hx, hb, hml, hown, hts⟩ (k_X8_isPlace l D ca ga g j _ q5) (cwV 1 hts gX8_isStretch_X8_isPlace rfl rfl rfl (by decide +kernel) ⟨Nat.le_of_ble_eq_true rfl, Nat.le_of_ble_eq_true rfl⟩) hK hA hP hD hS dX8_isStretch_22 rfl hl.1 [0, 1, 2, 3, 4, 5, 6, 7, 8, 9, 10, 11, 12, 13] [] [0, 1, 2, 3, 4, 5, 6, 7, 8, 9, 10, 11, 12, 13] rfl rfl (wr := []) rfl rfl (by decide) (wn := (cO ca ga g)) rfl rfl rfl rfl rfl rfl (Nat.le_of_ble_eq_true rfl) (fun H locs hP hD hS => ?_)
      refine lv_if_eq (tgt := 48) hx hb dX8_isStretch_25 (by decide) (fun c6 => ?_) (fun c6 => ?_)
      · skip
        replace h12 := (if_pos c6).symm.trans h12
        refine lv_iconst (v := (0 : Int32)) hx hb dX8_isStretch_48 (by decide) ?_
        obtain rfl := Option.some.inj h12
        exact hret _ _ _ _ nar0 hP hD hS dX8_isStretch_49
      · skip
        replace h12 := (if_neg c6).symm.trans h12
        refine lv_iload_n hx hb dX8_isStretch_28 rfl (lv_at hl 2 rfl) ?_
        refine lv_iload_n hx hb dX8_isStretch_29 rfl (lv_at hl 3 rfl) ?_
        refine lv_icmp_gt (tgt := 48) hx hb dX8_isStretch_30 (by decide) (fun c7 => ?_) (fun c7 => ?_)
        · skip
          replace h12 := (if_pos c7).symm.trans h12
          refine lv_iconst (v := (0 : Int32)) hx hb dX8_isStretch_48 (by decide) ?_
          obtain rfl := Option.some.inj h12
          exact hret _ _ _ _ nar0 hP hD hS dX8_isStretch_49
        · skip
          replace h12 := (if_neg c7).symm.trans h12
          refine lv_iload hx hb dX8_isStretch_33 (lv_at hl 4 rfl) ?_
          refine lv_i2l (v := w.toInt64) hx hb dX8_isStretch_35 rfl ?_
          refine lv_lconst (v := (0 : Int64)) hx hb dX8_isStretch_36 (by decide) ?_
          refine lv_lconst (v := (1 : Int64)) hx hb dX8_isStretch_37 (by decide) ?_
          obtain ⟨v8, q8, h13⟩ := obn h12
          clear h12
          refine xSi (As := [.long w.toInt64, .long (0 : Int64), .long (1 : Int64)]) ⟨hx, hb, hml, hown, hts⟩ (k_X8_in l D ca  w.toInt64 (0 : Int64) (1 : Int64) _ q8) (va_cwS 3 hts gX8_isStretch_X8_in rfl rfl rfl (by decide +kernel) ⟨Nat.le_of_ble_eq_true rfl, Nat.le_of_ble_eq_true rfl⟩) hK hA hP hD hS dX8_isStretch_38 rfl hl.1 [] [0, 1, 2, 3, 4, 5, 6, 7, 8, 9, 10, 11, 12, 13] [0, 1, 2, 3, 4, 5, 6, 7, 8, 9, 10, 11, 12, 13] rfl rfl (wr := ((cO ca ga g))) rfl rfl (by decide) (wn := (cO ca ga g)) rfl rfl rfl (Nat.le_of_ble_eq_true rfl) (fun H locs hP hD hS => ?_)
          refine lv_if_eq (tgt := 48) hx hb dX8_isStretch_41 (by decide) (fun c9 => ?_) (fun c9 => ?_)
          · skip
            replace h13 := (if_pos c9).symm.trans h13
            refine lv_iconst (v := (0 : Int32)) hx hb dX8_isStretch_48 (by decide) ?_
            obtain rfl := Option.some.inj h13
            exact hret _ _ _ _ nar0 hP hD hS dX8_isStretch_49
          · skip
            replace h13 := (if_neg c9).symm.trans h13
            refine lv_iconst (v := (1 : Int32)) hx hb dX8_isStretch_44 (by decide) ?_
            refine lv_goto (tgt := 49) hx hb dX8_isStretch_45 (by decide) ?_
            obtain rfl := Option.some.inj h13
            exact hret _ _ _ _ nar1 hP hD hS dX8_isStretch_49
def mX8_luck_l45 (i : Int32) (j : Int32) (s5 : Int64 × Int32) : Option ((Int64 × Int32) ⊕ (Int64 × Int32)) :=
  if ((j - i) + (1 : Int32)) ≤ s5.2 then
    some (.inr (s5.1, s5.2))
  else
    some (.inl ((s5.1 * (10 : Int64)), (s5.2 + (1 : Int32))))

def mX8_luck_l87 (g : GS) (x : Int32) (i : Int32) (j : Int32) (s8 : Int64 × Int32) (s10 : Int64 × Int32 × Int32) : Option ((Int64 × Int32 × Int32) ⊕ (Int64 × Int32 × Int32)) :=
  if ((j - i) + (1 : Int32)) ≤ s10.2.2 then
    some (.inr (s10.1, s10.2.1, s10.2.2))
  else
    Option.bind (
      if ((s8.2 >>> (s10.2.2 &&& 31)) &&& (1 : Int32)) = (1 : Int32) then
        some (1 : Int32)
      else
        some (0 : Int32)) fun (v13 : Int32) =>
    Option.bind (
      if v13 = 0 then
        some ((10 : Int32) - x).toInt64
      else
        some x.toInt64) fun (v15 : Int64) =>
    Option.bind (
      if v13 = 0 then
        Option.bind (mX8_frankOn g (0 : Int32) (i + s10.2.2)) fun v17 =>
        some v17
      else
        some (0 : Int32)) fun (v18 : Int32) =>
    some (.inl ((s10.1 * v15), (s10.2.1 + v18), (s10.2.2 + (1 : Int32))))

def mX8_luck_l69 (g : GS) (x : Int32) (i : Int32) (j : Int32) (y : Int32) (s8 : Int64 × Int32) : Option ((Int64 × Int32) ⊕ (Int64 × Int32)) :=
  if ((1 : Int32) <<< (((j - i) + (1 : Int32)) &&& 31)) ≤ s8.2 then
    some (.inr (s8.1, s8.2))
  else
    Option.bind (whO (mX8_luck_l87 g x i j s8) FU ((1 : Int64), (0 : Int32), (0 : Int32))) fun e19 =>
    Option.bind (
      if e19.2.1 < y then
        some (0 : Int64)
      else
        some e19.1) fun (v21 : Int64) =>
    some (.inl ((s8.1 + v21), (s8.2 + (1 : Int32))))

def mX8_luck (g : GS) (x : Int32) (i : Int32) (j : Int32) (y : Int32) (w : Int32) : Option (Int64) :=
  Option.bind (mX8_isStretch g x i j w) fun v1 =>
  if v1 = 0 then
    some (-1 : Int64)
  else
    Option.bind (mX8_in y.toInt64 (0 : Int64) (999 : Int64)) fun v3 =>
    if v3 = 0 then
      some (-1 : Int64)
    else
      Option.bind (whO (mX8_luck_l45 i j) FU ((1 : Int64), (0 : Int32))) fun e7 =>
      Option.bind (whO (mX8_luck_l69 g x i j y) FU ((0 : Int64), (0 : Int32))) fun e22 =>
      Option.bind (mX8_lowest e22.1 e7.1 w) fun v23 =>
      some v23
abbrev rmX8_luck : Room := { frames := 3, cells := 0, slots := 0, locals := 70 }
set_option maxHeartbeats 4000000 in
set_option maxRecDepth 100000 in
theorem k_X8_luck (l : Launch) (D : va_G) (ca : Nat → ClassId) (ga : Nat → Nat) (g : GS) (x : Int32) (i : Int32) (j : Int32) (y : Int32) (w : Int32) (o : Int64) (hm : mX8_luck g x i j y w = some o) : KL l yX8_luck wsX8_luck rmX8_luck D ca [.ref (ga 0), .int x, .int i, .int j, .int y, .int w] (cO ca ga g) (cO ca ga g) o := by
  refine KL.of (cc := cX8_luck) (n := 17) (plainFor_of_name (by decide)) rfl (Nat.le_of_ble_eq_true rfl) ?_
  intro p e s m below meth c A Z hx hb hml hts hown hA hK hP hD hS hret ls hl
  have hown : s.vm.findClass RX8 = some m.cls := hown
  have hl : lv_has ls 17 [(0, .ref (ga 0)), (1, .int x), (2, .int i), (3, .int j), (4, .int y), (5, .int w)] := hl
  have k1 := hts (.constantLong RX8 194 (-1 : Int64)) (by decide +kernel)
  have k2 := hts (.constantLong RX8 192 (999 : Int64)) (by decide +kernel)
  have k3 := hts (.constantLong RX8 187 (10 : Int64)) (by decide +kernel)
  unfold mX8_luck at hm
  refine lv_aload_n hx hb dX8_luck_0 rfl (lv_at hl 0 rfl) ?_
  refine lv_iload_n hx hb dX8_luck_1 rfl (lv_at hl 1 rfl) ?_
  refine lv_iload_n hx hb dX8_luck_2 rfl (lv_at hl 2 rfl) ?_
  refine lv_iload_n hx hb dX8_luck_3 rfl (lv_at hl 3 rfl) ?_
  refine lv_iload hx hb dX8_luck_4 (lv_at hl 5 rfl) ?_
  obtain ⟨v1, q1, h24⟩ := obn hm
  clear hm
  refine xVi (As := [.int x, .int i, .int j, .int w]) (ci := 8) ⟨hx, hb, hml, hown, hts⟩ (k_X8_isStretch l D ca ga g x i j w _ q1) (cwV 4 hts gX8_luck_X8_isStretch rfl rfl rfl (by decide +kernel) ⟨Nat.le_of_ble_eq_true rfl, Nat.le_of_ble_eq_true rfl⟩) hK hA hP hD hS dX8_luck_6 rfl hl.1 [0, 1, 2, 3, 4, 5, 6, 7, 8, 9, 10, 11, 12, 13] [] [0, 1, 2, 3, 4, 5, 6, 7, 8, 9, 10, 11, 12, 13] rfl rfl (wr := []) rfl rfl (by decide) (wn := (cO ca ga g)) rfl rfl rfl rfl rfl rfl (Nat.le_of_ble_eq_true rfl) (fun H locs hP hD hS => ?_)
  refine lv_if_eq (tgt := 25) hx hb dX8_luck_9 (by decide) (fun c2 => ?_) (fun c2 => ?_)
  · skip
    replace h24 := (if_pos c2).symm.trans h24
    refine lv_ldc2 hx hb hown k1 dX8_luck_25 ?_
    obtain rfl := Option.some.inj h24
    exact hret _ _ _ _ hP hD hS dX8_luck_28
  · skip
    replace h24 := (if_neg c2).symm.trans h24
    refine lv_iload hx hb dX8_luck_12 (lv_at hl 4 rfl) ?_
    refine lv_i2l (v := y.toInt64) hx hb dX8_luck_14 rfl ?_
    refine lv_lconst (v := (0 : Int64)) hx hb dX8_luck_15 (by decide) ?_
    refine lv_ldc2 hx hb hown k2 dX8_luck_16 ?_
    obtain ⟨v3, q3, h25⟩ := obn h24
    clear h24
    refine xSi (As := [.long y.toInt64, .long (0 : Int64), .long (999 : Int64)]) ⟨hx, hb, hml, hown, hts⟩ (k_X8_in l D ca  y.toInt64 (0 : Int64) (999 : Int64) _ q3) (va_cwS 3 hts gX8_luck_X8_in rfl rfl rfl (by decide +kernel) ⟨Nat.le_of_ble_eq_true rfl, Nat.le_of_ble_eq_true rfl⟩) hK hA hP hD hS dX8_luck_19 rfl hl.1 [] [0, 1, 2, 3, 4, 5, 6, 7, 8, 9, 10, 11, 12, 13] [0, 1, 2, 3, 4, 5, 6, 7, 8, 9, 10, 11, 12, 13] rfl rfl (wr := ((cO ca ga g))) rfl rfl (by decide) (wn := (cO ca ga g)) rfl rfl rfl (Nat.le_of_ble_eq_true rfl) (fun H locs hP hD hS => ?_)
    refine lv_if_ne (tgt := 29) hx hb dX8_luck_22 (by decide) (fun c4 => ?_) (fun c4 => ?_)
    · skip
      replace h25 := (if_neg c4).symm.trans h25
      refine lv_iload_n hx hb dX8_luck_29 rfl (lv_at hl 3 rfl) ?_
      refine lv_iload_n hx hb dX8_luck_30 rfl (lv_at hl 2 rfl) ?_
      refine lv_isub hx hb dX8_luck_31 ?_
      refine lv_iconst (v := (1 : Int32)) hx hb dX8_luck_32 (by decide) ?_
      refine lv_iadd hx hb dX8_luck_33 ?_
      refine lv_istore (lv' := [(6, .int ((j - i) + (1 : Int32))), (0, .ref (ga 0)), (1, .int x), (2, .int i), (3, .int j), (4, .int y), (5, .int w)]) hx hb dX8_luck_34 hl (by decide) rfl (fun ls hl => ?_)
      refine lv_lconst (v := (0 : Int64)) hx hb dX8_luck_36 (by decide) ?_
      refine lv_lstore (lv' := [(7, .long (0 : Int64)), (6, .int ((j - i) + (1 : Int32))), (0, .ref (ga 0)), (1, .int x), (2, .int i), (3, .int j), (4, .int y), (5, .int w)]) hx hb dX8_luck_37 hl (by decide) rfl (fun ls hl => ?_)
      refine lv_lconst (v := (1 : Int64)) hx hb dX8_luck_39 (by decide) ?_
      refine lv_lstore (lv' := [(9, .long (1 : Int64)), (7, .long (0 : Int64)), (6, .int ((j - i) + (1 : Int32))), (0, .ref (ga 0)), (1, .int x), (2, .int i), (3, .int j), (4, .int y), (5, .int w)]) hx hb dX8_luck_40 hl (by decide) rfl (fun ls hl => ?_)
      refine lv_iconst (v := (0 : Int32)) hx hb dX8_luck_42 (by decide) ?_
      refine lv_istore (lv' := [(11, .int (0 : Int32)), (9, .long (1 : Int64)), (7, .long (0 : Int64)), (6, .int ((j - i) + (1 : Int32))), (0, .ref (ga 0)), (1, .int x), (2, .int i), (3, .int j), (4, .int y), (5, .int w)]) hx hb dX8_luck_43 hl (by decide) rfl (fun ls hl => ?_)
      obtain ⟨e7, w26, h27⟩ := obn h25
      clear h25
      have AF7 : ∀ (ls : Array Slot) (H : Heap) (locs : List Loc), lv_has ls 17 [(0, .ref (ga 0)), (1, .int x), (2, .int i), (4, .int y), (5, .int w), (6, .int ((j - i) + (1 : Int32))), (7, .long (0 : Int64)), (9, .long e7.1)] → va_P D vwCl (cO ca ga g) H → va_D A (cO ca ga g) → va_S A s.heap H locs → W p l e rmX8_luck s m ([.ref (ga 0), .int x, .int i, .int j, .int y, .int w] : List Value).toArray below meth c H locs 0 0 Z (F0 m 66 ls []) := by
        intro ls H locs hl hP hD hS
        refine lv_iconst (v := (0 : Int32)) hx hb dX8_luck_66 (by decide) ?_
        refine lv_istore (lv' := [(11, .int (0 : Int32)), (0, .ref (ga 0)), (1, .int x), (2, .int i), (4, .int y), (5, .int w), (6, .int ((j - i) + (1 : Int32))), (7, .long (0 : Int64)), (9, .long e7.1)]) hx hb dX8_luck_67 hl (by decide) rfl (fun ls hl => ?_)
        obtain ⟨e22, w28, h29⟩ := obn h27
        clear h27
        have AF22 : ∀ (ls : Array Slot) (H : Heap) (locs : List Loc), lv_has ls 17 [(5, .int w), (7, .long e22.1), (9, .long e7.1)] → va_P D vwCl (cO ca ga g) H → va_D A (cO ca ga g) → va_S A s.heap H locs → W p l e rmX8_luck s m ([.ref (ga 0), .int x, .int i, .int j, .int y, .int w] : List Value).toArray below meth c H locs 0 0 Z (F0 m 185 ls []) := by
          intro ls H locs hl hP hD hS
          refine lv_lload hx hb dX8_luck_185 (lv_at hl 1 rfl) ?_
          refine lv_lload hx hb dX8_luck_187 (lv_at hl 2 rfl) ?_
          refine lv_iload hx hb dX8_luck_189 (lv_at hl 0 rfl) ?_
          obtain ⟨v23, q23, h30⟩ := obn h29
          clear h29
          refine xSl (As := [.long e22.1, .long e7.1, .int w]) ⟨hx, hb, hml, hown, hts⟩ (k_X8_lowest l D ca  e22.1 e7.1 w _ q23) (va_cwS 3 hts gX8_luck_X8_lowest rfl rfl rfl (by decide +kernel) ⟨Nat.le_of_ble_eq_true rfl, Nat.le_of_ble_eq_true rfl⟩) hK hA hP hD hS dX8_luck_191 rfl hl.1 [] [0, 1, 2, 3, 4, 5, 6, 7, 8, 9, 10, 11, 12, 13] [0, 1, 2, 3, 4, 5, 6, 7, 8, 9, 10, 11, 12, 13] rfl rfl (wr := ((cO ca ga g))) rfl rfl (by decide) (wn := (cO ca ga g)) rfl rfl rfl (Nat.le_of_ble_eq_true rfl) (fun H locs hP hD hS => ?_)
          obtain rfl := Option.some.inj h30
          exact hret _ _ _ _ hP hD hS dX8_luck_194
        refine whO_walk (I := fun s8 => ∀ (ls : Array Slot) (H : Heap) (locs : List Loc), lv_has ls 17 [(0, .ref (ga 0)), (1, .int x), (2, .int i), (4, .int y), (5, .int w), (6, .int ((j - i) + (1 : Int32))), (7, .long s8.1), (9, .long e7.1), (11, .int s8.2)] → va_P D vwCl (cO ca ga g) H → va_D A (cO ca ga g) → va_S A s.heap H locs → W p l e rmX8_luck s m ([.ref (ga 0), .int x, .int i, .int j, .int y, .int w] : List Value).toArray below meth c H locs 0 0 Z (F0 m 69 ls [])) ?_ _ _ w28 _ _ _ (lv_sub hl [1, 2, 3, 4, 5, 6, 7, 8, 0] rfl) hP hD hS
        clear w28
        intro s8 o22 h31 hi22 ho22 ls H locs hl hP hD hS
        unfold mX8_luck_l69 at h31
        refine lv_iload hx hb dX8_luck_69 (lv_at hl 8 rfl) ?_
        refine lv_iconst (v := (1 : Int32)) hx hb dX8_luck_71 (by decide) ?_
        refine lv_iload hx hb dX8_luck_72 (lv_at hl 5 rfl) ?_
        refine lv_ishl hx hb dX8_luck_74 ?_
        refine lv_icmp_ge (tgt := 185) hx hb dX8_luck_75 (by decide) (fun c9 => ?_) (fun c9 => ?_)
        · skip
          replace h31 := (if_pos c9).symm.trans h31
          have h32 := ho22 _ (Option.some.inj h31).symm
          subst h32
          exact AF22 _ _ _ (lv_sub hl [4, 6, 7] rfl) hP hD hS
        · skip
          replace h31 := (if_neg c9).symm.trans h31
          refine lv_lconst (v := (1 : Int64)) hx hb dX8_luck_78 (by decide) ?_
          refine lv_lstore (lv' := [(12, .long (1 : Int64)), (0, .ref (ga 0)), (1, .int x), (2, .int i), (4, .int y), (5, .int w), (6, .int ((j - i) + (1 : Int32))), (7, .long s8.1), (9, .long e7.1), (11, .int s8.2)]) hx hb dX8_luck_79 hl (by decide) rfl (fun ls hl => ?_)
          refine lv_iconst (v := (0 : Int32)) hx hb dX8_luck_81 (by decide) ?_
          refine lv_istore (lv' := [(14, .int (0 : Int32)), (12, .long (1 : Int64)), (0, .ref (ga 0)), (1, .int x), (2, .int i), (4, .int y), (5, .int w), (6, .int ((j - i) + (1 : Int32))), (7, .long s8.1), (9, .long e7.1), (11, .int s8.2)]) hx hb dX8_luck_82 hl (by decide) rfl (fun ls hl => ?_)
          refine lv_iconst (v := (0 : Int32)) hx hb dX8_luck_84 (by decide) ?_
          refine lv_istore (lv' := [(15, .int (0 : Int32)), (14, .int (0 : Int32)), (12, .long (1 : Int64)), (0, .ref (ga 0)), (1, .int x), (2, .int i), (4, .int y), (5, .int w), (6, .int ((j - i) + (1 : Int32))), (7, .long s8.1), (9, .long e7.1), (11, .int s8.2)]) hx hb dX8_luck_85 hl (by decide) rfl (fun ls hl => ?_)
          obtain ⟨e19, w33, h34⟩ := obn h31
          clear h31
          have AF19 : ∀ (ls : Array Slot) (H : Heap) (locs : List Loc), lv_has ls 17 [(0, .ref (ga 0)), (1, .int x), (2, .int i), (4, .int y), (5, .int w), (6, .int ((j - i) + (1 : Int32))), (7, .long s8.1), (9, .long e7.1), (11, .int s8.2), (12, .long e19.1), (14, .int e19.2.1)] → va_P D vwCl (cO ca ga g) H → va_D A (cO ca ga g) → va_S A s.heap H locs → W p l e rmX8_luck s m ([.ref (ga 0), .int x, .int i, .int j, .int y, .int w] : List Value).toArray below meth c H locs 0 0 Z (F0 m 161 ls []) := by
            intro ls H locs hl hP hD hS
            refine lv_lload hx hb dX8_luck_161 (lv_at hl 6 rfl) ?_
            refine lv_iload hx hb dX8_luck_163 (lv_at hl 10 rfl) ?_
            refine lv_iload hx hb dX8_luck_165 (lv_at hl 3 rfl) ?_
            obtain ⟨v21, q35, h36⟩ := obn h34
            clear h34
            have J21 : ∀ (ls : Array Slot) (H : Heap) (locs : List Loc), lv_has ls 17 [(0, .ref (ga 0)), (1, .int x), (2, .int i), (4, .int y), (5, .int w), (6, .int ((j - i) + (1 : Int32))), (9, .long e7.1), (11, .int s8.2)] → va_P D vwCl (cO ca ga g) H → va_D A (cO ca ga g) → va_S A s.heap H locs → W p l e rmX8_luck s m ([.ref (ga 0), .int x, .int i, .int j, .int y, .int w] : List Value).toArray below meth c H locs 0 0 Z (F0 m 176 ls [.long v21, .long s8.1]) := by
              intro ls H locs hl hP hD hS
              refine lv_ladd hx hb dX8_luck_176 ?_
              refine lv_lstore (lv' := [(7, .long (s8.1 + v21)), (0, .ref (ga 0)), (1, .int x), (2, .int i), (4, .int y), (5, .int w), (6, .int ((j - i) + (1 : Int32))), (9, .long e7.1), (11, .int s8.2)]) hx hb dX8_luck_177 hl (by decide) rfl (fun ls hl => ?_)
              refine lv_iinc (v := (s8.2 + (1 : Int32))) (lv' := [(11, .int (s8.2 + (1 : Int32))), (7, .long (s8.1 + v21)), (0, .ref (ga 0)), (1, .int x), (2, .int i), (4, .int y), (5, .int w), (6, .int ((j - i) + (1 : Int32))), (9, .long e7.1)]) hx hb dX8_luck_179 hl (k := 8) rfl rfl (by decide) rfl (fun ls hl => ?_)
              refine lv_goto (tgt := 69) hx hb dX8_luck_182 (by decide) ?_
              exact hi22 _ (Option.some.inj h36).symm _ _ _ (lv_sub hl [2, 3, 4, 5, 6, 7, 1, 8, 0] rfl) hP hD hS
            refine lv_icmp_lt (tgt := 175) hx hb dX8_luck_167 (by decide) (fun c20 => ?_) (fun c20 => ?_)
            · skip
              replace q35 := (if_pos c20).symm.trans q35
              refine lv_lconst (v := (0 : Int64)) hx hb dX8_luck_175 (by decide) ?_
              obtain rfl := Option.some.inj q35
              exact J21 _ _ _ (lv_sub hl [0, 1, 2, 3, 4, 5, 7, 8] rfl) hP hD hS
            · skip
              replace q35 := (if_neg c20).symm.trans q35
              refine lv_lload hx hb dX8_luck_170 (lv_at hl 9 rfl) ?_
              refine lv_goto (tgt := 176) hx hb dX8_luck_172 (by decide) ?_
              obtain rfl := Option.some.inj q35
              exact J21 _ _ _ (lv_sub hl [0, 1, 2, 3, 4, 5, 7, 8] rfl) hP hD hS
          refine whO_walk (I := fun s10 => ∀ (ls : Array Slot) (H : Heap) (locs : List Loc), lv_has ls 17 [(0, .ref (ga 0)), (1, .int x), (2, .int i), (4, .int y), (5, .int w), (6, .int ((j - i) + (1 : Int32))), (7, .long s8.1), (9, .long e7.1), (11, .int s8.2), (12, .long s10.1), (14, .int s10.2.1), (15, .int s10.2.2)] → va_P D vwCl (cO ca ga g) H → va_D A (cO ca ga g) → va_S A s.heap H locs → W p l e rmX8_luck s m ([.ref (ga 0), .int x, .int i, .int j, .int y, .int w] : List Value).toArray below meth c H locs 0 0 Z (F0 m 87 ls [])) ?_ _ _ w33 _ _ _ (lv_sub hl [3, 4, 5, 6, 7, 8, 9, 10, 11, 2, 1, 0] rfl) hP hD hS
          clear w33
          intro s10 o19 h37 hi19 ho19 ls H locs hl hP hD hS
          unfold mX8_luck_l87 at h37
          refine lv_iload hx hb dX8_luck_87 (lv_at hl 11 rfl) ?_
          refine lv_iload hx hb dX8_luck_89 (lv_at hl 5 rfl) ?_
          refine lv_icmp_ge (tgt := 161) hx hb dX8_luck_91 (by decide) (fun c11 => ?_) (fun c11 => ?_)
          · skip
            replace h37 := (if_pos c11).symm.trans h37
            have h38 := ho19 _ (Option.some.inj h37).symm
            subst h38
            exact AF19 _ _ _ (lv_sub hl [0, 1, 2, 3, 4, 5, 6, 7, 8, 9, 10] rfl) hP hD hS
          · skip
            replace h37 := (if_neg c11).symm.trans h37
            refine lv_iload hx hb dX8_luck_94 (lv_at hl 8 rfl) ?_
            refine lv_iload hx hb dX8_luck_96 (lv_at hl 11 rfl) ?_
            refine lv_ishr hx hb dX8_luck_98 ?_
            refine lv_iconst (v := (1 : Int32)) hx hb dX8_luck_99 (by decide) ?_
            refine lv_iand hx hb dX8_luck_100 ?_
            refine lv_iconst (v := (1 : Int32)) hx hb dX8_luck_101 (by decide) ?_
            obtain ⟨v13, q39, h40⟩ := obn h37
            clear h37
            have J13 : ∀ (ls : Array Slot) (H : Heap) (locs : List Loc), lv_has ls 17 [(0, .ref (ga 0)), (1, .int x), (2, .int i), (4, .int y), (5, .int w), (6, .int ((j - i) + (1 : Int32))), (7, .long s8.1), (9, .long e7.1), (11, .int s8.2), (12, .long s10.1), (14, .int s10.2.1), (15, .int s10.2.2)] → va_P D vwCl (cO ca ga g) H → va_D A (cO ca ga g) → va_S A s.heap H locs → W p l e rmX8_luck s m ([.ref (ga 0), .int x, .int i, .int j, .int y, .int w] : List Value).toArray below meth c H locs 0 0 Z (F0 m 110 ls [.int v13]) := by
              intro ls H locs hl hP hD hS
              refine lv_istore (lv' := [(16, .int v13), (0, .ref (ga 0)), (1, .int x), (2, .int i), (4, .int y), (5, .int w), (6, .int ((j - i) + (1 : Int32))), (7, .long s8.1), (9, .long e7.1), (11, .int s8.2), (12, .long s10.1), (14, .int s10.2.1), (15, .int s10.2.2)]) hx hb dX8_luck_110 hl (by decide) rfl (fun ls hl => ?_)
              refine lv_lload hx hb dX8_luck_112 (lv_at hl 10 rfl) ?_
              refine lv_iload hx hb dX8_luck_114 (lv_at hl 0 rfl) ?_
              obtain ⟨v15, q41, h42⟩ := obn h40
              clear h40
              have J15 : ∀ (ls : Array Slot) (H : Heap) (locs : List Loc), lv_has ls 17 [(0, .ref (ga 0)), (1, .int x), (2, .int i), (4, .int y), (5, .int w), (6, .int ((j - i) + (1 : Int32))), (7, .long s8.1), (9, .long e7.1), (11, .int s8.2), (14, .int s10.2.1), (15, .int s10.2.2), (16, .int v13)] → va_P D vwCl (cO ca ga g) H → va_D A (cO ca ga g) → va_S A s.heap H locs → W p l e rmX8_luck s m ([.ref (ga 0), .int x, .int i, .int j, .int y, .int w] : List Value).toArray below meth c H locs 0 0 Z (F0 m 129 ls [.long v15, .long s10.1]) := by
                intro ls H locs hl hP hD hS
                refine lv_lmul hx hb dX8_luck_129 ?_
                refine lv_lstore (lv' := [(12, .long (s10.1 * v15)), (0, .ref (ga 0)), (1, .int x), (2, .int i), (4, .int y), (5, .int w), (6, .int ((j - i) + (1 : Int32))), (7, .long s8.1), (9, .long e7.1), (11, .int s8.2), (14, .int s10.2.1), (15, .int s10.2.2), (16, .int v13)]) hx hb dX8_luck_130 hl (by decide) rfl (fun ls hl => ?_)
                refine lv_iload hx hb dX8_luck_132 (lv_at hl 10 rfl) ?_
                refine lv_iload hx hb dX8_luck_134 (lv_at hl 12 rfl) ?_
                obtain ⟨v18, q43, h44⟩ := obn h42
                clear h42
                have J18 : ∀ (ls : Array Slot) (H : Heap) (locs : List Loc), lv_has ls 17 [(0, .ref (ga 0)), (1, .int x), (2, .int i), (4, .int y), (5, .int w), (6, .int ((j - i) + (1 : Int32))), (7, .long s8.1), (9, .long e7.1), (11, .int s8.2), (12, .long (s10.1 * v15)), (15, .int s10.2.2)] → va_P D vwCl (cO ca ga g) H → va_D A (cO ca ga g) → va_S A s.heap H locs → W p l e rmX8_luck s m ([.ref (ga 0), .int x, .int i, .int j, .int y, .int w] : List Value).toArray below meth c H locs 0 0 Z (F0 m 152 ls [.int v18, .int s10.2.1]) := by
                  intro ls H locs hl hP hD hS
                  refine lv_iadd hx hb dX8_luck_152 ?_
                  refine lv_istore (lv' := [(14, .int (s10.2.1 + v18)), (0, .ref (ga 0)), (1, .int x), (2, .int i), (4, .int y), (5, .int w), (6, .int ((j - i) + (1 : Int32))), (7, .long s8.1), (9, .long e7.1), (11, .int s8.2), (12, .long (s10.1 * v15)), (15, .int s10.2.2)]) hx hb dX8_luck_153 hl (by decide) rfl (fun ls hl => ?_)
                  refine lv_iinc (v := (s10.2.2 + (1 : Int32))) (lv' := [(15, .int (s10.2.2 + (1 : Int32))), (14, .int (s10.2.1 + v18)), (0, .ref (ga 0)), (1, .int x), (2, .int i), (4, .int y), (5, .int w), (6, .int ((j - i) + (1 : Int32))), (7, .long s8.1), (9, .long e7.1), (11, .int s8.2), (12, .long (s10.1 * v15))]) hx hb dX8_luck_155 hl (k := 11) rfl rfl (by decide) rfl (fun ls hl => ?_)
                  refine lv_goto (tgt := 87) hx hb dX8_luck_158 (by decide) ?_
                  exact hi19 _ (Option.some.inj h44).symm _ _ _ (lv_sub hl [2, 3, 4, 5, 6, 7, 8, 9, 10, 11, 1, 0] rfl) hP hD hS
                refine lv_if_eq (tgt := 143) hx hb dX8_luck_136 (by decide) (fun c16 => ?_) (fun c16 => ?_)
                · skip
                  replace q43 := (if_pos c16).symm.trans q43
                  refine lv_aload_n hx hb dX8_luck_143 rfl (lv_at hl 1 rfl) ?_
                  refine lv_iconst (v := (0 : Int32)) hx hb dX8_luck_144 (by decide) ?_
                  refine lv_iload_n hx hb dX8_luck_145 rfl (lv_at hl 3 rfl) ?_
                  refine lv_iload hx hb dX8_luck_146 (lv_at hl 11 rfl) ?_
                  refine lv_iadd hx hb dX8_luck_148 ?_
                  obtain ⟨v17, q17, h45⟩ := obn q43
                  clear q43
                  refine xVi (As := [.int (0 : Int32), .int (i + s10.2.2)]) (ci := 8) ⟨hx, hb, hml, hown, hts⟩ (k_X8_frankOn l D ca ga g (0 : Int32) (i + s10.2.2) _ q17) (cwV 2 hts gX8_luck_X8_frankOn rfl rfl rfl (by decide +kernel) ⟨Nat.le_of_ble_eq_true rfl, Nat.le_of_ble_eq_true rfl⟩) hK hA hP hD hS dX8_luck_149 rfl hl.1 [0, 1, 2, 3, 4, 5, 6, 7, 8, 9, 10, 11, 12, 13] [] [0, 1, 2, 3, 4, 5, 6, 7, 8, 9, 10, 11, 12, 13] rfl rfl (wr := []) rfl rfl (by decide) (wn := (cO ca ga g)) rfl rfl rfl rfl rfl rfl (Nat.le_of_ble_eq_true rfl) (fun H locs hP hD hS => ?_)
                  obtain rfl := Option.some.inj h45
                  exact J18 _ _ _ (lv_sub hl [1, 2, 3, 4, 5, 6, 7, 8, 9, 0, 11] rfl) hP hD hS
                · skip
                  replace q43 := (if_neg c16).symm.trans q43
                  refine lv_iconst (v := (0 : Int32)) hx hb dX8_luck_139 (by decide) ?_
                  refine lv_goto (tgt := 152) hx hb dX8_luck_140 (by decide) ?_
                  obtain rfl := Option.some.inj q43
                  exact J18 _ _ _ (lv_sub hl [1, 2, 3, 4, 5, 6, 7, 8, 9, 0, 11] rfl) hP hD hS
              refine lv_if_eq (tgt := 124) hx hb dX8_luck_116 (by decide) (fun c14 => ?_) (fun c14 => ?_)
              · skip
                replace q41 := (if_pos c14).symm.trans q41
                refine lv_bipush (v := (10 : Int32)) hx hb dX8_luck_124 (by decide) ?_
                refine lv_iload_n hx hb dX8_luck_126 rfl (lv_at hl 2 rfl) ?_
                refine lv_isub hx hb dX8_luck_127 ?_
                refine lv_i2l (v := ((10 : Int32) - x).toInt64) hx hb dX8_luck_128 rfl ?_
                obtain rfl := Option.some.inj q41
                exact J15 _ _ _ (lv_sub hl [1, 2, 3, 4, 5, 6, 7, 8, 9, 11, 12, 0] rfl) hP hD hS
              · skip
                replace q41 := (if_neg c14).symm.trans q41
                refine lv_iload_n hx hb dX8_luck_119 rfl (lv_at hl 2 rfl) ?_
                refine lv_i2l (v := x.toInt64) hx hb dX8_luck_120 rfl ?_
                refine lv_goto (tgt := 129) hx hb dX8_luck_121 (by decide) ?_
                obtain rfl := Option.some.inj q41
                exact J15 _ _ _ (lv_sub hl [1, 2, 3, 4, 5, 6, 7, 8, 9, 11, 12, 0] rfl) hP hD hS
            refine lv_icmp_ne (tgt := 109) hx hb dX8_luck_102 (by decide) (fun c12 => ?_) (fun c12 => ?_)
            · skip
              replace q39 := (if_neg c12).symm.trans q39
              refine lv_iconst (v := (0 : Int32)) hx hb dX8_luck_109 (by decide) ?_
              obtain rfl := Option.some.inj q39
              exact J13 _ _ _ (lv_sub hl [0, 1, 2, 3, 4, 5, 6, 7, 8, 9, 10, 11] rfl) hP hD hS
            · skip
              replace q39 := (if_pos c12).symm.trans q39
              refine lv_iconst (v := (1 : Int32)) hx hb dX8_luck_105 (by decide) ?_
              refine lv_goto (tgt := 110) hx hb dX8_luck_106 (by decide) ?_
              obtain rfl := Option.some.inj q39
              exact J13 _ _ _ (lv_sub hl [0, 1, 2, 3, 4, 5, 6, 7, 8, 9, 10, 11] rfl) hP hD hS
      refine whO_walk (I := fun s5 => ∀ (ls : Array Slot) (H : Heap) (locs : List Loc), lv_has ls 17 [(0, .ref (ga 0)), (1, .int x), (2, .int i), (4, .int y), (5, .int w), (6, .int ((j - i) + (1 : Int32))), (7, .long (0 : Int64)), (9, .long s5.1), (11, .int s5.2)] → va_P D vwCl (cO ca ga g) H → va_D A (cO ca ga g) → va_S A s.heap H locs → W p l e rmX8_luck s m ([.ref (ga 0), .int x, .int i, .int j, .int y, .int w] : List Value).toArray below meth c H locs 0 0 Z (F0 m 45 ls [])) ?_ _ _ w26 _ _ _ (lv_sub hl [4, 5, 6, 8, 9, 3, 2, 1, 0] rfl) hP hD hS
      clear w26
      intro s5 o7 h46 hi7 ho7 ls H locs hl hP hD hS
      unfold mX8_luck_l45 at h46
      refine lv_iload hx hb dX8_luck_45 (lv_at hl 8 rfl) ?_
      refine lv_iload hx hb dX8_luck_47 (lv_at hl 5 rfl) ?_
      refine lv_icmp_ge (tgt := 66) hx hb dX8_luck_49 (by decide) (fun c6 => ?_) (fun c6 => ?_)
      · skip
        replace h46 := (if_pos c6).symm.trans h46
        have h47 := ho7 _ (Option.some.inj h46).symm
        subst h47
        exact AF7 _ _ _ (lv_sub hl [0, 1, 2, 3, 4, 5, 6, 7] rfl) hP hD hS
      · skip
        replace h46 := (if_neg c6).symm.trans h46
        refine lv_lload hx hb dX8_luck_52 (lv_at hl 7 rfl) ?_
        refine lv_ldc2 hx hb hown k3 dX8_luck_54 ?_
        refine lv_lmul hx hb dX8_luck_57 ?_
        refine lv_lstore (lv' := [(9, .long (s5.1 * (10 : Int64))), (0, .ref (ga 0)), (1, .int x), (2, .int i), (4, .int y), (5, .int w), (6, .int ((j - i) + (1 : Int32))), (7, .long (0 : Int64)), (11, .int s5.2)]) hx hb dX8_luck_58 hl (by decide) rfl (fun ls hl => ?_)
        refine lv_iinc (v := (s5.2 + (1 : Int32))) (lv' := [(11, .int (s5.2 + (1 : Int32))), (9, .long (s5.1 * (10 : Int64))), (0, .ref (ga 0)), (1, .int x), (2, .int i), (4, .int y), (5, .int w), (6, .int ((j - i) + (1 : Int32))), (7, .long (0 : Int64))]) hx hb dX8_luck_60 hl (k := 8) rfl rfl (by decide) rfl (fun ls hl => ?_)
        refine lv_goto (tgt := 45) hx hb dX8_luck_63 (by decide) ?_
        exact hi7 _ (Option.some.inj h46).symm _ _ _ (lv_sub hl [2, 3, 4, 5, 6, 7, 8, 1, 0] rfl) hP hD hS
    · skip
      replace h25 := (if_pos c4).symm.trans h25
      refine lv_ldc2 hx hb hown k1 dX8_luck_25 ?_
      obtain rfl := Option.some.inj h25
      exact hret _ _ _ _ hP hD hS dX8_luck_28
def mX8_mean_l22 (g : GS) (j : Int32) (s3 : Int64 × Int32) : Option ((Int64 × Int32) ⊕ (Int64 × Int32)) :=
  if j < s3.2 then
    some (.inr (s3.1, s3.2))
  else
    Option.bind (mX8_frankOn g (0 : Int32) s3.2) fun v5 =>
    some (.inl ((s3.1 + v5.toInt64), (s3.2 + (1 : Int32))))

def mX8_mean (g : GS) (x : Int32) (i : Int32) (j : Int32) (w : Int32) : Option (Int64) :=
  Option.bind (mX8_isStretch g x i j w) fun v1 =>
  if v1 = 0 then
    some (-1 : Int64)
  else
    Option.bind (whO (mX8_mean_l22 g j) FU ((0 : Int64), i)) fun e6 =>
    Option.bind (mX8_lowest (e6.1 * ((10 : Int32) - x).toInt64) (10 : Int64) w) fun v7 =>
    some v7
abbrev rmX8_mean : Room := { frames := 3, cells := 0, slots := 0, locals := 70 }
set_option maxHeartbeats 4000000 in
set_option maxRecDepth 100000 in
theorem k_X8_mean (l : Launch) (D : va_G) (ca : Nat → ClassId) (ga : Nat → Nat) (g : GS) (x : Int32) (i : Int32) (j : Int32) (w : Int32) (o : Int64) (hm : mX8_mean g x i j w = some o) : KL l yX8_mean wsX8_mean rmX8_mean D ca [.ref (ga 0), .int x, .int i, .int j, .int w] (cO ca ga g) (cO ca ga g) o := by
  refine KL.of (cc := cX8_mean) (n := 8) (plainFor_of_name (by decide)) rfl (Nat.le_of_ble_eq_true rfl) ?_
  intro p e s m below meth c A Z hx hb hml hts hown hA hK hP hD hS hret ls hl
  have hown : s.vm.findClass RX8 = some m.cls := hown
  have hl : lv_has ls 8 [(0, .ref (ga 0)), (1, .int x), (2, .int i), (3, .int j), (4, .int w)] := hl
  have k1 := hts (.constantLong RX8 194 (-1 : Int64)) (by decide +kernel)
  have k2 := hts (.constantLong RX8 187 (10 : Int64)) (by decide +kernel)
  unfold mX8_mean at hm
  refine lv_aload_n hx hb dX8_mean_0 rfl (lv_at hl 0 rfl) ?_
  refine lv_iload_n hx hb dX8_mean_1 rfl (lv_at hl 1 rfl) ?_
  refine lv_iload_n hx hb dX8_mean_2 rfl (lv_at hl 2 rfl) ?_
  refine lv_iload_n hx hb dX8_mean_3 rfl (lv_at hl 3 rfl) ?_
  refine lv_iload hx hb dX8_mean_4 (lv_at hl 4 rfl) ?_
  obtain ⟨v1, q1, h8⟩ := obn hm
  clear hm
  refine xVi (As := [.int x, .int i, .int j, .int w]) (ci := 8) ⟨hx, hb, hml, hown, hts⟩ (k_X8_isStretch l D ca ga g x i j w _ q1) (cwV 4 hts gX8_mean_X8_isStretch rfl rfl rfl (by decide +kernel) ⟨Nat.le_of_ble_eq_true rfl, Nat.le_of_ble_eq_true rfl⟩) hK hA hP hD hS dX8_mean_6 rfl hl.1 [0, 1, 2, 3, 4, 5, 6, 7, 8, 9, 10, 11, 12, 13] [] [0, 1, 2, 3, 4, 5, 6, 7, 8, 9, 10, 11, 12, 13] rfl rfl (wr := []) rfl rfl (by decide) (wn := (cO ca ga g)) rfl rfl rfl rfl rfl rfl (Nat.le_of_ble_eq_true rfl) (fun H locs hP hD hS => ?_)
  refine lv_if_ne (tgt := 16) hx hb dX8_mean_9 (by decide) (fun c2 => ?_) (fun c2 => ?_)
  · skip
    replace h8 := (if_neg c2).symm.trans h8
    refine lv_lconst (v := (0 : Int64)) hx hb dX8_mean_16 (by decide) ?_
    refine lv_lstore (lv' := [(5, .long (0 : Int64)), (0, .ref (ga 0)), (1, .int x), (2, .int i), (3, .int j), (4, .int w)]) hx hb dX8_mean_17 hl (by decide) rfl (fun ls hl => ?_)
    refine lv_iload_n hx hb dX8_mean_19 rfl (lv_at hl 3 rfl) ?_
    refine lv_istore (lv' := [(7, .int i), (5, .long (0 : Int64)), (0, .ref (ga 0)), (1, .int x), (2, .int i), (3, .int j), (4, .int w)]) hx hb dX8_mean_20 hl (by decide) rfl (fun ls hl => ?_)
    obtain ⟨e6, w9, h10⟩ := obn h8
    clear h8
    have AF6 : ∀ (ls : Array Slot) (H : Heap) (locs : List Loc), lv_has ls 8 [(1, .int x), (4, .int w), (5, .long e6.1)] → va_P D vwCl (cO ca ga g) H → va_D A (cO ca ga g) → va_S A s.heap H locs → W p l e rmX8_mean s m ([.ref (ga 0), .int x, .int i, .int j, .int w] : List Value).toArray below meth c H locs 0 0 Z (F0 m 47 ls []) := by
      intro ls H locs hl hP hD hS
      refine lv_lload hx hb dX8_mean_47 (lv_at hl 2 rfl) ?_
      refine lv_bipush (v := (10 : Int32)) hx hb dX8_mean_49 (by decide) ?_
      refine lv_iload_n hx hb dX8_mean_51 rfl (lv_at hl 0 rfl) ?_
      refine lv_isub hx hb dX8_mean_52 ?_
      refine lv_i2l (v := ((10 : Int32) - x).toInt64) hx hb dX8_mean_53 rfl ?_
      refine lv_lmul hx hb dX8_mean_54 ?_
      refine lv_ldc2 hx hb hown k2 dX8_mean_55 ?_
      refine lv_iload hx hb dX8_mean_58 (lv_at hl 1 rfl) ?_
      obtain ⟨v7, q7, h11⟩ := obn h10
      clear h10
      refine xSl (As := [.long (e6.1 * ((10 : Int32) - x).toInt64), .long (10 : Int64), .int w]) ⟨hx, hb, hml, hown, hts⟩ (k_X8_lowest l D ca  (e6.1 * ((10 : Int32) - x).toInt64) (10 : Int64) w _ q7) (va_cwS 3 hts gX8_mean_X8_lowest rfl rfl rfl (by decide +kernel) ⟨Nat.le_of_ble_eq_true rfl, Nat.le_of_ble_eq_true rfl⟩) hK hA hP hD hS dX8_mean_60 rfl hl.1 [] [0, 1, 2, 3, 4, 5, 6, 7, 8, 9, 10, 11, 12, 13] [0, 1, 2, 3, 4, 5, 6, 7, 8, 9, 10, 11, 12, 13] rfl rfl (wr := ((cO ca ga g))) rfl rfl (by decide) (wn := (cO ca ga g)) rfl rfl rfl (Nat.le_of_ble_eq_true rfl) (fun H locs hP hD hS => ?_)
      obtain rfl := Option.some.inj h11
      exact hret _ _ _ _ hP hD hS dX8_mean_63
    refine whO_walk (I := fun s3 => ∀ (ls : Array Slot) (H : Heap) (locs : List Loc), lv_has ls 8 [(0, .ref (ga 0)), (1, .int x), (3, .int j), (4, .int w), (5, .long s3.1), (7, .int s3.2)] → va_P D vwCl (cO ca ga g) H → va_D A (cO ca ga g) → va_S A s.heap H locs → W p l e rmX8_mean s m ([.ref (ga 0), .int x, .int i, .int j, .int w] : List Value).toArray below meth c H locs 0 0 Z (F0 m 22 ls [])) ?_ _ _ w9 _ _ _ (lv_sub hl [2, 3, 5, 6, 1, 0] rfl) hP hD hS
    clear w9
    intro s3 o6 h12 hi6 ho6 ls H locs hl hP hD hS
    unfold mX8_mean_l22 at h12
    refine lv_iload hx hb dX8_mean_22 (lv_at hl 5 rfl) ?_
    refine lv_iload_n hx hb dX8_mean_24 rfl (lv_at hl 2 rfl) ?_
    refine lv_icmp_gt (tgt := 47) hx hb dX8_mean_25 (by decide) (fun c4 => ?_) (fun c4 => ?_)
    · skip
      replace h12 := (if_pos c4).symm.trans h12
      have h13 := ho6 _ (Option.some.inj h12).symm
      subst h13
      exact AF6 _ _ _ (lv_sub hl [1, 3, 4] rfl) hP hD hS
    · skip
      replace h12 := (if_neg c4).symm.trans h12
      refine lv_lload hx hb dX8_mean_28 (lv_at hl 4 rfl) ?_
      refine lv_aload_n hx hb dX8_mean_30 rfl (lv_at hl 0 rfl) ?_
      refine lv_iconst (v := (0 : Int32)) hx hb dX8_mean_31 (by decide) ?_
      refine lv_iload hx hb dX8_mean_32 (lv_at hl 5 rfl) ?_
      obtain ⟨v5, q5, h14⟩ := obn h12
      clear h12
      refine xVi (As := [.int (0 : Int32), .int s3.2]) (ci := 8) ⟨hx, hb, hml, hown, hts⟩ (k_X8_frankOn l D ca ga g (0 : Int32) s3.2 _ q5) (cwV 2 hts gX8_mean_X8_frankOn rfl rfl rfl (by decide +kernel) ⟨Nat.le_of_ble_eq_true rfl, Nat.le_of_ble_eq_true rfl⟩) hK hA hP hD hS dX8_mean_34 rfl hl.1 [0, 1, 2, 3, 4, 5, 6, 7, 8, 9, 10, 11, 12, 13] [] [0, 1, 2, 3, 4, 5, 6, 7, 8, 9, 10, 11, 12, 13] rfl rfl (wr := []) rfl rfl (by decide) (wn := (cO ca ga g)) rfl rfl rfl rfl rfl rfl (Nat.le_of_ble_eq_true rfl) (fun H locs hP hD hS => ?_)
      refine lv_i2l (v := v5.toInt64) hx hb dX8_mean_37 rfl ?_
      refine lv_ladd hx hb dX8_mean_38 ?_
      refine lv_lstore (lv' := [(5, .long (s3.1 + v5.toInt64)), (0, .ref (ga 0)), (1, .int x), (3, .int j), (4, .int w), (7, .int s3.2)]) hx hb dX8_mean_39 hl (by decide) rfl (fun ls hl => ?_)
      refine lv_iinc (v := (s3.2 + (1 : Int32))) (lv' := [(7, .int (s3.2 + (1 : Int32))), (5, .long (s3.1 + v5.toInt64)), (0, .ref (ga 0)), (1, .int x), (3, .int j), (4, .int w)]) hx hb dX8_mean_41 hl (k := 5) rfl rfl (by decide) rfl (fun ls hl => ?_)
      refine lv_goto (tgt := 22) hx hb dX8_mean_44 (by decide) ?_
      exact hi6 _ (Option.some.inj h14).symm _ _ _ (lv_sub hl [2, 3, 4, 5, 1, 0] rfl) hP hD hS
  · skip
    replace h8 := (if_pos c2).symm.trans h8
    refine lv_ldc2 hx hb hown k1 dX8_mean_12 ?_
    obtain rfl := Option.some.inj h8
    exact hret _ _ _ _ hP hD hS dX8_mean_15

def mX8_see (g : GS) (i : Int32) (x : Int32) : Option (Int32 × GS) :=
  Option.bind (mX8_in i.toInt64 (0 : Int64) (11 : Int64)) fun v1 =>
  if v1 = 0 then
    some ((-1 : Int32), g)
  else
    Option.bind (mX8_in x.toInt64 (0 : Int64) (99 : Int64)) fun v3 =>
    if v3 = 0 then
      some ((-1 : Int32), g)
    else
      if (g.2 17) = (6 : Int32) then
        some ((-3 : Int32), g)
      else
        Option.bind (ast 12 (g.1 16) ((2 : Int32) * (g.2 17)) i) fun f6 =>
        Option.bind (ast 12 ((sA g 16 f6).1 16) (((2 : Int32) * ((sA g 16 f6).2 17)) + (1 : Int32)) x) fun f7 =>
        some (((sI (sA (sA g 16 f6) 16 f7) 17 (((sA (sA g 16 f6) 16 f7).2 17) + (1 : Int32))).2 17), (sI (sA (sA g 16 f6) 16 f7) 17 (((sA (sA g 16 f6) 16 f7).2 17) + (1 : Int32))))
abbrev rmX8_see : Room := { frames := 1, cells := 0, slots := 0, locals := 25 }
set_option maxHeartbeats 4000000 in
set_option maxRecDepth 100000 in
theorem k_X8_see (l : Launch) (D : va_G) (ca : Nat → ClassId) (ga : Nat → Nat) (g : GS) (i : Int32) (x : Int32) (o : Int32 × GS) (hm : mX8_see g i x = some o) : KI l yX8_see wsX8_see rmX8_see D ca [.ref (ga 0), .int i, .int x] (cO ca ga g) (cO ca ga o.2) o.1 := by
  refine KI.of (cc := cX8_see) (n := 3) (plainFor_of_name (by decide)) rfl (Nat.le_of_ble_eq_true rfl) ?_
  intro p e s m below meth c A Z hx hb hml hts hown hA hK hP hD hS hret ls hl
  have hown : s.vm.findClass RX8 = some m.cls := hown
  have hl : lv_has ls 3 [(0, .ref (ga 0)), (1, .int i), (2, .int x)] := hl
  have inX8 : ∀ w ∈ wsX80, w ∈ wsX8_see := by decide +kernel
  have k1 := hts (.constantLong RX8 158 (11 : Int64)) (by decide +kernel)
  have k2 := hts (.constantLong RX8 160 (99 : Int64)) (by decide +kernel)
  have k3 := hts (.fieldLink RX8 119 "FriezeFolkModel" "seenMany" "I") (by decide +kernel)
  have k4 := hts (.fieldLink RX8 31 "FriezeFolkModel" "seen" "[I") (by decide +kernel)
  unfold mX8_see at hm
  refine lv_iload_n hx hb dX8_see_0 rfl (lv_at hl 1 rfl) ?_
  refine lv_i2l (v := i.toInt64) hx hb dX8_see_1 rfl ?_
  refine lv_lconst (v := (0 : Int64)) hx hb dX8_see_2 (by decide) ?_
  refine lv_ldc2 hx hb hown k1 dX8_see_3 ?_
  obtain ⟨v1, q1, h8⟩ := obn hm
  clear hm
  refine xSi (As := [.long i.toInt64, .long (0 : Int64), .long (11 : Int64)]) ⟨hx, hb, hml, hown, hts⟩ (k_X8_in l D ca  i.toInt64 (0 : Int64) (11 : Int64) _ q1) (va_cwS 3 hts gX8_see_X8_in rfl rfl rfl (by decide +kernel) ⟨Nat.le_of_ble_eq_true rfl, Nat.le_of_ble_eq_true rfl⟩) hK hA hP hD hS dX8_see_6 rfl hl.1 [] [0, 1, 2, 3, 4, 5, 6, 7, 8, 9, 10, 11, 12, 13] [0, 1, 2, 3, 4, 5, 6, 7, 8, 9, 10, 11, 12, 13] rfl rfl (wr := ((cO ca ga g))) rfl rfl (by decide) (wn := (cO ca ga g)) rfl rfl rfl (Nat.le_of_ble_eq_true rfl) (fun H locs hP hD hS => ?_)
  refine lv_if_eq (tgt := 24) hx hb dX8_see_9 (by decide) (fun c2 => ?_) (fun c2 => ?_)
  · skip
    replace h8 := (if_pos c2).symm.trans h8
    refine lv_iconst (v := (-1 : Int32)) hx hb dX8_see_24 (by decide) ?_
    obtain rfl := Option.some.inj h8
    exact hret _ _ _ _ (vp_nar_int _) hP hD hS dX8_see_25
  · skip
    replace h8 := (if_neg c2).symm.trans h8
    refine lv_iload_n hx hb dX8_see_12 rfl (lv_at hl 2 rfl) ?_
    refine lv_i2l (v := x.toInt64) hx hb dX8_see_13 rfl ?_
    refine lv_lconst (v := (0 : Int64)) hx hb dX8_see_14 (by decide) ?_
    refine lv_ldc2 hx hb hown k2 dX8_see_15 ?_
    obtain ⟨v3, q3, h9⟩ := obn h8
    clear h8
    refine xSi (As := [.long x.toInt64, .long (0 : Int64), .long (99 : Int64)]) ⟨hx, hb, hml, hown, hts⟩ (k_X8_in l D ca  x.toInt64 (0 : Int64) (99 : Int64) _ q3) (va_cwS 3 hts gX8_see_X8_in rfl rfl rfl (by decide +kernel) ⟨Nat.le_of_ble_eq_true rfl, Nat.le_of_ble_eq_true rfl⟩) hK hA hP hD hS dX8_see_18 rfl hl.1 [] [0, 1, 2, 3, 4, 5, 6, 7, 8, 9, 10, 11, 12, 13] [0, 1, 2, 3, 4, 5, 6, 7, 8, 9, 10, 11, 12, 13] rfl rfl (wr := ((cO ca ga g))) rfl rfl (by decide) (wn := (cO ca ga g)) rfl rfl rfl (Nat.le_of_ble_eq_true rfl) (fun H locs hP hD hS => ?_)
    refine lv_if_ne (tgt := 26) hx hb dX8_see_21 (by decide) (fun c4 => ?_) (fun c4 => ?_)
    · skip
      replace h9 := (if_neg c4).symm.trans h9
      refine lv_aload_n hx hb dX8_see_26 rfl (lv_at hl 0 rfl) ?_
      refine xget (ref := "FriezeFolkModel") (C := RX8) (T := TX8) (N := 24) (ci := 8) (v := .int (g.2 17)) hx hb hts inX8 hown hK hP 0 rfl rfl 17 (by decide) k3 rfl rfl dX8_see_27 ?_
      refine lv_bipush (v := (6 : Int32)) hx hb dX8_see_30 (by decide) ?_
      refine lv_icmp_ne (tgt := 38) hx hb dX8_see_32 (by decide) (fun c5 => ?_) (fun c5 => ?_)
      · skip
        replace h9 := (if_neg c5).symm.trans h9
        refine lv_aload_n hx hb dX8_see_38 rfl (lv_at hl 0 rfl) ?_
        refine xget (ref := "FriezeFolkModel") (C := RX8) (T := TX8) (N := 24) (ci := 8) (v := .ref (ga 17)) hx hb hts inX8 hown hK hP 0 rfl rfl 16 (by decide) k4 rfl rfl dX8_see_39 ?_
        refine lv_iconst (v := (2 : Int32)) hx hb dX8_see_42 (by decide) ?_
        refine lv_aload_n hx hb dX8_see_43 rfl (lv_at hl 0 rfl) ?_
        refine xget (ref := "FriezeFolkModel") (C := RX8) (T := TX8) (N := 24) (ci := 8) (v := .int (g.2 17)) hx hb hts inX8 hown hK hP 0 rfl rfl 17 (by decide) k3 rfl rfl dX8_see_44 ?_
        refine lv_imul hx hb dX8_see_47 ?_
        refine lv_iload_n hx hb dX8_see_48 rfl (lv_at hl 1 rfl) ?_
        obtain ⟨f6, q6, h10⟩ := obn h9
        clear h9
        refine xast hx hb hK hP hD hS 8 rfl q6 dX8_see_49 (wn := (cO ca ga (sA g 16 f6))) rfl (fun H locs hP hD hS => ?_)
        refine lv_aload_n hx hb dX8_see_50 rfl (lv_at hl 0 rfl) ?_
        refine xget (ref := "FriezeFolkModel") (C := RX8) (T := TX8) (N := 24) (ci := 8) (v := .ref (ga 17)) hx hb hts inX8 hown hK hP 0 rfl rfl 16 (by decide) k4 rfl rfl dX8_see_51 ?_
        refine lv_iconst (v := (2 : Int32)) hx hb dX8_see_54 (by decide) ?_
        refine lv_aload_n hx hb dX8_see_55 rfl (lv_at hl 0 rfl) ?_
        refine xget (ref := "FriezeFolkModel") (C := RX8) (T := TX8) (N := 24) (ci := 8) (v := .int ((sA g 16 f6).2 17)) hx hb hts inX8 hown hK hP 0 rfl rfl 17 (by decide) k3 rfl rfl dX8_see_56 ?_
        refine lv_imul hx hb dX8_see_59 ?_
        refine lv_iconst (v := (1 : Int32)) hx hb dX8_see_60 (by decide) ?_
        refine lv_iadd hx hb dX8_see_61 ?_
        refine lv_iload_n hx hb dX8_see_62 rfl (lv_at hl 2 rfl) ?_
        obtain ⟨f7, q7, h11⟩ := obn h10
        clear h10
        refine xast hx hb hK hP hD hS 8 rfl q7 dX8_see_63 (wn := (cO ca ga (sA (sA g 16 f6) 16 f7))) rfl (fun H locs hP hD hS => ?_)
        refine lv_aload_n hx hb dX8_see_64 rfl (lv_at hl 0 rfl) ?_
        refine lv_dup hx hb dX8_see_65 rfl ?_
        refine xget (ref := "FriezeFolkModel") (C := RX8) (T := TX8) (N := 24) (ci := 8) (v := .int ((sA (sA g 16 f6) 16 f7).2 17)) hx hb hts inX8 hown hK hP 0 rfl rfl 17 (by decide) k3 rfl rfl dX8_see_66 ?_
        refine lv_iconst (v := (1 : Int32)) hx hb dX8_see_69 (by decide) ?_
        refine lv_iadd hx hb dX8_see_70 ?_
        refine xput (ref := "FriezeFolkModel") (C := RX8) (T := TX8) (N := 24) (ci := 8) (v := .int (((sA (sA g 16 f6) 16 f7).2 17) + (1 : Int32))) (ty := .int) hx hb hts inX8 tyX8 tyX8_ok nmX8 hown hK hP hD hS 0 rfl rfl 17 (by decide) k3 rfl rfl (by decide +kernel) rfl rfl (Nat.le_of_ble_eq_true rfl) dX8_see_71 (wn := (cO ca ga (sI (sA (sA g 16 f6) 16 f7) 17 (((sA (sA g 16 f6) 16 f7).2 17) + (1 : Int32))))) rfl (fun H locs hP hD hS => ?_)
        refine lv_aload_n hx hb dX8_see_74 rfl (lv_at hl 0 rfl) ?_
        refine xget (ref := "FriezeFolkModel") (C := RX8) (T := TX8) (N := 24) (ci := 8) (v := .int ((sI (sA (sA g 16 f6) 16 f7) 17 (((sA (sA g 16 f6) 16 f7).2 17) + (1 : Int32))).2 17)) hx hb hts inX8 hown hK hP 0 rfl rfl 17 (by decide) k3 rfl rfl dX8_see_75 ?_
        obtain rfl := Option.some.inj h11
        exact hret _ _ _ _ (vp_nar_int _) hP hD hS dX8_see_78
      · skip
        replace h9 := (if_pos c5).symm.trans h9
        refine lv_bipush (v := (-3 : Int32)) hx hb dX8_see_35 (by decide) ?_
        obtain rfl := Option.some.inj h9
        exact hret _ _ _ _ (vp_nar_int _) hP hD hS dX8_see_37
    · skip
      replace h9 := (if_pos c4).symm.trans h9
      refine lv_iconst (v := (-1 : Int32)) hx hb dX8_see_24 (by decide) ?_
      obtain rfl := Option.some.inj h9
      exact hret _ _ _ _ (vp_nar_int _) hP hD hS dX8_see_25
