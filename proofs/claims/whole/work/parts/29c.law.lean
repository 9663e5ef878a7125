set_option maxHeartbeats 4000000 in
set_option maxRecDepth 100000 in
theorem law_c30 {p : Program} {l : Launch} {e : Env} {s : State} {m : MethodId} {below : List Frame} {meth : Method} {c : Code} {b L : Nat} {xs : Nat → Int32} {D : va_G} {ca : Nat → ClassId} {x : Nat} {ad : Nat → Nat → Nat} {mm : Nat → Nat} {aS aV aT : Nat → Nat} {F : FS} {M : GS} {i : Nat} (C0 : lw_At p s m meth c b L xs) (hK : va_K D vwCl (TY ca) s) (hAm : Amb aS aV aT (fun q : Nat => s.heap.size ≤ q) s s.heap) (hRS : RSt aS s) (hi : i + 6 ≤ L) (hL : L ≤ 384) (hR : Rel F M)
    (kk : ∀ (F' : FS) (M' : GS) (ls : Array Slot) (H : Heap) (locs : List Loc), Rel F' M' → lv_has ls 4 [(0, .ref b), (1, .ref x), (2, .ref (mm 0)), (3, .int (nI i))] → va_P D vwCl (wA ca x ad mm F' M').flatten H → va_D (fun q : Nat => s.heap.size ≤ q) (wA ca x ad mm F' M').flatten → va_S (fun q : Nat => s.heap.size ≤ q) s.heap H locs → W p l e room_1 s m #[Value.ref b] below meth c H locs 67 1942 (lw_Z below #[Value.ref b] s) (F0 m 1471 ls []))
    (ls : Array Slot) (H : Heap) (locs : List Loc) (hl : lv_has ls 4 [(0, .ref b), (1, .ref x), (2, .ref (mm 0)), (3, .int (nI i))]) (hP : va_P D vwCl (wA ca x ad mm F M).flatten H) (hD : va_D (fun q : Nat => s.heap.size ≤ q) (wA ca x ad mm F M).flatten) (hS : va_S (fun q : Nat => s.heap.size ≤ q) s.heap H locs) : W p l e room_1 s m #[Value.ref b] below meth c H locs 67 1942 (lw_Z below #[Value.ref b] s) (F0 m 1102 ls []) := by
  obtain ⟨hx, hb, hr, hml, hown, hts0, hX, hbl, hlocks, hgv⟩ := id C0
  have hown : s.vm.findClass RL = some m.cls := hown
  have hts : ∀ w ∈ wsL_law, w.before #[Value.ref b] s = true := fun w h => hts0 w (wsL_law_in w h)
  have hA : ∀ q : Nat, s.heap.size ≤ q → (fun q : Nat => s.heap.size ≤ q) q := fun _ h => h
  have hbA : ¬ (fun q : Nat => s.heap.size ≤ q) b := Nat.not_le.mpr hbl
  obtain ⟨o, o', h1, h2, he, hR'⟩ := st_forget hR (xs (nI i + (1 : Int32)).toNatClampNeg)
  refine lv_aload_n hx hb dL_law_1102 rfl (lv_at hl 1 rfl) ?_
  refine lv_aload_n hx hb dL_law_1103 rfl (lv_at hl 0 rfl) ?_
  refine lv_iload_n hx hb dL_law_1104 rfl (lv_at hl 3 rfl) ?_
  refine lv_iconst (v := (1 : Int32)) hx hb dL_law_1105 (by decide) ?_
  refine lv_iadd hx hb dL_law_1106 ?_
  refine va_sld hx hb hX hbl hbA hS (vp_off (k := 1) (by omega) (by omega)) dL_law_1107 ?_
  refine zVi (As := [.int (xs (nI i + (1 : Int32)).toNatClampNeg)]) (ci := 7) (bs := wA ca x ad mm F M) (bs' := wA ca x ad mm ((va_up F.1 6 o.2), F.2.1, F.2.2) M) ⟨hx, hb, hml, hown, hts⟩ (k_X7_forget l D ca x (ad 0 0) (ad 1 0) (ad 2 0) (ad 7 0) (ad 10 0) (ad 11 0) (ad 12 0) (ad 9) (F.2.1 2) (F.1 6) (xs (nI i + (1 : Int32)).toNatClampNeg) _ h1) (cwV 1 hts gL_law_X7_forget rfl rfl rfl (by decide +kernel) ⟨(Nat.le_of_ble_eq_true rfl), (Nat.le_of_ble_eq_true rfl)⟩) hK hA hP hD hS dL_law_1108 rfl hl.1 [0, 10] [1, 2, 3, 4, 5, 6, 7, 8, 9, 11, 12, 13, 14, 15, 16, 17, 18] (show ([0, 10] ++ [1, 2, 3, 4, 5, 6, 7, 8, 9, 11, 12, 13, 14, 15, 16, 17, 18] : List Nat).Perm (List.range 19) by decide) rfl (show ([0, 10] ++ [1, 2, 3, 4, 5, 6, 7, 8, 9, 11, 12, 13, 14, 15, 16, 17, 18] : List Nat).Perm (List.range 19) by decide) rfl rfl rfl rfl rfl rfl (Nat.le_of_ble_eq_true rfl) ⟨(Nat.le_of_ble_eq_true rfl), (Nat.le_of_ble_eq_true rfl)⟩ (fun H locs hP hD hS => ?_)
  refine lv_aload_n hx hb dL_law_1111 rfl (lv_at hl 2 rfl) ?_
  refine lv_aload_n hx hb dL_law_1112 rfl (lv_at hl 0 rfl) ?_
  refine lv_iload_n hx hb dL_law_1113 rfl (lv_at hl 3 rfl) ?_
  refine lv_iconst (v := (1 : Int32)) hx hb dL_law_1114 (by decide) ?_
  refine lv_iadd hx hb dL_law_1115 ?_
  refine va_sld hx hb hX hbl hbA hS (vp_off (k := 1) (by omega) (by omega)) dL_law_1116 ?_
  refine zVi (As := [.int (xs (nI i + (1 : Int32)).toNatClampNeg)]) (ci := 8) (bs := wA ca x ad mm ((va_up F.1 6 o.2), F.2.1, F.2.2) M) (bs' := wA ca x ad mm ((va_up F.1 6 o.2), F.2.1, F.2.2) o'.2) ⟨hx, hb, hml, hown, hts⟩ (k_X8_forget l D ca mm M (xs (nI i + (1 : Int32)).toNatClampNeg) _ h2) (cwV 1 hts gL_law_X8_forget rfl rfl rfl (by decide +kernel) ⟨(Nat.le_of_ble_eq_true rfl), (Nat.le_of_ble_eq_true rfl)⟩) hK hA hP hD hS dL_law_1117 rfl hl.1 [18] [0, 1, 2, 3, 4, 5, 6, 7, 8, 9, 10, 11, 12, 13, 14, 15, 16, 17] (show ([18] ++ [0, 1, 2, 3, 4, 5, 6, 7, 8, 9, 10, 11, 12, 13, 14, 15, 16, 17] : List Nat).Perm (List.range 19) by decide) rfl (show ([18] ++ [0, 1, 2, 3, 4, 5, 6, 7, 8, 9, 10, 11, 12, 13, 14, 15, 16, 17] : List Nat).Perm (List.range 19) by decide) rfl rfl rfl rfl rfl rfl (Nat.le_of_ble_eq_true rfl) ⟨(Nat.le_of_ble_eq_true rfl), (Nat.le_of_ble_eq_true rfl)⟩ (fun H locs hP hD hS => ?_)
  refine lv_icmp_eq (tgt := 1471) hx hb dL_law_1120 (by decide) (fun _ => ?_) (fun c1 => absurd he c1)
  exact kk _ _ _ _ _ hR' hl hP hD hS
set_option maxHeartbeats 4000000 in
set_option maxRecDepth 100000 in
theorem law_c31 {p : Program} {l : Launch} {e : Env} {s : State} {m : MethodId} {below : List Frame} {meth : Method} {c : Code} {b L : Nat} {xs : Nat → Int32} {D : va_G} {ca : Nat → ClassId} {x : Nat} {ad : Nat → Nat → Nat} {mm : Nat → Nat} {aS aV aT : Nat → Nat} {F : FS} {M : GS} {i : Nat} (C0 : lw_At p s m meth c b L xs) (hK : va_K D vwCl (TY ca) s) (hAm : Amb aS aV aT (fun q : Nat => s.heap.size ≤ q) s s.heap) (hRS : RSt aS s) (hi : i + 6 ≤ L) (hL : L ≤ 384) (hR : Rel F M)
    (kk : ∀ (F' : FS) (M' : GS) (ls : Array Slot) (H : Heap) (locs : List Loc), Rel F' M' → lv_has ls 4 [(0, .ref b), (1, .ref x), (2, .ref (mm 0)), (3, .int (nI i))] → va_P D vwCl (wA ca x ad mm F' M').flatten H → va_D (fun q : Nat => s.heap.size ≤ q) (wA ca x ad mm F' M').flatten → va_S (fun q : Nat => s.heap.size ≤ q) s.heap H locs → W p l e room_1 s m #[Value.ref b] below meth c H locs 67 1942 (lw_Z below #[Value.ref b] s) (F0 m 1471 ls []))
    (ls : Array Slot) (H : Heap) (locs : List Loc) (hl : lv_has ls 4 [(0, .ref b), (1, .ref x), (2, .ref (mm 0)), (3, .int (nI i))]) (hP : va_P D vwCl (wA ca x ad mm F M).flatten H) (hD : va_D (fun q : Nat => s.heap.size ≤ q) (wA ca x ad mm F M).flatten) (hS : va_S (fun q : Nat => s.heap.size ≤ q) s.heap H locs) : W p l e room_1 s m #[Value.ref b] below meth c H locs 67 1942 (lw_Z below #[Value.ref b] s) (F0 m 1125 ls []) := by
  obtain ⟨hx, hb, hr, hml, hown, hts0, hX, hbl, hlocks, hgv⟩ := id C0
  have hown : s.vm.findClass RL = some m.cls := hown
  have hts : ∀ w ∈ wsL_law, w.before #[Value.ref b] s = true := fun w h => hts0 w (wsL_law_in w h)
  have hA : ∀ q : Nat, s.heap.size ≤ q → (fun q : Nat => s.heap.size ≤ q) q := fun _ h => h
  have hbA : ¬ (fun q : Nat => s.heap.size ≤ q) b := Nat.not_le.mpr hbl
  obtain ⟨o, o', h1, h2, he, hR'⟩ := st_kinds hR (xs (nI i + (1 : Int32)).toNatClampNeg)
  refine lv_aload_n hx hb dL_law_1125 rfl (lv_at hl 1 rfl) ?_
  refine lv_aload_n hx hb dL_law_1126 rfl (lv_at hl 0 rfl) ?_
  refine lv_iload_n hx hb dL_law_1127 rfl (lv_at hl 3 rfl) ?_
  refine lv_iconst (v := (1 : Int32)) hx hb dL_law_1128 (by decide) ?_
  refine lv_iadd hx hb dL_law_1129 ?_
  refine va_sld hx hb hX hbl hbA hS (vp_off (k := 1) (by omega) (by omega)) dL_law_1130 ?_
  refine zVi (As := [.int (xs (nI i + (1 : Int32)).toNatClampNeg)]) (ci := 7) (bs := wA ca x ad mm F M) (bs' := wA ca x ad mm ((va_up F.1 1 o.2), F.2.1, F.2.2) M) ⟨hx, hb, hml, hown, hts⟩ (k_X7_kinds l D ca x (ad 2 0) (ad 7 0) (ad 10 0) (ad 11 0) (ad 12 0) (ad 0) (ad 1) (ad 9) (F.2.1 2) (F.1 0) (F.1 1) (F.1 6) (xs (nI i + (1 : Int32)).toNatClampNeg) _ h1) (cwV 1 hts gL_law_X7_kinds rfl rfl rfl (by decide +kernel) ⟨(Nat.le_of_ble_eq_true rfl), (Nat.le_of_ble_eq_true rfl)⟩) hK hA hP hD hS dL_law_1131 rfl hl.1 [0, 1, 2, 10] [3, 4, 5, 6, 7, 8, 9, 11, 12, 13, 14, 15, 16, 17, 18] (show ([0, 1, 2, 10] ++ [3, 4, 5, 6, 7, 8, 9, 11, 12, 13, 14, 15, 16, 17, 18] : List Nat).Perm (List.range 19) by decide) rfl (show ([0, 1, 2, 10] ++ [3, 4, 5, 6, 7, 8, 9, 11, 12, 13, 14, 15, 16, 17, 18] : List Nat).Perm (List.range 19) by decide) rfl rfl rfl rfl rfl rfl (Nat.le_of_ble_eq_true rfl) ⟨(Nat.le_of_ble_eq_true rfl), (Nat.le_of_ble_eq_true rfl)⟩ (fun H locs hP hD hS => ?_)
  refine lv_aload_n hx hb dL_law_1134 rfl (lv_at hl 2 rfl) ?_
  refine lv_aload_n hx hb dL_law_1135 rfl (lv_at hl 0 rfl) ?_
  refine lv_iload_n hx hb dL_law_1136 rfl (lv_at hl 3 rfl) ?_
  refine lv_iconst (v := (1 : Int32)) hx hb dL_law_1137 (by decide) ?_
  refine lv_iadd hx hb dL_law_1138 ?_
  refine va_sld hx hb hX hbl hbA hS (vp_off (k := 1) (by omega) (by omega)) dL_law_1139 ?_
  refine zVi (As := [.int (xs (nI i + (1 : Int32)).toNatClampNeg)]) (ci := 8) (bs := wA ca x ad mm ((va_up F.1 1 o.2), F.2.1, F.2.2) M) (bs' := wA ca x ad mm ((va_up F.1 1 o.2), F.2.1, F.2.2) o'.2) ⟨hx, hb, hml, hown, hts⟩ (k_X8_kinds l D ca mm M (xs (nI i + (1 : Int32)).toNatClampNeg) _ h2) (cwV 1 hts gL_law_X8_kinds rfl rfl rfl (by decide +kernel) ⟨(Nat.le_of_ble_eq_true rfl), (Nat.le_of_ble_eq_true rfl)⟩) hK hA hP hD hS dL_law_1140 rfl hl.1 [18] [0, 1, 2, 3, 4, 5, 6, 7, 8, 9, 10, 11, 12, 13, 14, 15, 16, 17] (show ([18] ++ [0, 1, 2, 3, 4, 5, 6, 7, 8, 9, 10, 11, 12, 13, 14, 15, 16, 17] : List Nat).Perm (List.range 19) by decide) rfl (show ([18] ++ [0, 1, 2, 3, 4, 5, 6, 7, 8, 9, 10, 11, 12, 13, 14, 15, 16, 17] : List Nat).Perm (List.range 19) by decide) rfl rfl rfl rfl rfl rfl (Nat.le_of_ble_eq_true rfl) ⟨(Nat.le_of_ble_eq_true rfl), (Nat.le_of_ble_eq_true rfl)⟩ (fun H locs hP hD hS => ?_)
  refine lv_icmp_eq (tgt := 1471) hx hb dL_law_1143 (by decide) (fun _ => ?_) (fun c1 => absurd he c1)
  exact kk _ _ _ _ _ hR' hl hP hD hS
set_option maxHeartbeats 4000000 in
set_option maxRecDepth 100000 in
theorem law_c32 {p : Program} {l : Launch} {e : Env} {s : State} {m : MethodId} {below : List Frame} {meth : Method} {c : Code} {b L : Nat} {xs : Nat → Int32} {D : va_G} {ca : Nat → ClassId} {x : Nat} {ad : Nat → Nat → Nat} {mm : Nat → Nat} {aS aV aT : Nat → Nat} {F : FS} {M : GS} {i : Nat} (C0 : lw_At p s m meth c b L xs) (hK : va_K D vwCl (TY ca) s) (hAm : Amb aS aV aT (fun q : Nat => s.heap.size ≤ q) s s.heap) (hRS : RSt aS s) (hi : i + 6 ≤ L) (hL : L ≤ 384) (hR : Rel F M)
    (kk : ∀ (F' : FS) (M' : GS) (ls : Array Slot) (H : Heap) (locs : List Loc), Rel F' M' → lv_has ls 4 [(0, .ref b), (1, .ref x), (2, .ref (mm 0)), (3, .int (nI i))] → va_P D vwCl (wA ca x ad mm F' M').flatten H → va_D (fun q : Nat => s.heap.size ≤ q) (wA ca x ad mm F' M').flatten → va_S (fun q : Nat => s.heap.size ≤ q) s.heap H locs → W p l e room_1 s m #[Value.ref b] below meth c H locs 67 1942 (lw_Z below #[Value.ref b] s) (F0 m 1471 ls []))
    (ls : Array Slot) (H : Heap) (locs : List Loc) (hl : lv_has ls 4 [(0, .ref b), (1, .ref x), (2, .ref (mm 0)), (3, .int (nI i))]) (hP : va_P D vwCl (wA ca x ad mm F M).flatten H) (hD : va_D (fun q : Nat => s.heap.size ≤ q) (wA ca x ad mm F M).flatten) (hS : va_S (fun q : Nat => s.heap.size ≤ q) s.heap H locs) : W p l e room_1 s m #[Value.ref b] below meth c H locs 67 1942 (lw_Z below #[Value.ref b] s) (F0 m 1148 ls []) := by
  obtain ⟨hx, hb, hr, hml, hown, hts0, hX, hbl, hlocks, hgv⟩ := id C0
  have hown : s.vm.findClass RL = some m.cls := hown
  have hts : ∀ w ∈ wsL_law, w.before #[Value.ref b] s = true := fun w h => hts0 w (wsL_law_in w h)
  have hA : ∀ q : Nat, s.heap.size ≤ q → (fun q : Nat => s.heap.size ≤ q) q := fun _ h => h
  have hbA : ¬ (fun q : Nat => s.heap.size ≤ q) b := Nat.not_le.mpr hbl
  obtain ⟨o, o', h1, h2, he, hR'⟩ := st_warmths hR (xs (nI i + (1 : Int32)).toNatClampNeg)
  refine lv_aload_n hx hb dL_law_1148 rfl (lv_at hl 1 rfl) ?_
  refine lv_aload_n hx hb dL_law_1149 rfl (lv_at hl 0 rfl) ?_
  refine lv_iload_n hx hb dL_law_1150 rfl (lv_at hl 3 rfl) ?_
  refine lv_iconst (v := (1 : Int32)) hx hb dL_law_1151 (by decide) ?_
  refine lv_iadd hx hb dL_law_1152 ?_
  refine va_sld hx hb hX hbl hbA hS (vp_off (k := 1) (by omega) (by omega)) dL_law_1153 ?_
  refine zVi (As := [.int (xs (nI i + (1 : Int32)).toNatClampNeg)]) (ci := 7) (bs := wA ca x ad mm F M) (bs' := wA ca x ad mm ((va_up F.1 1 o.2), F.2.1, F.2.2) M) ⟨hx, hb, hml, hown, hts⟩ (k_X7_warmths l D ca x (ad 2 0) (ad 7 0) (ad 10 0) (ad 11 0) (ad 12 0) (ad 0) (ad 1) (ad 9) (F.2.1 2) (F.1 0) (F.1 1) (F.1 6) (xs (nI i + (1 : Int32)).toNatClampNeg) _ h1) (cwV 1 hts gL_law_X7_warmths rfl rfl rfl (by decide +kernel) ⟨(Nat.le_of_ble_eq_true rfl), (Nat.le_of_ble_eq_true rfl)⟩) hK hA hP hD hS dL_law_1154 rfl hl.1 [0, 1, 2, 10] [3, 4, 5, 6, 7, 8, 9, 11, 12, 13, 14, 15, 16, 17, 18] (show ([0, 1, 2, 10] ++ [3, 4, 5, 6, 7, 8, 9, 11, 12, 13, 14, 15, 16, 17, 18] : List Nat).Perm (List.range 19) by decide) rfl (show ([0, 1, 2, 10] ++ [3, 4, 5, 6, 7, 8, 9, 11, 12, 13, 14, 15, 16, 17, 18] : List Nat).Perm (List.range 19) by decide) rfl rfl rfl rfl rfl rfl (Nat.le_of_ble_eq_true rfl) ⟨(Nat.le_of_ble_eq_true rfl), (Nat.le_of_ble_eq_true rfl)⟩ (fun H locs hP hD hS => ?_)
  refine lv_aload_n hx hb dL_law_1157 rfl (lv_at hl 2 rfl) ?_
  refine lv_aload_n hx hb dL_law_1158 rfl (lv_at hl 0 rfl) ?_
  refine lv_iload_n hx hb dL_law_1159 rfl (lv_at hl 3 rfl) ?_
  refine lv_iconst (v := (1 : Int32)) hx hb dL_law_1160 (by decide) ?_
  refine lv_iadd hx hb dL_law_1161 ?_
  refine va_sld hx hb hX hbl hbA hS (vp_off (k := 1) (by omega) (by omega)) dL_law_1162 ?_
  refine zVi (As := [.int (xs (nI i + (1 : Int32)).toNatClampNeg)]) (ci := 8) (bs := wA ca x ad mm ((va_up F.1 1 o.2), F.2.1, F.2.2) M) (bs' := wA ca x ad mm ((va_up F.1 1 o.2), F.2.1, F.2.2) o'.2) ⟨hx, hb, hml, hown, hts⟩ (k_X8_warmths l D ca mm M (xs (nI i + (1 : Int32)).toNatClampNeg) _ h2) (cwV 1 hts gL_law_X8_warmths rfl rfl rfl (by decide +kernel) ⟨(Nat.le_of_ble_eq_true rfl), (Nat.le_of_ble_eq_true rfl)⟩) hK hA hP hD hS dL_law_1163 rfl hl.1 [18] [0, 1, 2, 3, 4, 5, 6, 7, 8, 9, 10, 11, 12, 13, 14, 15, 16, 17] (show ([18] ++ [0, 1, 2, 3, 4, 5, 6, 7, 8, 9, 10, 11, 12, 13, 14, 15, 16, 17] : List Nat).Perm (List.range 19) by decide) rfl (show ([18] ++ [0, 1, 2, 3, 4, 5, 6, 7, 8, 9, 10, 11, 12, 13, 14, 15, 16, 17] : List Nat).Perm (List.range 19) by decide) rfl rfl rfl rfl rfl rfl (Nat.le_of_ble_eq_true rfl) ⟨(Nat.le_of_ble_eq_true rfl), (Nat.le_of_ble_eq_true rfl)⟩ (fun H locs hP hD hS => ?_)
  refine lv_icmp_eq (tgt := 1471) hx hb dL_law_1166 (by decide) (fun _ => ?_) (fun c1 => absurd he c1)
  exact kk _ _ _ _ _ hR' hl hP hD hS
set_option maxHeartbeats 4000000 in
set_option maxRecDepth 100000 in
theorem law_c33 {p : Program} {l : Launch} {e : Env} {s : State} {m : MethodId} {below : List Frame} {meth : Method} {c : Code} {b L : Nat} {xs : Nat → Int32} {D : va_G} {ca : Nat → ClassId} {x : Nat} {ad : Nat → Nat → Nat} {mm : Nat → Nat} {aS aV aT : Nat → Nat} {F : FS} {M : GS} {i : Nat} (C0 : lw_At p s m meth c b L xs) (hK : va_K D vwCl (TY ca) s) (hAm : Amb aS aV aT (fun q : Nat => s.heap.size ≤ q) s s.heap) (hRS : RSt aS s) (hi : i + 6 ≤ L) (hL : L ≤ 384) (hR : Rel F M)
    (kk : ∀ (F' : FS) (M' : GS) (ls : Array Slot) (H : Heap) (locs : List Loc), Rel F' M' → lv_has ls 4 [(0, .ref b), (1, .ref x), (2, .ref (mm 0)), (3, .int (nI i))] → va_P D vwCl (wA ca x ad mm F' M').flatten H → va_D (fun q : Nat => s.heap.size ≤ q) (wA ca x ad mm F' M').flatten → va_S (fun q : Nat => s.heap.size ≤ q) s.heap H locs → W p l e room_1 s m #[Value.ref b] below meth c H locs 67 1942 (lw_Z below #[Value.ref b] s) (F0 m 1471 ls []))
    (ls : Array Slot) (H : Heap) (locs : List Loc) (hl : lv_has ls 4 [(0, .ref b), (1, .ref x), (2, .ref (mm 0)), (3, .int (nI i))]) (hP : va_P D vwCl (wA ca x ad mm F M).flatten H) (hD : va_D (fun q : Nat => s.heap.size ≤ q) (wA ca x ad mm F M).flatten) (hS : va_S (fun q : Nat => s.heap.size ≤ q) s.heap H locs) : W p l e room_1 s m #[Value.ref b] below meth c H locs 67 1942 (lw_Z below #[Value.ref b] s) (F0 m 1171 ls []) := by
  obtain ⟨hx, hb, hr, hml, hown, hts0, hX, hbl, hlocks, hgv⟩ := id C0
  have hown : s.vm.findClass RL = some m.cls := hown
  have hts : ∀ w ∈ wsL_law, w.before #[Value.ref b] s = true := fun w h => hts0 w (wsL_law_in w h)
  have hA : ∀ q : Nat, s.heap.size ≤ q → (fun q : Nat => s.heap.size ≤ q) q := fun _ h => h
  have hbA : ¬ (fun q : Nat => s.heap.size ≤ q) b := Nat.not_le.mpr hbl
  obtain ⟨o, o', h1, h2, he, hR'⟩ := st_shifts hR 
  refine lv_aload_n hx hb dL_law_1171 rfl (lv_at hl 1 rfl) ?_
  refine zVi (As := []) (ci := 7) (bs := wA ca x ad mm F M) (bs' := wA ca x ad mm ((va_up F.1 1 o.2), F.2.1, F.2.2) M) ⟨hx, hb, hml, hown, hts⟩ (k_X7_shifts l D ca x (ad 2 0) (ad 7 0) (ad 10 0) (ad 11 0) (ad 12 0) (ad 0) (ad 1) (ad 9) (F.2.1 2) (F.1 0) (F.1 1) (F.1 6)  _ h1) (cwV 0 hts gL_law_X7_shifts rfl rfl rfl (by decide +kernel) ⟨(Nat.le_of_ble_eq_true rfl), (Nat.le_of_ble_eq_true rfl)⟩) hK hA hP hD hS dL_law_1172 rfl hl.1 [0, 1, 2, 10] [3, 4, 5, 6, 7, 8, 9, 11, 12, 13, 14, 15, 16, 17, 18] (show ([0, 1, 2, 10] ++ [3, 4, 5, 6, 7, 8, 9, 11, 12, 13, 14, 15, 16, 17, 18] : List Nat).Perm (List.range 19) by decide) rfl (show ([0, 1, 2, 10] ++ [3, 4, 5, 6, 7, 8, 9, 11, 12, 13, 14, 15, 16, 17, 18] : List Nat).Perm (List.range 19) by decide) rfl rfl rfl rfl rfl rfl (Nat.le_of_ble_eq_true rfl) ⟨(Nat.le_of_ble_eq_true rfl), (Nat.le_of_ble_eq_true rfl)⟩ (fun H locs hP hD hS => ?_)
  refine lv_aload_n hx hb dL_law_1175 rfl (lv_at hl 2 rfl) ?_
  refine zVi (As := []) (ci := 8) (bs := wA ca x ad mm ((va_up F.1 1 o.2), F.2.1, F.2.2) M) (bs' := wA ca x ad mm ((va_up F.1 1 o.2), F.2.1, F.2.2) o'.2) ⟨hx, hb, hml, hown, hts⟩ (k_X8_shifts l D ca mm M  _ h2) (cwV 0 hts gL_law_X8_shifts rfl rfl rfl (by decide +kernel) ⟨(Nat.le_of_ble_eq_true rfl), (Nat.le_of_ble_eq_true rfl)⟩) hK hA hP hD hS dL_law_1176 rfl hl.1 [18] [0, 1, 2, 3, 4, 5, 6, 7, 8, 9, 10, 11, 12, 13, 14, 15, 16, 17] (show ([18] ++ [0, 1, 2, 3, 4, 5, 6, 7, 8, 9, 10, 11, 12, 13, 14, 15, 16, 17] : List Nat).Perm (List.range 19) by decide) rfl (show ([18] ++ [0, 1, 2, 3, 4, 5, 6, 7, 8, 9, 10, 11, 12, 13, 14, 15, 16, 17] : List Nat).Perm (List.range 19) by decide) rfl rfl rfl rfl rfl rfl (Nat.le_of_ble_eq_true rfl) ⟨(Nat.le_of_ble_eq_true rfl), (Nat.le_of_ble_eq_true rfl)⟩ (fun H locs hP hD hS => ?_)
  refine lv_icmp_eq (tgt := 1471) hx hb dL_law_1179 (by decide) (fun _ => ?_) (fun c1 => absurd he c1)
  exact kk _ _ _ _ _ hR' hl hP hD hS
set_option maxHeartbeats 4000000 in
set_option maxRecDepth 100000 in
theorem law_c34 {p : Program} {l : Launch} {e : Env} {s : State} {m : MethodId} {below : List Frame} {meth : Method} {c : Code} {b L : Nat} {xs : Nat → Int32} {D : va_G} {ca : Nat → ClassId} {x : Nat} {ad : Nat → Nat → Nat} {mm : Nat → Nat} {aS aV aT : Nat → Nat} {F : FS} {M : GS} {i : Nat} (C0 : lw_At p s m meth c b L xs) (hK : va_K D vwCl (TY ca) s) (hAm : Amb aS aV aT (fun q : Nat => s.heap.size ≤ q) s s.heap) (hRS : RSt aS s) (hi : i + 6 ≤ L) (hL : L ≤ 384) (hR : Rel F M)
    (kk : ∀ (F' : FS) (M' : GS) (ls : Array Slot) (H : Heap) (locs : List Loc), Rel F' M' → lv_has ls 4 [(0, .ref b), (1, .ref x), (2, .ref (mm 0)), (3, .int (nI i))] → va_P D vwCl (wA ca x ad mm F' M').flatten H → va_D (fun q : Nat => s.heap.size ≤ q) (wA ca x ad mm F' M').flatten → va_S (fun q : Nat => s.heap.size ≤ q) s.heap H locs → W p l e room_1 s m #[Value.ref b] below meth c H locs 67 1942 (lw_Z below #[Value.ref b] s) (F0 m 1471 ls []))
    (ls : Array Slot) (H : Heap) (locs : List Loc) (hl : lv_has ls 4 [(0, .ref b), (1, .ref x), (2, .ref (mm 0)), (3, .int (nI i))]) (hP : va_P D vwCl (wA ca x ad mm F M).flatten H) (hD : va_D (fun q : Nat => s.heap.size ≤ q) (wA ca x ad mm F M).flatten) (hS : va_S (fun q : Nat => s.heap.size ≤ q) s.heap H locs) : W p l e room_1 s m #[Value.ref b] below meth c H locs 67 1942 (lw_Z below #[Value.ref b] s) (F0 m 1184 ls []) := by
  obtain ⟨hx, hb, hr, hml, hown, hts0, hX, hbl, hlocks, hgv⟩ := id C0
  have hown : s.vm.findClass RL = some m.cls := hown
  have hts : ∀ w ∈ wsL_law, w.before #[Value.ref b] s = true := fun w h => hts0 w (wsL_law_in w h)
  have hA : ∀ q : Nat, s.heap.size ≤ q → (fun q : Nat => s.heap.size ≤ q) q := fun _ h => h
  have hbA : ¬ (fun q : Nat => s.heap.size ≤ q) b := Nat.not_le.mpr hbl
  obtain ⟨o, o', h1, h2, he, hR'⟩ := st_ask hR (xs (nI i + (1 : Int32)).toNatClampNeg)
  refine lv_aload_n hx hb dL_law_1184 rfl (lv_at hl 1 rfl) ?_
  refine lv_aload_n hx hb dL_law_1185 rfl (lv_at hl 0 rfl) ?_
  refine lv_iload_n hx hb dL_law_1186 rfl (lv_at hl 3 rfl) ?_
  refine lv_iconst (v := (1 : Int32)) hx hb dL_law_1187 (by decide) ?_
  refine lv_iadd hx hb dL_law_1188 ?_
  refine va_sld hx hb hX hbl hbA hS (vp_off (k := 1) (by omega) (by omega)) dL_law_1189 ?_
  refine zVi (As := [.int (xs (nI i + (1 : Int32)).toNatClampNeg)]) (ci := 7) (bs := wA ca x ad mm F M) (bs' := wA ca x ad mm ((va_up F.1 1 o.2), F.2.1, F.2.2) M) ⟨hx, hb, hml, hown, hts⟩ (k_X7_ask l D ca x (ad 2 0) (ad 7 0) (ad 10 0) (ad 11 0) (ad 12 0) (ad 0) (ad 1) (ad 9) (F.2.1 2) (F.1 0) (F.1 1) (F.1 6) (xs (nI i + (1 : Int32)).toNatClampNeg) _ h1) (cwV 1 hts gL_law_X7_ask rfl rfl rfl (by decide +kernel) ⟨(Nat.le_of_ble_eq_true rfl), (Nat.le_of_ble_eq_true rfl)⟩) hK hA hP hD hS dL_law_1190 rfl hl.1 [0, 1, 2, 10] [3, 4, 5, 6, 7, 8, 9, 11, 12, 13, 14, 15, 16, 17, 18] (show ([0, 1, 2, 10] ++ [3, 4, 5, 6, 7, 8, 9, 11, 12, 13, 14, 15, 16, 17, 18] : List Nat).Perm (List.range 19) by decide) rfl (show ([0, 1, 2, 10] ++ [3, 4, 5, 6, 7, 8, 9, 11, 12, 13, 14, 15, 16, 17, 18] : List Nat).Perm (List.range 19) by decide) rfl rfl rfl rfl rfl rfl (Nat.le_of_ble_eq_true rfl) ⟨(Nat.le_of_ble_eq_true rfl), (Nat.le_of_ble_eq_true rfl)⟩ (fun H locs hP hD hS => ?_)
  refine lv_aload_n hx hb dL_law_1193 rfl (lv_at hl 2 rfl) ?_
  refine lv_aload_n hx hb dL_law_1194 rfl (lv_at hl 0 rfl) ?_
  refine lv_iload_n hx hb dL_law_1195 rfl (lv_at hl 3 rfl) ?_
  refine lv_iconst (v := (1 : Int32)) hx hb dL_law_1196 (by decide) ?_
  refine lv_iadd hx hb dL_law_1197 ?_
  refine va_sld hx hb hX hbl hbA hS (vp_off (k := 1) (by omega) (by omega)) dL_law_1198 ?_
  refine zVi (As := [.int (xs (nI i + (1 : Int32)).toNatClampNeg)]) (ci := 8) (bs := wA ca x ad mm ((va_up F.1 1 o.2), F.2.1, F.2.2) M) (bs' := wA ca x ad mm ((va_up F.1 1 o.2), F.2.1, F.2.2) o'.2) ⟨hx, hb, hml, hown, hts⟩ (k_X8_ask l D ca mm M (xs (nI i + (1 : Int32)).toNatClampNeg) _ h2) (cwV 1 hts gL_law_X8_ask rfl rfl rfl (by decide +kernel) ⟨(Nat.le_of_ble_eq_true rfl), (Nat.le_of_ble_eq_true rfl)⟩) hK hA hP hD hS dL_law_1199 rfl hl.1 [18] [0, 1, 2, 3, 4, 5, 6, 7, 8, 9, 10, 11, 12, 13, 14, 15, 16, 17] (show ([18] ++ [0, 1, 2, 3, 4, 5, 6, 7, 8, 9, 10, 11, 12, 13, 14, 15, 16, 17] : List Nat).Perm (List.range 19) by decide) rfl (show ([18] ++ [0, 1, 2, 3, 4, 5, 6, 7, 8, 9, 10, 11, 12, 13, 14, 15, 16, 17] : List Nat).Perm (List.range 19) by decide) rfl rfl rfl rfl rfl rfl (Nat.le_of_ble_eq_true rfl) ⟨(Nat.le_of_ble_eq_true rfl), (Nat.le_of_ble_eq_true rfl)⟩ (fun H locs hP hD hS => ?_)
  refine lv_icmp_eq (tgt := 1471) hx hb dL_law_1202 (by decide) (fun _ => ?_) (fun c1 => absurd he c1)
  exact kk _ _ _ _ _ hR' hl hP hD hS
set_option maxHeartbeats 4000000 in
set_option maxRecDepth 100000 in
theorem law_c35 {p : Program} {l : Launch} {e : Env} {s : State} {m : MethodId} {below : List Frame} {meth : Method} {c : Code} {b L : Nat} {xs : Nat → Int32} {D : va_G} {ca : Nat → ClassId} {x : Nat} {ad : Nat → Nat → Nat} {mm : Nat → Nat} {aS aV aT : Nat → Nat} {F : FS} {M : GS} {i : Nat} (C0 : lw_At p s m meth c b L xs) (hK : va_K D vwCl (TY ca) s) (hAm : Amb aS aV aT (fun q : Nat => s.heap.size ≤ q) s s.heap) (hRS : RSt aS s) (hi : i + 6 ≤ L) (hL : L ≤ 384) (hR : Rel F M)
    (kk : ∀ (F' : FS) (M' : GS) (ls : Array Slot) (H : Heap) (locs : List Loc), Rel F' M' → lv_has ls 4 [(0, .ref b), (1, .ref x), (2, .ref (mm 0)), (3, .int (nI i))] → va_P D vwCl (wA ca x ad mm F' M').flatten H → va_D (fun q : Nat => s.heap.size ≤ q) (wA ca x ad mm F' M').flatten → va_S (fun q : Nat => s.heap.size ≤ q) s.heap H locs → W p l e room_1 s m #[Value.ref b] below meth c H locs 67 1942 (lw_Z below #[Value.ref b] s) (F0 m 1471 ls []))
    (ls : Array Slot) (H : Heap) (locs : List Loc) (hl : lv_has ls 4 [(0, .ref b), (1, .ref x), (2, .ref (mm 0)), (3, .int (nI i))]) (hP : va_P D vwCl (wA ca x ad mm F M).flatten H) (hD : va_D (fun q : Nat => s.heap.size ≤ q) (wA ca x ad mm F M).flatten) (hS : va_S (fun q : Nat => s.heap.size ≤ q) s.heap H locs) : W p l e room_1 s m #[Value.ref b] below meth c H locs 67 1942 (lw_Z below #[Value.ref b] s) (F0 m 1207 ls []) := by
  obtain ⟨hx, hb, hr, hml, hown, hts0, hX, hbl, hlocks, hgv⟩ := id C0
  have hown : s.vm.findClass RL = some m.cls := hown
  have hts : ∀ w ∈ wsL_law, w.before #[Value.ref b] s = true := fun w h => hts0 w (wsL_law_in w h)
  have hA : ∀ q : Nat, s.heap.size ≤ q → (fun q : Nat => s.heap.size ≤ q) q := fun _ h => h
  have hbA : ¬ (fun q : Nat => s.heap.size ≤ q) b := Nat.not_le.mpr hbl
  obtain ⟨o, o', h1, h2, he, hR'⟩ := st_drift hR (xs (nI i + (1 : Int32)).toNatClampNeg) (xs (nI i + (2 : Int32)).toNatClampNeg) (xs (nI i + (3 : Int32)).toNatClampNeg)
  refine lv_aload_n hx hb dL_law_1207 rfl (lv_at hl 1 rfl) ?_
  refine lv_aload_n hx hb dL_law_1208 rfl (lv_at hl 0 rfl) ?_
  refine lv_iload_n hx hb dL_law_1209 rfl (lv_at hl 3 rfl) ?_
  refine lv_iconst (v := (1 : Int32)) hx hb dL_law_1210 (by decide) ?_
  refine lv_iadd hx hb dL_law_1211 ?_
  refine va_sld hx hb hX hbl hbA hS (vp_off (k := 1) (by omega) (by omega)) dL_law_1212 ?_
  refine lv_aload_n hx hb dL_law_1213 rfl (lv_at hl 0 rfl) ?_
  refine lv_iload_n hx hb dL_law_1214 rfl (lv_at hl 3 rfl) ?_
  refine lv_iconst (v := (2 : Int32)) hx hb dL_law_1215 (by decide) ?_
  refine lv_iadd hx hb dL_law_1216 ?_
  refine va_sld hx hb hX hbl hbA hS (vp_off (k := 2) (by omega) (by omega)) dL_law_1217 ?_
  refine lv_aload_n hx hb dL_law_1218 rfl (lv_at hl 0 rfl) ?_
  refine lv_iload_n hx hb dL_law_1219 rfl (lv_at hl 3 rfl) ?_
  refine lv_iconst (v := (3 : Int32)) hx hb dL_law_1220 (by decide) ?_
  refine lv_iadd hx hb dL_law_1221 ?_
  refine va_sld hx hb hX hbl hbA hS (vp_off (k := 3) (by omega) (by omega)) dL_law_1222 ?_
  refine zVi (As := [.int (xs (nI i + (1 : Int32)).toNatClampNeg), .int (xs (nI i + (2 : Int32)).toNatClampNeg), .int (xs (nI i + (3 : Int32)).toNatClampNeg)]) (ci := 7) (bs := wA ca x ad mm F M) (bs' := wA ca x ad mm ((va_up F.1 1 o.2), F.2.1, F.2.2) M) ⟨hx, hb, hml, hown, hts⟩ (k_X7_drift l D ca x (ad 2 0) (ad 7 0) (ad 9 0) (ad 10 0) (ad 11 0) (ad 12 0) (ad 0) (ad 1) (F.2.1 2) (F.1 0) (F.1 1) (xs (nI i + (1 : Int32)).toNatClampNeg) (xs (nI i + (2 : Int32)).toNatClampNeg) (xs (nI i + (3 : Int32)).toNatClampNeg) _ h1) (cwV 3 hts gL_law_X7_drift rfl rfl rfl (by decide +kernel) ⟨(Nat.le_of_ble_eq_true rfl), (Nat.le_of_ble_eq_true rfl)⟩) hK hA hP hD hS dL_law_1223 rfl hl.1 [0, 1, 2] [3, 4, 5, 6, 7, 8, 9, 10, 11, 12, 13, 14, 15, 16, 17, 18] (show ([0, 1, 2] ++ [3, 4, 5, 6, 7, 8, 9, 10, 11, 12, 13, 14, 15, 16, 17, 18] : List Nat).Perm (List.range 19) by decide) rfl (show ([0, 1, 2] ++ [3, 4, 5, 6, 7, 8, 9, 10, 11, 12, 13, 14, 15, 16, 17, 18] : List Nat).Perm (List.range 19) by decide) rfl rfl rfl rfl rfl rfl (Nat.le_of_ble_eq_true rfl) ⟨(Nat.le_of_ble_eq_true rfl), (Nat.le_of_ble_eq_true rfl)⟩ (fun H locs hP hD hS => ?_)
  refine lv_aload_n hx hb dL_law_1226 rfl (lv_at hl 2 rfl) ?_
  refine lv_aload_n hx hb dL_law_1227 rfl (lv_at hl 0 rfl) ?_
  refine lv_iload_n hx hb dL_law_1228 rfl (lv_at hl 3 rfl) ?_
  refine lv_iconst (v := (1 : Int32)) hx hb dL_law_1229 (by decide) ?_
  refine lv_iadd hx hb dL_law_1230 ?_
  refine va_sld hx hb hX hbl hbA hS (vp_off (k := 1) (by omega) (by omega)) dL_law_1231 ?_
  refine lv_aload_n hx hb dL_law_1232 rfl (lv_at hl 0 rfl) ?_
  refine lv_iload_n hx hb dL_law_1233 rfl (lv_at hl 3 rfl) ?_
  refine lv_iconst (v := (2 : Int32)) hx hb dL_law_1234 (by decide) ?_
  refine lv_iadd hx hb dL_law_1235 ?_
  refine va_sld hx hb hX hbl hbA hS (vp_off (k := 2) (by omega) (by omega)) dL_law_1236 ?_
  refine lv_aload_n hx hb dL_law_1237 rfl (lv_at hl 0 rfl) ?_
  refine lv_iload_n hx hb dL_law_1238 rfl (lv_at hl 3 rfl) ?_
  refine lv_iconst (v := (3 : Int32)) hx hb dL_law_1239 (by decide) ?_
  refine lv_iadd hx hb dL_law_1240 ?_
  refine va_sld hx hb hX hbl hbA hS (vp_off (k := 3) (by omega) (by omega)) dL_law_1241 ?_
  refine zVi (As := [.int (xs (nI i + (1 : Int32)).toNatClampNeg), .int (xs (nI i + (2 : Int32)).toNatClampNeg), .int (xs (nI i + (3 : Int32)).toNatClampNeg)]) (ci := 8) (bs := wA ca x ad mm ((va_up F.1 1 o.2), F.2.1, F.2.2) M) (bs' := wA ca x ad mm ((va_up F.1 1 o.2), F.2.1, F.2.2) o'.2) ⟨hx, hb, hml, hown, hts⟩ (k_X8_drift l D ca mm M (xs (nI i + (1 : Int32)).toNatClampNeg) (xs (nI i + (2 : Int32)).toNatClampNeg) (xs (nI i + (3 : Int32)).toNatClampNeg) _ h2) (cwV 3 hts gL_law_X8_drift rfl rfl rfl (by decide +kernel) ⟨(Nat.le_of_ble_eq_true rfl), (Nat.le_of_ble_eq_true rfl)⟩) hK hA hP hD hS dL_law_1242 rfl hl.1 [18] [0, 1, 2, 3, 4, 5, 6, 7, 8, 9, 10, 11, 12, 13, 14, 15, 16, 17] (show ([18] ++ [0, 1, 2, 3, 4, 5, 6, 7, 8, 9, 10, 11, 12, 13, 14, 15, 16, 17] : List Nat).Perm (List.range 19) by decide) rfl (show ([18] ++ [0, 1, 2, 3, 4, 5, 6, 7, 8, 9, 10, 11, 12, 13, 14, 15, 16, 17] : List Nat).Perm (List.range 19) by decide) rfl rfl rfl rfl rfl rfl (Nat.le_of_ble_eq_true rfl) ⟨(Nat.le_of_ble_eq_true rfl), (Nat.le_of_ble_eq_true rfl)⟩ (fun H locs hP hD hS => ?_)
  refine lv_icmp_eq (tgt := 1471) hx hb dL_law_1245 (by decide) (fun _ => ?_) (fun c1 => absurd he c1)
  exact kk _ _ _ _ _ hR' hl hP hD hS
set_option maxHeartbeats 4000000 in
set_option maxRecDepth 100000 in
theorem law_c36 {p : Program} {l : Launch} {e : Env} {s : State} {m : MethodId} {below : List Frame} {meth : Method} {c : Code} {b L : Nat} {xs : Nat → Int32} {D : va_G} {ca : Nat → ClassId} {x : Nat} {ad : Nat → Nat → Nat} {mm : Nat → Nat} {aS aV aT : Nat → Nat} {F : FS} {M : GS} {i : Nat} (C0 : lw_At p s m meth c b L xs) (hK : va_K D vwCl (TY ca) s) (hAm : Amb aS aV aT (fun q : Nat => s.heap.size ≤ q) s s.heap) (hRS : RSt aS s) (hi : i + 6 ≤ L) (hL : L ≤ 384) (hR : Rel F M)
    (kk : ∀ (F' : FS) (M' : GS) (ls : Array Slot) (H : Heap) (locs : List Loc), Rel F' M' → lv_has ls 4 [(0, .ref b), (1, .ref x), (2, .ref (mm 0)), (3, .int (nI i))] → va_P D vwCl (wA ca x ad mm F' M').flatten H → va_D (fun q : Nat => s.heap.size ≤ q) (wA ca x ad mm F' M').flatten → va_S (fun q : Nat => s.heap.size ≤ q) s.heap H locs → W p l e room_1 s m #[Value.ref b] below meth c H locs 67 1942 (lw_Z below #[Value.ref b] s) (F0 m 1471 ls []))
    (ls : Array Slot) (H : Heap) (locs : List Loc) (hl : lv_has ls 4 [(0, .ref b), (1, .ref x), (2, .ref (mm 0)), (3, .int (nI i))]) (hP : va_P D vwCl (wA ca x ad mm F M).flatten H) (hD : va_D (fun q : Nat => s.heap.size ≤ q) (wA ca x ad mm F M).flatten) (hS : va_S (fun q : Nat => s.heap.size ≤ q) s.heap H locs) : W p l e room_1 s m #[Value.ref b] below meth c H locs 67 1942 (lw_Z below #[Value.ref b] s) (F0 m 1250 ls []) := by
  obtain ⟨hx, hb, hr, hml, hown, hts0, hX, hbl, hlocks, hgv⟩ := id C0
  have hown : s.vm.findClass RL = some m.cls := hown
  have hts : ∀ w ∈ wsL_law, w.before #[Value.ref b] s = true := fun w h => hts0 w (wsL_law_in w h)
  have hA : ∀ q : Nat, s.heap.size ≤ q → (fun q : Nat => s.heap.size ≤ q) q := fun _ h => h
  have hbA : ¬ (fun q : Nat => s.heap.size ≤ q) b := Nat.not_le.mpr hbl
  by_cases g1 : (xs (nI i + (1 : Int32)).toNatClampNeg).toNatClampNeg = 1
  · have hs : ¬ ((xs (nI i + (1 : Int32)).toNatClampNeg) < 0 ∨ 2 ≤ (xs (nI i + (1 : Int32)).toNatClampNeg).toNatClampNeg) → (xs (nI i + (1 : Int32)).toNatClampNeg).toNatClampNeg = 1 := fun _ => g1
    obtain ⟨o, o', h1, h2, he, hR'⟩ := st_keep_1 hR (xs (nI i + (1 : Int32)).toNatClampNeg) hs
    have hsel : ¬ ((xs (nI i + (1 : Int32)).toNatClampNeg) < 0 ∨ 2 ≤ (xs (nI i + (1 : Int32)).toNatClampNeg).toNatClampNeg) → (va_up (va_up (fun _ => none) 0 (some (ad 3 0))) 1 (some (ad 5 0))) (xs (nI i + (1 : Int32)).toNatClampNeg).toNatClampNeg = some (ad 5 0) := fun z => by rw [hs z]; rfl
    refine lv_aload_n hx hb dL_law_1250 rfl (lv_at hl 1 rfl) ?_
    refine lv_aload_n hx hb dL_law_1251 rfl (lv_at hl 0 rfl) ?_
    refine lv_iload_n hx hb dL_law_1252 rfl (lv_at hl 3 rfl) ?_
    refine lv_iconst (v := (1 : Int32)) hx hb dL_law_1253 (by decide) ?_
    refine lv_iadd hx hb dL_law_1254 ?_
    refine va_sld hx hb hX hbl hbA hS (vp_off (k := 1) (by omega) (by omega)) dL_law_1255 ?_
    refine zVi (As := [.int (xs (nI i + (1 : Int32)).toNatClampNeg)]) (ci := 7) (bs := wA ca x ad mm F M) (bs' := wA ca x ad mm ((va_up F.1 3 o.2.2), (va_up F.2.1 1 o.2.1), F.2.2) M) ⟨hx, hb, hml, hown, hts⟩ (k_X7_keep l D ca x (ad 1 0) (ad 7 0) (ad 9 0) (ad 10 0) (ad 11 0) (ad 12 0) (ad 0) (ad 2 0) (va_up (va_up (fun _ => none) 0 (some (ad 3 0))) 1 (some (ad 5 0))) (ad 5 0) (ad 6) (F.2.1 2) (F.1 0) (F.2.1 1) (F.1 3) (xs (nI i + (1 : Int32)).toNatClampNeg) _ (hsel) h1) (cwV 1 hts gL_law_X7_keep rfl rfl rfl (by decide +kernel) ⟨(Nat.le_of_ble_eq_true rfl), (Nat.le_of_ble_eq_true rfl)⟩) hK hA hP hD hS dL_law_1256 rfl hl.1 [0, 1, 3, 6, 7] [2, 4, 5, 8, 9, 10, 11, 12, 13, 14, 15, 16, 17, 18] (show ([0, 1, 3, 6, 7] ++ [2, 4, 5, 8, 9, 10, 11, 12, 13, 14, 15, 16, 17, 18] : List Nat).Perm (List.range 19) by decide) rfl (show ([0, 1, 3, 6, 7] ++ [2, 4, 5, 8, 9, 10, 11, 12, 13, 14, 15, 16, 17, 18] : List Nat).Perm (List.range 19) by decide) rfl rfl rfl rfl rfl rfl (Nat.le_of_ble_eq_true rfl) ⟨(Nat.le_of_ble_eq_true rfl), (Nat.le_of_ble_eq_true rfl)⟩ (fun H locs hP hD hS => ?_)
    refine lv_aload_n hx hb dL_law_1259 rfl (lv_at hl 2 rfl) ?_
    refine lv_aload_n hx hb dL_law_1260 rfl (lv_at hl 0 rfl) ?_
    refine lv_iload_n hx hb dL_law_1261 rfl (lv_at hl 3 rfl) ?_
    refine lv_iconst (v := (1 : Int32)) hx hb dL_law_1262 (by decide) ?_
    refine lv_iadd hx hb dL_law_1263 ?_
    refine va_sld hx hb hX hbl hbA hS (vp_off (k := 1) (by omega) (by omega)) dL_law_1264 ?_
    refine zVi (As := [.int (xs (nI i + (1 : Int32)).toNatClampNeg)]) (ci := 8) (bs := wA ca x ad mm ((va_up F.1 3 o.2.2), (va_up F.2.1 1 o.2.1), F.2.2) M) (bs' := wA ca x ad mm ((va_up F.1 3 o.2.2), (va_up F.2.1 1 o.2.1), F.2.2) o'.2) ⟨hx, hb, hml, hown, hts⟩ (k_X8_keep l D ca mm M (xs (nI i + (1 : Int32)).toNatClampNeg) _ h2) (cwV 1 hts gL_law_X8_keep rfl rfl rfl (by decide +kernel) ⟨(Nat.le_of_ble_eq_true rfl), (Nat.le_of_ble_eq_true rfl)⟩) hK hA hP hD hS dL_law_1265 rfl hl.1 [18] [0, 1, 2, 3, 4, 5, 6, 7, 8, 9, 10, 11, 12, 13, 14, 15, 16, 17] (show ([18] ++ [0, 1, 2, 3, 4, 5, 6, 7, 8, 9, 10, 11, 12, 13, 14, 15, 16, 17] : List Nat).Perm (List.range 19) by decide) rfl (show ([18] ++ [0, 1, 2, 3, 4, 5, 6, 7, 8, 9, 10, 11, 12, 13, 14, 15, 16, 17] : List Nat).Perm (List.range 19) by decide) rfl rfl rfl rfl rfl rfl (Nat.le_of_ble_eq_true rfl) ⟨(Nat.le_of_ble_eq_true rfl), (Nat.le_of_ble_eq_true rfl)⟩ (fun H locs hP hD hS => ?_)
    refine lv_icmp_eq (tgt := 1471) hx hb dL_law_1268 (by decide) (fun _ => ?_) (fun c1 => absurd he c1)
    exact kk _ _ _ _ _ hR' hl hP hD hS
  have hs : ¬ ((xs (nI i + (1 : Int32)).toNatClampNeg) < 0 ∨ 2 ≤ (xs (nI i + (1 : Int32)).toNatClampNeg).toNatClampNeg) → (xs (nI i + (1 : Int32)).toNatClampNeg).toNatClampNeg = 0 := fun z => by
    have z2 := fun h => z (Or.inr h)
    omega
  obtain ⟨o, o', h1, h2, he, hR'⟩ := st_keep_0 hR (xs (nI i + (1 : Int32)).toNatClampNeg) hs
  have hsel : ¬ ((xs (nI i + (1 : Int32)).toNatClampNeg) < 0 ∨ 2 ≤ (xs (nI i + (1 : Int32)).toNatClampNeg).toNatClampNeg) → (va_up (va_up (fun _ => none) 0 (some (ad 3 0))) 1 (some (ad 5 0))) (xs (nI i + (1 : Int32)).toNatClampNeg).toNatClampNeg = some (ad 3 0) := fun z => by rw [hs z]; rfl
  refine lv_aload_n hx hb dL_law_1250 rfl (lv_at hl 1 rfl) ?_
  refine lv_aload_n hx hb dL_law_1251 rfl (lv_at hl 0 rfl) ?_
  refine lv_iload_n hx hb dL_law_1252 rfl (lv_at hl 3 rfl) ?_
  refine lv_iconst (v := (1 : Int32)) hx hb dL_law_1253 (by decide) ?_
  refine lv_iadd hx hb dL_law_1254 ?_
  refine va_sld hx hb hX hbl hbA hS (vp_off (k := 1) (by omega) (by omega)) dL_law_1255 ?_
  refine zVi (As := [.int (xs (nI i + (1 : Int32)).toNatClampNeg)]) (ci := 7) (bs := wA ca x ad mm F M) (bs' := wA ca x ad mm ((va_up F.1 2 o.2.2), (va_up F.2.1 0 o.2.1), F.2.2) M) ⟨hx, hb, hml, hown, hts⟩ (k_X7_keep l D ca x (ad 1 0) (ad 7 0) (ad 9 0) (ad 10 0) (ad 11 0) (ad 12 0) (ad 0) (ad 2 0) (va_up (va_up (fun _ => none) 0 (some (ad 3 0))) 1 (some (ad 5 0))) (ad 3 0) (ad 4) (F.2.1 2) (F.1 0) (F.2.1 0) (F.1 2) (xs (nI i + (1 : Int32)).toNatClampNeg) _ (hsel) h1) (cwV 1 hts gL_law_X7_keep rfl rfl rfl (by decide +kernel) ⟨(Nat.le_of_ble_eq_true rfl), (Nat.le_of_ble_eq_true rfl)⟩) hK hA hP hD hS dL_law_1256 rfl hl.1 [0, 1, 3, 4, 5] [2, 6, 7, 8, 9, 10, 11, 12, 13, 14, 15, 16, 17, 18] (show ([0, 1, 3, 4, 5] ++ [2, 6, 7, 8, 9, 10, 11, 12, 13, 14, 15, 16, 17, 18] : List Nat).Perm (List.range 19) by decide) rfl (show ([0, 1, 3, 4, 5] ++ [2, 6, 7, 8, 9, 10, 11, 12, 13, 14, 15, 16, 17, 18] : List Nat).Perm (List.range 19) by decide) rfl rfl rfl rfl rfl rfl (Nat.le_of_ble_eq_true rfl) ⟨(Nat.le_of_ble_eq_true rfl), (Nat.le_of_ble_eq_true rfl)⟩ (fun H locs hP hD hS => ?_)
  refine lv_aload_n hx hb dL_law_1259 rfl (lv_at hl 2 rfl) ?_
  refine lv_aload_n hx hb dL_law_1260 rfl (lv_at hl 0 rfl) ?_
  refine lv_iload_n hx hb dL_law_1261 rfl (lv_at hl 3 rfl) ?_
  refine lv_iconst (v := (1 : Int32)) hx hb dL_law_1262 (by decide) ?_
  refine lv_iadd hx hb dL_law_1263 ?_
  refine va_sld hx hb hX hbl hbA hS (vp_off (k := 1) (by omega) (by omega)) dL_law_1264 ?_
  refine zVi (As := [.int (xs (nI i + (1 : Int32)).toNatClampNeg)]) (ci := 8) (bs := wA ca x ad mm ((va_up F.1 2 o.2.2), (va_up F.2.1 0 o.2.1), F.2.2) M) (bs' := wA ca x ad mm ((va_up F.1 2 o.2.2), (va_up F.2.1 0 o.2.1), F.2.2) o'.2) ⟨hx, hb, hml, hown, hts⟩ (k_X8_keep l D ca mm M (xs (nI i + (1 : Int32)).toNatClampNeg) _ h2) (cwV 1 hts gL_law_X8_keep rfl rfl rfl (by decide +kernel) ⟨(Nat.le_of_ble_eq_true rfl), (Nat.le_of_ble_eq_true rfl)⟩) hK hA hP hD hS dL_law_1265 rfl hl.1 [18] [0, 1, 2, 3, 4, 5, 6, 7, 8, 9, 10, 11, 12, 13, 14, 15, 16, 17] (show ([18] ++ [0, 1, 2, 3, 4, 5, 6, 7, 8, 9, 10, 11, 12, 13, 14, 15, 16, 17] : List Nat).Perm (List.range 19) by decide) rfl (show ([18] ++ [0, 1, 2, 3, 4, 5, 6, 7, 8, 9, 10, 11, 12, 13, 14, 15, 16, 17] : List Nat).Perm (List.range 19) by decide) rfl rfl rfl rfl rfl rfl (Nat.le_of_ble_eq_true rfl) ⟨(Nat.le_of_ble_eq_true rfl), (Nat.le_of_ble_eq_true rfl)⟩ (fun H locs hP hD hS => ?_)
  refine lv_icmp_eq (tgt := 1471) hx hb dL_law_1268 (by decide) (fun _ => ?_) (fun c1 => absurd he c1)
  exact kk _ _ _ _ _ hR' hl hP hD hS
set_option maxHeartbeats 4000000 in
set_option maxRecDepth 100000 in
theorem law_c37 {p : Program} {l : Launch} {e : Env} {s : State} {m : MethodId} {below : List Frame} {meth : Method} {c : Code} {b L : Nat} {xs : Nat → Int32} {D : va_G} {ca : Nat → ClassId} {x : Nat} {ad : Nat → Nat → Nat} {mm : Nat → Nat} {aS aV aT : Nat → Nat} {F : FS} {M : GS} {i : Nat} (C0 : lw_At p s m meth c b L xs) (hK : va_K D vwCl (TY ca) s) (hAm : Amb aS aV aT (fun q : Nat => s.heap.size ≤ q) s s.heap) (hRS : RSt aS s) (hi : i + 6 ≤ L) (hL : L ≤ 384) (hR : Rel F M)
    (kk : ∀ (F' : FS) (M' : GS) (ls : Array Slot) (H : Heap) (locs : List Loc), Rel F' M' → lv_has ls 4 [(0, .ref b), (1, .ref x), (2, .ref (mm 0)), (3, .int (nI i))] → va_P D vwCl (wA ca x ad mm F' M').flatten H → va_D (fun q : Nat => s.heap.size ≤ q) (wA ca x ad mm F' M').flatten → va_S (fun q : Nat => s.heap.size ≤ q) s.heap H locs → W p l e room_1 s m #[Value.ref b] below meth c H locs 67 1942 (lw_Z below #[Value.ref b] s) (F0 m 1471 ls []))
    (ls : Array Slot) (H : Heap) (locs : List Loc) (hl : lv_has ls 4 [(0, .ref b), (1, .ref x), (2, .ref (mm 0)), (3, .int (nI i))]) (hP : va_P D vwCl (wA ca x ad mm F M).flatten H) (hD : va_D (fun q : Nat => s.heap.size ≤ q) (wA ca x ad mm F M).flatten) (hS : va_S (fun q : Nat => s.heap.size ≤ q) s.heap H locs) : W p l e room_1 s m #[Value.ref b] below meth c H locs 67 1942 (lw_Z below #[Value.ref b] s) (F0 m 1273 ls []) := by
  obtain ⟨hx, hb, hr, hml, hown, hts0, hX, hbl, hlocks, hgv⟩ := id C0
  have hown : s.vm.findClass RL = some m.cls := hown
  have hts : ∀ w ∈ wsL_law, w.before #[Value.ref b] s = true := fun w h => hts0 w (wsL_law_in w h)
  have hA : ∀ q : Nat, s.heap.size ≤ q → (fun q : Nat => s.heap.size ≤ q) q := fun _ h => h
  have hbA : ¬ (fun q : Nat => s.heap.size ≤ q) b := Nat.not_le.mpr hbl
  by_cases g1 : (xs (nI i + (1 : Int32)).toNatClampNeg).toNatClampNeg = 1
  · have hs : ¬ ((xs (nI i + (1 : Int32)).toNatClampNeg) < 0 ∨ 2 ≤ (xs (nI i + (1 : Int32)).toNatClampNeg).toNatClampNeg) → (xs (nI i + (1 : Int32)).toNatClampNeg).toNatClampNeg = 1 := fun _ => g1
    obtain ⟨o, o', h1, h2, he, hR'⟩ := st_back_1 hR (xs (nI i + (1 : Int32)).toNatClampNeg) hs
    have hsel : ¬ ((xs (nI i + (1 : Int32)).toNatClampNeg) < 0 ∨ 2 ≤ (xs (nI i + (1 : Int32)).toNatClampNeg).toNatClampNeg) → (va_up (va_up (fun _ => none) 0 (some (ad 3 0))) 1 (some (ad 5 0))) (xs (nI i + (1 : Int32)).toNatClampNeg).toNatClampNeg = some (ad 5 0) := fun z => by rw [hs z]; rfl
    refine lv_aload_n hx hb dL_law_1273 rfl (lv_at hl 1 rfl) ?_
    refine lv_aload_n hx hb dL_law_1274 rfl (lv_at hl 0 rfl) ?_
    refine lv_iload_n hx hb dL_law_1275 rfl (lv_at hl 3 rfl) ?_
    refine lv_iconst (v := (1 : Int32)) hx hb dL_law_1276 (by decide) ?_
    refine lv_iadd hx hb dL_law_1277 ?_
    refine va_sld hx hb hX hbl hbA hS (vp_off (k := 1) (by omega) (by omega)) dL_law_1278 ?_
    refine zVi (As := [.int (xs (nI i + (1 : Int32)).toNatClampNeg)]) (ci := 7) (bs := wA ca x ad mm F M) (bs' := wA ca x ad mm ((va_up F.1 0 o.2), F.2.1, F.2.2) M) ⟨hx, hb, hml, hown, hts⟩ (k_X7_back l D ca x (ad 1 0) (ad 7 0) (ad 9 0) (ad 10 0) (ad 11 0) (ad 12 0) (ad 0) (ad 2 0) (va_up (va_up (fun _ => none) 0 (some (ad 3 0))) 1 (some (ad 5 0))) (ad 5 0) (ad 6) (F.2.1 2) (F.1 0) (F.2.1 1) (F.1 3) (xs (nI i + (1 : Int32)).toNatClampNeg) _ (hsel) h1) (cwV 1 hts gL_law_X7_back rfl rfl rfl (by decide +kernel) ⟨(Nat.le_of_ble_eq_true rfl), (Nat.le_of_ble_eq_true rfl)⟩) hK hA hP hD hS dL_law_1279 rfl hl.1 [0, 1, 3, 6, 7] [2, 4, 5, 8, 9, 10, 11, 12, 13, 14, 15, 16, 17, 18] (show ([0, 1, 3, 6, 7] ++ [2, 4, 5, 8, 9, 10, 11, 12, 13, 14, 15, 16, 17, 18] : List Nat).Perm (List.range 19) by decide) rfl (show ([0, 1, 3, 6, 7] ++ [2, 4, 5, 8, 9, 10, 11, 12, 13, 14, 15, 16, 17, 18] : List Nat).Perm (List.range 19) by decide) rfl rfl rfl rfl rfl rfl (Nat.le_of_ble_eq_true rfl) ⟨(Nat.le_of_ble_eq_true rfl), (Nat.le_of_ble_eq_true rfl)⟩ (fun H locs hP hD hS => ?_)
    refine lv_aload_n hx hb dL_law_1282 rfl (lv_at hl 2 rfl) ?_
    refine lv_aload_n hx hb dL_law_1283 rfl (lv_at hl 0 rfl) ?_
    refine lv_iload_n hx hb dL_law_1284 rfl (lv_at hl 3 rfl) ?_
    refine lv_iconst (v := (1 : Int32)) hx hb dL_law_1285 (by decide) ?_
    refine lv_iadd hx hb dL_law_1286 ?_
    refine va_sld hx hb hX hbl hbA hS (vp_off (k := 1) (by omega) (by omega)) dL_law_1287 ?_
    refine zVi (As := [.int (xs (nI i + (1 : Int32)).toNatClampNeg)]) (ci := 8) (bs := wA ca x ad mm ((va_up F.1 0 o.2), F.2.1, F.2.2) M) (bs' := wA ca x ad mm ((va_up F.1 0 o.2), F.2.1, F.2.2) o'.2) ⟨hx, hb, hml, hown, hts⟩ (k_X8_back l D ca mm M (xs (nI i + (1 : Int32)).toNatClampNeg) _ h2) (cwV 1 hts gL_law_X8_back rfl rfl rfl (by decide +kernel) ⟨(Nat.le_of_ble_eq_true rfl), (Nat.le_of_ble_eq_true rfl)⟩) hK hA hP hD hS dL_law_1288 rfl hl.1 [18] [0, 1, 2, 3, 4, 5, 6, 7, 8, 9, 10, 11, 12, 13, 14, 15, 16, 17] (show ([18] ++ [0, 1, 2, 3, 4, 5, 6, 7, 8, 9, 10, 11, 12, 13, 14, 15, 16, 17] : List Nat).Perm (List.range 19) by decide) rfl (show ([18] ++ [0, 1, 2, 3, 4, 5, 6, 7, 8, 9, 10, 11, 12, 13, 14, 15, 16, 17] : List Nat).Perm (List.range 19) by decide) rfl rfl rfl rfl rfl rfl (Nat.le_of_ble_eq_true rfl) ⟨(Nat.le_of_ble_eq_true rfl), (Nat.le_of_ble_eq_true rfl)⟩ (fun H locs hP hD hS => ?_)
    refine lv_icmp_eq (tgt := 1471) hx hb dL_law_1291 (by decide) (fun _ => ?_) (fun c1 => absurd he c1)
    exact kk _ _ _ _ _ hR' hl hP hD hS
  have hs : ¬ ((xs (nI i + (1 : Int32)).toNatClampNeg) < 0 ∨ 2 ≤ (xs (nI i + (1 : Int32)).toNatClampNeg).toNatClampNeg) → (xs (nI i + (1 : Int32)).toNatClampNeg).toNatClampNeg = 0 := fun z => by
    have z2 := fun h => z (Or.inr h)
    omega
  obtain ⟨o, o', h1, h2, he, hR'⟩ := st_back_0 hR (xs (nI i + (1 : Int32)).toNatClampNeg) hs
  have hsel : ¬ ((xs (nI i + (1 : Int32)).toNatClampNeg) < 0 ∨ 2 ≤ (xs (nI i + (1 : Int32)).toNatClampNeg).toNatClampNeg) → (va_up (va_up (fun _ => none) 0 (some (ad 3 0))) 1 (some (ad 5 0))) (xs (nI i + (1 : Int32)).toNatClampNeg).toNatClampNeg = some (ad 3 0) := fun z => by rw [hs z]; rfl
  refine lv_aload_n hx hb dL_law_1273 rfl (lv_at hl 1 rfl) ?_
  refine lv_aload_n hx hb dL_law_1274 rfl (lv_at hl 0 rfl) ?_
  refine lv_iload_n hx hb dL_law_1275 rfl (lv_at hl 3 rfl) ?_
  refine lv_iconst (v := (1 : Int32)) hx hb dL_law_1276 (by decide) ?_
  refine lv_iadd hx hb dL_law_1277 ?_
  refine va_sld hx hb hX hbl hbA hS (vp_off (k := 1) (by omega) (by omega)) dL_law_1278 ?_
  refine zVi (As := [.int (xs (nI i + (1 : Int32)).toNatClampNeg)]) (ci := 7) (bs := wA ca x ad mm F M) (bs' := wA ca x ad mm ((va_up F.1 0 o.2), F.2.1, F.2.2) M) ⟨hx, hb, hml, hown, hts⟩ (k_X7_back l D ca x (ad 1 0) (ad 7 0) (ad 9 0) (ad 10 0) (ad 11 0) (ad 12 0) (ad 0) (ad 2 0) (va_up (va_up (fun _ => none) 0 (some (ad 3 0))) 1 (some (ad 5 0))) (ad 3 0) (ad 4) (F.2.1 2) (F.1 0) (F.2.1 0) (F.1 2) (xs (nI i + (1 : Int32)).toNatClampNeg) _ (hsel) h1) (cwV 1 hts gL_law_X7_back rfl rfl rfl (by decide +kernel) ⟨(Nat.le_of_ble_eq_true rfl), (Nat.le_of_ble_eq_true rfl)⟩) hK hA hP hD hS dL_law_1279 rfl hl.1 [0, 1, 3, 4, 5] [2, 6, 7, 8, 9, 10, 11, 12, 13, 14, 15, 16, 17, 18] (show ([0, 1, 3, 4, 5] ++ [2, 6, 7, 8, 9, 10, 11, 12, 13, 14, 15, 16, 17, 18] : List Nat).Perm (List.range 19) by decide) rfl (show ([0, 1, 3, 4, 5] ++ [2, 6, 7, 8, 9, 10, 11, 12, 13, 14, 15, 16, 17, 18] : List Nat).Perm (List.range 19) by decide) rfl rfl rfl rfl rfl rfl (Nat.le_of_ble_eq_true rfl) ⟨(Nat.le_of_ble_eq_true rfl), (Nat.le_of_ble_eq_true rfl)⟩ (fun H locs hP hD hS => ?_)
  refine lv_aload_n hx hb dL_law_1282 rfl (lv_at hl 2 rfl) ?_
  refine lv_aload_n hx hb dL_law_1283 rfl (lv_at hl 0 rfl) ?_
  refine lv_iload_n hx hb dL_law_1284 rfl (lv_at hl 3 rfl) ?_
  refine lv_iconst (v := (1 : Int32)) hx hb dL_law_1285 (by decide) ?_
  refine lv_iadd hx hb dL_law_1286 ?_
  refine va_sld hx hb hX hbl hbA hS (vp_off (k := 1) (by omega) (by omega)) dL_law_1287 ?_
  refine zVi (As := [.int (xs (nI i + (1 : Int32)).toNatClampNeg)]) (ci := 8) (bs := wA ca x ad mm ((va_up F.1 0 o.2), F.2.1, F.2.2) M) (bs' := wA ca x ad mm ((va_up F.1 0 o.2), F.2.1, F.2.2) o'.2) ⟨hx, hb, hml, hown, hts⟩ (k_X8_back l D ca mm M (xs (nI i + (1 : Int32)).toNatClampNeg) _ h2) (cwV 1 hts gL_law_X8_back rfl rfl rfl (by decide +kernel) ⟨(Nat.le_of_ble_eq_true rfl), (Nat.le_of_ble_eq_true rfl)⟩) hK hA hP hD hS dL_law_1288 rfl hl.1 [18] [0, 1, 2, 3, 4, 5, 6, 7, 8, 9, 10, 11, 12, 13, 14, 15, 16, 17] (show ([18] ++ [0, 1, 2, 3, 4, 5, 6, 7, 8, 9, 10, 11, 12, 13, 14, 15, 16, 17] : List Nat).Perm (List.range 19) by decide) rfl (show ([18] ++ [0, 1, 2, 3, 4, 5, 6, 7, 8, 9, 10, 11, 12, 13, 14, 15, 16, 17] : List Nat).Perm (List.range 19) by decide) rfl rfl rfl rfl rfl rfl (Nat.le_of_ble_eq_true rfl) ⟨(Nat.le_of_ble_eq_true rfl), (Nat.le_of_ble_eq_true rfl)⟩ (fun H locs hP hD hS => ?_)
  refine lv_icmp_eq (tgt := 1471) hx hb dL_law_1291 (by decide) (fun _ => ?_) (fun c1 => absurd he c1)
  exact kk _ _ _ _ _ hR' hl hP hD hS
set_option maxHeartbeats 4000000 in
set_option maxRecDepth 100000 in
theorem law_c38 {p : Program} {l : Launch} {e : Env} {s : State} {m : MethodId} {below : List Frame} {meth : Method} {c : Code} {b L : Nat} {xs : Nat → Int32} {D : va_G} {ca : Nat → ClassId} {x : Nat} {ad : Nat → Nat → Nat} {mm : Nat → Nat} {aS aV aT : Nat → Nat} {F : FS} {M : GS} {i : Nat} (C0 : lw_At p s m meth c b L xs) (hK : va_K D vwCl (TY ca) s) (hAm : Amb aS aV aT (fun q : Nat => s.heap.size ≤ q) s s.heap) (hRS : RSt aS s) (hi : i + 6 ≤ L) (hL : L ≤ 384) (hR : Rel F M)
    (kk : ∀ (F' : FS) (M' : GS) (ls : Array Slot) (H : Heap) (locs : List Loc), Rel F' M' → lv_has ls 4 [(0, .ref b), (1, .ref x), (2, .ref (mm 0)), (3, .int (nI i))] → va_P D vwCl (wA ca x ad mm F' M').flatten H → va_D (fun q : Nat => s.heap.size ≤ q) (wA ca x ad mm F' M').flatten → va_S (fun q : Nat => s.heap.size ≤ q) s.heap H locs → W p l e room_1 s m #[Value.ref b] below meth c H locs 67 1942 (lw_Z below #[Value.ref b] s) (F0 m 1471 ls []))
    (ls : Array Slot) (H : Heap) (locs : List Loc) (hl : lv_has ls 4 [(0, .ref b), (1, .ref x), (2, .ref (mm 0)), (3, .int (nI i))]) (hP : va_P D vwCl (wA ca x ad mm F M).flatten H) (hD : va_D (fun q : Nat => s.heap.size ≤ q) (wA ca x ad mm F M).flatten) (hS : va_S (fun q : Nat => s.heap.size ≤ q) s.heap H locs) : W p l e room_1 s m #[Value.ref b] below meth c H locs 67 1942 (lw_Z below #[Value.ref b] s) (F0 m 1296 ls []) := by
  obtain ⟨hx, hb, hr, hml, hown, hts0, hX, hbl, hlocks, hgv⟩ := id C0
  have hown : s.vm.findClass RL = some m.cls := hown
  have hts : ∀ w ∈ wsL_law, w.before #[Value.ref b] s = true := fun w h => hts0 w (wsL_law_in w h)
  have hA : ∀ q : Nat, s.heap.size ≤ q → (fun q : Nat => s.heap.size ≤ q) q := fun _ h => h
  have hbA : ¬ (fun q : Nat => s.heap.size ≤ q) b := Nat.not_le.mpr hbl
  by_cases g1 : (xs (nI i + (1 : Int32)).toNatClampNeg).toNatClampNeg = 1
  · have hs : ¬ ((xs (nI i + (1 : Int32)).toNatClampNeg) < 0 ∨ 4 ≤ (xs (nI i + (1 : Int32)).toNatClampNeg).toNatClampNeg) → (xs (nI i + (1 : Int32)).toNatClampNeg).toNatClampNeg = 1 := fun _ => g1
    obtain ⟨o, o', h1, h2, he, hR'⟩ := st_sheet_1 hR (xs (nI i + (1 : Int32)).toNatClampNeg) (xs (nI i + (2 : Int32)).toNatClampNeg) (xs (nI i + (3 : Int32)).toNatClampNeg) hs
    have hsel : ¬ ((xs (nI i + (1 : Int32)).toNatClampNeg) < 0 ∨ 4 ≤ (xs (nI i + (1 : Int32)).toNatClampNeg).toNatClampNeg) → (va_up (va_up (va_up (va_up (fun _ => none) 0 (some (ad 13 0))) 1 (some (ad 14 0))) 2 (some (ad 15 0))) 3 (some (ad 16 0))) (xs (nI i + (1 : Int32)).toNatClampNeg).toNatClampNeg = some (ad 14 0) := fun z => by rw [hs z]; rfl
    refine lv_aload_n hx hb dL_law_1296 rfl (lv_at hl 1 rfl) ?_
    refine lv_aload_n hx hb dL_law_1297 rfl (lv_at hl 0 rfl) ?_
    refine lv_iload_n hx hb dL_law_1298 rfl (lv_at hl 3 rfl) ?_
    refine lv_iconst (v := (1 : Int32)) hx hb dL_law_1299 (by decide) ?_
    refine lv_iadd hx hb dL_law_1300 ?_
    refine va_sld hx hb hX hbl hbA hS (vp_off (k := 1) (by omega) (by omega)) dL_law_1301 ?_
    refine lv_aload_n hx hb dL_law_1302 rfl (lv_at hl 0 rfl) ?_
    refine lv_iload_n hx hb dL_law_1303 rfl (lv_at hl 3 rfl) ?_
    refine lv_iconst (v := (2 : Int32)) hx hb dL_law_1304 (by decide) ?_
    refine lv_iadd hx hb dL_law_1305 ?_
    refine va_sld hx hb hX hbl hbA hS (vp_off (k := 2) (by omega) (by omega)) dL_law_1306 ?_
    refine lv_aload_n hx hb dL_law_1307 rfl (lv_at hl 0 rfl) ?_
    refine lv_iload_n hx hb dL_law_1308 rfl (lv_at hl 3 rfl) ?_
    refine lv_iconst (v := (3 : Int32)) hx hb dL_law_1309 (by decide) ?_
    refine lv_iadd hx hb dL_law_1310 ?_
    refine va_sld hx hb hX hbl hbA hS (vp_off (k := 3) (by omega) (by omega)) dL_law_1311 ?_
    refine zVi (As := [.int (xs (nI i + (1 : Int32)).toNatClampNeg), .int (xs (nI i + (2 : Int32)).toNatClampNeg), .int (xs (nI i + (3 : Int32)).toNatClampNeg)]) (ci := 7) (bs := wA ca x ad mm F M) (bs' := wA ca x ad mm ((va_up F.1 9 o.2), F.2.1, F.2.2) M) ⟨hx, hb, hml, hown, hts⟩ (k_X7_sheet l D ca x (ad 0 0) (ad 1 0) (ad 2 0) (ad 7 0) (ad 9 0) (ad 10 0) (ad 11 0) (ad 12 0) (va_up (va_up (va_up (va_up (fun _ => none) 0 (some (ad 13 0))) 1 (some (ad 14 0))) 2 (some (ad 15 0))) 3 (some (ad 16 0))) (ad 14) (F.2.1 2) (F.1 9) (xs (nI i + (1 : Int32)).toNatClampNeg) (xs (nI i + (2 : Int32)).toNatClampNeg) (xs (nI i + (3 : Int32)).toNatClampNeg) _ (hsel) h1) (cwV 3 hts gL_law_X7_sheet rfl rfl rfl (by decide +kernel) ⟨(Nat.le_of_ble_eq_true rfl), (Nat.le_of_ble_eq_true rfl)⟩) hK hA hP hD hS dL_law_1312 rfl hl.1 [0, 13, 15] [1, 2, 3, 4, 5, 6, 7, 8, 9, 10, 11, 12, 14, 16, 17, 18] (show ([0, 13, 15] ++ [1, 2, 3, 4, 5, 6, 7, 8, 9, 10, 11, 12, 14, 16, 17, 18] : List Nat).Perm (List.range 19) by decide) rfl (show ([0, 13, 15] ++ [1, 2, 3, 4, 5, 6, 7, 8, 9, 10, 11, 12, 14, 16, 17, 18] : List Nat).Perm (List.range 19) by decide) rfl rfl rfl rfl rfl rfl (Nat.le_of_ble_eq_true rfl) ⟨(Nat.le_of_ble_eq_true rfl), (Nat.le_of_ble_eq_true rfl)⟩ (fun H locs hP hD hS => ?_)
    refine lv_aload_n hx hb dL_law_1315 rfl (lv_at hl 2 rfl) ?_
    refine lv_aload_n hx hb dL_law_1316 rfl (lv_at hl 0 rfl) ?_
    refine lv_iload_n hx hb dL_law_1317 rfl (lv_at hl 3 rfl) ?_
    refine lv_iconst (v := (1 : Int32)) hx hb dL_law_1318 (by decide) ?_
    refine lv_iadd hx hb dL_law_1319 ?_
    refine va_sld hx hb hX hbl hbA hS (vp_off (k := 1) (by omega) (by omega)) dL_law_1320 ?_
    refine lv_aload_n hx hb dL_law_1321 rfl (lv_at hl 0 rfl) ?_
    refine lv_iload_n hx hb dL_law_1322 rfl (lv_at hl 3 rfl) ?_
    refine lv_iconst (v := (2 : Int32)) hx hb dL_law_1323 (by decide) ?_
    refine lv_iadd hx hb dL_law_1324 ?_
    refine va_sld hx hb hX hbl hbA hS (vp_off (k := 2) (by omega) (by omega)) dL_law_1325 ?_
    refine lv_aload_n hx hb dL_law_1326 rfl (lv_at hl 0 rfl) ?_
    refine lv_iload_n hx hb dL_law_1327 rfl (lv_at hl 3 rfl) ?_
    refine lv_iconst (v := (3 : Int32)) hx hb dL_law_1328 (by decide) ?_
    refine lv_iadd hx hb dL_law_1329 ?_
    refine va_sld hx hb hX hbl hbA hS (vp_off (k := 3) (by omega) (by omega)) dL_law_1330 ?_
    refine zVi (As := [.int (xs (nI i + (1 : Int32)).toNatClampNeg), .int (xs (nI i + (2 : Int32)).toNatClampNeg), .int (xs (nI i + (3 : Int32)).toNatClampNeg)]) (ci := 8) (bs := wA ca x ad mm ((va_up F.1 9 o.2), F.2.1, F.2.2) M) (bs' := wA ca x ad mm ((va_up F.1 9 o.2), F.2.1, F.2.2) o'.2) ⟨hx, hb, hml, hown, hts⟩ (k_X8_sheet l D ca mm M (xs (nI i + (1 : Int32)).toNatClampNeg) (xs (nI i + (2 : Int32)).toNatClampNeg) (xs (nI i + (3 : Int32)).toNatClampNeg) _ h2) (cwV 3 hts gL_law_X8_sheet rfl rfl rfl (by decide +kernel) ⟨(Nat.le_of_ble_eq_true rfl), (Nat.le_of_ble_eq_true rfl)⟩) hK hA hP hD hS dL_law_1331 rfl hl.1 [18] [0, 1, 2, 3, 4, 5, 6, 7, 8, 9, 10, 11, 12, 13, 14, 15, 16, 17] (show ([18] ++ [0, 1, 2, 3, 4, 5, 6, 7, 8, 9, 10, 11, 12, 13, 14, 15, 16, 17] : List Nat).Perm (List.range 19) by decide) rfl (show ([18] ++ [0, 1, 2, 3, 4, 5, 6, 7, 8, 9, 10, 11, 12, 13, 14, 15, 16, 17] : List Nat).Perm (List.range 19) by decide) rfl rfl rfl rfl rfl rfl (Nat.le_of_ble_eq_true rfl) ⟨(Nat.le_of_ble_eq_true rfl), (Nat.le_of_ble_eq_true rfl)⟩ (fun H locs hP hD hS => ?_)
    refine lv_icmp_eq (tgt := 1471) hx hb dL_law_1334 (by decide) (fun _ => ?_) (fun c1 => absurd he c1)
    exact kk _ _ _ _ _ hR' hl hP hD hS
  by_cases g2 : (xs (nI i + (1 : Int32)).toNatClampNeg).toNatClampNeg = 2
  · have hs : ¬ ((xs (nI i + (1 : Int32)).toNatClampNeg) < 0 ∨ 4 ≤ (xs (nI i + (1 : Int32)).toNatClampNeg).toNatClampNeg) → (xs (nI i + (1 : Int32)).toNatClampNeg).toNatClampNeg = 2 := fun _ => g2
    obtain ⟨o, o', h1, h2, he, hR'⟩ := st_sheet_2 hR (xs (nI i + (1 : Int32)).toNatClampNeg) (xs (nI i + (2 : Int32)).toNatClampNeg) (xs (nI i + (3 : Int32)).toNatClampNeg) hs
    have hsel : ¬ ((xs (nI i + (1 : Int32)).toNatClampNeg) < 0 ∨ 4 ≤ (xs (nI i + (1 : Int32)).toNatClampNeg).toNatClampNeg) → (va_up (va_up (va_up (va_up (fun _ => none) 0 (some (ad 13 0))) 1 (some (ad 14 0))) 2 (some (ad 15 0))) 3 (some (ad 16 0))) (xs (nI i + (1 : Int32)).toNatClampNeg).toNatClampNeg = some (ad 15 0) := fun z => by rw [hs z]; rfl
    refine lv_aload_n hx hb dL_law_1296 rfl (lv_at hl 1 rfl) ?_
    refine lv_aload_n hx hb dL_law_1297 rfl (lv_at hl 0 rfl) ?_
    refine lv_iload_n hx hb dL_law_1298 rfl (lv_at hl 3 rfl) ?_
    refine lv_iconst (v := (1 : Int32)) hx hb dL_law_1299 (by decide) ?_
    refine lv_iadd hx hb dL_law_1300 ?_
    refine va_sld hx hb hX hbl hbA hS (vp_off (k := 1) (by omega) (by omega)) dL_law_1301 ?_
    refine lv_aload_n hx hb dL_law_1302 rfl (lv_at hl 0 rfl) ?_
    refine lv_iload_n hx hb dL_law_1303 rfl (lv_at hl 3 rfl) ?_
    refine lv_iconst (v := (2 : Int32)) hx hb dL_law_1304 (by decide) ?_
    refine lv_iadd hx hb dL_law_1305 ?_
    refine va_sld hx hb hX hbl hbA hS (vp_off (k := 2) (by omega) (by omega)) dL_law_1306 ?_
    refine lv_aload_n hx hb dL_law_1307 rfl (lv_at hl 0 rfl) ?_
    refine lv_iload_n hx hb dL_law_1308 rfl (lv_at hl 3 rfl) ?_
    refine lv_iconst (v := (3 : Int32)) hx hb dL_law_1309 (by decide) ?_
    refine lv_iadd hx hb dL_law_1310 ?_
    refine va_sld hx hb hX hbl hbA hS (vp_off (k := 3) (by omega) (by omega)) dL_law_1311 ?_
    refine zVi (As := [.int (xs (nI i + (1 : Int32)).toNatClampNeg), .int (xs (nI i + (2 : Int32)).toNatClampNeg), .int (xs (nI i + (3 : Int32)).toNatClampNeg)]) (ci := 7) (bs := wA ca x ad mm F M) (bs' := wA ca x ad mm ((va_up F.1 10 o.2), F.2.1, F.2.2) M) ⟨hx, hb, hml, hown, hts⟩ (k_X7_sheet l D ca x (ad 0 0) (ad 1 0) (ad 2 0) (ad 7 0) (ad 9 0) (ad 10 0) (ad 11 0) (ad 12 0) (va_up (va_up (va_up (va_up (fun _ => none) 0 (some (ad 13 0))) 1 (some (ad 14 0))) 2 (some (ad 15 0))) 3 (some (ad 16 0))) (ad 15) (F.2.1 2) (F.1 10) (xs (nI i + (1 : Int32)).toNatClampNeg) (xs (nI i + (2 : Int32)).toNatClampNeg) (xs (nI i + (3 : Int32)).toNatClampNeg) _ (hsel) h1) (cwV 3 hts gL_law_X7_sheet rfl rfl rfl (by decide +kernel) ⟨(Nat.le_of_ble_eq_true rfl), (Nat.le_of_ble_eq_true rfl)⟩) hK hA hP hD hS dL_law_1312 rfl hl.1 [0, 13, 16] [1, 2, 3, 4, 5, 6, 7, 8, 9, 10, 11, 12, 14, 15, 17, 18] (show ([0, 13, 16] ++ [1, 2, 3, 4, 5, 6, 7, 8, 9, 10, 11, 12, 14, 15, 17, 18] : List Nat).Perm (List.range 19) by decide) rfl (show ([0, 13, 16] ++ [1, 2, 3, 4, 5, 6, 7, 8, 9, 10, 11, 12, 14, 15, 17, 18] : List Nat).Perm (List.range 19) by decide) rfl rfl rfl rfl rfl rfl (Nat.le_of_ble_eq_true rfl) ⟨(Nat.le_of_ble_eq_true rfl), (Nat.le_of_ble_eq_true rfl)⟩ (fun H locs hP hD hS => ?_)
    refine lv_aload_n hx hb dL_law_1315 rfl (lv_at hl 2 rfl) ?_
    refine lv_aload_n hx hb dL_law_1316 rfl (lv_at hl 0 rfl) ?_
    refine lv_iload_n hx hb dL_law_1317 rfl (lv_at hl 3 rfl) ?_
    refine lv_iconst (v := (1 : Int32)) hx hb dL_law_1318 (by decide) ?_
    refine lv_iadd hx hb dL_law_1319 ?_
    refine va_sld hx hb hX hbl hbA hS (vp_off (k := 1) (by omega) (by omega)) dL_law_1320 ?_
    refine lv_aload_n hx hb dL_law_1321 rfl (lv_at hl 0 rfl) ?_
    refine lv_iload_n hx hb dL_law_1322 rfl (lv_at hl 3 rfl) ?_
    refine lv_iconst (v := (2 : Int32)) hx hb dL_law_1323 (by decide) ?_
    refine lv_iadd hx hb dL_law_1324 ?_
    refine va_sld hx hb hX hbl hbA hS (vp_off (k := 2) (by omega) (by omega)) dL_law_1325 ?_
    refine lv_aload_n hx hb dL_law_1326 rfl (lv_at hl 0 rfl) ?_
    refine lv_iload_n hx hb dL_law_1327 rfl (lv_at hl 3 rfl) ?_
    refine lv_iconst (v := (3 : Int32)) hx hb dL_law_1328 (by decide) ?_
    refine lv_iadd hx hb dL_law_1329 ?_
    refine va_sld hx hb hX hbl hbA hS (vp_off (k := 3) (by omega) (by omega)) dL_law_1330 ?_
    refine zVi (As := [.int (xs (nI i + (1 : Int32)).toNatClampNeg), .int (xs (nI i + (2 : Int32)).toNatClampNeg), .int (xs (nI i + (3 : Int32)).toNatClampNeg)]) (ci := 8) (bs := wA ca x ad mm ((va_up F.1 10 o.2), F.2.1, F.2.2) M) (bs' := wA ca x ad mm ((va_up F.1 10 o.2), F.2.1, F.2.2) o'.2) ⟨hx, hb, hml, hown, hts⟩ (k_X8_sheet l D ca mm M (xs (nI i + (1 : Int32)).toNatClampNeg) (xs (nI i + (2 : Int32)).toNatClampNeg) (xs (nI i + (3 : Int32)).toNatClampNeg) _ h2) (cwV 3 hts gL_law_X8_sheet rfl rfl rfl (by decide +kernel) ⟨(Nat.le_of_ble_eq_true rfl), (Nat.le_of_ble_eq_true rfl)⟩) hK hA hP hD hS dL_law_1331 rfl hl.1 [18] [0, 1, 2, 3, 4, 5, 6, 7, 8, 9, 10, 11, 12, 13, 14, 15, 16, 17] (show ([18] ++ [0, 1, 2, 3, 4, 5, 6, 7, 8, 9, 10, 11, 12, 13, 14, 15, 16, 17] : List Nat).Perm (List.range 19) by decide) rfl (show ([18] ++ [0, 1, 2, 3, 4, 5, 6, 7, 8, 9, 10, 11, 12, 13, 14, 15, 16, 17] : List Nat).Perm (List.range 19) by decide) rfl rfl rfl rfl rfl rfl (Nat.le_of_ble_eq_true rfl) ⟨(Nat.le_of_ble_eq_true rfl), (Nat.le_of_ble_eq_true rfl)⟩ (fun H locs hP hD hS => ?_)
    refine lv_icmp_eq (tgt := 1471) hx hb dL_law_1334 (by decide) (fun _ => ?_) (fun c1 => absurd he c1)
    exact kk _ _ _ _ _ hR' hl hP hD hS
  by_cases g3 : (xs (nI i + (1 : Int32)).toNatClampNeg).toNatClampNeg = 3
  · have hs : ¬ ((xs (nI i + (1 : Int32)).toNatClampNeg) < 0 ∨ 4 ≤ (xs (nI i + (1 : Int32)).toNatClampNeg).toNatClampNeg) → (xs (nI i + (1 : Int32)).toNatClampNeg).toNatClampNeg = 3 := fun _ => g3
    obtain ⟨o, o', h1, h2, he, hR'⟩ := st_sheet_3 hR (xs (nI i + (1 : Int32)).toNatClampNeg) (xs (nI i + (2 : Int32)).toNatClampNeg) (xs (nI i + (3 : Int32)).toNatClampNeg) hs
    have hsel : ¬ ((xs (nI i + (1 : Int32)).toNatClampNeg) < 0 ∨ 4 ≤ (xs (nI i + (1 : Int32)).toNatClampNeg).toNatClampNeg) → (va_up (va_up (va_up (va_up (fun _ => none) 0 (some (ad 13 0))) 1 (some (ad 14 0))) 2 (some (ad 15 0))) 3 (some (ad 16 0))) (xs (nI i + (1 : Int32)).toNatClampNeg).toNatClampNeg = some (ad 16 0) := fun z => by rw [hs z]; rfl
    refine lv_aload_n hx hb dL_law_1296 rfl (lv_at hl 1 rfl) ?_
    refine lv_aload_n hx hb dL_law_1297 rfl (lv_at hl 0 rfl) ?_
    refine lv_iload_n hx hb dL_law_1298 rfl (lv_at hl 3 rfl) ?_
    refine lv_iconst (v := (1 : Int32)) hx hb dL_law_1299 (by decide) ?_
    refine lv_iadd hx hb dL_law_1300 ?_
    refine va_sld hx hb hX hbl hbA hS (vp_off (k := 1) (by omega) (by omega)) dL_law_1301 ?_
    refine lv_aload_n hx hb dL_law_1302 rfl (lv_at hl 0 rfl) ?_
    refine lv_iload_n hx hb dL_law_1303 rfl (lv_at hl 3 rfl) ?_
    refine lv_iconst (v := (2 : Int32)) hx hb dL_law_1304 (by decide) ?_
    refine lv_iadd hx hb dL_law_1305 ?_
    refine va_sld hx hb hX hbl hbA hS (vp_off (k := 2) (by omega) (by omega)) dL_law_1306 ?_
    refine lv_aload_n hx hb dL_law_1307 rfl (lv_at hl 0 rfl) ?_
    refine lv_iload_n hx hb dL_law_1308 rfl (lv_at hl 3 rfl) ?_
    refine lv_iconst (v := (3 : Int32)) hx hb dL_law_1309 (by decide) ?_
    refine lv_iadd hx hb dL_law_1310 ?_
    refine va_sld hx hb hX hbl hbA hS (vp_off (k := 3) (by omega) (by omega)) dL_law_1311 ?_
    refine zVi (As := [.int (xs (nI i + (1 : Int32)).toNatClampNeg), .int (xs (nI i + (2 : Int32)).toNatClampNeg), .int (xs (nI i + (3 : Int32)).toNatClampNeg)]) (ci := 7) (bs := wA ca x ad mm F M) (bs' := wA ca x ad mm ((va_up F.1 11 o.2), F.2.1, F.2.2) M) ⟨hx, hb, hml, hown, hts⟩ (k_X7_sheet l D ca x (ad 0 0) (ad 1 0) (ad 2 0) (ad 7 0) (ad 9 0) (ad 10 0) (ad 11 0) (ad 12 0) (va_up (va_up (va_up (va_up (fun _ => none) 0 (some (ad 13 0))) 1 (some (ad 14 0))) 2 (some (ad 15 0))) 3 (some (ad 16 0))) (ad 16) (F.2.1 2) (F.1 11) (xs (nI i + (1 : Int32)).toNatClampNeg) (xs (nI i + (2 : Int32)).toNatClampNeg) (xs (nI i + (3 : Int32)).toNatClampNeg) _ (hsel) h1) (cwV 3 hts gL_law_X7_sheet rfl rfl rfl (by decide +kernel) ⟨(Nat.le_of_ble_eq_true rfl), (Nat.le_of_ble_eq_true rfl)⟩) hK hA hP hD hS dL_law_1312 rfl hl.1 [0, 13, 17] [1, 2, 3, 4, 5, 6, 7, 8, 9, 10, 11, 12, 14, 15, 16, 18] (show ([0, 13, 17] ++ [1, 2, 3, 4, 5, 6, 7, 8, 9, 10, 11, 12, 14, 15, 16, 18] : List Nat).Perm (List.range 19) by decide) rfl (show ([0, 13, 17] ++ [1, 2, 3, 4, 5, 6, 7, 8, 9, 10, 11, 12, 14, 15, 16, 18] : List Nat).Perm (List.range 19) by decide) rfl rfl rfl rfl rfl rfl (Nat.le_of_ble_eq_true rfl) ⟨(Nat.le_of_ble_eq_true rfl), (Nat.le_of_ble_eq_true rfl)⟩ (fun H locs hP hD hS => ?_)
    refine lv_aload_n hx hb dL_law_1315 rfl (lv_at hl 2 rfl) ?_
    refine lv_aload_n hx hb dL_law_1316 rfl (lv_at hl 0 rfl) ?_
    refine lv_iload_n hx hb dL_law_1317 rfl (lv_at hl 3 rfl) ?_
    refine lv_iconst (v := (1 : Int32)) hx hb dL_law_1318 (by decide) ?_
    refine lv_iadd hx hb dL_law_1319 ?_
    refine va_sld hx hb hX hbl hbA hS (vp_off (k := 1) (by omega) (by omega)) dL_law_1320 ?_
    refine lv_aload_n hx hb dL_law_1321 rfl (lv_at hl 0 rfl) ?_
    refine lv_iload_n hx hb dL_law_1322 rfl (lv_at hl 3 rfl) ?_
    refine lv_iconst (v := (2 : Int32)) hx hb dL_law_1323 (by decide) ?_
    refine lv_iadd hx hb dL_law_1324 ?_
    refine va_sld hx hb hX hbl hbA hS (vp_off (k := 2) (by omega) (by omega)) dL_law_1325 ?_
    refine lv_aload_n hx hb dL_law_1326 rfl (lv_at hl 0 rfl) ?_
    refine lv_iload_n hx hb dL_law_1327 rfl (lv_at hl 3 rfl) ?_
    refine lv_iconst (v := (3 : Int32)) hx hb dL_law_1328 (by decide) ?_
    refine lv_iadd hx hb dL_law_1329 ?_
    refine va_sld hx hb hX hbl hbA hS (vp_off (k := 3) (by omega) (by omega)) dL_law_1330 ?_
    refine zVi (As := [.int (xs (nI i + (1 : Int32)).toNatClampNeg), .int (xs (nI i + (2 : Int32)).toNatClampNeg), .int (xs (nI i + (3 : Int32)).toNatClampNeg)]) (ci := 8) (bs := wA ca x ad mm ((va_up F.1 11 o.2), F.2.1, F.2.2) M) (bs' := wA ca x ad mm ((va_up F.1 11 o.2), F.2.1, F.2.2) o'.2) ⟨hx, hb, hml, hown, hts⟩ (k_X8_sheet l D ca mm M (xs (nI i + (1 : Int32)).toNatClampNeg) (xs (nI i + (2 : Int32)).toNatClampNeg) (xs (nI i + (3 : Int32)).toNatClampNeg) _ h2) (cwV 3 hts gL_law_X8_sheet rfl rfl rfl (by decide +kernel) ⟨(Nat.le_of_ble_eq_true rfl), (Nat.le_of_ble_eq_true rfl)⟩) hK hA hP hD hS dL_law_1331 rfl hl.1 [18] [0, 1, 2, 3, 4, 5, 6, 7, 8, 9, 10, 11, 12, 13, 14, 15, 16, 17] (show ([18] ++ [0, 1, 2, 3, 4, 5, 6, 7, 8, 9, 10, 11, 12, 13, 14, 15, 16, 17] : List Nat).Perm (List.range 19) by decide) rfl (show ([18] ++ [0, 1, 2, 3, 4, 5, 6, 7, 8, 9, 10, 11, 12, 13, 14, 15, 16, 17] : List Nat).Perm (List.range 19) by decide) rfl rfl rfl rfl rfl rfl (Nat.le_of_ble_eq_true rfl) ⟨(Nat.le_of_ble_eq_true rfl), (Nat.le_of_ble_eq_true rfl)⟩ (fun H locs hP hD hS => ?_)
    refine lv_icmp_eq (tgt := 1471) hx hb dL_law_1334 (by decide) (fun _ => ?_) (fun c1 => absurd he c1)
    exact kk _ _ _ _ _ hR' hl hP hD hS
  have hs : ¬ ((xs (nI i + (1 : Int32)).toNatClampNeg) < 0 ∨ 4 ≤ (xs (nI i + (1 : Int32)).toNatClampNeg).toNatClampNeg) → (xs (nI i + (1 : Int32)).toNatClampNeg).toNatClampNeg = 0 := fun z => by
    have z2 := fun h => z (Or.inr h)
    omega
  obtain ⟨o, o', h1, h2, he, hR'⟩ := st_sheet_0 hR (xs (nI i + (1 : Int32)).toNatClampNeg) (xs (nI i + (2 : Int32)).toNatClampNeg) (xs (nI i + (3 : Int32)).toNatClampNeg) hs
  have hsel : ¬ ((xs (nI i + (1 : Int32)).toNatClampNeg) < 0 ∨ 4 ≤ (xs (nI i + (1 : Int32)).toNatClampNeg).toNatClampNeg) → (va_up (va_up (va_up (va_up (fun _ => none) 0 (some (ad 13 0))) 1 (some (ad 14 0))) 2 (some (ad 15 0))) 3 (some (ad 16 0))) (xs (nI i + (1 : Int32)).toNatClampNeg).toNatClampNeg = some (ad 13 0) := fun z => by rw [hs z]; rfl
  refine lv_aload_n hx hb dL_law_1296 rfl (lv_at hl 1 rfl) ?_
  refine lv_aload_n hx hb dL_law_1297 rfl (lv_at hl 0 rfl) ?_
  refine lv_iload_n hx hb dL_law_1298 rfl (lv_at hl 3 rfl) ?_
  refine lv_iconst (v := (1 : Int32)) hx hb dL_law_1299 (by decide) ?_
  refine lv_iadd hx hb dL_law_1300 ?_
  refine va_sld hx hb hX hbl hbA hS (vp_off (k := 1) (by omega) (by omega)) dL_law_1301 ?_
  refine lv_aload_n hx hb dL_law_1302 rfl (lv_at hl 0 rfl) ?_
  refine lv_iload_n hx hb dL_law_1303 rfl (lv_at hl 3 rfl) ?_
  refine lv_iconst (v := (2 : Int32)) hx hb dL_law_1304 (by decide) ?_
  refine lv_iadd hx hb dL_law_1305 ?_
  refine va_sld hx hb hX hbl hbA hS (vp_off (k := 2) (by omega) (by omega)) dL_law_1306 ?_
  refine lv_aload_n hx hb dL_law_1307 rfl (lv_at hl 0 rfl) ?_
  refine lv_iload_n hx hb dL_law_1308 rfl (lv_at hl 3 rfl) ?_
  refine lv_iconst (v := (3 : Int32)) hx hb dL_law_1309 (by decide) ?_
  refine lv_iadd hx hb dL_law_1310 ?_
  refine va_sld hx hb hX hbl hbA hS (vp_off (k := 3) (by omega) (by omega)) dL_law_1311 ?_
  refine zVi (As := [.int (xs (nI i + (1 : Int32)).toNatClampNeg), .int (xs (nI i + (2 : Int32)).toNatClampNeg), .int (xs (nI i + (3 : Int32)).toNatClampNeg)]) (ci := 7) (bs := wA ca x ad mm F M) (bs' := wA ca x ad mm ((va_up F.1 8 o.2), F.2.1, F.2.2) M) ⟨hx, hb, hml, hown, hts⟩ (k_X7_sheet l D ca x (ad 0 0) (ad 1 0) (ad 2 0) (ad 7 0) (ad 9 0) (ad 10 0) (ad 11 0) (ad 12 0) (va_up (va_up (va_up (va_up (fun _ => none) 0 (some (ad 13 0))) 1 (some (ad 14 0))) 2 (some (ad 15 0))) 3 (some (ad 16 0))) (ad 13) (F.2.1 2) (F.1 8) (xs (nI i + (1 : Int32)).toNatClampNeg) (xs (nI i + (2 : Int32)).toNatClampNeg) (xs (nI i + (3 : Int32)).toNatClampNeg) _ (hsel) h1) (cwV 3 hts gL_law_X7_sheet rfl rfl rfl (by decide +kernel) ⟨(Nat.le_of_ble_eq_true rfl), (Nat.le_of_ble_eq_true rfl)⟩) hK hA hP hD hS dL_law_1312 rfl hl.1 [0, 13, 14] [1, 2, 3, 4, 5, 6, 7, 8, 9, 10, 11, 12, 15, 16, 17, 18] (show ([0, 13, 14] ++ [1, 2, 3, 4, 5, 6, 7, 8, 9, 10, 11, 12, 15, 16, 17, 18] : List Nat).Perm (List.range 19) by decide) rfl (show ([0, 13, 14] ++ [1, 2, 3, 4, 5, 6, 7, 8, 9, 10, 11, 12, 15, 16, 17, 18] : List Nat).Perm (List.range 19) by decide) rfl rfl rfl rfl rfl rfl (Nat.le_of_ble_eq_true rfl) ⟨(Nat.le_of_ble_eq_true rfl), (Nat.le_of_ble_eq_true rfl)⟩ (fun H locs hP hD hS => ?_)
  refine lv_aload_n hx hb dL_law_1315 rfl (lv_at hl 2 rfl) ?_
  refine lv_aload_n hx hb dL_law_1316 rfl (lv_at hl 0 rfl) ?_
  refine lv_iload_n hx hb dL_law_1317 rfl (lv_at hl 3 rfl) ?_
  refine lv_iconst (v := (1 : Int32)) hx hb dL_law_1318 (by decide) ?_
  refine lv_iadd hx hb dL_law_1319 ?_
  refine va_sld hx hb hX hbl hbA hS (vp_off (k := 1) (by omega) (by omega)) dL_law_1320 ?_
  refine lv_aload_n hx hb dL_law_1321 rfl (lv_at hl 0 rfl) ?_
  refine lv_iload_n hx hb dL_law_1322 rfl (lv_at hl 3 rfl) ?_
  refine lv_iconst (v := (2 : Int32)) hx hb dL_law_1323 (by decide) ?_
  refine lv_iadd hx hb dL_law_1324 ?_
  refine va_sld hx hb hX hbl hbA hS (vp_off (k := 2) (by omega) (by omega)) dL_law_1325 ?_
  refine lv_aload_n hx hb dL_law_1326 rfl (lv_at hl 0 rfl) ?_
  refine lv_iload_n hx hb dL_law_1327 rfl (lv_at hl 3 rfl) ?_
  refine lv_iconst (v := (3 : Int32)) hx hb dL_law_1328 (by decide) ?_
  refine lv_iadd hx hb dL_law_1329 ?_
  refine va_sld hx hb hX hbl hbA hS (vp_off (k := 3) (by omega) (by omega)) dL_law_1330 ?_
  refine zVi (As := [.int (xs (nI i + (1 : Int32)).toNatClampNeg), .int (xs (nI i + (2 : Int32)).toNatClampNeg), .int (xs (nI i + (3 : Int32)).toNatClampNeg)]) (ci := 8) (bs := wA ca x ad mm ((va_up F.1 8 o.2), F.2.1, F.2.2) M) (bs' := wA ca x ad mm ((va_up F.1 8 o.2), F.2.1, F.2.2) o'.2) ⟨hx, hb, hml, hown, hts⟩ (k_X8_sheet l D ca mm M (xs (nI i + (1 : Int32)).toNatClampNeg) (xs (nI i + (2 : Int32)).toNatClampNeg) (xs (nI i + (3 : Int32)).toNatClampNeg) _ h2) (cwV 3 hts gL_law_X8_sheet rfl rfl rfl (by decide +kernel) ⟨(Nat.le_of_ble_eq_true rfl), (Nat.le_of_ble_eq_true rfl)⟩) hK hA hP hD hS dL_law_1331 rfl hl.1 [18] [0, 1, 2, 3, 4, 5, 6, 7, 8, 9, 10, 11, 12, 13, 14, 15, 16, 17] (show ([18] ++ [0, 1, 2, 3, 4, 5, 6, 7, 8, 9, 10, 11, 12, 13, 14, 15, 16, 17] : List Nat).Perm (List.range 19) by decide) rfl (show ([18] ++ [0, 1, 2, 3, 4, 5, 6, 7, 8, 9, 10, 11, 12, 13, 14, 15, 16, 17] : List Nat).Perm (List.range 19) by decide) rfl rfl rfl rfl rfl rfl (Nat.le_of_ble_eq_true rfl) ⟨(Nat.le_of_ble_eq_true rfl), (Nat.le_of_ble_eq_true rfl)⟩ (fun H locs hP hD hS => ?_)
  refine lv_icmp_eq (tgt := 1471) hx hb dL_law_1334 (by decide) (fun _ => ?_) (fun c1 => absurd he c1)
  exact kk _ _ _ _ _ hR' hl hP hD hS
set_option maxHeartbeats 4000000 in
set_option maxRecDepth 100000 in
theorem law_c39 {p : Program} {l : Launch} {e : Env} {s : State} {m : MethodId} {below : List Frame} {meth : Method} {c : Code} {b L : Nat} {xs : Nat → Int32} {D : va_G} {ca : Nat → ClassId} {x : Nat} {ad : Nat → Nat → Nat} {mm : Nat → Nat} {aS aV aT : Nat → Nat} {F : FS} {M : GS} {i : Nat} (C0 : lw_At p s m meth c b L xs) (hK : va_K D vwCl (TY ca) s) (hAm : Amb aS aV aT (fun q : Nat => s.heap.size ≤ q) s s.heap) (hRS : RSt aS s) (hi : i + 6 ≤ L) (hL : L ≤ 384) (hR : Rel F M)
    (kk : ∀ (F' : FS) (M' : GS) (ls : Array Slot) (H : Heap) (locs : List Loc), Rel F' M' → lv_has ls 4 [(0, .ref b), (1, .ref x), (2, .ref (mm 0)), (3, .int (nI i))] → va_P D vwCl (wA ca x ad mm F' M').flatten H → va_D (fun q : Nat => s.heap.size ≤ q) (wA ca x ad mm F' M').flatten → va_S (fun q : Nat => s.heap.size ≤ q) s.heap H locs → W p l e room_1 s m #[Value.ref b] below meth c H locs 67 1942 (lw_Z below #[Value.ref b] s) (F0 m 1471 ls []))
    (ls : Array Slot) (H : Heap) (locs : List Loc) (hl : lv_has ls 4 [(0, .ref b), (1, .ref x), (2, .ref (mm 0)), (3, .int (nI i))]) (hP : va_P D vwCl (wA ca x ad mm F M).flatten H) (hD : va_D (fun q : Nat => s.heap.size ≤ q) (wA ca x ad mm F M).flatten) (hS : va_S (fun q : Nat => s.heap.size ≤ q) s.heap H locs) : W p l e room_1 s m #[Value.ref b] below meth c H locs 67 1942 (lw_Z below #[Value.ref b] s) (F0 m 1339 ls []) := by
  obtain ⟨hx, hb, hr, hml, hown, hts0, hX, hbl, hlocks, hgv⟩ := id C0
  have hown : s.vm.findClass RL = some m.cls := hown
  have hts : ∀ w ∈ wsL_law, w.before #[Value.ref b] s = true := fun w h => hts0 w (wsL_law_in w h)
  have hA : ∀ q : Nat, s.heap.size ≤ q → (fun q : Nat => s.heap.size ≤ q) q := fun _ h => h
  have hbA : ¬ (fun q : Nat => s.heap.size ≤ q) b := Nat.not_le.mpr hbl
  by_cases g1 : (xs (nI i + (1 : Int32)).toNatClampNeg).toNatClampNeg = 1
  · have hs : ¬ ((xs (nI i + (1 : Int32)).toNatClampNeg) < 0 ∨ 4 ≤ (xs (nI i + (1 : Int32)).toNatClampNeg).toNatClampNeg) → (xs (nI i + (1 : Int32)).toNatClampNeg).toNatClampNeg = 1 := fun _ => g1
    obtain ⟨o, o', h1, h2, he, hR'⟩ := st_lay_1 hR (xs (nI i + (1 : Int32)).toNatClampNeg) (xs (nI i + (2 : Int32)).toNatClampNeg) (xs (nI i + (3 : Int32)).toNatClampNeg) hs
    have hsel : ¬ ((xs (nI i + (1 : Int32)).toNatClampNeg) < 0 ∨ 4 ≤ (xs (nI i + (1 : Int32)).toNatClampNeg).toNatClampNeg) → (va_up (va_up (va_up (va_up (fun _ => none) 0 (some (ad 13 0))) 1 (some (ad 14 0))) 2 (some (ad 15 0))) 3 (some (ad 16 0))) (xs (nI i + (1 : Int32)).toNatClampNeg).toNatClampNeg = some (ad 14 0) := fun z => by rw [hs z]; rfl
    refine lv_aload_n hx hb dL_law_1339 rfl (lv_at hl 1 rfl) ?_
    refine lv_aload_n hx hb dL_law_1340 rfl (lv_at hl 0 rfl) ?_
    refine lv_iload_n hx hb dL_law_1341 rfl (lv_at hl 3 rfl) ?_
    refine lv_iconst (v := (1 : Int32)) hx hb dL_law_1342 (by decide) ?_
    refine lv_iadd hx hb dL_law_1343 ?_
    refine va_sld hx hb hX hbl hbA hS (vp_off (k := 1) (by omega) (by omega)) dL_law_1344 ?_
    refine lv_aload_n hx hb dL_law_1345 rfl (lv_at hl 0 rfl) ?_
    refine lv_iload_n hx hb dL_law_1346 rfl (lv_at hl 3 rfl) ?_
    refine lv_iconst (v := (2 : Int32)) hx hb dL_law_1347 (by decide) ?_
    refine lv_iadd hx hb dL_law_1348 ?_
    refine va_sld hx hb hX hbl hbA hS (vp_off (k := 2) (by omega) (by omega)) dL_law_1349 ?_
    refine lv_aload_n hx hb dL_law_1350 rfl (lv_at hl 0 rfl) ?_
    refine lv_iload_n hx hb dL_law_1351 rfl (lv_at hl 3 rfl) ?_
    refine lv_iconst (v := (3 : Int32)) hx hb dL_law_1352 (by decide) ?_
    refine lv_iadd hx hb dL_law_1353 ?_
    refine va_sld hx hb hX hbl hbA hS (vp_off (k := 3) (by omega) (by omega)) dL_law_1354 ?_
    refine zVi (As := [.int (xs (nI i + (1 : Int32)).toNatClampNeg), .int (xs (nI i + (2 : Int32)).toNatClampNeg), .int (xs (nI i + (3 : Int32)).toNatClampNeg)]) (ci := 7) (bs := wA ca x ad mm F M) (bs' := wA ca x ad mm ((va_up F.1 9 o.2), F.2.1, F.2.2) M) ⟨hx, hb, hml, hown, hts⟩ (k_X7_lay l D ca x (ad 0 0) (ad 1 0) (ad 2 0) (ad 7 0) (ad 9 0) (ad 10 0) (ad 11 0) (ad 12 0) (va_up (va_up (va_up (va_up (fun _ => none) 0 (some (ad 13 0))) 1 (some (ad 14 0))) 2 (some (ad 15 0))) 3 (some (ad 16 0))) (ad 14) (F.2.1 2) (F.1 9) (xs (nI i + (1 : Int32)).toNatClampNeg) (xs (nI i + (2 : Int32)).toNatClampNeg) (xs (nI i + (3 : Int32)).toNatClampNeg) _ (hsel) h1) (cwV 3 hts gL_law_X7_lay rfl rfl rfl (by decide +kernel) ⟨(Nat.le_of_ble_eq_true rfl), (Nat.le_of_ble_eq_true rfl)⟩) hK hA hP hD hS dL_law_1355 rfl hl.1 [0, 13, 15] [1, 2, 3, 4, 5, 6, 7, 8, 9, 10, 11, 12, 14, 16, 17, 18] (show ([0, 13, 15] ++ [1, 2, 3, 4, 5, 6, 7, 8, 9, 10, 11, 12, 14, 16, 17, 18] : List Nat).Perm (List.range 19) by decide) rfl (show ([0, 13, 15] ++ [1, 2, 3, 4, 5, 6, 7, 8, 9, 10, 11, 12, 14, 16, 17, 18] : List Nat).Perm (List.range 19) by decide) rfl rfl rfl rfl rfl rfl (Nat.le_of_ble_eq_true rfl) ⟨(Nat.le_of_ble_eq_true rfl), (Nat.le_of_ble_eq_true rfl)⟩ (fun H locs hP hD hS => ?_)
    refine lv_aload_n hx hb dL_law_1358 rfl (lv_at hl 2 rfl) ?_
    refine lv_aload_n hx hb dL_law_1359 rfl (lv_at hl 0 rfl) ?_
    refine lv_iload_n hx hb dL_law_1360 rfl (lv_at hl 3 rfl) ?_
    refine lv_iconst (v := (1 : Int32)) hx hb dL_law_1361 (by decide) ?_
    refine lv_iadd hx hb dL_law_1362 ?_
    refine va_sld hx hb hX hbl hbA hS (vp_off (k := 1) (by omega) (by omega)) dL_law_1363 ?_
    refine lv_aload_n hx hb dL_law_1364 rfl (lv_at hl 0 rfl) ?_
    refine lv_iload_n hx hb dL_law_1365 rfl (lv_at hl 3 rfl) ?_
    refine lv_iconst (v := (2 : Int32)) hx hb dL_law_1366 (by decide) ?_
    refine lv_iadd hx hb dL_law_1367 ?_
    refine va_sld hx hb hX hbl hbA hS (vp_off (k := 2) (by omega) (by omega)) dL_law_1368 ?_
    refine lv_aload_n hx hb dL_law_1369 rfl (lv_at hl 0 rfl) ?_
    refine lv_iload_n hx hb dL_law_1370 rfl (lv_at hl 3 rfl) ?_
    refine lv_iconst (v := (3 : Int32)) hx hb dL_law_1371 (by decide) ?_
    refine lv_iadd hx hb dL_law_1372 ?_
    refine va_sld hx hb hX hbl hbA hS (vp_off (k := 3) (by omega) (by omega)) dL_law_1373 ?_
    refine zVi (As := [.int (xs (nI i + (1 : Int32)).toNatClampNeg), .int (xs (nI i + (2 : Int32)).toNatClampNeg), .int (xs (nI i + (3 : Int32)).toNatClampNeg)]) (ci := 8) (bs := wA ca x ad mm ((va_up F.1 9 o.2), F.2.1, F.2.2) M) (bs' := wA ca x ad mm ((va_up F.1 9 o.2), F.2.1, F.2.2) o'.2) ⟨hx, hb, hml, hown, hts⟩ (k_X8_lay l D ca mm M (xs (nI i + (1 : Int32)).toNatClampNeg) (xs (nI i + (2 : Int32)).toNatClampNeg) (xs (nI i + (3 : Int32)).toNatClampNeg) _ h2) (cwV 3 hts gL_law_X8_lay rfl rfl rfl (by decide +kernel) ⟨(Nat.le_of_ble_eq_true rfl), (Nat.le_of_ble_eq_true rfl)⟩) hK hA hP hD hS dL_law_1374 rfl hl.1 [18] [0, 1, 2, 3, 4, 5, 6, 7, 8, 9, 10, 11, 12, 13, 14, 15, 16, 17] (show ([18] ++ [0, 1, 2, 3, 4, 5, 6, 7, 8, 9, 10, 11, 12, 13, 14, 15, 16, 17] : List Nat).Perm (List.range 19) by decide) rfl (show ([18] ++ [0, 1, 2, 3, 4, 5, 6, 7, 8, 9, 10, 11, 12, 13, 14, 15, 16, 17] : List Nat).Perm (List.range 19) by decide) rfl rfl rfl rfl rfl rfl (Nat.le_of_ble_eq_true rfl) ⟨(Nat.le_of_ble_eq_true rfl), (Nat.le_of_ble_eq_true rfl)⟩ (fun H locs hP hD hS => ?_)
    refine lv_icmp_eq (tgt := 1471) hx hb dL_law_1377 (by decide) (fun _ => ?_) (fun c1 => absurd he c1)
    exact kk _ _ _ _ _ hR' hl hP hD hS
  by_cases g2 : (xs (nI i + (1 : Int32)).toNatClampNeg).toNatClampNeg = 2
  · have hs : ¬ ((xs (nI i + (1 : Int32)).toNatClampNeg) < 0 ∨ 4 ≤ (xs (nI i + (1 : Int32)).toNatClampNeg).toNatClampNeg) → (xs (nI i + (1 : Int32)).toNatClampNeg).toNatClampNeg = 2 := fun _ => g2
    obtain ⟨o, o', h1, h2, he, hR'⟩ := st_lay_2 hR (xs (nI i + (1 : Int32)).toNatClampNeg) (xs (nI i + (2 : Int32)).toNatClampNeg) (xs (nI i + (3 : Int32)).toNatClampNeg) hs
    have hsel : ¬ ((xs (nI i + (1 : Int32)).toNatClampNeg) < 0 ∨ 4 ≤ (xs (nI i + (1 : Int32)).toNatClampNeg).toNatClampNeg) → (va_up (va_up (va_up (va_up (fun _ => none) 0 (some (ad 13 0))) 1 (some (ad 14 0))) 2 (some (ad 15 0))) 3 (some (ad 16 0))) (xs (nI i + (1 : Int32)).toNatClampNeg).toNatClampNeg = some (ad 15 0) := fun z => by rw [hs z]; rfl
    refine lv_aload_n hx hb dL_law_1339 rfl (lv_at hl 1 rfl) ?_
    refine lv_aload_n hx hb dL_law_1340 rfl (lv_at hl 0 rfl) ?_
    refine lv_iload_n hx hb dL_law_1341 rfl (lv_at hl 3 rfl) ?_
    refine lv_iconst (v := (1 : Int32)) hx hb dL_law_1342 (by decide) ?_
    refine lv_iadd hx hb dL_law_1343 ?_
    refine va_sld hx hb hX hbl hbA hS (vp_off (k := 1) (by omega) (by omega)) dL_law_1344 ?_
    refine lv_aload_n hx hb dL_law_1345 rfl (lv_at hl 0 rfl) ?_
    refine lv_iload_n hx hb dL_law_1346 rfl (lv_at hl 3 rfl) ?_
    refine lv_iconst (v := (2 : Int32)) hx hb dL_law_1347 (by decide) ?_
    refine lv_iadd hx hb dL_law_1348 ?_
    refine va_sld hx hb hX hbl hbA hS (vp_off (k := 2) (by omega) (by omega)) dL_law_1349 ?_
    refine lv_aload_n hx hb dL_law_1350 rfl (lv_at hl 0 rfl) ?_
    refine lv_iload_n hx hb dL_law_1351 rfl (lv_at hl 3 rfl) ?_
    refine lv_iconst (v := (3 : Int32)) hx hb dL_law_1352 (by decide) ?_
    refine lv_iadd hx hb dL_law_1353 ?_
    refine va_sld hx hb hX hbl hbA hS (vp_off (k := 3) (by omega) (by omega)) dL_law_1354 ?_
    refine zVi (As := [.int (xs (nI i + (1 : Int32)).toNatClampNeg), .int (xs (nI i + (2 : Int32)).toNatClampNeg), .int (xs (nI i + (3 : Int32)).toNatClampNeg)]) (ci := 7) (bs := wA ca x ad mm F M) (bs' := wA ca x ad mm ((va_up F.1 10 o.2), F.2.1, F.2.2) M) ⟨hx, hb, hml, hown, hts⟩ (k_X7_lay l D ca x (ad 0 0) (ad 1 0) (ad 2 0) (ad 7 0) (ad 9 0) (ad 10 0) (ad 11 0) (ad 12 0) (va_up (va_up (va_up (va_up (fun _ => none) 0 (some (ad 13 0))) 1 (some (ad 14 0))) 2 (some (ad 15 0))) 3 (some (ad 16 0))) (ad 15) (F.2.1 2) (F.1 10) (xs (nI i + (1 : Int32)).toNatClampNeg) (xs (nI i + (2 : Int32)).toNatClampNeg) (xs (nI i + (3 : Int32)).toNatClampNeg) _ (hsel) h1) (cwV 3 hts gL_law_X7_lay rfl rfl rfl (by decide +kernel) ⟨(Nat.le_of_ble_eq_true rfl), (Nat.le_of_ble_eq_true rfl)⟩) hK hA hP hD hS dL_law_1355 rfl hl.1 [0, 13, 16] [1, 2, 3, 4, 5, 6, 7, 8, 9, 10, 11, 12, 14, 15, 17, 18] (show ([0, 13, 16] ++ [1, 2, 3, 4, 5, 6, 7, 8, 9, 10, 11, 12, 14, 15, 17, 18] : List Nat).Perm (List.range 19) by decide) rfl (show ([0, 13, 16] ++ [1, 2, 3, 4, 5, 6, 7, 8, 9, 10, 11, 12, 14, 15, 17, 18] : List Nat).Perm (List.range 19) by decide) rfl rfl rfl rfl rfl rfl (Nat.le_of_ble_eq_true rfl) ⟨(Nat.le_of_ble_eq_true rfl), (Nat.le_of_ble_eq_true rfl)⟩ (fun H locs hP hD hS => ?_)
    refine lv_aload_n hx hb dL_law_1358 rfl (lv_at hl 2 rfl) ?_
    refine lv_aload_n hx hb dL_law_1359 rfl (lv_at hl 0 rfl) ?_
    refine lv_iload_n hx hb dL_law_1360 rfl (lv_at hl 3 rfl) ?_
    refine lv_iconst (v := (1 : Int32)) hx hb dL_law_1361 (by decide) ?_
    refine lv_iadd hx hb dL_law_1362 ?_
    refine va_sld hx hb hX hbl hbA hS (vp_off (k := 1) (by omega) (by omega)) dL_law_1363 ?_
    refine lv_aload_n hx hb dL_law_1364 rfl (lv_at hl 0 rfl) ?_
    refine lv_iload_n hx hb dL_law_1365 rfl (lv_at hl 3 rfl) ?_
    refine lv_iconst (v := (2 : Int32)) hx hb dL_law_1366 (by decide) ?_
    refine lv_iadd hx hb dL_law_1367 ?_
    refine va_sld hx hb hX hbl hbA hS (vp_off (k := 2) (by omega) (by omega)) dL_law_1368 ?_
    refine lv_aload_n hx hb dL_law_1369 rfl (lv_at hl 0 rfl) ?_
    refine lv_iload_n hx hb dL_law_1370 rfl (lv_at hl 3 rfl) ?_
    refine lv_iconst (v := (3 : Int32)) hx hb dL_law_1371 (by decide) ?_
    refine lv_iadd hx hb dL_law_1372 ?_
    refine va_sld hx hb hX hbl hbA hS (vp_off (k := 3) (by omega) (by omega)) dL_law_1373 ?_
    refine zVi (As := [.int (xs (nI i + (1 : Int32)).toNatClampNeg), .int (xs (nI i + (2 : Int32)).toNatClampNeg), .int (xs (nI i + (3 : Int32)).toNatClampNeg)]) (ci := 8) (bs := wA ca x ad mm ((va_up F.1 10 o.2), F.2.1, F.2.2) M) (bs' := wA ca x ad mm ((va_up F.1 10 o.2), F.2.1, F.2.2) o'.2) ⟨hx, hb, hml, hown, hts⟩ (k_X8_lay l D ca mm M (xs (nI i + (1 : Int32)).toNatClampNeg) (xs (nI i + (2 : Int32)).toNatClampNeg) (xs (nI i + (3 : Int32)).toNatClampNeg) _ h2) (cwV 3 hts gL_law_X8_lay rfl rfl rfl (by decide +kernel) ⟨(Nat.le_of_ble_eq_true rfl), (Nat.le_of_ble_eq_true rfl)⟩) hK hA hP hD hS dL_law_1374 rfl hl.1 [18] [0, 1, 2, 3, 4, 5, 6, 7, 8, 9, 10, 11, 12, 13, 14, 15, 16, 17] (show ([18] ++ [0, 1, 2, 3, 4, 5, 6, 7, 8, 9, 10, 11, 12, 13, 14, 15, 16, 17] : List Nat).Perm (List.range 19) by decide) rfl (show ([18] ++ [0, 1, 2, 3, 4, 5, 6, 7, 8, 9, 10, 11, 12, 13, 14, 15, 16, 17] : List Nat).Perm (List.range 19) by decide) rfl rfl rfl rfl rfl rfl (Nat.le_of_ble_eq_true rfl) ⟨(Nat.le_of_ble_eq_true rfl), (Nat.le_of_ble_eq_true rfl)⟩ (fun H locs hP hD hS => ?_)
    refine lv_icmp_eq (tgt := 1471) hx hb dL_law_1377 (by decide) (fun _ => ?_) (fun c1 => absurd he c1)
    exact kk _ _ _ _ _ hR' hl hP hD hS
  by_cases g3 : (xs (nI i + (1 : Int32)).toNatClampNeg).toNatClampNeg = 3
  · have hs : ¬ ((xs (nI i + (1 : Int32)).toNatClampNeg) < 0 ∨ 4 ≤ (xs (nI i + (1 : Int32)).toNatClampNeg).toNatClampNeg) → (xs (nI i + (1 : Int32)).toNatClampNeg).toNatClampNeg = 3 := fun _ => g3
    obtain ⟨o, o', h1, h2, he, hR'⟩ := st_lay_3 hR (xs (nI i + (1 : Int32)).toNatClampNeg) (xs (nI i + (2 : Int32)).toNatClampNeg) (xs (nI i + (3 : Int32)).toNatClampNeg) hs
    have hsel : ¬ ((xs (nI i + (1 : Int32)).toNatClampNeg) < 0 ∨ 4 ≤ (xs (nI i + (1 : Int32)).toNatClampNeg).toNatClampNeg) → (va_up (va_up (va_up (va_up (fun _ => none) 0 (some (ad 13 0))) 1 (some (ad 14 0))) 2 (some (ad 15 0))) 3 (some (ad 16 0))) (xs (nI i + (1 : Int32)).toNatClampNeg).toNatClampNeg = some (ad 16 0) := fun z => by rw [hs z]; rfl
    refine lv_aload_n hx hb dL_law_1339 rfl (lv_at hl 1 rfl) ?_
    refine lv_aload_n hx hb dL_law_1340 rfl (lv_at hl 0 rfl) ?_
    refine lv_iload_n hx hb dL_law_1341 rfl (lv_at hl 3 rfl) ?_
    refine lv_iconst (v := (1 : Int32)) hx hb dL_law_1342 (by decide) ?_
    refine lv_iadd hx hb dL_law_1343 ?_
    refine va_sld hx hb hX hbl hbA hS (vp_off (k := 1) (by omega) (by omega)) dL_law_1344 ?_
    refine lv_aload_n hx hb dL_law_1345 rfl (lv_at hl 0 rfl) ?_
    refine lv_iload_n hx hb dL_law_1346 rfl (lv_at hl 3 rfl) ?_
    refine lv_iconst (v := (2 : Int32)) hx hb dL_law_1347 (by decide) ?_
    refine lv_iadd hx hb dL_law_1348 ?_
    refine va_sld hx hb hX hbl hbA hS (vp_off (k := 2) (by omega) (by omega)) dL_law_1349 ?_
    refine lv_aload_n hx hb dL_law_1350 rfl (lv_at hl 0 rfl) ?_
    refine lv_iload_n hx hb dL_law_1351 rfl (lv_at hl 3 rfl) ?_
    refine lv_iconst (v := (3 : Int32)) hx hb dL_law_1352 (by decide) ?_
    refine lv_iadd hx hb dL_law_1353 ?_
    refine va_sld hx hb hX hbl hbA hS (vp_off (k := 3) (by omega) (by omega)) dL_law_1354 ?_
    refine zVi (As := [.int (xs (nI i + (1 : Int32)).toNatClampNeg), .int (xs (nI i + (2 : Int32)).toNatClampNeg), .int (xs (nI i + (3 : Int32)).toNatClampNeg)]) (ci := 7) (bs := wA ca x ad mm F M) (bs' := wA ca x ad mm ((va_up F.1 11 o.2), F.2.1, F.2.2) M) ⟨hx, hb, hml, hown, hts⟩ (k_X7_lay l D ca x (ad 0 0) (ad 1 0) (ad 2 0) (ad 7 0) (ad 9 0) (ad 10 0) (ad 11 0) (ad 12 0) (va_up (va_up (va_up (va_up (fun _ => none) 0 (some (ad 13 0))) 1 (some (ad 14 0))) 2 (some (ad 15 0))) 3 (some (ad 16 0))) (ad 16) (F.2.1 2) (F.1 11) (xs (nI i + (1 : Int32)).toNatClampNeg) (xs (nI i + (2 : Int32)).toNatClampNeg) (xs (nI i + (3 : Int32)).toNatClampNeg) _ (hsel) h1) (cwV 3 hts gL_law_X7_lay rfl rfl rfl (by decide +kernel) ⟨(Nat.le_of_ble_eq_true rfl), (Nat.le_of_ble_eq_true rfl)⟩) hK hA hP hD hS dL_law_1355 rfl hl.1 [0, 13, 17] [1, 2, 3, 4, 5, 6, 7, 8, 9, 10, 11, 12, 14, 15, 16, 18] (show ([0, 13, 17] ++ [1, 2, 3, 4, 5, 6, 7, 8, 9, 10, 11, 12, 14, 15, 16, 18] : List Nat).Perm (List.range 19) by decide) rfl (show ([0, 13, 17] ++ [1, 2, 3, 4, 5, 6, 7, 8, 9, 10, 11, 12, 14, 15, 16, 18] : List Nat).Perm (List.range 19) by decide) rfl rfl rfl rfl rfl rfl (Nat.le_of_ble_eq_true rfl) ⟨(Nat.le_of_ble_eq_true rfl), (Nat.le_of_ble_eq_true rfl)⟩ (fun H locs hP hD hS => ?_)
    refine lv_aload_n hx hb dL_law_1358 rfl (lv_at hl 2 rfl) ?_
    refine lv_aload_n hx hb dL_law_1359 rfl (lv_at hl 0 rfl) ?_
    refine lv_iload_n hx hb dL_law_1360 rfl (lv_at hl 3 rfl) ?_
    refine lv_iconst (v := (1 : Int32)) hx hb dL_law_1361 (by decide) ?_
    refine lv_iadd hx hb dL_law_1362 ?_
    refine va_sld hx hb hX hbl hbA hS (vp_off (k := 1) (by omega) (by omega)) dL_law_1363 ?_
    refine lv_aload_n hx hb dL_law_1364 rfl (lv_at hl 0 rfl) ?_
    refine lv_iload_n hx hb dL_law_1365 rfl (lv_at hl 3 rfl) ?_
    refine lv_iconst (v := (2 : Int32)) hx hb dL_law_1366 (by decide) ?_
    refine lv_iadd hx hb dL_law_1367 ?_
    refine va_sld hx hb hX hbl hbA hS (vp_off (k := 2) (by omega) (by omega)) dL_law_1368 ?_
    refine lv_aload_n hx hb dL_law_1369 rfl (lv_at hl 0 rfl) ?_
    refine lv_iload_n hx hb dL_law_1370 rfl (lv_at hl 3 rfl) ?_
    refine lv_iconst (v := (3 : Int32)) hx hb dL_law_1371 (by decide) ?_
    refine lv_iadd hx hb dL_law_1372 ?_
    refine va_sld hx hb hX hbl hbA hS (vp_off (k := 3) (by omega) (by omega)) dL_law_1373 ?_
    refine zVi (As := [.int (xs (nI i + (1 : Int32)).toNatClampNeg), .int (xs (nI i + (2 : Int32)).toNatClampNeg), .int (xs (nI i + (3 : Int32)).toNatClampNeg)]) (ci := 8) (bs := wA ca x ad mm ((va_up F.1 11 o.2), F.2.1, F.2.2) M) (bs' := wA ca x ad mm ((va_up F.1 11 o.2), F.2.1, F.2.2) o'.2) ⟨hx, hb, hml, hown, hts⟩ (k_X8_lay l D ca mm M (xs (nI i + (1 : Int32)).toNatClampNeg) (xs (nI i + (2 : Int32)).toNatClampNeg) (xs (nI i + (3 : Int32)).toNatClampNeg) _ h2) (cwV 3 hts gL_law_X8_lay rfl rfl rfl (by decide +kernel) ⟨(Nat.le_of_ble_eq_true rfl), (Nat.le_of_ble_eq_true rfl)⟩) hK hA hP hD hS dL_law_1374 rfl hl.1 [18] [0, 1, 2, 3, 4, 5, 6, 7, 8, 9, 10, 11, 12, 13, 14, 15, 16, 17] (show ([18] ++ [0, 1, 2, 3, 4, 5, 6, 7, 8, 9, 10, 11, 12, 13, 14, 15, 16, 17] : List Nat).Perm (List.range 19) by decide) rfl (show ([18] ++ [0, 1, 2, 3, 4, 5, 6, 7, 8, 9, 10, 11, 12, 13, 14, 15, 16, 17] : List Nat).Perm (List.range 19) by decide) rfl rfl rfl rfl rfl rfl (Nat.le_of_ble_eq_true rfl) ⟨(Nat.le_of_ble_eq_true rfl), (Nat.le_of_ble_eq_true rfl)⟩ (fun H locs hP hD hS => ?_)
    refine lv_icmp_eq (tgt := 1471) hx hb dL_law_1377 (by decide) (fun _ => ?_) (fun c1 => absurd he c1)
    exact kk _ _ _ _ _ hR' hl hP hD hS
  have hs : ¬ ((xs (nI i + (1 : Int32)).toNatClampNeg) < 0 ∨ 4 ≤ (xs (nI i + (1 : Int32)).toNatClampNeg).toNatClampNeg) → (xs (nI i + (1 : Int32)).toNatClampNeg).toNatClampNeg = 0 := fun z => by
    have z2 := fun h => z (Or.inr h)
    omega
  obtain ⟨o, o', h1, h2, he, hR'⟩ := st_lay_0 hR (xs (nI i + (1 : Int32)).toNatClampNeg) (xs (nI i + (2 : Int32)).toNatClampNeg) (xs (nI i + (3 : Int32)).toNatClampNeg) hs
  have hsel : ¬ ((xs (nI i + (1 : Int32)).toNatClampNeg) < 0 ∨ 4 ≤ (xs (nI i + (1 : Int32)).toNatClampNeg).toNatClampNeg) → (va_up (va_up (va_up (va_up (fun _ => none) 0 (some (ad 13 0))) 1 (some (ad 14 0))) 2 (some (ad 15 0))) 3 (some (ad 16 0))) (xs (nI i + (1 : Int32)).toNatClampNeg).toNatClampNeg = some (ad 13 0) := fun z => by rw [hs z]; rfl
  refine lv_aload_n hx hb dL_law_1339 rfl (lv_at hl 1 rfl) ?_
  refine lv_aload_n hx hb dL_law_1340 rfl (lv_at hl 0 rfl) ?_
  refine lv_iload_n hx hb dL_law_1341 rfl (lv_at hl 3 rfl) ?_
  refine lv_iconst (v := (1 : Int32)) hx hb dL_law_1342 (by decide) ?_
  refine lv_iadd hx hb dL_law_1343 ?_
  refine va_sld hx hb hX hbl hbA hS (vp_off (k := 1) (by omega) (by omega)) dL_law_1344 ?_
  refine lv_aload_n hx hb dL_law_1345 rfl (lv_at hl 0 rfl) ?_
  refine lv_iload_n hx hb dL_law_1346 rfl (lv_at hl 3 rfl) ?_
  refine lv_iconst (v := (2 : Int32)) hx hb dL_law_1347 (by decide) ?_
  refine lv_iadd hx hb dL_law_1348 ?_
  refine va_sld hx hb hX hbl hbA hS (vp_off (k := 2) (by omega) (by omega)) dL_law_1349 ?_
  refine lv_aload_n hx hb dL_law_1350 rfl (lv_at hl 0 rfl) ?_
  refine lv_iload_n hx hb dL_law_1351 rfl (lv_at hl 3 rfl) ?_
  refine lv_iconst (v := (3 : Int32)) hx hb dL_law_1352 (by decide) ?_
  refine lv_iadd hx hb dL_law_1353 ?_
  refine va_sld hx hb hX hbl hbA hS (vp_off (k := 3) (by omega) (by omega)) dL_law_1354 ?_
  refine zVi (As := [.int (xs (nI i + (1 : Int32)).toNatClampNeg), .int (xs (nI i + (2 : Int32)).toNatClampNeg), .int (xs (nI i + (3 : Int32)).toNatClampNeg)]) (ci := 7) (bs := wA ca x ad mm F M) (bs' := wA ca x ad mm ((va_up F.1 8 o.2), F.2.1, F.2.2) M) ⟨hx, hb, hml, hown, hts⟩ (k_X7_lay l D ca x (ad 0 0) (ad 1 0) (ad 2 0) (ad 7 0) (ad 9 0) (ad 10 0) (ad 11 0) (ad 12 0) (va_up (va_up (va_up (va_up (fun _ => none) 0 (some (ad 13 0))) 1 (some (ad 14 0))) 2 (some (ad 15 0))) 3 (some (ad 16 0))) (ad 13) (F.2.1 2) (F.1 8) (xs (nI i + (1 : Int32)).toNatClampNeg) (xs (nI i + (2 : Int32)).toNatClampNeg) (xs (nI i + (3 : Int32)).toNatClampNeg) _ (hsel) h1) (cwV 3 hts gL_law_X7_lay rfl rfl rfl (by decide +kernel) ⟨(Nat.le_of_ble_eq_true rfl), (Nat.le_of_ble_eq_true rfl)⟩) hK hA hP hD hS dL_law_1355 rfl hl.1 [0, 13, 14] [1, 2, 3, 4, 5, 6, 7, 8, 9, 10, 11, 12, 15, 16, 17, 18] (show ([0, 13, 14] ++ [1, 2, 3, 4, 5, 6, 7, 8, 9, 10, 11, 12, 15, 16, 17, 18] : List Nat).Perm (List.range 19) by decide) rfl (show ([0, 13, 14] ++ [1, 2, 3, 4, 5, 6, 7, 8, 9, 10, 11, 12, 15, 16, 17, 18] : List Nat).Perm (List.range 19) by decide) rfl rfl rfl rfl rfl rfl (Nat.le_of_ble_eq_true rfl) ⟨(Nat.le_of_ble_eq_true rfl), (Nat.le_of_ble_eq_true rfl)⟩ (fun H locs hP hD hS => ?_)
  refine lv_aload_n hx hb dL_law_1358 rfl (lv_at hl 2 rfl) ?_
  refine lv_aload_n hx hb dL_law_1359 rfl (lv_at hl 0 rfl) ?_
  refine lv_iload_n hx hb dL_law_1360 rfl (lv_at hl 3 rfl) ?_
  refine lv_iconst (v := (1 : Int32)) hx hb dL_law_1361 (by decide) ?_
  refine lv_iadd hx hb dL_law_1362 ?_
  refine va_sld hx hb hX hbl hbA hS (vp_off (k := 1) (by omega) (by omega)) dL_law_1363 ?_
  refine lv_aload_n hx hb dL_law_1364 rfl (lv_at hl 0 rfl) ?_
  refine lv_iload_n hx hb dL_law_1365 rfl (lv_at hl 3 rfl) ?_
  refine lv_iconst (v := (2 : Int32)) hx hb dL_law_1366 (by decide) ?_
  refine lv_iadd hx hb dL_law_1367 ?_
  refine va_sld hx hb hX hbl hbA hS (vp_off (k := 2) (by omega) (by omega)) dL_law_1368 ?_
  refine lv_aload_n hx hb dL_law_1369 rfl (lv_at hl 0 rfl) ?_
  refine lv_iload_n hx hb dL_law_1370 rfl (lv_at hl 3 rfl) ?_
  refine lv_iconst (v := (3 : Int32)) hx hb dL_law_1371 (by decide) ?_
  refine lv_iadd hx hb dL_law_1372 ?_
  refine va_sld hx hb hX hbl hbA hS (vp_off (k := 3) (by omega) (by omega)) dL_law_1373 ?_
  refine zVi (As := [.int (xs (nI i + (1 : Int32)).toNatClampNeg), .int (xs (nI i + (2 : Int32)).toNatClampNeg), .int (xs (nI i + (3 : Int32)).toNatClampNeg)]) (ci := 8) (bs := wA ca x ad mm ((va_up F.1 8 o.2), F.2.1, F.2.2) M) (bs' := wA ca x ad mm ((va_up F.1 8 o.2), F.2.1, F.2.2) o'.2) ⟨hx, hb, hml, hown, hts⟩ (k_X8_lay l D ca mm M (xs (nI i + (1 : Int32)).toNatClampNeg) (xs (nI i + (2 : Int32)).toNatClampNeg) (xs (nI i + (3 : Int32)).toNatClampNeg) _ h2) (cwV 3 hts gL_law_X8_lay rfl rfl rfl (by decide +kernel) ⟨(Nat.le_of_ble_eq_true rfl), (Nat.le_of_ble_eq_true rfl)⟩) hK hA hP hD hS dL_law_1374 rfl hl.1 [18] [0, 1, 2, 3, 4, 5, 6, 7, 8, 9, 10, 11, 12, 13, 14, 15, 16, 17] (show ([18] ++ [0, 1, 2, 3, 4, 5, 6, 7, 8, 9, 10, 11, 12, 13, 14, 15, 16, 17] : List Nat).Perm (List.range 19) by decide) rfl (show ([18] ++ [0, 1, 2, 3, 4, 5, 6, 7, 8, 9, 10, 11, 12, 13, 14, 15, 16, 17] : List Nat).Perm (List.range 19) by decide) rfl rfl rfl rfl rfl rfl (Nat.le_of_ble_eq_true rfl) ⟨(Nat.le_of_ble_eq_true rfl), (Nat.le_of_ble_eq_true rfl)⟩ (fun H locs hP hD hS => ?_)
  refine lv_icmp_eq (tgt := 1471) hx hb dL_law_1377 (by decide) (fun _ => ?_) (fun c1 => absurd he c1)
  exact kk _ _ _ _ _ hR' hl hP hD hS
set_option maxHeartbeats 4000000 in
set_option maxRecDepth 100000 in
theorem law_c40 {p : Program} {l : Launch} {e : Env} {s : State} {m : MethodId} {below : List Frame} {meth : Method} {c : Code} {b L : Nat} {xs : Nat → Int32} {D : va_G} {ca : Nat → ClassId} {x : Nat} {ad : Nat → Nat → Nat} {mm : Nat → Nat} {aS aV aT : Nat → Nat} {F : FS} {M : GS} {i : Nat} (C0 : lw_At p s m meth c b L xs) (hK : va_K D vwCl (TY ca) s) (hAm : Amb aS aV aT (fun q : Nat => s.heap.size ≤ q) s s.heap) (hRS : RSt aS s) (hi : i + 6 ≤ L) (hL : L ≤ 384) (hR : Rel F M)
    (kk : ∀ (F' : FS) (M' : GS) (ls : Array Slot) (H : Heap) (locs : List Loc), Rel F' M' → lv_has ls 4 [(0, .ref b), (1, .ref x), (2, .ref (mm 0)), (3, .int (nI i))] → va_P D vwCl (wA ca x ad mm F' M').flatten H → va_D (fun q : Nat => s.heap.size ≤ q) (wA ca x ad mm F' M').flatten → va_S (fun q : Nat => s.heap.size ≤ q) s.heap H locs → W p l e room_1 s m #[Value.ref b] below meth c H locs 67 1942 (lw_Z below #[Value.ref b] s) (F0 m 1471 ls []))
    (ls : Array Slot) (H : Heap) (locs : List Loc) (hl : lv_has ls 4 [(0, .ref b), (1, .ref x), (2, .ref (mm 0)), (3, .int (nI i))]) (hP : va_P D vwCl (wA ca x ad mm F M).flatten H) (hD : va_D (fun q : Nat => s.heap.size ≤ q) (wA ca x ad mm F M).flatten) (hS : va_S (fun q : Nat => s.heap.size ≤ q) s.heap H locs) : W p l e room_1 s m #[Value.ref b] below meth c H locs 67 1942 (lw_Z below #[Value.ref b] s) (F0 m 1382 ls []) := by
  obtain ⟨hx, hb, hr, hml, hown, hts0, hX, hbl, hlocks, hgv⟩ := id C0
  have hown : s.vm.findClass RL = some m.cls := hown
  have hts : ∀ w ∈ wsL_law, w.before #[Value.ref b] s = true := fun w h => hts0 w (wsL_law_in w h)
  have hA : ∀ q : Nat, s.heap.size ≤ q → (fun q : Nat => s.heap.size ≤ q) q := fun _ h => h
  have hbA : ¬ (fun q : Nat => s.heap.size ≤ q) b := Nat.not_le.mpr hbl
  by_cases g1 : (xs (nI i + (1 : Int32)).toNatClampNeg).toNatClampNeg = 1
  · have hs : ¬ ((xs (nI i + (1 : Int32)).toNatClampNeg) < 0 ∨ 4 ≤ (xs (nI i + (1 : Int32)).toNatClampNeg).toNatClampNeg) → (xs (nI i + (1 : Int32)).toNatClampNeg).toNatClampNeg = 1 := fun _ => g1
    obtain ⟨o, o', h1, h2, he, hR'⟩ := st_read_1 hR (xs (nI i + (1 : Int32)).toNatClampNeg) (xs (nI i + (2 : Int32)).toNatClampNeg) (xs (nI i + (3 : Int32)).toNatClampNeg) (xs (nI i + (4 : Int32)).toNatClampNeg) hs
    have hsel : ¬ ((xs (nI i + (1 : Int32)).toNatClampNeg) < 0 ∨ 4 ≤ (xs (nI i + (1 : Int32)).toNatClampNeg).toNatClampNeg) → (va_up (va_up (va_up (va_up (fun _ => none) 0 (some (ad 13 0))) 1 (some (ad 14 0))) 2 (some (ad 15 0))) 3 (some (ad 16 0))) (xs (nI i + (1 : Int32)).toNatClampNeg).toNatClampNeg = some (ad 14 0) := fun z => by rw [hs z]; rfl
    refine lv_aload_n hx hb dL_law_1382 rfl (lv_at hl 1 rfl) ?_
    refine lv_aload_n hx hb dL_law_1383 rfl (lv_at hl 0 rfl) ?_
    refine lv_iload_n hx hb dL_law_1384 rfl (lv_at hl 3 rfl) ?_
    refine lv_iconst (v := (1 : Int32)) hx hb dL_law_1385 (by decide) ?_
    refine lv_iadd hx hb dL_law_1386 ?_
    refine va_sld hx hb hX hbl hbA hS (vp_off (k := 1) (by omega) (by omega)) dL_law_1387 ?_
    refine lv_aload_n hx hb dL_law_1388 rfl (lv_at hl 0 rfl) ?_
    refine lv_iload_n hx hb dL_law_1389 rfl (lv_at hl 3 rfl) ?_
    refine lv_iconst (v := (2 : Int32)) hx hb dL_law_1390 (by decide) ?_
    refine lv_iadd hx hb dL_law_1391 ?_
    refine va_sld hx hb hX hbl hbA hS (vp_off (k := 2) (by omega) (by omega)) dL_law_1392 ?_
    refine lv_aload_n hx hb dL_law_1393 rfl (lv_at hl 0 rfl) ?_
    refine lv_iload_n hx hb dL_law_1394 rfl (lv_at hl 3 rfl) ?_
    refine lv_iconst (v := (3 : Int32)) hx hb dL_law_1395 (by decide) ?_
    refine lv_iadd hx hb dL_law_1396 ?_
    refine va_sld hx hb hX hbl hbA hS (vp_off (k := 3) (by omega) (by omega)) dL_law_1397 ?_
    refine lv_aload_n hx hb dL_law_1398 rfl (lv_at hl 0 rfl) ?_
    refine lv_iload_n hx hb dL_law_1399 rfl (lv_at hl 3 rfl) ?_
    refine lv_iconst (v := (4 : Int32)) hx hb dL_law_1400 (by decide) ?_
    refine lv_iadd hx hb dL_law_1401 ?_
    refine va_sld hx hb hX hbl hbA hS (vp_off (k := 4) (by omega) (by omega)) dL_law_1402 ?_
    refine zVi (As := [.int (xs (nI i + (1 : Int32)).toNatClampNeg), .int (xs (nI i + (2 : Int32)).toNatClampNeg), .int (xs (nI i + (3 : Int32)).toNatClampNeg), .int (xs (nI i + (4 : Int32)).toNatClampNeg)]) (ci := 7) (bs := wA ca x ad mm F M) (bs' := wA ca x ad mm ((va_up (va_up F.1 0 o.2.2.1) 1 o.2.2.2), (va_up F.2.1 2 o.2.1), F.2.2) M) ⟨hx, hb, hml, hown, hts⟩ (k_X7_read l D ca x (ad 2 0) (ad 7 0) (ad 9 0) (ad 10 0) (ad 11 0) (ad 0) (ad 1) (ad 12 0) (va_up (va_up (va_up (va_up (fun _ => none) 0 (some (ad 13 0))) 1 (some (ad 14 0))) 2 (some (ad 15 0))) 3 (some (ad 16 0))) (ad 14) (F.2.1 2) (F.1 0) (F.1 1) (F.1 9) (xs (nI i + (1 : Int32)).toNatClampNeg) (xs (nI i + (2 : Int32)).toNatClampNeg) (xs (nI i + (3 : Int32)).toNatClampNeg) (xs (nI i + (4 : Int32)).toNatClampNeg) _ (hsel) h1) (cwV 4 hts gL_law_X7_read rfl rfl rfl (by decide +kernel) ⟨(Nat.le_of_ble_eq_true rfl), (Nat.le_of_ble_eq_true rfl)⟩) hK hA hP hD hS dL_law_1403 rfl hl.1 [0, 1, 2, 13, 15] [3, 4, 5, 6, 7, 8, 9, 10, 11, 12, 14, 16, 17, 18] (show ([0, 1, 2, 13, 15] ++ [3, 4, 5, 6, 7, 8, 9, 10, 11, 12, 14, 16, 17, 18] : List Nat).Perm (List.range 19) by decide) rfl (show ([0, 1, 2, 13, 15] ++ [3, 4, 5, 6, 7, 8, 9, 10, 11, 12, 14, 16, 17, 18] : List Nat).Perm (List.range 19) by decide) rfl rfl rfl rfl rfl rfl (Nat.le_of_ble_eq_true rfl) ⟨(Nat.le_of_ble_eq_true rfl), (Nat.le_of_ble_eq_true rfl)⟩ (fun H locs hP hD hS => ?_)
    refine lv_aload_n hx hb dL_law_1406 rfl (lv_at hl 2 rfl) ?_
    refine lv_aload_n hx hb dL_law_1407 rfl (lv_at hl 0 rfl) ?_
    refine lv_iload_n hx hb dL_law_1408 rfl (lv_at hl 3 rfl) ?_
    refine lv_iconst (v := (1 : Int32)) hx hb dL_law_1409 (by decide) ?_
    refine lv_iadd hx hb dL_law_1410 ?_
    refine va_sld hx hb hX hbl hbA hS (vp_off (k := 1) (by omega) (by omega)) dL_law_1411 ?_
    refine lv_aload_n hx hb dL_law_1412 rfl (lv_at hl 0 rfl) ?_
    refine lv_iload_n hx hb dL_law_1413 rfl (lv_at hl 3 rfl) ?_
    refine lv_iconst (v := (2 : Int32)) hx hb dL_law_1414 (by decide) ?_
    refine lv_iadd hx hb dL_law_1415 ?_
    refine va_sld hx hb hX hbl hbA hS (vp_off (k := 2) (by omega) (by omega)) dL_law_1416 ?_
    refine lv_aload_n hx hb dL_law_1417 rfl (lv_at hl 0 rfl) ?_
    refine lv_iload_n hx hb dL_law_1418 rfl (lv_at hl 3 rfl) ?_
    refine lv_iconst (v := (3 : Int32)) hx hb dL_law_1419 (by decide) ?_
    refine lv_iadd hx hb dL_law_1420 ?_
    refine va_sld hx hb hX hbl hbA hS (vp_off (k := 3) (by omega) (by omega)) dL_law_1421 ?_
    refine lv_aload_n hx hb dL_law_1422 rfl (lv_at hl 0 rfl) ?_
    refine lv_iload_n hx hb dL_law_1423 rfl (lv_at hl 3 rfl) ?_
    refine lv_iconst (v := (4 : Int32)) hx hb dL_law_1424 (by decide) ?_
    refine lv_iadd hx hb dL_law_1425 ?_
    refine va_sld hx hb hX hbl hbA hS (vp_off (k := 4) (by omega) (by omega)) dL_law_1426 ?_
    refine zVi (As := [.int (xs (nI i + (1 : Int32)).toNatClampNeg), .int (xs (nI i + (2 : Int32)).toNatClampNeg), .int (xs (nI i + (3 : Int32)).toNatClampNeg), .int (xs (nI i + (4 : Int32)).toNatClampNeg)]) (ci := 8) (bs := wA ca x ad mm ((va_up (va_up F.1 0 o.2.2.1) 1 o.2.2.2), (va_up F.2.1 2 o.2.1), F.2.2) M) (bs' := wA ca x ad mm ((va_up (va_up F.1 0 o.2.2.1) 1 o.2.2.2), (va_up F.2.1 2 o.2.1), F.2.2) o'.2) ⟨hx, hb, hml, hown, hts⟩ (k_X8_read l D ca mm M (xs (nI i + (1 : Int32)).toNatClampNeg) (xs (nI i + (2 : Int32)).toNatClampNeg) (xs (nI i + (3 : Int32)).toNatClampNeg) (xs (nI i + (4 : Int32)).toNatClampNeg) _ h2) (cwV 4 hts gL_law_X8_read rfl rfl rfl (by decide +kernel) ⟨(Nat.le_of_ble_eq_true rfl), (Nat.le_of_ble_eq_true rfl)⟩) hK hA hP hD hS dL_law_1427 rfl hl.1 [18] [0, 1, 2, 3, 4, 5, 6, 7, 8, 9, 10, 11, 12, 13, 14, 15, 16, 17] (show ([18] ++ [0, 1, 2, 3, 4, 5, 6, 7, 8, 9, 10, 11, 12, 13, 14, 15, 16, 17] : List Nat).Perm (List.range 19) by decide) rfl (show ([18] ++ [0, 1, 2, 3, 4, 5, 6, 7, 8, 9, 10, 11, 12, 13, 14, 15, 16, 17] : List Nat).Perm (List.range 19) by decide) rfl rfl rfl rfl rfl rfl (Nat.le_of_ble_eq_true rfl) ⟨(Nat.le_of_ble_eq_true rfl), (Nat.le_of_ble_eq_true rfl)⟩ (fun H locs hP hD hS => ?_)
    refine lv_icmp_eq (tgt := 1471) hx hb dL_law_1430 (by decide) (fun _ => ?_) (fun c1 => absurd he c1)
    exact kk _ _ _ _ _ hR' hl hP hD hS
  by_cases g2 : (xs (nI i + (1 : Int32)).toNatClampNeg).toNatClampNeg = 2
  · have hs : ¬ ((xs (nI i + (1 : Int32)).toNatClampNeg) < 0 ∨ 4 ≤ (xs (nI i + (1 : Int32)).toNatClampNeg).toNatClampNeg) → (xs (nI i + (1 : Int32)).toNatClampNeg).toNatClampNeg = 2 := fun _ => g2
    obtain ⟨o, o', h1, h2, he, hR'⟩ := st_read_2 hR (xs (nI i + (1 : Int32)).toNatClampNeg) (xs (nI i + (2 : Int32)).toNatClampNeg) (xs (nI i + (3 : Int32)).toNatClampNeg) (xs (nI i + (4 : Int32)).toNatClampNeg) hs
    have hsel : ¬ ((xs (nI i + (1 : Int32)).toNatClampNeg) < 0 ∨ 4 ≤ (xs (nI i + (1 : Int32)).toNatClampNeg).toNatClampNeg) → (va_up (va_up (va_up (va_up (fun _ => none) 0 (some (ad 13 0))) 1 (some (ad 14 0))) 2 (some (ad 15 0))) 3 (some (ad 16 0))) (xs (nI i + (1 : Int32)).toNatClampNeg).toNatClampNeg = some (ad 15 0) := fun z => by rw [hs z]; rfl
    refine lv_aload_n hx hb dL_law_1382 rfl (lv_at hl 1 rfl) ?_
    refine lv_aload_n hx hb dL_law_1383 rfl (lv_at hl 0 rfl) ?_
    refine lv_iload_n hx hb dL_law_1384 rfl (lv_at hl 3 rfl) ?_
    refine lv_iconst (v := (1 : Int32)) hx hb dL_law_1385 (by decide) ?_
    refine lv_iadd hx hb dL_law_1386 ?_
    refine va_sld hx hb hX hbl hbA hS (vp_off (k := 1) (by omega) (by omega)) dL_law_1387 ?_
    refine lv_aload_n hx hb dL_law_1388 rfl (lv_at hl 0 rfl) ?_
    refine lv_iload_n hx hb dL_law_1389 rfl (lv_at hl 3 rfl) ?_
    refine lv_iconst (v := (2 : Int32)) hx hb dL_law_1390 (by decide) ?_
    refine lv_iadd hx hb dL_law_1391 ?_
    refine va_sld hx hb hX hbl hbA hS (vp_off (k := 2) (by omega) (by omega)) dL_law_1392 ?_
    refine lv_aload_n hx hb dL_law_1393 rfl (lv_at hl 0 rfl) ?_
    refine lv_iload_n hx hb dL_law_1394 rfl (lv_at hl 3 rfl) ?_
    refine lv_iconst (v := (3 : Int32)) hx hb dL_law_1395 (by decide) ?_
    refine lv_iadd hx hb dL_law_1396 ?_
    refine va_sld hx hb hX hbl hbA hS (vp_off (k := 3) (by omega) (by omega)) dL_law_1397 ?_
    refine lv_aload_n hx hb dL_law_1398 rfl (lv_at hl 0 rfl) ?_
    refine lv_iload_n hx hb dL_law_1399 rfl (lv_at hl 3 rfl) ?_
    refine lv_iconst (v := (4 : Int32)) hx hb dL_law_1400 (by decide) ?_
    refine lv_iadd hx hb dL_law_1401 ?_
    refine va_sld hx hb hX hbl hbA hS (vp_off (k := 4) (by omega) (by omega)) dL_law_1402 ?_
    refine zVi (As := [.int (xs (nI i + (1 : Int32)).toNatClampNeg), .int (xs (nI i + (2 : Int32)).toNatClampNeg), .int (xs (nI i + (3 : Int32)).toNatClampNeg), .int (xs (nI i + (4 : Int32)).toNatClampNeg)]) (ci := 7) (bs := wA ca x ad mm F M) (bs' := wA ca x ad mm ((va_up (va_up F.1 0 o.2.2.1) 1 o.2.2.2), (va_up F.2.1 2 o.2.1), F.2.2) M) ⟨hx, hb, hml, hown, hts⟩ (k_X7_read l D ca x (ad 2 0) (ad 7 0) (ad 9 0) (ad 10 0) (ad 11 0) (ad 0) (ad 1) (ad 12 0) (va_up (va_up (va_up (va_up (fun _ => none) 0 (some (ad 13 0))) 1 (some (ad 14 0))) 2 (some (ad 15 0))) 3 (some (ad 16 0))) (ad 15) (F.2.1 2) (F.1 0) (F.1 1) (F.1 10) (xs (nI i + (1 : Int32)).toNatClampNeg) (xs (nI i + (2 : Int32)).toNatClampNeg) (xs (nI i + (3 : Int32)).toNatClampNeg) (xs (nI i + (4 : Int32)).toNatClampNeg) _ (hsel) h1) (cwV 4 hts gL_law_X7_read rfl rfl rfl (by decide +kernel) ⟨(Nat.le_of_ble_eq_true rfl), (Nat.le_of_ble_eq_true rfl)⟩) hK hA hP hD hS dL_law_1403 rfl hl.1 [0, 1, 2, 13, 16] [3, 4, 5, 6, 7, 8, 9, 10, 11, 12, 14, 15, 17, 18] (show ([0, 1, 2, 13, 16] ++ [3, 4, 5, 6, 7, 8, 9, 10, 11, 12, 14, 15, 17, 18] : List Nat).Perm (List.range 19) by decide) rfl (show ([0, 1, 2, 13, 16] ++ [3, 4, 5, 6, 7, 8, 9, 10, 11, 12, 14, 15, 17, 18] : List Nat).Perm (List.range 19) by decide) rfl rfl rfl rfl rfl rfl (Nat.le_of_ble_eq_true rfl) ⟨(Nat.le_of_ble_eq_true rfl), (Nat.le_of_ble_eq_true rfl)⟩ (fun H locs hP hD hS => ?_)
    refine lv_aload_n hx hb dL_law_1406 rfl (lv_at hl 2 rfl) ?_
    refine lv_aload_n hx hb dL_law_1407 rfl (lv_at hl 0 rfl) ?_
    refine lv_iload_n hx hb dL_law_1408 rfl (lv_at hl 3 rfl) ?_
    refine lv_iconst (v := (1 : Int32)) hx hb dL_law_1409 (by decide) ?_
    refine lv_iadd hx hb dL_law_1410 ?_
    refine va_sld hx hb hX hbl hbA hS (vp_off (k := 1) (by omega) (by omega)) dL_law_1411 ?_
    refine lv_aload_n hx hb dL_law_1412 rfl (lv_at hl 0 rfl) ?_
    refine lv_iload_n hx hb dL_law_1413 rfl (lv_at hl 3 rfl) ?_
    refine lv_iconst (v := (2 : Int32)) hx hb dL_law_1414 (by decide) ?_
    refine lv_iadd hx hb dL_law_1415 ?_
    refine va_sld hx hb hX hbl hbA hS (vp_off (k := 2) (by omega) (by omega)) dL_law_1416 ?_
    refine lv_aload_n hx hb dL_law_1417 rfl (lv_at hl 0 rfl) ?_
    refine lv_iload_n hx hb dL_law_1418 rfl (lv_at hl 3 rfl) ?_
    refine lv_iconst (v := (3 : Int32)) hx hb dL_law_1419 (by decide) ?_
    refine lv_iadd hx hb dL_law_1420 ?_
    refine va_sld hx hb hX hbl hbA hS (vp_off (k := 3) (by omega) (by omega)) dL_law_1421 ?_
    refine lv_aload_n hx hb dL_law_1422 rfl (lv_at hl 0 rfl) ?_
    refine lv_iload_n hx hb dL_law_1423 rfl (lv_at hl 3 rfl) ?_
    refine lv_iconst (v := (4 : Int32)) hx hb dL_law_1424 (by decide) ?_
    refine lv_iadd hx hb dL_law_1425 ?_
    refine va_sld hx hb hX hbl hbA hS (vp_off (k := 4) (by omega) (by omega)) dL_law_1426 ?_
    refine zVi (As := [.int (xs (nI i + (1 : Int32)).toNatClampNeg), .int (xs (nI i + (2 : Int32)).toNatClampNeg), .int (xs (nI i + (3 : Int32)).toNatClampNeg), .int (xs (nI i + (4 : Int32)).toNatClampNeg)]) (ci := 8) (bs := wA ca x ad mm ((va_up (va_up F.1 0 o.2.2.1) 1 o.2.2.2), (va_up F.2.1 2 o.2.1), F.2.2) M) (bs' := wA ca x ad mm ((va_up (va_up F.1 0 o.2.2.1) 1 o.2.2.2), (va_up F.2.1 2 o.2.1), F.2.2) o'.2) ⟨hx, hb, hml, hown, hts⟩ (k_X8_read l D ca mm M (xs (nI i + (1 : Int32)).toNatClampNeg) (xs (nI i + (2 : Int32)).toNatClampNeg) (xs (nI i + (3 : Int32)).toNatClampNeg) (xs (nI i + (4 : Int32)).toNatClampNeg) _ h2) (cwV 4 hts gL_law_X8_read rfl rfl rfl (by decide +kernel) ⟨(Nat.le_of_ble_eq_true rfl), (Nat.le_of_ble_eq_true rfl)⟩) hK hA hP hD hS dL_law_1427 rfl hl.1 [18] [0, 1, 2, 3, 4, 5, 6, 7, 8, 9, 10, 11, 12, 13, 14, 15, 16, 17] (show ([18] ++ [0, 1, 2, 3, 4, 5, 6, 7, 8, 9, 10, 11, 12, 13, 14, 15, 16, 17] : List Nat).Perm (List.range 19) by decide) rfl (show ([18] ++ [0, 1, 2, 3, 4, 5, 6, 7, 8, 9, 10, 11, 12, 13, 14, 15, 16, 17] : List Nat).Perm (List.range 19) by decide) rfl rfl rfl rfl rfl rfl (Nat.le_of_ble_eq_true rfl) ⟨(Nat.le_of_ble_eq_true rfl), (Nat.le_of_ble_eq_true rfl)⟩ (fun H locs hP hD hS => ?_)
    refine lv_icmp_eq (tgt := 1471) hx hb dL_law_1430 (by decide) (fun _ => ?_) (fun c1 => absurd he c1)
    exact kk _ _ _ _ _ hR' hl hP hD hS
  by_cases g3 : (xs (nI i + (1 : Int32)).toNatClampNeg).toNatClampNeg = 3
  · have hs : ¬ ((xs (nI i + (1 : Int32)).toNatClampNeg) < 0 ∨ 4 ≤ (xs (nI i + (1 : Int32)).toNatClampNeg).toNatClampNeg) → (xs (nI i + (1 : Int32)).toNatClampNeg).toNatClampNeg = 3 := fun _ => g3
    obtain ⟨o, o', h1, h2, he, hR'⟩ := st_read_3 hR (xs (nI i + (1 : Int32)).toNatClampNeg) (xs (nI i + (2 : Int32)).toNatClampNeg) (xs (nI i + (3 : Int32)).toNatClampNeg) (xs (nI i + (4 : Int32)).toNatClampNeg) hs
    have hsel : ¬ ((xs (nI i + (1 : Int32)).toNatClampNeg) < 0 ∨ 4 ≤ (xs (nI i + (1 : Int32)).toNatClampNeg).toNatClampNeg) → (va_up (va_up (va_up (va_up (fun _ => none) 0 (some (ad 13 0))) 1 (some (ad 14 0))) 2 (some (ad 15 0))) 3 (some (ad 16 0))) (xs (nI i + (1 : Int32)).toNatClampNeg).toNatClampNeg = some (ad 16 0) := fun z => by rw [hs z]; rfl
    refine lv_aload_n hx hb dL_law_1382 rfl (lv_at hl 1 rfl) ?_
    refine lv_aload_n hx hb dL_law_1383 rfl (lv_at hl 0 rfl) ?_
    refine lv_iload_n hx hb dL_law_1384 rfl (lv_at hl 3 rfl) ?_
    refine lv_iconst (v := (1 : Int32)) hx hb dL_law_1385 (by decide) ?_
    refine lv_iadd hx hb dL_law_1386 ?_
    refine va_sld hx hb hX hbl hbA hS (vp_off (k := 1) (by omega) (by omega)) dL_law_1387 ?_
    refine lv_aload_n hx hb dL_law_1388 rfl (lv_at hl 0 rfl) ?_
    refine lv_iload_n hx hb dL_law_1389 rfl (lv_at hl 3 rfl) ?_
    refine lv_iconst (v := (2 : Int32)) hx hb dL_law_1390 (by decide) ?_
    refine lv_iadd hx hb dL_law_1391 ?_
    refine va_sld hx hb hX hbl hbA hS (vp_off (k := 2) (by omega) (by omega)) dL_law_1392 ?_
    refine lv_aload_n hx hb dL_law_1393 rfl (lv_at hl 0 rfl) ?_
    refine lv_iload_n hx hb dL_law_1394 rfl (lv_at hl 3 rfl) ?_
    refine lv_iconst (v := (3 : Int32)) hx hb dL_law_1395 (by decide) ?_
    refine lv_iadd hx hb dL_law_1396 ?_
    refine va_sld hx hb hX hbl hbA hS (vp_off (k := 3) (by omega) (by omega)) dL_law_1397 ?_
    refine lv_aload_n hx hb dL_law_1398 rfl (lv_at hl 0 rfl) ?_
    refine lv_iload_n hx hb dL_law_1399 rfl (lv_at hl 3 rfl) ?_
    refine lv_iconst (v := (4 : Int32)) hx hb dL_law_1400 (by decide) ?_
    refine lv_iadd hx hb dL_law_1401 ?_
    refine va_sld hx hb hX hbl hbA hS (vp_off (k := 4) (by omega) (by omega)) dL_law_1402 ?_
    refine zVi (As := [.int (xs (nI i + (1 : Int32)).toNatClampNeg), .int (xs (nI i + (2 : Int32)).toNatClampNeg), .int (xs (nI i + (3 : Int32)).toNatClampNeg), .int (xs (nI i + (4 : Int32)).toNatClampNeg)]) (ci := 7) (bs := wA ca x ad mm F M) (bs' := wA ca x ad mm ((va_up (va_up F.1 0 o.2.2.1) 1 o.2.2.2), (va_up F.2.1 2 o.2.1), F.2.2) M) ⟨hx, hb, hml, hown, hts⟩ (k_X7_read l D ca x (ad 2 0) (ad 7 0) (ad 9 0) (ad 10 0) (ad 11 0) (ad 0) (ad 1) (ad 12 0) (va_up (va_up (va_up (va_up (fun _ => none) 0 (some (ad 13 0))) 1 (some (ad 14 0))) 2 (some (ad 15 0))) 3 (some (ad 16 0))) (ad 16) (F.2.1 2) (F.1 0) (F.1 1) (F.1 11) (xs (nI i + (1 : Int32)).toNatClampNeg) (xs (nI i + (2 : Int32)).toNatClampNeg) (xs (nI i + (3 : Int32)).toNatClampNeg) (xs (nI i + (4 : Int32)).toNatClampNeg) _ (hsel) h1) (cwV 4 hts gL_law_X7_read rfl rfl rfl (by decide +kernel) ⟨(Nat.le_of_ble_eq_true rfl), (Nat.le_of_ble_eq_true rfl)⟩) hK hA hP hD hS dL_law_1403 rfl hl.1 [0, 1, 2, 13, 17] [3, 4, 5, 6, 7, 8, 9, 10, 11, 12, 14, 15, 16, 18] (show ([0, 1, 2, 13, 17] ++ [3, 4, 5, 6, 7, 8, 9, 10, 11, 12, 14, 15, 16, 18] : List Nat).Perm (List.range 19) by decide) rfl (show ([0, 1, 2, 13, 17] ++ [3, 4, 5, 6, 7, 8, 9, 10, 11, 12, 14, 15, 16, 18] : List Nat).Perm (List.range 19) by decide) rfl rfl rfl rfl rfl rfl (Nat.le_of_ble_eq_true rfl) ⟨(Nat.le_of_ble_eq_true rfl), (Nat.le_of_ble_eq_true rfl)⟩ (fun H locs hP hD hS => ?_)
    refine lv_aload_n hx hb dL_law_1406 rfl (lv_at hl 2 rfl) ?_
    refine lv_aload_n hx hb dL_law_1407 rfl (lv_at hl 0 rfl) ?_
    refine lv_iload_n hx hb dL_law_1408 rfl (lv_at hl 3 rfl) ?_
    refine lv_iconst (v := (1 : Int32)) hx hb dL_law_1409 (by decide) ?_
    refine lv_iadd hx hb dL_law_1410 ?_
    refine va_sld hx hb hX hbl hbA hS (vp_off (k := 1) (by omega) (by omega)) dL_law_1411 ?_
    refine lv_aload_n hx hb dL_law_1412 rfl (lv_at hl 0 rfl) ?_
    refine lv_iload_n hx hb dL_law_1413 rfl (lv_at hl 3 rfl) ?_
    refine lv_iconst (v := (2 : Int32)) hx hb dL_law_1414 (by decide) ?_
    refine lv_iadd hx hb dL_law_1415 ?_
    refine va_sld hx hb hX hbl hbA hS (vp_off (k := 2) (by omega) (by omega)) dL_law_1416 ?_
    refine lv_aload_n hx hb dL_law_1417 rfl (lv_at hl 0 rfl) ?_
    refine lv_iload_n hx hb dL_law_1418 rfl (lv_at hl 3 rfl) ?_
    refine lv_iconst (v := (3 : Int32)) hx hb dL_law_1419 (by decide) ?_
    refine lv_iadd hx hb dL_law_1420 ?_
    refine va_sld hx hb hX hbl hbA hS (vp_off (k := 3) (by omega) (by omega)) dL_law_1421 ?_
    refine lv_aload_n hx hb dL_law_1422 rfl (lv_at hl 0 rfl) ?_
    refine lv_iload_n hx hb dL_law_1423 rfl (lv_at hl 3 rfl) ?_
    refine lv_iconst (v := (4 : Int32)) hx hb dL_law_1424 (by decide) ?_
    refine lv_iadd hx hb dL_law_1425 ?_
    refine va_sld hx hb hX hbl hbA hS (vp_off (k := 4) (by omega) (by omega)) dL_law_1426 ?_
    refine zVi (As := [.int (xs (nI i + (1 : Int32)).toNatClampNeg), .int (xs (nI i + (2 : Int32)).toNatClampNeg), .int (xs (nI i + (3 : Int32)).toNatClampNeg), .int (xs (nI i + (4 : Int32)).toNatClampNeg)]) (ci := 8) (bs := wA ca x ad mm ((va_up (va_up F.1 0 o.2.2.1) 1 o.2.2.2), (va_up F.2.1 2 o.2.1), F.2.2) M) (bs' := wA ca x ad mm ((va_up (va_up F.1 0 o.2.2.1) 1 o.2.2.2), (va_up F.2.1 2 o.2.1), F.2.2) o'.2) ⟨hx, hb, hml, hown, hts⟩ (k_X8_read l D ca mm M (xs (nI i + (1 : Int32)).toNatClampNeg) (xs (nI i + (2 : Int32)).toNatClampNeg) (xs (nI i + (3 : Int32)).toNatClampNeg) (xs (nI i + (4 : Int32)).toNatClampNeg) _ h2) (cwV 4 hts gL_law_X8_read rfl rfl rfl (by decide +kernel) ⟨(Nat.le_of_ble_eq_true rfl), (Nat.le_of_ble_eq_true rfl)⟩) hK hA hP hD hS dL_law_1427 rfl hl.1 [18] [0, 1, 2, 3, 4, 5, 6, 7, 8, 9, 10, 11, 12, 13, 14, 15, 16, 17] (show ([18] ++ [0, 1, 2, 3, 4, 5, 6, 7, 8, 9, 10, 11, 12, 13, 14, 15, 16, 17] : List Nat).Perm (List.range 19) by decide) rfl (show ([18] ++ [0, 1, 2, 3, 4, 5, 6, 7, 8, 9, 10, 11, 12, 13, 14, 15, 16, 17] : List Nat).Perm (List.range 19) by decide) rfl rfl rfl rfl rfl rfl (Nat.le_of_ble_eq_true rfl) ⟨(Nat.le_of_ble_eq_true rfl), (Nat.le_of_ble_eq_true rfl)⟩ (fun H locs hP hD hS => ?_)
    refine lv_icmp_eq (tgt := 1471) hx hb dL_law_1430 (by decide) (fun _ => ?_) (fun c1 => absurd he c1)
    exact kk _ _ _ _ _ hR' hl hP hD hS
  have hs : ¬ ((xs (nI i + (1 : Int32)).toNatClampNeg) < 0 ∨ 4 ≤ (xs (nI i + (1 : Int32)).toNatClampNeg).toNatClampNeg) → (xs (nI i + (1 : Int32)).toNatClampNeg).toNatClampNeg = 0 := fun z => by
    have z2 := fun h => z (Or.inr h)
    omega
  obtain ⟨o, o', h1, h2, he, hR'⟩ := st_read_0 hR (xs (nI i + (1 : Int32)).toNatClampNeg) (xs (nI i + (2 : Int32)).toNatClampNeg) (xs (nI i + (3 : Int32)).toNatClampNeg) (xs (nI i + (4 : Int32)).toNatClampNeg) hs
  have hsel : ¬ ((xs (nI i + (1 : Int32)).toNatClampNeg) < 0 ∨ 4 ≤ (xs (nI i + (1 : Int32)).toNatClampNeg).toNatClampNeg) → (va_up (va_up (va_up (va_up (fun _ => none) 0 (some (ad 13 0))) 1 (some (ad 14 0))) 2 (some (ad 15 0))) 3 (some (ad 16 0))) (xs (nI i + (1 : Int32)).toNatClampNeg).toNatClampNeg = some (ad 13 0) := fun z => by rw [hs z]; rfl
  refine lv_aload_n hx hb dL_law_1382 rfl (lv_at hl 1 rfl) ?_
  refine lv_aload_n hx hb dL_law_1383 rfl (lv_at hl 0 rfl) ?_
  refine lv_iload_n hx hb dL_law_1384 rfl (lv_at hl 3 rfl) ?_
  refine lv_iconst (v := (1 : Int32)) hx hb dL_law_1385 (by decide) ?_
  refine lv_iadd hx hb dL_law_1386 ?_
  refine va_sld hx hb hX hbl hbA hS (vp_off (k := 1) (by omega) (by omega)) dL_law_1387 ?_
  refine lv_aload_n hx hb dL_law_1388 rfl (lv_at hl 0 rfl) ?_
  refine lv_iload_n hx hb dL_law_1389 rfl (lv_at hl 3 rfl) ?_
  refine lv_iconst (v := (2 : Int32)) hx hb dL_law_1390 (by decide) ?_
  refine lv_iadd hx hb dL_law_1391 ?_
  refine va_sld hx hb hX hbl hbA hS (vp_off (k := 2) (by omega) (by omega)) dL_law_1392 ?_
  refine lv_aload_n hx hb dL_law_1393 rfl (lv_at hl 0 rfl) ?_
  refine lv_iload_n hx hb dL_law_1394 rfl (lv_at hl 3 rfl) ?_
  refine lv_iconst (v := (3 : Int32)) hx hb dL_law_1395 (by decide) ?_
  refine lv_iadd hx hb dL_law_1396 ?_
  refine va_sld hx hb hX hbl hbA hS (vp_off (k := 3) (by omega) (by omega)) dL_law_1397 ?_
  refine lv_aload_n hx hb dL_law_1398 rfl (lv_at hl 0 rfl) ?_
  refine lv_iload_n hx hb dL_law_1399 rfl (lv_at hl 3 rfl) ?_
  refine lv_iconst (v := (4 : Int32)) hx hb dL_law_1400 (by decide) ?_
  refine lv_iadd hx hb dL_law_1401 ?_
  refine va_sld hx hb hX hbl hbA hS (vp_off (k := 4) (by omega) (by omega)) dL_law_1402 ?_
  refine zVi (As := [.int (xs (nI i + (1 : Int32)).toNatClampNeg), .int (xs (nI i + (2 : Int32)).toNatClampNeg), .int (xs (nI i + (3 : Int32)).toNatClampNeg), .int (xs (nI i + (4 : Int32)).toNatClampNeg)]) (ci := 7) (bs := wA ca x ad mm F M) (bs' := wA ca x ad mm ((va_up (va_up F.1 0 o.2.2.1) 1 o.2.2.2), (va_up F.2.1 2 o.2.1), F.2.2) M) ⟨hx, hb, hml, hown, hts⟩ (k_X7_read l D ca x (ad 2 0) (ad 7 0) (ad 9 0) (ad 10 0) (ad 11 0) (ad 0) (ad 1) (ad 12 0) (va_up (va_up (va_up (va_up (fun _ => none) 0 (some (ad 13 0))) 1 (some (ad 14 0))) 2 (some (ad 15 0))) 3 (some (ad 16 0))) (ad 13) (F.2.1 2) (F.1 0) (F.1 1) (F.1 8) (xs (nI i + (1 : Int32)).toNatClampNeg) (xs (nI i + (2 : Int32)).toNatClampNeg) (xs (nI i + (3 : Int32)).toNatClampNeg) (xs (nI i + (4 : Int32)).toNatClampNeg) _ (hsel) h1) (cwV 4 hts gL_law_X7_read rfl rfl rfl (by decide +kernel) ⟨(Nat.le_of_ble_eq_true rfl), (Nat.le_of_ble_eq_true rfl)⟩) hK hA hP hD hS dL_law_1403 rfl hl.1 [0, 1, 2, 13, 14] [3, 4, 5, 6, 7, 8, 9, 10, 11, 12, 15, 16, 17, 18] (show ([0, 1, 2, 13, 14] ++ [3, 4, 5, 6, 7, 8, 9, 10, 11, 12, 15, 16, 17, 18] : List Nat).Perm (List.range 19) by decide) rfl (show ([0, 1, 2, 13, 14] ++ [3, 4, 5, 6, 7, 8, 9, 10, 11, 12, 15, 16, 17, 18] : List Nat).Perm (List.range 19) by decide) rfl rfl rfl rfl rfl rfl (Nat.le_of_ble_eq_true rfl) ⟨(Nat.le_of_ble_eq_true rfl), (Nat.le_of_ble_eq_true rfl)⟩ (fun H locs hP hD hS => ?_)
  refine lv_aload_n hx hb dL_law_1406 rfl (lv_at hl 2 rfl) ?_
  refine lv_aload_n hx hb dL_law_1407 rfl (lv_at hl 0 rfl) ?_
  refine lv_iload_n hx hb dL_law_1408 rfl (lv_at hl 3 rfl) ?_
  refine lv_iconst (v := (1 : Int32)) hx hb dL_law_1409 (by decide) ?_
  refine lv_iadd hx hb dL_law_1410 ?_
  refine va_sld hx hb hX hbl hbA hS (vp_off (k := 1) (by omega) (by omega)) dL_law_1411 ?_
  refine lv_aload_n hx hb dL_law_1412 rfl (lv_at hl 0 rfl) ?_
  refine lv_iload_n hx hb dL_law_1413 rfl (lv_at hl 3 rfl) ?_
  refine lv_iconst (v := (2 : Int32)) hx hb dL_law_1414 (by decide) ?_
  refine lv_iadd hx hb dL_law_1415 ?_
  refine va_sld hx hb hX hbl hbA hS (vp_off (k := 2) (by omega) (by omega)) dL_law_1416 ?_
  refine lv_aload_n hx hb dL_law_1417 rfl (lv_at hl 0 rfl) ?_
  refine lv_iload_n hx hb dL_law_1418 rfl (lv_at hl 3 rfl) ?_
  refine lv_iconst (v := (3 : Int32)) hx hb dL_law_1419 (by decide) ?_
  refine lv_iadd hx hb dL_law_1420 ?_
  refine va_sld hx hb hX hbl hbA hS (vp_off (k := 3) (by omega) (by omega)) dL_law_1421 ?_
  refine lv_aload_n hx hb dL_law_1422 rfl (lv_at hl 0 rfl) ?_
  refine lv_iload_n hx hb dL_law_1423 rfl (lv_at hl 3 rfl) ?_
  refine lv_iconst (v := (4 : Int32)) hx hb dL_law_1424 (by decide) ?_
  refine lv_iadd hx hb dL_law_1425 ?_
  refine va_sld hx hb hX hbl hbA hS (vp_off (k := 4) (by omega) (by omega)) dL_law_1426 ?_
  refine zVi (As := [.int (xs (nI i + (1 : Int32)).toNatClampNeg), .int (xs (nI i + (2 : Int32)).toNatClampNeg), .int (xs (nI i + (3 : Int32)).toNatClampNeg), .int (xs (nI i + (4 : Int32)).toNatClampNeg)]) (ci := 8) (bs := wA ca x ad mm ((va_up (va_up F.1 0 o.2.2.1) 1 o.2.2.2), (va_up F.2.1 2 o.2.1), F.2.2) M) (bs' := wA ca x ad mm ((va_up (va_up F.1 0 o.2.2.1) 1 o.2.2.2), (va_up F.2.1 2 o.2.1), F.2.2) o'.2) ⟨hx, hb, hml, hown, hts⟩ (k_X8_read l D ca mm M (xs (nI i + (1 : Int32)).toNatClampNeg) (xs (nI i + (2 : Int32)).toNatClampNeg) (xs (nI i + (3 : Int32)).toNatClampNeg) (xs (nI i + (4 : Int32)).toNatClampNeg) _ h2) (cwV 4 hts gL_law_X8_read rfl rfl rfl (by decide +kernel) ⟨(Nat.le_of_ble_eq_true rfl), (Nat.le_of_ble_eq_true rfl)⟩) hK hA hP hD hS dL_law_1427 rfl hl.1 [18] [0, 1, 2, 3, 4, 5, 6, 7, 8, 9, 10, 11, 12, 13, 14, 15, 16, 17] (show ([18] ++ [0, 1, 2, 3, 4, 5, 6, 7, 8, 9, 10, 11, 12, 13, 14, 15, 16, 17] : List Nat).Perm (List.range 19) by decide) rfl (show ([18] ++ [0, 1, 2, 3, 4, 5, 6, 7, 8, 9, 10, 11, 12, 13, 14, 15, 16, 17] : List Nat).Perm (List.range 19) by decide) rfl rfl rfl rfl rfl rfl (Nat.le_of_ble_eq_true rfl) ⟨(Nat.le_of_ble_eq_true rfl), (Nat.le_of_ble_eq_true rfl)⟩ (fun H locs hP hD hS => ?_)
  refine lv_icmp_eq (tgt := 1471) hx hb dL_law_1430 (by decide) (fun _ => ?_) (fun c1 => absurd he c1)
  exact kk _ _ _ _ _ hR' hl hP hD hS
set_option maxHeartbeats 4000000 in
set_option maxRecDepth 100000 in
theorem law_c41 {p : Program} {l : Launch} {e : Env} {s : State} {m : MethodId} {below : List Frame} {meth : Method} {c : Code} {b L : Nat} {xs : Nat → Int32} {D : va_G} {ca : Nat → ClassId} {x : Nat} {ad : Nat → Nat → Nat} {mm : Nat → Nat} {aS aV aT : Nat → Nat} {F : FS} {M : GS} {i : Nat} (C0 : lw_At p s m meth c b L xs) (hK : va_K D vwCl (TY ca) s) (hAm : Amb aS aV aT (fun q : Nat => s.heap.size ≤ q) s s.heap) (hRS : RSt aS s) (hi : i + 6 ≤ L) (hL : L ≤ 384) (hR : Rel F M)
    (kk : ∀ (F' : FS) (M' : GS) (ls : Array Slot) (H : Heap) (locs : List Loc), Rel F' M' → lv_has ls 4 [(0, .ref b), (1, .ref x), (2, .ref (mm 0)), (3, .int (nI i))] → va_P D vwCl (wA ca x ad mm F' M').flatten H → va_D (fun q : Nat => s.heap.size ≤ q) (wA ca x ad mm F' M').flatten → va_S (fun q : Nat => s.heap.size ≤ q) s.heap H locs → W p l e room_1 s m #[Value.ref b] below meth c H locs 67 1942 (lw_Z below #[Value.ref b] s) (F0 m 1471 ls []))
    (ls : Array Slot) (H : Heap) (locs : List Loc) (hl : lv_has ls 4 [(0, .ref b), (1, .ref x), (2, .ref (mm 0)), (3, .int (nI i))]) (hP : va_P D vwCl (wA ca x ad mm F M).flatten H) (hD : va_D (fun q : Nat => s.heap.size ≤ q) (wA ca x ad mm F M).flatten) (hS : va_S (fun q : Nat => s.heap.size ≤ q) s.heap H locs) : W p l e room_1 s m #[Value.ref b] below meth c H locs 67 1942 (lw_Z below #[Value.ref b] s) (F0 m 1435 ls []) := by
  obtain ⟨hx, hb, hr, hml, hown, hts0, hX, hbl, hlocks, hgv⟩ := id C0
  have hown : s.vm.findClass RL = some m.cls := hown
  have hts : ∀ w ∈ wsL_law, w.before #[Value.ref b] s = true := fun w h => hts0 w (wsL_law_in w h)
  have hA : ∀ q : Nat, s.heap.size ≤ q → (fun q : Nat => s.heap.size ≤ q) q := fun _ h => h
  have hbA : ¬ (fun q : Nat => s.heap.size ≤ q) b := Nat.not_le.mpr hbl
  obtain ⟨o, o', h1, h2, he, hR'⟩ := st_torn hR 
  refine lv_aload_n hx hb dL_law_1435 rfl (lv_at hl 1 rfl) ?_
  refine zVi (As := []) (ci := 7) (bs := wA ca x ad mm F M) (bs' := wA ca x ad mm F M) ⟨hx, hb, hml, hown, hts⟩ (k_X7_torn l D ca x (ad 0 0) (ad 1 0) (ad 2 0) (ad 7 0) (ad 9 0) (ad 10 0) (ad 11 0) (ad 12 0) (F.2.1 2)  _ h1) (cwV 0 hts gL_law_X7_torn rfl rfl rfl (by decide +kernel) ⟨(Nat.le_of_ble_eq_true rfl), (Nat.le_of_ble_eq_true rfl)⟩) hK hA hP hD hS dL_law_1436 rfl hl.1 [0] [1, 2, 3, 4, 5, 6, 7, 8, 9, 10, 11, 12, 13, 14, 15, 16, 17, 18] (show ([0] ++ [1, 2, 3, 4, 5, 6, 7, 8, 9, 10, 11, 12, 13, 14, 15, 16, 17, 18] : List Nat).Perm (List.range 19) by decide) rfl (show ([0] ++ [1, 2, 3, 4, 5, 6, 7, 8, 9, 10, 11, 12, 13, 14, 15, 16, 17, 18] : List Nat).Perm (List.range 19) by decide) rfl rfl rfl rfl rfl rfl (Nat.le_of_ble_eq_true rfl) ⟨(Nat.le_of_ble_eq_true rfl), (Nat.le_of_ble_eq_true rfl)⟩ (fun H locs hP hD hS => ?_)
  refine lv_aload_n hx hb dL_law_1439 rfl (lv_at hl 2 rfl) ?_
  refine zVi (As := []) (ci := 8) (bs := wA ca x ad mm F M) (bs' := wA ca x ad mm F M) ⟨hx, hb, hml, hown, hts⟩ (k_X8_torn l D ca mm M  _ h2) (cwV 0 hts gL_law_X8_torn rfl rfl rfl (by decide +kernel) ⟨(Nat.le_of_ble_eq_true rfl), (Nat.le_of_ble_eq_true rfl)⟩) hK hA hP hD hS dL_law_1440 rfl hl.1 [18] [0, 1, 2, 3, 4, 5, 6, 7, 8, 9, 10, 11, 12, 13, 14, 15, 16, 17] (show ([18] ++ [0, 1, 2, 3, 4, 5, 6, 7, 8, 9, 10, 11, 12, 13, 14, 15, 16, 17] : List Nat).Perm (List.range 19) by decide) rfl (show ([18] ++ [0, 1, 2, 3, 4, 5, 6, 7, 8, 9, 10, 11, 12, 13, 14, 15, 16, 17] : List Nat).Perm (List.range 19) by decide) rfl rfl rfl rfl rfl rfl (Nat.le_of_ble_eq_true rfl) ⟨(Nat.le_of_ble_eq_true rfl), (Nat.le_of_ble_eq_true rfl)⟩ (fun H locs hP hD hS => ?_)
  refine lv_icmp_eq (tgt := 1471) hx hb dL_law_1443 (by decide) (fun _ => ?_) (fun c1 => absurd he c1)
  exact kk _ _ _ _ _ hR' hl hP hD hS
set_option maxHeartbeats 4000000 in
set_option maxRecDepth 100000 in
theorem law_c42 {p : Program} {l : Launch} {e : Env} {s : State} {m : MethodId} {below : List Frame} {meth : Method} {c : Code} {b L : Nat} {xs : Nat → Int32} {D : va_G} {ca : Nat → ClassId} {x : Nat} {ad : Nat → Nat → Nat} {mm : Nat → Nat} {aS aV aT : Nat → Nat} {F : FS} {M : GS} {i : Nat} (C0 : lw_At p s m meth c b L xs) (hK : va_K D vwCl (TY ca) s) (hAm : Amb aS aV aT (fun q : Nat => s.heap.size ≤ q) s s.heap) (hRS : RSt aS s) (hi : i + 6 ≤ L) (hL : L ≤ 384) (hR : Rel F M)
    (kk : ∀ (F' : FS) (M' : GS) (ls : Array Slot) (H : Heap) (locs : List Loc), Rel F' M' → lv_has ls 4 [(0, .ref b), (1, .ref x), (2, .ref (mm 0)), (3, .int (nI i))] → va_P D vwCl (wA ca x ad mm F' M').flatten H → va_D (fun q : Nat => s.heap.size ≤ q) (wA ca x ad mm F' M').flatten → va_S (fun q : Nat => s.heap.size ≤ q) s.heap H locs → W p l e room_1 s m #[Value.ref b] below meth c H locs 67 1942 (lw_Z below #[Value.ref b] s) (F0 m 1471 ls []))
    (ls : Array Slot) (H : Heap) (locs : List Loc) (hl : lv_has ls 4 [(0, .ref b), (1, .ref x), (2, .ref (mm 0)), (3, .int (nI i))]) (hP : va_P D vwCl (wA ca x ad mm F M).flatten H) (hD : va_D (fun q : Nat => s.heap.size ≤ q) (wA ca x ad mm F M).flatten) (hS : va_S (fun q : Nat => s.heap.size ≤ q) s.heap H locs) : W p l e room_1 s m #[Value.ref b] below meth c H locs 67 1942 (lw_Z below #[Value.ref b] s) (F0 m 1448 ls []) := by
  obtain ⟨hx, hb, hr, hml, hown, hts0, hX, hbl, hlocks, hgv⟩ := id C0
  have hown : s.vm.findClass RL = some m.cls := hown
  have hts : ∀ w ∈ wsL_law, w.before #[Value.ref b] s = true := fun w h => hts0 w (wsL_law_in w h)
  have hA : ∀ q : Nat, s.heap.size ≤ q → (fun q : Nat => s.heap.size ≤ q) q := fun _ h => h
  have hbA : ¬ (fun q : Nat => s.heap.size ≤ q) b := Nat.not_le.mpr hbl
  obtain ⟨o, o', h1, h2, he, hR'⟩ := st_count hR (xs (nI i + (1 : Int32)).toNatClampNeg)
  refine lv_aload_n hx hb dL_law_1448 rfl (lv_at hl 1 rfl) ?_
  refine lv_aload_n hx hb dL_law_1449 rfl (lv_at hl 0 rfl) ?_
  refine lv_iload_n hx hb dL_law_1450 rfl (lv_at hl 3 rfl) ?_
  refine lv_iconst (v := (1 : Int32)) hx hb dL_law_1451 (by decide) ?_
  refine lv_iadd hx hb dL_law_1452 ?_
  refine va_sld hx hb hX hbl hbA hS (vp_off (k := 1) (by omega) (by omega)) dL_law_1453 ?_
  refine zVi (As := [.int (xs (nI i + (1 : Int32)).toNatClampNeg)]) (ci := 7) (bs := wA ca x ad mm F M) (bs' := wA ca x ad mm F M) ⟨hx, hb, hml, hown, hts⟩ (k_X7_count l D ca x (ad 1 0) (ad 10 0) (ad 11 0) (ad 0) (ad 2 0) (va_up (va_up (fun _ => none) 0 (some (ad 3 0))) 1 (some (ad 5 0))) (ad 8 0) (ad 7) (ad 9) (ad 12 0) (va_up (va_up (va_up (va_up (fun _ => none) 0 (some (ad 13 0))) 1 (some (ad 14 0))) 2 (some (ad 15 0))) 3 (some (ad 16 0))) (ad 4 0) (ad 3 0) (ad 6 0) (ad 5 0) (ad 13) (F.2.1 2) (F.1 0) (F.1 4) (F.1 6) (F.2.1 0) (F.2.1 1) (F.1 8) (xs (nI i + (1 : Int32)).toNatClampNeg) _ rfl rfl rfl h1) (cwV 1 hts gL_law_X7_count rfl rfl rfl (by decide +kernel) ⟨(Nat.le_of_ble_eq_true rfl), (Nat.le_of_ble_eq_true rfl)⟩) hK hA hP hD hS dL_law_1454 rfl hl.1 [0, 1, 3, 8, 10, 13, 4, 6, 14] [2, 5, 7, 9, 11, 12, 15, 16, 17, 18] (show ([0, 1, 3, 8, 10, 13, 4, 6, 14] ++ [2, 5, 7, 9, 11, 12, 15, 16, 17, 18] : List Nat).Perm (List.range 19) by decide) rfl (show ([0, 1, 3, 8, 10, 13, 4, 6, 14] ++ [2, 5, 7, 9, 11, 12, 15, 16, 17, 18] : List Nat).Perm (List.range 19) by decide) rfl rfl rfl rfl rfl rfl (Nat.le_of_ble_eq_true rfl) ⟨(Nat.le_of_ble_eq_true rfl), (Nat.le_of_ble_eq_true rfl)⟩ (fun H locs hP hD hS => ?_)
  refine lv_aload_n hx hb dL_law_1457 rfl (lv_at hl 2 rfl) ?_
  refine lv_aload_n hx hb dL_law_1458 rfl (lv_at hl 0 rfl) ?_
  refine lv_iload_n hx hb dL_law_1459 rfl (lv_at hl 3 rfl) ?_
  refine lv_iconst (v := (1 : Int32)) hx hb dL_law_1460 (by decide) ?_
  refine lv_iadd hx hb dL_law_1461 ?_
  refine va_sld hx hb hX hbl hbA hS (vp_off (k := 1) (by omega) (by omega)) dL_law_1462 ?_
  refine zVi (As := [.int (xs (nI i + (1 : Int32)).toNatClampNeg)]) (ci := 8) (bs := wA ca x ad mm F M) (bs' := wA ca x ad mm F M) ⟨hx, hb, hml, hown, hts⟩ (k_X8_count l D ca mm M (xs (nI i + (1 : Int32)).toNatClampNeg) _ h2) (cwV 1 hts gL_law_X8_count rfl rfl rfl (by decide +kernel) ⟨(Nat.le_of_ble_eq_true rfl), (Nat.le_of_ble_eq_true rfl)⟩) hK hA hP hD hS dL_law_1463 rfl hl.1 [18] [0, 1, 2, 3, 4, 5, 6, 7, 8, 9, 10, 11, 12, 13, 14, 15, 16, 17] (show ([18] ++ [0, 1, 2, 3, 4, 5, 6, 7, 8, 9, 10, 11, 12, 13, 14, 15, 16, 17] : List Nat).Perm (List.range 19) by decide) rfl (show ([18] ++ [0, 1, 2, 3, 4, 5, 6, 7, 8, 9, 10, 11, 12, 13, 14, 15, 16, 17] : List Nat).Perm (List.range 19) by decide) rfl rfl rfl rfl rfl rfl (Nat.le_of_ble_eq_true rfl) ⟨(Nat.le_of_ble_eq_true rfl), (Nat.le_of_ble_eq_true rfl)⟩ (fun H locs hP hD hS => ?_)
  refine lv_icmp_eq (tgt := 1471) hx hb dL_law_1466 (by decide) (fun _ => ?_) (fun c1 => absurd he c1)
  exact kk _ _ _ _ _ hR' hl hP hD hS
