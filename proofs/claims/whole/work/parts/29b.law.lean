set_option maxHeartbeats 4000000 in
set_option maxRecDepth 100000 in
theorem law_c15 {p : Program} {l : Launch} {e : Env} {s : State} {m : MethodId} {below : List Frame} {meth : Method} {c : Code} {b L : Nat} {xs : Nat → Int32} {D : va_G} {ca : Nat → ClassId} {x : Nat} {ad : Nat → Nat → Nat} {mm : Nat → Nat} {aS aV aT : Nat → Nat} {F : FS} {M : GS} {i : Nat} (C0 : lw_At p s m meth c b L xs) (hK : va_K D vwCl (TY ca) s) (hAm : Amb aS aV aT (fun q : Nat => s.heap.size ≤ q) s s.heap) (hRS : RSt aS s) (hi : i + 6 ≤ L) (hL : L ≤ 384) (hR : Rel F M)
    (kk : ∀ (F' : FS) (M' : GS) (ls : Array Slot) (H : Heap) (locs : List Loc), Rel F' M' → lv_has ls 4 [(0, .ref b), (1, .ref x), (2, .ref (mm 0)), (3, .int (nI i))] → va_P D vwCl (wA ca x ad mm F' M').flatten H → va_D (fun q : Nat => s.heap.size ≤ q) (wA ca x ad mm F' M').flatten → va_S (fun q : Nat => s.heap.size ≤ q) s.heap H locs → W p l e room_1 s m #[Value.ref b] below meth c H locs 67 1942 (lw_Z below #[Value.ref b] s) (F0 m 1471 ls []))
    (ls : Array Slot) (H : Heap) (locs : List Loc) (hl : lv_has ls 4 [(0, .ref b), (1, .ref x), (2, .ref (mm 0)), (3, .int (nI i))]) (hP : va_P D vwCl (wA ca x ad mm F M).flatten H) (hD : va_D (fun q : Nat => s.heap.size ≤ q) (wA ca x ad mm F M).flatten) (hS : va_S (fun q : Nat => s.heap.size ≤ q) s.heap H locs) : W p l e room_1 s m #[Value.ref b] below meth c H locs 67 1942 (lw_Z below #[Value.ref b] s) (F0 m 635 ls []) := by
  obtain ⟨hx, hb, hr, hml, hown, hts0, hX, hbl, hlocks, hgv⟩ := id C0
  have hown : s.vm.findClass RL = some m.cls := hown
  have hts : ∀ w ∈ wsL_law, w.before #[Value.ref b] s = true := fun w h => hts0 w (wsL_law_in w h)
  have hA : ∀ q : Nat, s.heap.size ≤ q → (fun q : Nat => s.heap.size ≤ q) q := fun _ h => h
  have hbA : ¬ (fun q : Nat => s.heap.size ≤ q) b := Nat.not_le.mpr hbl
  obtain ⟨o, o', h1, h2, he, hR'⟩ := st_years hR (xs (nI i + (1 : Int32)).toNatClampNeg)
  refine lv_aload_n hx hb dL_law_635 rfl (lv_at hl 1 rfl) ?_
  refine lv_aload_n hx hb dL_law_636 rfl (lv_at hl 0 rfl) ?_
  refine lv_iload_n hx hb dL_law_637 rfl (lv_at hl 3 rfl) ?_
  refine lv_iconst (v := (1 : Int32)) hx hb dL_law_638 (by decide) ?_
  refine lv_iadd hx hb dL_law_639 ?_
  refine va_sld hx hb hX hbl hbA hS (vp_off (k := 1) (by omega) (by omega)) dL_law_640 ?_
  refine zVi (As := [.int (xs (nI i + (1 : Int32)).toNatClampNeg)]) (ci := 7) (bs := wA ca x ad mm F M) (bs' := wA ca x ad mm ((va_up F.1 0 o.2), F.2.1, F.2.2) M) ⟨hx, hb, hml, hown, hts⟩ (k_X7_years l D ca x (ad 1 0) (ad 2 0) (ad 7 0) (ad 9 0) (ad 10 0) (ad 11 0) (ad 12 0) (ad 0) (F.2.1 2) (F.1 0) (xs (nI i + (1 : Int32)).toNatClampNeg) _ h1) (cwV 1 hts gL_law_X7_years rfl rfl rfl (by decide +kernel) ⟨(Nat.le_of_ble_eq_true rfl), (Nat.le_of_ble_eq_true rfl)⟩) hK hA hP hD hS dL_law_641 rfl hl.1 [0, 1] [2, 3, 4, 5, 6, 7, 8, 9, 10, 11, 12, 13, 14, 15, 16, 17, 18] (show ([0, 1] ++ [2, 3, 4, 5, 6, 7, 8, 9, 10, 11, 12, 13, 14, 15, 16, 17, 18] : List Nat).Perm (List.range 19) by decide) rfl (show ([0, 1] ++ [2, 3, 4, 5, 6, 7, 8, 9, 10, 11, 12, 13, 14, 15, 16, 17, 18] : List Nat).Perm (List.range 19) by decide) rfl rfl rfl rfl rfl rfl (Nat.le_of_ble_eq_true rfl) ⟨(Nat.le_of_ble_eq_true rfl), (Nat.le_of_ble_eq_true rfl)⟩ (fun H locs hP hD hS => ?_)
  refine lv_aload_n hx hb dL_law_644 rfl (lv_at hl 2 rfl) ?_
  refine lv_aload_n hx hb dL_law_645 rfl (lv_at hl 0 rfl) ?_
  refine lv_iload_n hx hb dL_law_646 rfl (lv_at hl 3 rfl) ?_
  refine lv_iconst (v := (1 : Int32)) hx hb dL_law_647 (by decide) ?_
  refine lv_iadd hx hb dL_law_648 ?_
  refine va_sld hx hb hX hbl hbA hS (vp_off (k := 1) (by omega) (by omega)) dL_law_649 ?_
  refine zVi (As := [.int (xs (nI i + (1 : Int32)).toNatClampNeg)]) (ci := 8) (bs := wA ca x ad mm ((va_up F.1 0 o.2), F.2.1, F.2.2) M) (bs' := wA ca x ad mm ((va_up F.1 0 o.2), F.2.1, F.2.2) o'.2) ⟨hx, hb, hml, hown, hts⟩ (k_X8_years l D ca mm M (xs (nI i + (1 : Int32)).toNatClampNeg) _ h2) (cwV 1 hts gL_law_X8_years rfl rfl rfl (by decide +kernel) ⟨(Nat.le_of_ble_eq_true rfl), (Nat.le_of_ble_eq_true rfl)⟩) hK hA hP hD hS dL_law_650 rfl hl.1 [18] [0, 1, 2, 3, 4, 5, 6, 7, 8, 9, 10, 11, 12, 13, 14, 15, 16, 17] (show ([18] ++ [0, 1, 2, 3, 4, 5, 6, 7, 8, 9, 10, 11, 12, 13, 14, 15, 16, 17] : List Nat).Perm (List.range 19) by decide) rfl (show ([18] ++ [0, 1, 2, 3, 4, 5, 6, 7, 8, 9, 10, 11, 12, 13, 14, 15, 16, 17] : List Nat).Perm (List.range 19) by decide) rfl rfl rfl rfl rfl rfl (Nat.le_of_ble_eq_true rfl) ⟨(Nat.le_of_ble_eq_true rfl), (Nat.le_of_ble_eq_true rfl)⟩ (fun H locs hP hD hS => ?_)
  refine lv_icmp_eq (tgt := 1471) hx hb dL_law_653 (by decide) (fun _ => ?_) (fun c1 => absurd he c1)
  exact kk _ _ _ _ _ hR' hl hP hD hS
set_option maxHeartbeats 4000000 in
set_option maxRecDepth 100000 in
theorem law_c16 {p : Program} {l : Launch} {e : Env} {s : State} {m : MethodId} {below : List Frame} {meth : Method} {c : Code} {b L : Nat} {xs : Nat → Int32} {D : va_G} {ca : Nat → ClassId} {x : Nat} {ad : Nat → Nat → Nat} {mm : Nat → Nat} {aS aV aT : Nat → Nat} {F : FS} {M : GS} {i : Nat} (C0 : lw_At p s m meth c b L xs) (hK : va_K D vwCl (TY ca) s) (hAm : Amb aS aV aT (fun q : Nat => s.heap.size ≤ q) s s.heap) (hRS : RSt aS s) (hi : i + 6 ≤ L) (hL : L ≤ 384) (hR : Rel F M)
    (kk : ∀ (F' : FS) (M' : GS) (ls : Array Slot) (H : Heap) (locs : List Loc), Rel F' M' → lv_has ls 4 [(0, .ref b), (1, .ref x), (2, .ref (mm 0)), (3, .int (nI i))] → va_P D vwCl (wA ca x ad mm F' M').flatten H → va_D (fun q : Nat => s.heap.size ≤ q) (wA ca x ad mm F' M').flatten → va_S (fun q : Nat => s.heap.size ≤ q) s.heap H locs → W p l e room_1 s m #[Value.ref b] below meth c H locs 67 1942 (lw_Z below #[Value.ref b] s) (F0 m 1471 ls []))
    (ls : Array Slot) (H : Heap) (locs : List Loc) (hl : lv_has ls 4 [(0, .ref b), (1, .ref x), (2, .ref (mm 0)), (3, .int (nI i))]) (hP : va_P D vwCl (wA ca x ad mm F M).flatten H) (hD : va_D (fun q : Nat => s.heap.size ≤ q) (wA ca x ad mm F M).flatten) (hS : va_S (fun q : Nat => s.heap.size ≤ q) s.heap H locs) : W p l e room_1 s m #[Value.ref b] below meth c H locs 67 1942 (lw_Z below #[Value.ref b] s) (F0 m 658 ls []) := by
  obtain ⟨hx, hb, hr, hml, hown, hts0, hX, hbl, hlocks, hgv⟩ := id C0
  have hown : s.vm.findClass RL = some m.cls := hown
  have hts : ∀ w ∈ wsL_law, w.before #[Value.ref b] s = true := fun w h => hts0 w (wsL_law_in w h)
  have hA : ∀ q : Nat, s.heap.size ≤ q → (fun q : Nat => s.heap.size ≤ q) q := fun _ h => h
  have hbA : ¬ (fun q : Nat => s.heap.size ≤ q) b := Nat.not_le.mpr hbl
  obtain ⟨o, o', h1, h2, he, hR'⟩ := st_runs hR (xs (nI i + (1 : Int32)).toNatClampNeg) (xs (nI i + (2 : Int32)).toNatClampNeg)
  refine lv_aload_n hx hb dL_law_658 rfl (lv_at hl 1 rfl) ?_
  refine lv_aload_n hx hb dL_law_659 rfl (lv_at hl 0 rfl) ?_
  refine lv_iload_n hx hb dL_law_660 rfl (lv_at hl 3 rfl) ?_
  refine lv_iconst (v := (1 : Int32)) hx hb dL_law_661 (by decide) ?_
  refine lv_iadd hx hb dL_law_662 ?_
  refine va_sld hx hb hX hbl hbA hS (vp_off (k := 1) (by omega) (by omega)) dL_law_663 ?_
  refine lv_aload_n hx hb dL_law_664 rfl (lv_at hl 0 rfl) ?_
  refine lv_iload_n hx hb dL_law_665 rfl (lv_at hl 3 rfl) ?_
  refine lv_iconst (v := (2 : Int32)) hx hb dL_law_666 (by decide) ?_
  refine lv_iadd hx hb dL_law_667 ?_
  refine va_sld hx hb hX hbl hbA hS (vp_off (k := 2) (by omega) (by omega)) dL_law_668 ?_
  refine zVi (As := [.int (xs (nI i + (1 : Int32)).toNatClampNeg), .int (xs (nI i + (2 : Int32)).toNatClampNeg)]) (ci := 7) (bs := wA ca x ad mm F M) (bs' := wA ca x ad mm ((va_up F.1 1 o.2), F.2.1, F.2.2) M) ⟨hx, hb, hml, hown, hts⟩ (k_X7_runs l D ca x (ad 2 0) (ad 7 0) (ad 9 0) (ad 10 0) (ad 11 0) (ad 12 0) (ad 0) (ad 1) (F.2.1 2) (F.1 0) (F.1 1) (xs (nI i + (1 : Int32)).toNatClampNeg) (xs (nI i + (2 : Int32)).toNatClampNeg) _ h1) (cwV 2 hts gL_law_X7_runs rfl rfl rfl (by decide +kernel) ⟨(Nat.le_of_ble_eq_true rfl), (Nat.le_of_ble_eq_true rfl)⟩) hK hA hP hD hS dL_law_669 rfl hl.1 [0, 1, 2] [3, 4, 5, 6, 7, 8, 9, 10, 11, 12, 13, 14, 15, 16, 17, 18] (show ([0, 1, 2] ++ [3, 4, 5, 6, 7, 8, 9, 10, 11, 12, 13, 14, 15, 16, 17, 18] : List Nat).Perm (List.range 19) by decide) rfl (show ([0, 1, 2] ++ [3, 4, 5, 6, 7, 8, 9, 10, 11, 12, 13, 14, 15, 16, 17, 18] : List Nat).Perm (List.range 19) by decide) rfl rfl rfl rfl rfl rfl (Nat.le_of_ble_eq_true rfl) ⟨(Nat.le_of_ble_eq_true rfl), (Nat.le_of_ble_eq_true rfl)⟩ (fun H locs hP hD hS => ?_)
  refine lv_aload_n hx hb dL_law_672 rfl (lv_at hl 2 rfl) ?_
  refine lv_aload_n hx hb dL_law_673 rfl (lv_at hl 0 rfl) ?_
  refine lv_iload_n hx hb dL_law_674 rfl (lv_at hl 3 rfl) ?_
  refine lv_iconst (v := (1 : Int32)) hx hb dL_law_675 (by decide) ?_
  refine lv_iadd hx hb dL_law_676 ?_
  refine va_sld hx hb hX hbl hbA hS (vp_off (k := 1) (by omega) (by omega)) dL_law_677 ?_
  refine lv_aload_n hx hb dL_law_678 rfl (lv_at hl 0 rfl) ?_
  refine lv_iload_n hx hb dL_law_679 rfl (lv_at hl 3 rfl) ?_
  refine lv_iconst (v := (2 : Int32)) hx hb dL_law_680 (by decide) ?_
  refine lv_iadd hx hb dL_law_681 ?_
  refine va_sld hx hb hX hbl hbA hS (vp_off (k := 2) (by omega) (by omega)) dL_law_682 ?_
  refine zVi (As := [.int (xs (nI i + (1 : Int32)).toNatClampNeg), .int (xs (nI i + (2 : Int32)).toNatClampNeg)]) (ci := 8) (bs := wA ca x ad mm ((va_up F.1 1 o.2), F.2.1, F.2.2) M) (bs' := wA ca x ad mm ((va_up F.1 1 o.2), F.2.1, F.2.2) o'.2) ⟨hx, hb, hml, hown, hts⟩ (k_X8_runs l D ca mm M (xs (nI i + (1 : Int32)).toNatClampNeg) (xs (nI i + (2 : Int32)).toNatClampNeg) _ h2) (cwV 2 hts gL_law_X8_runs rfl rfl rfl (by decide +kernel) ⟨(Nat.le_of_ble_eq_true rfl), (Nat.le_of_ble_eq_true rfl)⟩) hK hA hP hD hS dL_law_683 rfl hl.1 [18] [0, 1, 2, 3, 4, 5, 6, 7, 8, 9, 10, 11, 12, 13, 14, 15, 16, 17] (show ([18] ++ [0, 1, 2, 3, 4, 5, 6, 7, 8, 9, 10, 11, 12, 13, 14, 15, 16, 17] : List Nat).Perm (List.range 19) by decide) rfl (show ([18] ++ [0, 1, 2, 3, 4, 5, 6, 7, 8, 9, 10, 11, 12, 13, 14, 15, 16, 17] : List Nat).Perm (List.range 19) by decide) rfl rfl rfl rfl rfl rfl (Nat.le_of_ble_eq_true rfl) ⟨(Nat.le_of_ble_eq_true rfl), (Nat.le_of_ble_eq_true rfl)⟩ (fun H locs hP hD hS => ?_)
  refine lv_icmp_eq (tgt := 1471) hx hb dL_law_686 (by decide) (fun _ => ?_) (fun c1 => absurd he c1)
  exact kk _ _ _ _ _ hR' hl hP hD hS
set_option maxHeartbeats 4000000 in
set_option maxRecDepth 100000 in
theorem law_c17 {p : Program} {l : Launch} {e : Env} {s : State} {m : MethodId} {below : List Frame} {meth : Method} {c : Code} {b L : Nat} {xs : Nat → Int32} {D : va_G} {ca : Nat → ClassId} {x : Nat} {ad : Nat → Nat → Nat} {mm : Nat → Nat} {aS aV aT : Nat → Nat} {F : FS} {M : GS} {i : Nat} (C0 : lw_At p s m meth c b L xs) (hK : va_K D vwCl (TY ca) s) (hAm : Amb aS aV aT (fun q : Nat => s.heap.size ≤ q) s s.heap) (hRS : RSt aS s) (hi : i + 6 ≤ L) (hL : L ≤ 384) (hR : Rel F M)
    (kk : ∀ (F' : FS) (M' : GS) (ls : Array Slot) (H : Heap) (locs : List Loc), Rel F' M' → lv_has ls 4 [(0, .ref b), (1, .ref x), (2, .ref (mm 0)), (3, .int (nI i))] → va_P D vwCl (wA ca x ad mm F' M').flatten H → va_D (fun q : Nat => s.heap.size ≤ q) (wA ca x ad mm F' M').flatten → va_S (fun q : Nat => s.heap.size ≤ q) s.heap H locs → W p l e room_1 s m #[Value.ref b] below meth c H locs 67 1942 (lw_Z below #[Value.ref b] s) (F0 m 1471 ls []))
    (ls : Array Slot) (H : Heap) (locs : List Loc) (hl : lv_has ls 4 [(0, .ref b), (1, .ref x), (2, .ref (mm 0)), (3, .int (nI i))]) (hP : va_P D vwCl (wA ca x ad mm F M).flatten H) (hD : va_D (fun q : Nat => s.heap.size ≤ q) (wA ca x ad mm F M).flatten) (hS : va_S (fun q : Nat => s.heap.size ≤ q) s.heap H locs) : W p l e room_1 s m #[Value.ref b] below meth c H locs 67 1942 (lw_Z below #[Value.ref b] s) (F0 m 691 ls []) := by
  obtain ⟨hx, hb, hr, hml, hown, hts0, hX, hbl, hlocks, hgv⟩ := id C0
  have hown : s.vm.findClass RL = some m.cls := hown
  have hts : ∀ w ∈ wsL_law, w.before #[Value.ref b] s = true := fun w h => hts0 w (wsL_law_in w h)
  have hA : ∀ q : Nat, s.heap.size ≤ q → (fun q : Nat => s.heap.size ≤ q) q := fun _ h => h
  have hbA : ¬ (fun q : Nat => s.heap.size ≤ q) b := Nat.not_le.mpr hbl
  obtain ⟨o, o', h1, h2, he, hR'⟩ := st_ahead hR (xs (nI i + (1 : Int32)).toNatClampNeg) (xs (nI i + (2 : Int32)).toNatClampNeg)
  refine lv_aload_n hx hb dL_law_691 rfl (lv_at hl 1 rfl) ?_
  refine lv_aload_n hx hb dL_law_692 rfl (lv_at hl 0 rfl) ?_
  refine lv_iload_n hx hb dL_law_693 rfl (lv_at hl 3 rfl) ?_
  refine lv_iconst (v := (1 : Int32)) hx hb dL_law_694 (by decide) ?_
  refine lv_iadd hx hb dL_law_695 ?_
  refine va_sld hx hb hX hbl hbA hS (vp_off (k := 1) (by omega) (by omega)) dL_law_696 ?_
  refine lv_aload_n hx hb dL_law_697 rfl (lv_at hl 0 rfl) ?_
  refine lv_iload_n hx hb dL_law_698 rfl (lv_at hl 3 rfl) ?_
  refine lv_iconst (v := (2 : Int32)) hx hb dL_law_699 (by decide) ?_
  refine lv_iadd hx hb dL_law_700 ?_
  refine va_sld hx hb hX hbl hbA hS (vp_off (k := 2) (by omega) (by omega)) dL_law_701 ?_
  refine zVi (As := [.int (xs (nI i + (1 : Int32)).toNatClampNeg), .int (xs (nI i + (2 : Int32)).toNatClampNeg)]) (ci := 7) (bs := wA ca x ad mm F M) (bs' := wA ca x ad mm ((va_up F.1 1 o.2), F.2.1, F.2.2) M) ⟨hx, hb, hml, hown, hts⟩ (k_X7_ahead l D ca x (ad 2 0) (ad 7 0) (ad 9 0) (ad 10 0) (ad 11 0) (ad 12 0) (ad 0) (ad 1) (F.2.1 2) (F.1 0) (F.1 1) (xs (nI i + (1 : Int32)).toNatClampNeg) (xs (nI i + (2 : Int32)).toNatClampNeg) _ h1) (cwV 2 hts gL_law_X7_ahead rfl rfl rfl (by decide +kernel) ⟨(Nat.le_of_ble_eq_true rfl), (Nat.le_of_ble_eq_true rfl)⟩) hK hA hP hD hS dL_law_702 rfl hl.1 [0, 1, 2] [3, 4, 5, 6, 7, 8, 9, 10, 11, 12, 13, 14, 15, 16, 17, 18] (show ([0, 1, 2] ++ [3, 4, 5, 6, 7, 8, 9, 10, 11, 12, 13, 14, 15, 16, 17, 18] : List Nat).Perm (List.range 19) by decide) rfl (show ([0, 1, 2] ++ [3, 4, 5, 6, 7, 8, 9, 10, 11, 12, 13, 14, 15, 16, 17, 18] : List Nat).Perm (List.range 19) by decide) rfl rfl rfl rfl rfl rfl (Nat.le_of_ble_eq_true rfl) ⟨(Nat.le_of_ble_eq_true rfl), (Nat.le_of_ble_eq_true rfl)⟩ (fun H locs hP hD hS => ?_)
  refine lv_aload_n hx hb dL_law_705 rfl (lv_at hl 2 rfl) ?_
  refine lv_aload_n hx hb dL_law_706 rfl (lv_at hl 0 rfl) ?_
  refine lv_iload_n hx hb dL_law_707 rfl (lv_at hl 3 rfl) ?_
  refine lv_iconst (v := (1 : Int32)) hx hb dL_law_708 (by decide) ?_
  refine lv_iadd hx hb dL_law_709 ?_
  refine va_sld hx hb hX hbl hbA hS (vp_off (k := 1) (by omega) (by omega)) dL_law_710 ?_
  refine lv_aload_n hx hb dL_law_711 rfl (lv_at hl 0 rfl) ?_
  refine lv_iload_n hx hb dL_law_712 rfl (lv_at hl 3 rfl) ?_
  refine lv_iconst (v := (2 : Int32)) hx hb dL_law_713 (by decide) ?_
  refine lv_iadd hx hb dL_law_714 ?_
  refine va_sld hx hb hX hbl hbA hS (vp_off (k := 2) (by omega) (by omega)) dL_law_715 ?_
  refine zVi (As := [.int (xs (nI i + (1 : Int32)).toNatClampNeg), .int (xs (nI i + (2 : Int32)).toNatClampNeg)]) (ci := 8) (bs := wA ca x ad mm ((va_up F.1 1 o.2), F.2.1, F.2.2) M) (bs' := wA ca x ad mm ((va_up F.1 1 o.2), F.2.1, F.2.2) o'.2) ⟨hx, hb, hml, hown, hts⟩ (k_X8_ahead l D ca mm M (xs (nI i + (1 : Int32)).toNatClampNeg) (xs (nI i + (2 : Int32)).toNatClampNeg) _ h2) (cwV 2 hts gL_law_X8_ahead rfl rfl rfl (by decide +kernel) ⟨(Nat.le_of_ble_eq_true rfl), (Nat.le_of_ble_eq_true rfl)⟩) hK hA hP hD hS dL_law_716 rfl hl.1 [18] [0, 1, 2, 3, 4, 5, 6, 7, 8, 9, 10, 11, 12, 13, 14, 15, 16, 17] (show ([18] ++ [0, 1, 2, 3, 4, 5, 6, 7, 8, 9, 10, 11, 12, 13, 14, 15, 16, 17] : List Nat).Perm (List.range 19) by decide) rfl (show ([18] ++ [0, 1, 2, 3, 4, 5, 6, 7, 8, 9, 10, 11, 12, 13, 14, 15, 16, 17] : List Nat).Perm (List.range 19) by decide) rfl rfl rfl rfl rfl rfl (Nat.le_of_ble_eq_true rfl) ⟨(Nat.le_of_ble_eq_true rfl), (Nat.le_of_ble_eq_true rfl)⟩ (fun H locs hP hD hS => ?_)
  refine lv_icmp_eq (tgt := 1471) hx hb dL_law_719 (by decide) (fun _ => ?_) (fun c1 => absurd he c1)
  exact kk _ _ _ _ _ hR' hl hP hD hS
set_option maxHeartbeats 4000000 in
set_option maxRecDepth 100000 in
theorem law_c18 {p : Program} {l : Launch} {e : Env} {s : State} {m : MethodId} {below : List Frame} {meth : Method} {c : Code} {b L : Nat} {xs : Nat → Int32} {D : va_G} {ca : Nat → ClassId} {x : Nat} {ad : Nat → Nat → Nat} {mm : Nat → Nat} {aS aV aT : Nat → Nat} {F : FS} {M : GS} {i : Nat} (C0 : lw_At p s m meth c b L xs) (hK : va_K D vwCl (TY ca) s) (hAm : Amb aS aV aT (fun q : Nat => s.heap.size ≤ q) s s.heap) (hRS : RSt aS s) (hi : i + 6 ≤ L) (hL : L ≤ 384) (hR : Rel F M)
    (kk : ∀ (F' : FS) (M' : GS) (ls : Array Slot) (H : Heap) (locs : List Loc), Rel F' M' → lv_has ls 4 [(0, .ref b), (1, .ref x), (2, .ref (mm 0)), (3, .int (nI i))] → va_P D vwCl (wA ca x ad mm F' M').flatten H → va_D (fun q : Nat => s.heap.size ≤ q) (wA ca x ad mm F' M').flatten → va_S (fun q : Nat => s.heap.size ≤ q) s.heap H locs → W p l e room_1 s m #[Value.ref b] below meth c H locs 67 1942 (lw_Z below #[Value.ref b] s) (F0 m 1471 ls []))
    (ls : Array Slot) (H : Heap) (locs : List Loc) (hl : lv_has ls 4 [(0, .ref b), (1, .ref x), (2, .ref (mm 0)), (3, .int (nI i))]) (hP : va_P D vwCl (wA ca x ad mm F M).flatten H) (hD : va_D (fun q : Nat => s.heap.size ≤ q) (wA ca x ad mm F M).flatten) (hS : va_S (fun q : Nat => s.heap.size ≤ q) s.heap H locs) : W p l e room_1 s m #[Value.ref b] below meth c H locs 67 1942 (lw_Z below #[Value.ref b] s) (F0 m 724 ls []) := by
  obtain ⟨hx, hb, hr, hml, hown, hts0, hX, hbl, hlocks, hgv⟩ := id C0
  have hown : s.vm.findClass RL = some m.cls := hown
  have hts : ∀ w ∈ wsL_law, w.before #[Value.ref b] s = true := fun w h => hts0 w (wsL_law_in w h)
  have hA : ∀ q : Nat, s.heap.size ≤ q → (fun q : Nat => s.heap.size ≤ q) q := fun _ h => h
  have hbA : ¬ (fun q : Nat => s.heap.size ≤ q) b := Nat.not_le.mpr hbl
  obtain ⟨o, o', h1, h2, he, hR'⟩ := st_fades hR (xs (nI i + (1 : Int32)).toNatClampNeg)
  refine lv_aload_n hx hb dL_law_724 rfl (lv_at hl 1 rfl) ?_
  refine lv_aload_n hx hb dL_law_725 rfl (lv_at hl 0 rfl) ?_
  refine lv_iload_n hx hb dL_law_726 rfl (lv_at hl 3 rfl) ?_
  refine lv_iconst (v := (1 : Int32)) hx hb dL_law_727 (by decide) ?_
  refine lv_iadd hx hb dL_law_728 ?_
  refine va_sld hx hb hX hbl hbA hS (vp_off (k := 1) (by omega) (by omega)) dL_law_729 ?_
  refine zVi (As := [.int (xs (nI i + (1 : Int32)).toNatClampNeg)]) (ci := 7) (bs := wA ca x ad mm F M) (bs' := wA ca x ad mm ((va_up F.1 1 o.2), F.2.1, F.2.2) M) ⟨hx, hb, hml, hown, hts⟩ (k_X7_fades l D ca x (ad 2 0) (ad 7 0) (ad 9 0) (ad 10 0) (ad 11 0) (ad 12 0) (ad 0) (ad 1) (F.2.1 2) (F.1 0) (F.1 1) (xs (nI i + (1 : Int32)).toNatClampNeg) _ h1) (cwV 1 hts gL_law_X7_fades rfl rfl rfl (by decide +kernel) ⟨(Nat.le_of_ble_eq_true rfl), (Nat.le_of_ble_eq_true rfl)⟩) hK hA hP hD hS dL_law_730 rfl hl.1 [0, 1, 2] [3, 4, 5, 6, 7, 8, 9, 10, 11, 12, 13, 14, 15, 16, 17, 18] (show ([0, 1, 2] ++ [3, 4, 5, 6, 7, 8, 9, 10, 11, 12, 13, 14, 15, 16, 17, 18] : List Nat).Perm (List.range 19) by decide) rfl (show ([0, 1, 2] ++ [3, 4, 5, 6, 7, 8, 9, 10, 11, 12, 13, 14, 15, 16, 17, 18] : List Nat).Perm (List.range 19) by decide) rfl rfl rfl rfl rfl rfl (Nat.le_of_ble_eq_true rfl) ⟨(Nat.le_of_ble_eq_true rfl), (Nat.le_of_ble_eq_true rfl)⟩ (fun H locs hP hD hS => ?_)
  refine lv_aload_n hx hb dL_law_733 rfl (lv_at hl 2 rfl) ?_
  refine lv_aload_n hx hb dL_law_734 rfl (lv_at hl 0 rfl) ?_
  refine lv_iload_n hx hb dL_law_735 rfl (lv_at hl 3 rfl) ?_
  refine lv_iconst (v := (1 : Int32)) hx hb dL_law_736 (by decide) ?_
  refine lv_iadd hx hb dL_law_737 ?_
  refine va_sld hx hb hX hbl hbA hS (vp_off (k := 1) (by omega) (by omega)) dL_law_738 ?_
  refine zVi (As := [.int (xs (nI i + (1 : Int32)).toNatClampNeg)]) (ci := 8) (bs := wA ca x ad mm ((va_up F.1 1 o.2), F.2.1, F.2.2) M) (bs' := wA ca x ad mm ((va_up F.1 1 o.2), F.2.1, F.2.2) o'.2) ⟨hx, hb, hml, hown, hts⟩ (k_X8_fades l D ca mm M (xs (nI i + (1 : Int32)).toNatClampNeg) _ h2) (cwV 1 hts gL_law_X8_fades rfl rfl rfl (by decide +kernel) ⟨(Nat.le_of_ble_eq_true rfl), (Nat.le_of_ble_eq_true rfl)⟩) hK hA hP hD hS dL_law_739 rfl hl.1 [18] [0, 1, 2, 3, 4, 5, 6, 7, 8, 9, 10, 11, 12, 13, 14, 15, 16, 17] (show ([18] ++ [0, 1, 2, 3, 4, 5, 6, 7, 8, 9, 10, 11, 12, 13, 14, 15, 16, 17] : List Nat).Perm (List.range 19) by decide) rfl (show ([18] ++ [0, 1, 2, 3, 4, 5, 6, 7, 8, 9, 10, 11, 12, 13, 14, 15, 16, 17] : List Nat).Perm (List.range 19) by decide) rfl rfl rfl rfl rfl rfl (Nat.le_of_ble_eq_true rfl) ⟨(Nat.le_of_ble_eq_true rfl), (Nat.le_of_ble_eq_true rfl)⟩ (fun H locs hP hD hS => ?_)
  refine lv_icmp_eq (tgt := 1471) hx hb dL_law_742 (by decide) (fun _ => ?_) (fun c1 => absurd he c1)
  exact kk _ _ _ _ _ hR' hl hP hD hS
set_option maxHeartbeats 4000000 in
set_option maxRecDepth 100000 in
theorem law_c19 {p : Program} {l : Launch} {e : Env} {s : State} {m : MethodId} {below : List Frame} {meth : Method} {c : Code} {b L : Nat} {xs : Nat → Int32} {D : va_G} {ca : Nat → ClassId} {x : Nat} {ad : Nat → Nat → Nat} {mm : Nat → Nat} {aS aV aT : Nat → Nat} {F : FS} {M : GS} {i : Nat} (C0 : lw_At p s m meth c b L xs) (hK : va_K D vwCl (TY ca) s) (hAm : Amb aS aV aT (fun q : Nat => s.heap.size ≤ q) s s.heap) (hRS : RSt aS s) (hi : i + 6 ≤ L) (hL : L ≤ 384) (hR : Rel F M)
    (kk : ∀ (F' : FS) (M' : GS) (ls : Array Slot) (H : Heap) (locs : List Loc), Rel F' M' → lv_has ls 4 [(0, .ref b), (1, .ref x), (2, .ref (mm 0)), (3, .int (nI i))] → va_P D vwCl (wA ca x ad mm F' M').flatten H → va_D (fun q : Nat => s.heap.size ≤ q) (wA ca x ad mm F' M').flatten → va_S (fun q : Nat => s.heap.size ≤ q) s.heap H locs → W p l e room_1 s m #[Value.ref b] below meth c H locs 67 1942 (lw_Z below #[Value.ref b] s) (F0 m 1471 ls []))
    (ls : Array Slot) (H : Heap) (locs : List Loc) (hl : lv_has ls 4 [(0, .ref b), (1, .ref x), (2, .ref (mm 0)), (3, .int (nI i))]) (hP : va_P D vwCl (wA ca x ad mm F M).flatten H) (hD : va_D (fun q : Nat => s.heap.size ≤ q) (wA ca x ad mm F M).flatten) (hS : va_S (fun q : Nat => s.heap.size ≤ q) s.heap H locs) : W p l e room_1 s m #[Value.ref b] below meth c H locs 67 1942 (lw_Z below #[Value.ref b] s) (F0 m 747 ls []) := by
  obtain ⟨hx, hb, hr, hml, hown, hts0, hX, hbl, hlocks, hgv⟩ := id C0
  have hown : s.vm.findClass RL = some m.cls := hown
  have hts : ∀ w ∈ wsL_law, w.before #[Value.ref b] s = true := fun w h => hts0 w (wsL_law_in w h)
  have hA : ∀ q : Nat, s.heap.size ≤ q → (fun q : Nat => s.heap.size ≤ q) q := fun _ h => h
  have hbA : ¬ (fun q : Nat => s.heap.size ≤ q) b := Nat.not_le.mpr hbl
  obtain ⟨o, o', h1, h2, he, hR'⟩ := st_stretch hR (xs (nI i + (1 : Int32)).toNatClampNeg) (xs (nI i + (2 : Int32)).toNatClampNeg)
  refine lv_aload_n hx hb dL_law_747 rfl (lv_at hl 1 rfl) ?_
  refine lv_aload_n hx hb dL_law_748 rfl (lv_at hl 0 rfl) ?_
  refine lv_iload_n hx hb dL_law_749 rfl (lv_at hl 3 rfl) ?_
  refine lv_iconst (v := (1 : Int32)) hx hb dL_law_750 (by decide) ?_
  refine lv_iadd hx hb dL_law_751 ?_
  refine va_sld hx hb hX hbl hbA hS (vp_off (k := 1) (by omega) (by omega)) dL_law_752 ?_
  refine lv_aload_n hx hb dL_law_753 rfl (lv_at hl 0 rfl) ?_
  refine lv_iload_n hx hb dL_law_754 rfl (lv_at hl 3 rfl) ?_
  refine lv_iconst (v := (2 : Int32)) hx hb dL_law_755 (by decide) ?_
  refine lv_iadd hx hb dL_law_756 ?_
  refine va_sld hx hb hX hbl hbA hS (vp_off (k := 2) (by omega) (by omega)) dL_law_757 ?_
  refine zVi (As := [.int (xs (nI i + (1 : Int32)).toNatClampNeg), .int (xs (nI i + (2 : Int32)).toNatClampNeg)]) (ci := 7) (bs := wA ca x ad mm F M) (bs' := wA ca x ad mm F M) ⟨hx, hb, hml, hown, hts⟩ (k_X7_stretch l D ca x (ad 1 0) (ad 2 0) (ad 7 0) (ad 9 0) (ad 10 0) (ad 11 0) (ad 12 0) (ad 0) (F.2.1 2) (F.1 0) (xs (nI i + (1 : Int32)).toNatClampNeg) (xs (nI i + (2 : Int32)).toNatClampNeg) _ h1) (cwV 2 hts gL_law_X7_stretch rfl rfl rfl (by decide +kernel) ⟨(Nat.le_of_ble_eq_true rfl), (Nat.le_of_ble_eq_true rfl)⟩) hK hA hP hD hS dL_law_758 rfl hl.1 [0, 1] [2, 3, 4, 5, 6, 7, 8, 9, 10, 11, 12, 13, 14, 15, 16, 17, 18] (show ([0, 1] ++ [2, 3, 4, 5, 6, 7, 8, 9, 10, 11, 12, 13, 14, 15, 16, 17, 18] : List Nat).Perm (List.range 19) by decide) rfl (show ([0, 1] ++ [2, 3, 4, 5, 6, 7, 8, 9, 10, 11, 12, 13, 14, 15, 16, 17, 18] : List Nat).Perm (List.range 19) by decide) rfl rfl rfl rfl rfl rfl (Nat.le_of_ble_eq_true rfl) ⟨(Nat.le_of_ble_eq_true rfl), (Nat.le_of_ble_eq_true rfl)⟩ (fun H locs hP hD hS => ?_)
  refine lv_aload_n hx hb dL_law_761 rfl (lv_at hl 2 rfl) ?_
  refine lv_aload_n hx hb dL_law_762 rfl (lv_at hl 0 rfl) ?_
  refine lv_iload_n hx hb dL_law_763 rfl (lv_at hl 3 rfl) ?_
  refine lv_iconst (v := (1 : Int32)) hx hb dL_law_764 (by decide) ?_
  refine lv_iadd hx hb dL_law_765 ?_
  refine va_sld hx hb hX hbl hbA hS (vp_off (k := 1) (by omega) (by omega)) dL_law_766 ?_
  refine lv_aload_n hx hb dL_law_767 rfl (lv_at hl 0 rfl) ?_
  refine lv_iload_n hx hb dL_law_768 rfl (lv_at hl 3 rfl) ?_
  refine lv_iconst (v := (2 : Int32)) hx hb dL_law_769 (by decide) ?_
  refine lv_iadd hx hb dL_law_770 ?_
  refine va_sld hx hb hX hbl hbA hS (vp_off (k := 2) (by omega) (by omega)) dL_law_771 ?_
  refine zVi (As := [.int (xs (nI i + (1 : Int32)).toNatClampNeg), .int (xs (nI i + (2 : Int32)).toNatClampNeg)]) (ci := 8) (bs := wA ca x ad mm F M) (bs' := wA ca x ad mm F M) ⟨hx, hb, hml, hown, hts⟩ (k_X8_stretch l D ca mm M (xs (nI i + (1 : Int32)).toNatClampNeg) (xs (nI i + (2 : Int32)).toNatClampNeg) _ h2) (cwV 2 hts gL_law_X8_stretch rfl rfl rfl (by decide +kernel) ⟨(Nat.le_of_ble_eq_true rfl), (Nat.le_of_ble_eq_true rfl)⟩) hK hA hP hD hS dL_law_772 rfl hl.1 [18] [0, 1, 2, 3, 4, 5, 6, 7, 8, 9, 10, 11, 12, 13, 14, 15, 16, 17] (show ([18] ++ [0, 1, 2, 3, 4, 5, 6, 7, 8, 9, 10, 11, 12, 13, 14, 15, 16, 17] : List Nat).Perm (List.range 19) by decide) rfl (show ([18] ++ [0, 1, 2, 3, 4, 5, 6, 7, 8, 9, 10, 11, 12, 13, 14, 15, 16, 17] : List Nat).Perm (List.range 19) by decide) rfl rfl rfl rfl rfl rfl (Nat.le_of_ble_eq_true rfl) ⟨(Nat.le_of_ble_eq_true rfl), (Nat.le_of_ble_eq_true rfl)⟩ (fun H locs hP hD hS => ?_)
  refine lv_icmp_eq (tgt := 1471) hx hb dL_law_775 (by decide) (fun _ => ?_) (fun c1 => absurd he c1)
  exact kk _ _ _ _ _ hR' hl hP hD hS
set_option maxHeartbeats 4000000 in
set_option maxRecDepth 100000 in
theorem law_c20 {p : Program} {l : Launch} {e : Env} {s : State} {m : MethodId} {below : List Frame} {meth : Method} {c : Code} {b L : Nat} {xs : Nat → Int32} {D : va_G} {ca : Nat → ClassId} {x : Nat} {ad : Nat → Nat → Nat} {mm : Nat → Nat} {aS aV aT : Nat → Nat} {F : FS} {M : GS} {i : Nat} (C0 : lw_At p s m meth c b L xs) (hK : va_K D vwCl (TY ca) s) (hAm : Amb aS aV aT (fun q : Nat => s.heap.size ≤ q) s s.heap) (hRS : RSt aS s) (hi : i + 6 ≤ L) (hL : L ≤ 384) (hR : Rel F M)
    (kk : ∀ (F' : FS) (M' : GS) (ls : Array Slot) (H : Heap) (locs : List Loc), Rel F' M' → lv_has ls 4 [(0, .ref b), (1, .ref x), (2, .ref (mm 0)), (3, .int (nI i))] → va_P D vwCl (wA ca x ad mm F' M').flatten H → va_D (fun q : Nat => s.heap.size ≤ q) (wA ca x ad mm F' M').flatten → va_S (fun q : Nat => s.heap.size ≤ q) s.heap H locs → W p l e room_1 s m #[Value.ref b] below meth c H locs 67 1942 (lw_Z below #[Value.ref b] s) (F0 m 1471 ls []))
    (ls : Array Slot) (H : Heap) (locs : List Loc) (hl : lv_has ls 4 [(0, .ref b), (1, .ref x), (2, .ref (mm 0)), (3, .int (nI i))]) (hP : va_P D vwCl (wA ca x ad mm F M).flatten H) (hD : va_D (fun q : Nat => s.heap.size ≤ q) (wA ca x ad mm F M).flatten) (hS : va_S (fun q : Nat => s.heap.size ≤ q) s.heap H locs) : W p l e room_1 s m #[Value.ref b] below meth c H locs 67 1942 (lw_Z below #[Value.ref b] s) (F0 m 780 ls []) := by
  obtain ⟨hx, hb, hr, hml, hown, hts0, hX, hbl, hlocks, hgv⟩ := id C0
  have hown : s.vm.findClass RL = some m.cls := hown
  have hts : ∀ w ∈ wsL_law, w.before #[Value.ref b] s = true := fun w h => hts0 w (wsL_law_in w h)
  have hA : ∀ q : Nat, s.heap.size ≤ q → (fun q : Nat => s.heap.size ≤ q) q := fun _ h => h
  have hbA : ¬ (fun q : Nat => s.heap.size ≤ q) b := Nat.not_le.mpr hbl
  obtain ⟨o, o', h1, h2, he, hR'⟩ := st_hang hR (xs (nI i + (1 : Int32)).toNatClampNeg)
  refine lv_aload_n hx hb dL_law_780 rfl (lv_at hl 1 rfl) ?_
  refine lv_aload_n hx hb dL_law_781 rfl (lv_at hl 0 rfl) ?_
  refine lv_iload_n hx hb dL_law_782 rfl (lv_at hl 3 rfl) ?_
  refine lv_iconst (v := (1 : Int32)) hx hb dL_law_783 (by decide) ?_
  refine lv_iadd hx hb dL_law_784 ?_
  refine va_sld hx hb hX hbl hbA hS (vp_off (k := 1) (by omega) (by omega)) dL_law_785 ?_
  refine zVi (As := [.int (xs (nI i + (1 : Int32)).toNatClampNeg)]) (ci := 7) (bs := wA ca x ad mm F M) (bs' := wA ca x ad mm ((va_up F.1 1 o.2), F.2.1, F.2.2) M) ⟨hx, hb, hml, hown, hts⟩ (k_X7_hang l D ca x (ad 2 0) (ad 7 0) (ad 9 0) (ad 10 0) (ad 11 0) (ad 12 0) (ad 0) (ad 1) (F.2.1 2) (F.1 0) (F.1 1) (xs (nI i + (1 : Int32)).toNatClampNeg) _ h1) (cwV 1 hts gL_law_X7_hang rfl rfl rfl (by decide +kernel) ⟨(Nat.le_of_ble_eq_true rfl), (Nat.le_of_ble_eq_true rfl)⟩) hK hA hP hD hS dL_law_786 rfl hl.1 [0, 1, 2] [3, 4, 5, 6, 7, 8, 9, 10, 11, 12, 13, 14, 15, 16, 17, 18] (show ([0, 1, 2] ++ [3, 4, 5, 6, 7, 8, 9, 10, 11, 12, 13, 14, 15, 16, 17, 18] : List Nat).Perm (List.range 19) by decide) rfl (show ([0, 1, 2] ++ [3, 4, 5, 6, 7, 8, 9, 10, 11, 12, 13, 14, 15, 16, 17, 18] : List Nat).Perm (List.range 19) by decide) rfl rfl rfl rfl rfl rfl (Nat.le_of_ble_eq_true rfl) ⟨(Nat.le_of_ble_eq_true rfl), (Nat.le_of_ble_eq_true rfl)⟩ (fun H locs hP hD hS => ?_)
  refine lv_aload_n hx hb dL_law_789 rfl (lv_at hl 2 rfl) ?_
  refine lv_aload_n hx hb dL_law_790 rfl (lv_at hl 0 rfl) ?_
  refine lv_iload_n hx hb dL_law_791 rfl (lv_at hl 3 rfl) ?_
  refine lv_iconst (v := (1 : Int32)) hx hb dL_law_792 (by decide) ?_
  refine lv_iadd hx hb dL_law_793 ?_
  refine va_sld hx hb hX hbl hbA hS (vp_off (k := 1) (by omega) (by omega)) dL_law_794 ?_
  refine zVi (As := [.int (xs (nI i + (1 : Int32)).toNatClampNeg)]) (ci := 8) (bs := wA ca x ad mm ((va_up F.1 1 o.2), F.2.1, F.2.2) M) (bs' := wA ca x ad mm ((va_up F.1 1 o.2), F.2.1, F.2.2) o'.2) ⟨hx, hb, hml, hown, hts⟩ (k_X8_hang l D ca mm M (xs (nI i + (1 : Int32)).toNatClampNeg) _ h2) (cwV 1 hts gL_law_X8_hang rfl rfl rfl (by decide +kernel) ⟨(Nat.le_of_ble_eq_true rfl), (Nat.le_of_ble_eq_true rfl)⟩) hK hA hP hD hS dL_law_795 rfl hl.1 [18] [0, 1, 2, 3, 4, 5, 6, 7, 8, 9, 10, 11, 12, 13, 14, 15, 16, 17] (show ([18] ++ [0, 1, 2, 3, 4, 5, 6, 7, 8, 9, 10, 11, 12, 13, 14, 15, 16, 17] : List Nat).Perm (List.range 19) by decide) rfl (show ([18] ++ [0, 1, 2, 3, 4, 5, 6, 7, 8, 9, 10, 11, 12, 13, 14, 15, 16, 17] : List Nat).Perm (List.range 19) by decide) rfl rfl rfl rfl rfl rfl (Nat.le_of_ble_eq_true rfl) ⟨(Nat.le_of_ble_eq_true rfl), (Nat.le_of_ble_eq_true rfl)⟩ (fun H locs hP hD hS => ?_)
  refine lv_icmp_eq (tgt := 1471) hx hb dL_law_798 (by decide) (fun _ => ?_) (fun c1 => absurd he c1)
  exact kk _ _ _ _ _ hR' hl hP hD hS
set_option maxHeartbeats 4000000 in
set_option maxRecDepth 100000 in
theorem law_c21 {p : Program} {l : Launch} {e : Env} {s : State} {m : MethodId} {below : List Frame} {meth : Method} {c : Code} {b L : Nat} {xs : Nat → Int32} {D : va_G} {ca : Nat → ClassId} {x : Nat} {ad : Nat → Nat → Nat} {mm : Nat → Nat} {aS aV aT : Nat → Nat} {F : FS} {M : GS} {i : Nat} (C0 : lw_At p s m meth c b L xs) (hK : va_K D vwCl (TY ca) s) (hAm : Amb aS aV aT (fun q : Nat => s.heap.size ≤ q) s s.heap) (hRS : RSt aS s) (hi : i + 6 ≤ L) (hL : L ≤ 384) (hR : Rel F M)
    (kk : ∀ (F' : FS) (M' : GS) (ls : Array Slot) (H : Heap) (locs : List Loc), Rel F' M' → lv_has ls 4 [(0, .ref b), (1, .ref x), (2, .ref (mm 0)), (3, .int (nI i))] → va_P D vwCl (wA ca x ad mm F' M').flatten H → va_D (fun q : Nat => s.heap.size ≤ q) (wA ca x ad mm F' M').flatten → va_S (fun q : Nat => s.heap.size ≤ q) s.heap H locs → W p l e room_1 s m #[Value.ref b] below meth c H locs 67 1942 (lw_Z below #[Value.ref b] s) (F0 m 1471 ls []))
    (ls : Array Slot) (H : Heap) (locs : List Loc) (hl : lv_has ls 4 [(0, .ref b), (1, .ref x), (2, .ref (mm 0)), (3, .int (nI i))]) (hP : va_P D vwCl (wA ca x ad mm F M).flatten H) (hD : va_D (fun q : Nat => s.heap.size ≤ q) (wA ca x ad mm F M).flatten) (hS : va_S (fun q : Nat => s.heap.size ≤ q) s.heap H locs) : W p l e room_1 s m #[Value.ref b] below meth c H locs 67 1942 (lw_Z below #[Value.ref b] s) (F0 m 803 ls []) := by
  obtain ⟨hx, hb, hr, hml, hown, hts0, hX, hbl, hlocks, hgv⟩ := id C0
  have hown : s.vm.findClass RL = some m.cls := hown
  have hts : ∀ w ∈ wsL_law, w.before #[Value.ref b] s = true := fun w h => hts0 w (wsL_law_in w h)
  have hA : ∀ q : Nat, s.heap.size ≤ q → (fun q : Nat => s.heap.size ≤ q) q := fun _ h => h
  have hbA : ¬ (fun q : Nat => s.heap.size ≤ q) b := Nat.not_le.mpr hbl
  obtain ⟨o, o', h1, h2, he, hR'⟩ := st_shade hR (xs (nI i + (1 : Int32)).toNatClampNeg) (xs (nI i + (2 : Int32)).toNatClampNeg)
  refine lv_aload_n hx hb dL_law_803 rfl (lv_at hl 1 rfl) ?_
  refine lv_aload_n hx hb dL_law_804 rfl (lv_at hl 0 rfl) ?_
  refine lv_iload_n hx hb dL_law_805 rfl (lv_at hl 3 rfl) ?_
  refine lv_iconst (v := (1 : Int32)) hx hb dL_law_806 (by decide) ?_
  refine lv_iadd hx hb dL_law_807 ?_
  refine va_sld hx hb hX hbl hbA hS (vp_off (k := 1) (by omega) (by omega)) dL_law_808 ?_
  refine lv_aload_n hx hb dL_law_809 rfl (lv_at hl 0 rfl) ?_
  refine lv_iload_n hx hb dL_law_810 rfl (lv_at hl 3 rfl) ?_
  refine lv_iconst (v := (2 : Int32)) hx hb dL_law_811 (by decide) ?_
  refine lv_iadd hx hb dL_law_812 ?_
  refine va_sld hx hb hX hbl hbA hS (vp_off (k := 2) (by omega) (by omega)) dL_law_813 ?_
  refine zVi (As := [.int (xs (nI i + (1 : Int32)).toNatClampNeg), .int (xs (nI i + (2 : Int32)).toNatClampNeg)]) (ci := 7) (bs := wA ca x ad mm F M) (bs' := wA ca x ad mm ((va_up F.1 1 o.2), F.2.1, F.2.2) M) ⟨hx, hb, hml, hown, hts⟩ (k_X7_shade l D ca x (ad 2 0) (ad 7 0) (ad 9 0) (ad 10 0) (ad 11 0) (ad 12 0) (ad 0) (ad 1) (F.2.1 2) (F.1 0) (F.1 1) (xs (nI i + (1 : Int32)).toNatClampNeg) (xs (nI i + (2 : Int32)).toNatClampNeg) _ h1) (cwV 2 hts gL_law_X7_shade rfl rfl rfl (by decide +kernel) ⟨(Nat.le_of_ble_eq_true rfl), (Nat.le_of_ble_eq_true rfl)⟩) hK hA hP hD hS dL_law_814 rfl hl.1 [0, 1, 2] [3, 4, 5, 6, 7, 8, 9, 10, 11, 12, 13, 14, 15, 16, 17, 18] (show ([0, 1, 2] ++ [3, 4, 5, 6, 7, 8, 9, 10, 11, 12, 13, 14, 15, 16, 17, 18] : List Nat).Perm (List.range 19) by decide) rfl (show ([0, 1, 2] ++ [3, 4, 5, 6, 7, 8, 9, 10, 11, 12, 13, 14, 15, 16, 17, 18] : List Nat).Perm (List.range 19) by decide) rfl rfl rfl rfl rfl rfl (Nat.le_of_ble_eq_true rfl) ⟨(Nat.le_of_ble_eq_true rfl), (Nat.le_of_ble_eq_true rfl)⟩ (fun H locs hP hD hS => ?_)
  refine lv_aload_n hx hb dL_law_817 rfl (lv_at hl 2 rfl) ?_
  refine lv_aload_n hx hb dL_law_818 rfl (lv_at hl 0 rfl) ?_
  refine lv_iload_n hx hb dL_law_819 rfl (lv_at hl 3 rfl) ?_
  refine lv_iconst (v := (1 : Int32)) hx hb dL_law_820 (by decide) ?_
  refine lv_iadd hx hb dL_law_821 ?_
  refine va_sld hx hb hX hbl hbA hS (vp_off (k := 1) (by omega) (by omega)) dL_law_822 ?_
  refine lv_aload_n hx hb dL_law_823 rfl (lv_at hl 0 rfl) ?_
  refine lv_iload_n hx hb dL_law_824 rfl (lv_at hl 3 rfl) ?_
  refine lv_iconst (v := (2 : Int32)) hx hb dL_law_825 (by decide) ?_
  refine lv_iadd hx hb dL_law_826 ?_
  refine va_sld hx hb hX hbl hbA hS (vp_off (k := 2) (by omega) (by omega)) dL_law_827 ?_
  refine zVi (As := [.int (xs (nI i + (1 : Int32)).toNatClampNeg), .int (xs (nI i + (2 : Int32)).toNatClampNeg)]) (ci := 8) (bs := wA ca x ad mm ((va_up F.1 1 o.2), F.2.1, F.2.2) M) (bs' := wA ca x ad mm ((va_up F.1 1 o.2), F.2.1, F.2.2) o'.2) ⟨hx, hb, hml, hown, hts⟩ (k_X8_shade l D ca mm M (xs (nI i + (1 : Int32)).toNatClampNeg) (xs (nI i + (2 : Int32)).toNatClampNeg) _ h2) (cwV 2 hts gL_law_X8_shade rfl rfl rfl (by decide +kernel) ⟨(Nat.le_of_ble_eq_true rfl), (Nat.le_of_ble_eq_true rfl)⟩) hK hA hP hD hS dL_law_828 rfl hl.1 [18] [0, 1, 2, 3, 4, 5, 6, 7, 8, 9, 10, 11, 12, 13, 14, 15, 16, 17] (show ([18] ++ [0, 1, 2, 3, 4, 5, 6, 7, 8, 9, 10, 11, 12, 13, 14, 15, 16, 17] : List Nat).Perm (List.range 19) by decide) rfl (show ([18] ++ [0, 1, 2, 3, 4, 5, 6, 7, 8, 9, 10, 11, 12, 13, 14, 15, 16, 17] : List Nat).Perm (List.range 19) by decide) rfl rfl rfl rfl rfl rfl (Nat.le_of_ble_eq_true rfl) ⟨(Nat.le_of_ble_eq_true rfl), (Nat.le_of_ble_eq_true rfl)⟩ (fun H locs hP hD hS => ?_)
  refine lv_icmp_eq (tgt := 1471) hx hb dL_law_831 (by decide) (fun _ => ?_) (fun c1 => absurd he c1)
  exact kk _ _ _ _ _ hR' hl hP hD hS
set_option maxHeartbeats 4000000 in
set_option maxRecDepth 100000 in
theorem law_c22 {p : Program} {l : Launch} {e : Env} {s : State} {m : MethodId} {below : List Frame} {meth : Method} {c : Code} {b L : Nat} {xs : Nat → Int32} {D : va_G} {ca : Nat → ClassId} {x : Nat} {ad : Nat → Nat → Nat} {mm : Nat → Nat} {aS aV aT : Nat → Nat} {F : FS} {M : GS} {i : Nat} (C0 : lw_At p s m meth c b L xs) (hK : va_K D vwCl (TY ca) s) (hAm : Amb aS aV aT (fun q : Nat => s.heap.size ≤ q) s s.heap) (hRS : RSt aS s) (hi : i + 6 ≤ L) (hL : L ≤ 384) (hR : Rel F M)
    (kk : ∀ (F' : FS) (M' : GS) (ls : Array Slot) (H : Heap) (locs : List Loc), Rel F' M' → lv_has ls 4 [(0, .ref b), (1, .ref x), (2, .ref (mm 0)), (3, .int (nI i))] → va_P D vwCl (wA ca x ad mm F' M').flatten H → va_D (fun q : Nat => s.heap.size ≤ q) (wA ca x ad mm F' M').flatten → va_S (fun q : Nat => s.heap.size ≤ q) s.heap H locs → W p l e room_1 s m #[Value.ref b] below meth c H locs 67 1942 (lw_Z below #[Value.ref b] s) (F0 m 1471 ls []))
    (ls : Array Slot) (H : Heap) (locs : List Loc) (hl : lv_has ls 4 [(0, .ref b), (1, .ref x), (2, .ref (mm 0)), (3, .int (nI i))]) (hP : va_P D vwCl (wA ca x ad mm F M).flatten H) (hD : va_D (fun q : Nat => s.heap.size ≤ q) (wA ca x ad mm F M).flatten) (hS : va_S (fun q : Nat => s.heap.size ≤ q) s.heap H locs) : W p l e room_1 s m #[Value.ref b] below meth c H locs 67 1942 (lw_Z below #[Value.ref b] s) (F0 m 836 ls []) := by
  obtain ⟨hx, hb, hr, hml, hown, hts0, hX, hbl, hlocks, hgv⟩ := id C0
  have hown : s.vm.findClass RL = some m.cls := hown
  have hts : ∀ w ∈ wsL_law, w.before #[Value.ref b] s = true := fun w h => hts0 w (wsL_law_in w h)
  have hA : ∀ q : Nat, s.heap.size ≤ q → (fun q : Nat => s.heap.size ≤ q) q := fun _ h => h
  have hbA : ¬ (fun q : Nat => s.heap.size ≤ q) b := Nat.not_le.mpr hbl
  obtain ⟨o, o', h1, h2, he, hR'⟩ := st_swap hR (xs (nI i + (1 : Int32)).toNatClampNeg)
  refine lv_aload_n hx hb dL_law_836 rfl (lv_at hl 1 rfl) ?_
  refine lv_aload_n hx hb dL_law_837 rfl (lv_at hl 0 rfl) ?_
  refine lv_iload_n hx hb dL_law_838 rfl (lv_at hl 3 rfl) ?_
  refine lv_iconst (v := (1 : Int32)) hx hb dL_law_839 (by decide) ?_
  refine lv_iadd hx hb dL_law_840 ?_
  refine va_sld hx hb hX hbl hbA hS (vp_off (k := 1) (by omega) (by omega)) dL_law_841 ?_
  refine zVi (As := [.int (xs (nI i + (1 : Int32)).toNatClampNeg)]) (ci := 7) (bs := wA ca x ad mm F M) (bs' := wA ca x ad mm ((va_up F.1 1 o.2), F.2.1, F.2.2) M) ⟨hx, hb, hml, hown, hts⟩ (k_X7_swap l D ca x (ad 2 0) (ad 7 0) (ad 9 0) (ad 10 0) (ad 11 0) (ad 12 0) (ad 0) (ad 1) (F.2.1 2) (F.1 0) (F.1 1) (xs (nI i + (1 : Int32)).toNatClampNeg) _ h1) (cwV 1 hts gL_law_X7_swap rfl rfl rfl (by decide +kernel) ⟨(Nat.le_of_ble_eq_true rfl), (Nat.le_of_ble_eq_true rfl)⟩) hK hA hP hD hS dL_law_842 rfl hl.1 [0, 1, 2] [3, 4, 5, 6, 7, 8, 9, 10, 11, 12, 13, 14, 15, 16, 17, 18] (show ([0, 1, 2] ++ [3, 4, 5, 6, 7, 8, 9, 10, 11, 12, 13, 14, 15, 16, 17, 18] : List Nat).Perm (List.range 19) by decide) rfl (show ([0, 1, 2] ++ [3, 4, 5, 6, 7, 8, 9, 10, 11, 12, 13, 14, 15, 16, 17, 18] : List Nat).Perm (List.range 19) by decide) rfl rfl rfl rfl rfl rfl (Nat.le_of_ble_eq_true rfl) ⟨(Nat.le_of_ble_eq_true rfl), (Nat.le_of_ble_eq_true rfl)⟩ (fun H locs hP hD hS => ?_)
  refine lv_aload_n hx hb dL_law_845 rfl (lv_at hl 2 rfl) ?_
  refine lv_aload_n hx hb dL_law_846 rfl (lv_at hl 0 rfl) ?_
  refine lv_iload_n hx hb dL_law_847 rfl (lv_at hl 3 rfl) ?_
  refine lv_iconst (v := (1 : Int32)) hx hb dL_law_848 (by decide) ?_
  refine lv_iadd hx hb dL_law_849 ?_
  refine va_sld hx hb hX hbl hbA hS (vp_off (k := 1) (by omega) (by omega)) dL_law_850 ?_
  refine zVi (As := [.int (xs (nI i + (1 : Int32)).toNatClampNeg)]) (ci := 8) (bs := wA ca x ad mm ((va_up F.1 1 o.2), F.2.1, F.2.2) M) (bs' := wA ca x ad mm ((va_up F.1 1 o.2), F.2.1, F.2.2) o'.2) ⟨hx, hb, hml, hown, hts⟩ (k_X8_swap l D ca mm M (xs (nI i + (1 : Int32)).toNatClampNeg) _ h2) (cwV 1 hts gL_law_X8_swap rfl rfl rfl (by decide +kernel) ⟨(Nat.le_of_ble_eq_true rfl), (Nat.le_of_ble_eq_true rfl)⟩) hK hA hP hD hS dL_law_851 rfl hl.1 [18] [0, 1, 2, 3, 4, 5, 6, 7, 8, 9, 10, 11, 12, 13, 14, 15, 16, 17] (show ([18] ++ [0, 1, 2, 3, 4, 5, 6, 7, 8, 9, 10, 11, 12, 13, 14, 15, 16, 17] : List Nat).Perm (List.range 19) by decide) rfl (show ([18] ++ [0, 1, 2, 3, 4, 5, 6, 7, 8, 9, 10, 11, 12, 13, 14, 15, 16, 17] : List Nat).Perm (List.range 19) by decide) rfl rfl rfl rfl rfl rfl (Nat.le_of_ble_eq_true rfl) ⟨(Nat.le_of_ble_eq_true rfl), (Nat.le_of_ble_eq_true rfl)⟩ (fun H locs hP hD hS => ?_)
  refine lv_icmp_eq (tgt := 1471) hx hb dL_law_854 (by decide) (fun _ => ?_) (fun c1 => absurd he c1)
  exact kk _ _ _ _ _ hR' hl hP hD hS
set_option maxHeartbeats 4000000 in
set_option maxRecDepth 100000 in
theorem law_c23 {p : Program} {l : Launch} {e : Env} {s : State} {m : MethodId} {below : List Frame} {meth : Method} {c : Code} {b L : Nat} {xs : Nat → Int32} {D : va_G} {ca : Nat → ClassId} {x : Nat} {ad : Nat → Nat → Nat} {mm : Nat → Nat} {aS aV aT : Nat → Nat} {F : FS} {M : GS} {i : Nat} (C0 : lw_At p s m meth c b L xs) (hK : va_K D vwCl (TY ca) s) (hAm : Amb aS aV aT (fun q : Nat => s.heap.size ≤ q) s s.heap) (hRS : RSt aS s) (hi : i + 6 ≤ L) (hL : L ≤ 384) (hR : Rel F M)
    (kk : ∀ (F' : FS) (M' : GS) (ls : Array Slot) (H : Heap) (locs : List Loc), Rel F' M' → lv_has ls 4 [(0, .ref b), (1, .ref x), (2, .ref (mm 0)), (3, .int (nI i))] → va_P D vwCl (wA ca x ad mm F' M').flatten H → va_D (fun q : Nat => s.heap.size ≤ q) (wA ca x ad mm F' M').flatten → va_S (fun q : Nat => s.heap.size ≤ q) s.heap H locs → W p l e room_1 s m #[Value.ref b] below meth c H locs 67 1942 (lw_Z below #[Value.ref b] s) (F0 m 1471 ls []))
    (ls : Array Slot) (H : Heap) (locs : List Loc) (hl : lv_has ls 4 [(0, .ref b), (1, .ref x), (2, .ref (mm 0)), (3, .int (nI i))]) (hP : va_P D vwCl (wA ca x ad mm F M).flatten H) (hD : va_D (fun q : Nat => s.heap.size ≤ q) (wA ca x ad mm F M).flatten) (hS : va_S (fun q : Nat => s.heap.size ≤ q) s.heap H locs) : W p l e room_1 s m #[Value.ref b] below meth c H locs 67 1942 (lw_Z below #[Value.ref b] s) (F0 m 859 ls []) := by
  obtain ⟨hx, hb, hr, hml, hown, hts0, hX, hbl, hlocks, hgv⟩ := id C0
  have hown : s.vm.findClass RL = some m.cls := hown
  have hts : ∀ w ∈ wsL_law, w.before #[Value.ref b] s = true := fun w h => hts0 w (wsL_law_in w h)
  have hA : ∀ q : Nat, s.heap.size ≤ q → (fun q : Nat => s.heap.size ≤ q) q := fun _ h => h
  have hbA : ¬ (fun q : Nat => s.heap.size ≤ q) b := Nat.not_le.mpr hbl
  obtain ⟨o, o', h1, h2, he, hR'⟩ := st_period hR 
  refine lv_aload_n hx hb dL_law_859 rfl (lv_at hl 1 rfl) ?_
  refine zVi (As := []) (ci := 7) (bs := wA ca x ad mm F M) (bs' := wA ca x ad mm F M) ⟨hx, hb, hml, hown, hts⟩ (k_X7_period l D ca x (ad 1 0) (ad 2 0) (ad 7 0) (ad 9 0) (ad 10 0) (ad 11 0) (ad 12 0) (ad 0) (F.2.1 2) (F.1 0)  _ h1) (cwV 0 hts gL_law_X7_period rfl rfl rfl (by decide +kernel) ⟨(Nat.le_of_ble_eq_true rfl), (Nat.le_of_ble_eq_true rfl)⟩) hK hA hP hD hS dL_law_860 rfl hl.1 [0, 1] [2, 3, 4, 5, 6, 7, 8, 9, 10, 11, 12, 13, 14, 15, 16, 17, 18] (show ([0, 1] ++ [2, 3, 4, 5, 6, 7, 8, 9, 10, 11, 12, 13, 14, 15, 16, 17, 18] : List Nat).Perm (List.range 19) by decide) rfl (show ([0, 1] ++ [2, 3, 4, 5, 6, 7, 8, 9, 10, 11, 12, 13, 14, 15, 16, 17, 18] : List Nat).Perm (List.range 19) by decide) rfl rfl rfl rfl rfl rfl (Nat.le_of_ble_eq_true rfl) ⟨(Nat.le_of_ble_eq_true rfl), (Nat.le_of_ble_eq_true rfl)⟩ (fun H locs hP hD hS => ?_)
  refine lv_aload_n hx hb dL_law_863 rfl (lv_at hl 2 rfl) ?_
  refine zVi (As := []) (ci := 8) (bs := wA ca x ad mm F M) (bs' := wA ca x ad mm F M) ⟨hx, hb, hml, hown, hts⟩ (k_X8_period l D ca mm M  _ h2) (cwV 0 hts gL_law_X8_period rfl rfl rfl (by decide +kernel) ⟨(Nat.le_of_ble_eq_true rfl), (Nat.le_of_ble_eq_true rfl)⟩) hK hA hP hD hS dL_law_864 rfl hl.1 [18] [0, 1, 2, 3, 4, 5, 6, 7, 8, 9, 10, 11, 12, 13, 14, 15, 16, 17] (show ([18] ++ [0, 1, 2, 3, 4, 5, 6, 7, 8, 9, 10, 11, 12, 13, 14, 15, 16, 17] : List Nat).Perm (List.range 19) by decide) rfl (show ([18] ++ [0, 1, 2, 3, 4, 5, 6, 7, 8, 9, 10, 11, 12, 13, 14, 15, 16, 17] : List Nat).Perm (List.range 19) by decide) rfl rfl rfl rfl rfl rfl (Nat.le_of_ble_eq_true rfl) ⟨(Nat.le_of_ble_eq_true rfl), (Nat.le_of_ble_eq_true rfl)⟩ (fun H locs hP hD hS => ?_)
  refine lv_icmp_eq (tgt := 1471) hx hb dL_law_867 (by decide) (fun _ => ?_) (fun c1 => absurd he c1)
  exact kk _ _ _ _ _ hR' hl hP hD hS
set_option maxHeartbeats 4000000 in
set_option maxRecDepth 100000 in
theorem law_c24 {p : Program} {l : Launch} {e : Env} {s : State} {m : MethodId} {below : List Frame} {meth : Method} {c : Code} {b L : Nat} {xs : Nat → Int32} {D : va_G} {ca : Nat → ClassId} {x : Nat} {ad : Nat → Nat → Nat} {mm : Nat → Nat} {aS aV aT : Nat → Nat} {F : FS} {M : GS} {i : Nat} (C0 : lw_At p s m meth c b L xs) (hK : va_K D vwCl (TY ca) s) (hAm : Amb aS aV aT (fun q : Nat => s.heap.size ≤ q) s s.heap) (hRS : RSt aS s) (hi : i + 6 ≤ L) (hL : L ≤ 384) (hR : Rel F M)
    (kk : ∀ (F' : FS) (M' : GS) (ls : Array Slot) (H : Heap) (locs : List Loc), Rel F' M' → lv_has ls 4 [(0, .ref b), (1, .ref x), (2, .ref (mm 0)), (3, .int (nI i))] → va_P D vwCl (wA ca x ad mm F' M').flatten H → va_D (fun q : Nat => s.heap.size ≤ q) (wA ca x ad mm F' M').flatten → va_S (fun q : Nat => s.heap.size ≤ q) s.heap H locs → W p l e room_1 s m #[Value.ref b] below meth c H locs 67 1942 (lw_Z below #[Value.ref b] s) (F0 m 1471 ls []))
    (ls : Array Slot) (H : Heap) (locs : List Loc) (hl : lv_has ls 4 [(0, .ref b), (1, .ref x), (2, .ref (mm 0)), (3, .int (nI i))]) (hP : va_P D vwCl (wA ca x ad mm F M).flatten H) (hD : va_D (fun q : Nat => s.heap.size ≤ q) (wA ca x ad mm F M).flatten) (hS : va_S (fun q : Nat => s.heap.size ≤ q) s.heap H locs) : W p l e room_1 s m #[Value.ref b] below meth c H locs 67 1942 (lw_Z below #[Value.ref b] s) (F0 m 872 ls []) := by
  obtain ⟨hx, hb, hr, hml, hown, hts0, hX, hbl, hlocks, hgv⟩ := id C0
  have hown : s.vm.findClass RL = some m.cls := hown
  have hts : ∀ w ∈ wsL_law, w.before #[Value.ref b] s = true := fun w h => hts0 w (wsL_law_in w h)
  have hA : ∀ q : Nat, s.heap.size ≤ q → (fun q : Nat => s.heap.size ≤ q) q := fun _ h => h
  have hbA : ¬ (fun q : Nat => s.heap.size ≤ q) b := Nat.not_le.mpr hbl
  obtain ⟨o, o', h1, h2, he, hR'⟩ := st_alike hR 
  refine lv_aload_n hx hb dL_law_872 rfl (lv_at hl 1 rfl) ?_
  refine zVi (As := []) (ci := 7) (bs := wA ca x ad mm F M) (bs' := wA ca x ad mm ((va_up F.1 1 o.2), F.2.1, F.2.2) M) ⟨hx, hb, hml, hown, hts⟩ (k_X7_alike l D ca x (ad 2 0) (ad 7 0) (ad 9 0) (ad 10 0) (ad 11 0) (ad 12 0) (ad 0) (ad 1) (F.2.1 2) (F.1 0) (F.1 1)  _ h1) (cwV 0 hts gL_law_X7_alike rfl rfl rfl (by decide +kernel) ⟨(Nat.le_of_ble_eq_true rfl), (Nat.le_of_ble_eq_true rfl)⟩) hK hA hP hD hS dL_law_873 rfl hl.1 [0, 1, 2] [3, 4, 5, 6, 7, 8, 9, 10, 11, 12, 13, 14, 15, 16, 17, 18] (show ([0, 1, 2] ++ [3, 4, 5, 6, 7, 8, 9, 10, 11, 12, 13, 14, 15, 16, 17, 18] : List Nat).Perm (List.range 19) by decide) rfl (show ([0, 1, 2] ++ [3, 4, 5, 6, 7, 8, 9, 10, 11, 12, 13, 14, 15, 16, 17, 18] : List Nat).Perm (List.range 19) by decide) rfl rfl rfl rfl rfl rfl (Nat.le_of_ble_eq_true rfl) ⟨(Nat.le_of_ble_eq_true rfl), (Nat.le_of_ble_eq_true rfl)⟩ (fun H locs hP hD hS => ?_)
  refine lv_aload_n hx hb dL_law_876 rfl (lv_at hl 2 rfl) ?_
  refine zVi (As := []) (ci := 8) (bs := wA ca x ad mm ((va_up F.1 1 o.2), F.2.1, F.2.2) M) (bs' := wA ca x ad mm ((va_up F.1 1 o.2), F.2.1, F.2.2) o'.2) ⟨hx, hb, hml, hown, hts⟩ (k_X8_alike l D ca mm M  _ h2) (cwV 0 hts gL_law_X8_alike rfl rfl rfl (by decide +kernel) ⟨(Nat.le_of_ble_eq_true rfl), (Nat.le_of_ble_eq_true rfl)⟩) hK hA hP hD hS dL_law_877 rfl hl.1 [18] [0, 1, 2, 3, 4, 5, 6, 7, 8, 9, 10, 11, 12, 13, 14, 15, 16, 17] (show ([18] ++ [0, 1, 2, 3, 4, 5, 6, 7, 8, 9, 10, 11, 12, 13, 14, 15, 16, 17] : List Nat).Perm (List.range 19) by decide) rfl (show ([18] ++ [0, 1, 2, 3, 4, 5, 6, 7, 8, 9, 10, 11, 12, 13, 14, 15, 16, 17] : List Nat).Perm (List.range 19) by decide) rfl rfl rfl rfl rfl rfl (Nat.le_of_ble_eq_true rfl) ⟨(Nat.le_of_ble_eq_true rfl), (Nat.le_of_ble_eq_true rfl)⟩ (fun H locs hP hD hS => ?_)
  refine lv_icmp_eq (tgt := 1471) hx hb dL_law_880 (by decide) (fun _ => ?_) (fun c1 => absurd he c1)
  exact kk _ _ _ _ _ hR' hl hP hD hS
set_option maxHeartbeats 4000000 in
set_option maxRecDepth 100000 in
theorem law_c25 {p : Program} {l : Launch} {e : Env} {s : State} {m : MethodId} {below : List Frame} {meth : Method} {c : Code} {b L : Nat} {xs : Nat → Int32} {D : va_G} {ca : Nat → ClassId} {x : Nat} {ad : Nat → Nat → Nat} {mm : Nat → Nat} {aS aV aT : Nat → Nat} {F : FS} {M : GS} {i : Nat} (C0 : lw_At p s m meth c b L xs) (hK : va_K D vwCl (TY ca) s) (hAm : Amb aS aV aT (fun q : Nat => s.heap.size ≤ q) s s.heap) (hRS : RSt aS s) (hi : i + 6 ≤ L) (hL : L ≤ 384) (hR : Rel F M)
    (kk : ∀ (F' : FS) (M' : GS) (ls : Array Slot) (H : Heap) (locs : List Loc), Rel F' M' → lv_has ls 4 [(0, .ref b), (1, .ref x), (2, .ref (mm 0)), (3, .int (nI i))] → va_P D vwCl (wA ca x ad mm F' M').flatten H → va_D (fun q : Nat => s.heap.size ≤ q) (wA ca x ad mm F' M').flatten → va_S (fun q : Nat => s.heap.size ≤ q) s.heap H locs → W p l e room_1 s m #[Value.ref b] below meth c H locs 67 1942 (lw_Z below #[Value.ref b] s) (F0 m 1471 ls []))
    (ls : Array Slot) (H : Heap) (locs : List Loc) (hl : lv_has ls 4 [(0, .ref b), (1, .ref x), (2, .ref (mm 0)), (3, .int (nI i))]) (hP : va_P D vwCl (wA ca x ad mm F M).flatten H) (hD : va_D (fun q : Nat => s.heap.size ≤ q) (wA ca x ad mm F M).flatten) (hS : va_S (fun q : Nat => s.heap.size ≤ q) s.heap H locs) : W p l e room_1 s m #[Value.ref b] below meth c H locs 67 1942 (lw_Z below #[Value.ref b] s) (F0 m 885 ls []) := by
  obtain ⟨hx, hb, hr, hml, hown, hts0, hX, hbl, hlocks, hgv⟩ := id C0
  have hown : s.vm.findClass RL = some m.cls := hown
  have hts : ∀ w ∈ wsL_law, w.before #[Value.ref b] s = true := fun w h => hts0 w (wsL_law_in w h)
  have hA : ∀ q : Nat, s.heap.size ≤ q → (fun q : Nat => s.heap.size ≤ q) q := fun _ h => h
  have hbA : ¬ (fun q : Nat => s.heap.size ≤ q) b := Nat.not_le.mpr hbl
  obtain ⟨o, o', h1, h2, he, hR'⟩ := st_cover hR (xs (nI i + (1 : Int32)).toNatClampNeg) (xs (nI i + (2 : Int32)).toNatClampNeg)
  refine lv_aload_n hx hb dL_law_885 rfl (lv_at hl 1 rfl) ?_
  refine lv_aload_n hx hb dL_law_886 rfl (lv_at hl 0 rfl) ?_
  refine lv_iload_n hx hb dL_law_887 rfl (lv_at hl 3 rfl) ?_
  refine lv_iconst (v := (1 : Int32)) hx hb dL_law_888 (by decide) ?_
  refine lv_iadd hx hb dL_law_889 ?_
  refine va_sld hx hb hX hbl hbA hS (vp_off (k := 1) (by omega) (by omega)) dL_law_890 ?_
  refine lv_aload_n hx hb dL_law_891 rfl (lv_at hl 0 rfl) ?_
  refine lv_iload_n hx hb dL_law_892 rfl (lv_at hl 3 rfl) ?_
  refine lv_iconst (v := (2 : Int32)) hx hb dL_law_893 (by decide) ?_
  refine lv_iadd hx hb dL_law_894 ?_
  refine va_sld hx hb hX hbl hbA hS (vp_off (k := 2) (by omega) (by omega)) dL_law_895 ?_
  refine zVi (As := [.int (xs (nI i + (1 : Int32)).toNatClampNeg), .int (xs (nI i + (2 : Int32)).toNatClampNeg)]) (ci := 7) (bs := wA ca x ad mm F M) (bs' := wA ca x ad mm ((va_up F.1 7 o.2), F.2.1, F.2.2) M) ⟨hx, hb, hml, hown, hts⟩ (k_X7_cover l D ca x (ad 1 0) (ad 2 0) (ad 7 0) (ad 9 0) (ad 11 0) (ad 12 0) (ad 0) (ad 10) (F.2.1 2) (F.1 0) (F.1 7) (xs (nI i + (1 : Int32)).toNatClampNeg) (xs (nI i + (2 : Int32)).toNatClampNeg) _ h1) (cwV 2 hts gL_law_X7_cover rfl rfl rfl (by decide +kernel) ⟨(Nat.le_of_ble_eq_true rfl), (Nat.le_of_ble_eq_true rfl)⟩) hK hA hP hD hS dL_law_896 rfl hl.1 [0, 1, 11] [2, 3, 4, 5, 6, 7, 8, 9, 10, 12, 13, 14, 15, 16, 17, 18] (show ([0, 1, 11] ++ [2, 3, 4, 5, 6, 7, 8, 9, 10, 12, 13, 14, 15, 16, 17, 18] : List Nat).Perm (List.range 19) by decide) rfl (show ([0, 1, 11] ++ [2, 3, 4, 5, 6, 7, 8, 9, 10, 12, 13, 14, 15, 16, 17, 18] : List Nat).Perm (List.range 19) by decide) rfl rfl rfl rfl rfl rfl (Nat.le_of_ble_eq_true rfl) ⟨(Nat.le_of_ble_eq_true rfl), (Nat.le_of_ble_eq_true rfl)⟩ (fun H locs hP hD hS => ?_)
  refine lv_aload_n hx hb dL_law_899 rfl (lv_at hl 2 rfl) ?_
  refine lv_aload_n hx hb dL_law_900 rfl (lv_at hl 0 rfl) ?_
  refine lv_iload_n hx hb dL_law_901 rfl (lv_at hl 3 rfl) ?_
  refine lv_iconst (v := (1 : Int32)) hx hb dL_law_902 (by decide) ?_
  refine lv_iadd hx hb dL_law_903 ?_
  refine va_sld hx hb hX hbl hbA hS (vp_off (k := 1) (by omega) (by omega)) dL_law_904 ?_
  refine lv_aload_n hx hb dL_law_905 rfl (lv_at hl 0 rfl) ?_
  refine lv_iload_n hx hb dL_law_906 rfl (lv_at hl 3 rfl) ?_
  refine lv_iconst (v := (2 : Int32)) hx hb dL_law_907 (by decide) ?_
  refine lv_iadd hx hb dL_law_908 ?_
  refine va_sld hx hb hX hbl hbA hS (vp_off (k := 2) (by omega) (by omega)) dL_law_909 ?_
  refine zVi (As := [.int (xs (nI i + (1 : Int32)).toNatClampNeg), .int (xs (nI i + (2 : Int32)).toNatClampNeg)]) (ci := 8) (bs := wA ca x ad mm ((va_up F.1 7 o.2), F.2.1, F.2.2) M) (bs' := wA ca x ad mm ((va_up F.1 7 o.2), F.2.1, F.2.2) o'.2) ⟨hx, hb, hml, hown, hts⟩ (k_X8_cover l D ca mm M (xs (nI i + (1 : Int32)).toNatClampNeg) (xs (nI i + (2 : Int32)).toNatClampNeg) _ h2) (cwV 2 hts gL_law_X8_cover rfl rfl rfl (by decide +kernel) ⟨(Nat.le_of_ble_eq_true rfl), (Nat.le_of_ble_eq_true rfl)⟩) hK hA hP hD hS dL_law_910 rfl hl.1 [18] [0, 1, 2, 3, 4, 5, 6, 7, 8, 9, 10, 11, 12, 13, 14, 15, 16, 17] (show ([18] ++ [0, 1, 2, 3, 4, 5, 6, 7, 8, 9, 10, 11, 12, 13, 14, 15, 16, 17] : List Nat).Perm (List.range 19) by decide) rfl (show ([18] ++ [0, 1, 2, 3, 4, 5, 6, 7, 8, 9, 10, 11, 12, 13, 14, 15, 16, 17] : List Nat).Perm (List.range 19) by decide) rfl rfl rfl rfl rfl rfl (Nat.le_of_ble_eq_true rfl) ⟨(Nat.le_of_ble_eq_true rfl), (Nat.le_of_ble_eq_true rfl)⟩ (fun H locs hP hD hS => ?_)
  refine lv_icmp_eq (tgt := 1471) hx hb dL_law_913 (by decide) (fun _ => ?_) (fun c1 => absurd he c1)
  exact kk _ _ _ _ _ hR' hl hP hD hS
set_option maxHeartbeats 4000000 in
set_option maxRecDepth 100000 in
theorem law_c26 {p : Program} {l : Launch} {e : Env} {s : State} {m : MethodId} {below : List Frame} {meth : Method} {c : Code} {b L : Nat} {xs : Nat → Int32} {D : va_G} {ca : Nat → ClassId} {x : Nat} {ad : Nat → Nat → Nat} {mm : Nat → Nat} {aS aV aT : Nat → Nat} {F : FS} {M : GS} {i : Nat} (C0 : lw_At p s m meth c b L xs) (hK : va_K D vwCl (TY ca) s) (hAm : Amb aS aV aT (fun q : Nat => s.heap.size ≤ q) s s.heap) (hRS : RSt aS s) (hi : i + 6 ≤ L) (hL : L ≤ 384) (hR : Rel F M)
    (kk : ∀ (F' : FS) (M' : GS) (ls : Array Slot) (H : Heap) (locs : List Loc), Rel F' M' → lv_has ls 4 [(0, .ref b), (1, .ref x), (2, .ref (mm 0)), (3, .int (nI i))] → va_P D vwCl (wA ca x ad mm F' M').flatten H → va_D (fun q : Nat => s.heap.size ≤ q) (wA ca x ad mm F' M').flatten → va_S (fun q : Nat => s.heap.size ≤ q) s.heap H locs → W p l e room_1 s m #[Value.ref b] below meth c H locs 67 1942 (lw_Z below #[Value.ref b] s) (F0 m 1471 ls []))
    (ls : Array Slot) (H : Heap) (locs : List Loc) (hl : lv_has ls 4 [(0, .ref b), (1, .ref x), (2, .ref (mm 0)), (3, .int (nI i))]) (hP : va_P D vwCl (wA ca x ad mm F M).flatten H) (hD : va_D (fun q : Nat => s.heap.size ≤ q) (wA ca x ad mm F M).flatten) (hS : va_S (fun q : Nat => s.heap.size ≤ q) s.heap H locs) : W p l e room_1 s m #[Value.ref b] below meth c H locs 67 1942 (lw_Z below #[Value.ref b] s) (F0 m 918 ls []) := by
  obtain ⟨hx, hb, hr, hml, hown, hts0, hX, hbl, hlocks, hgv⟩ := id C0
  have hown : s.vm.findClass RL = some m.cls := hown
  have hts : ∀ w ∈ wsL_law, w.before #[Value.ref b] s = true := fun w h => hts0 w (wsL_law_in w h)
  have hA : ∀ q : Nat, s.heap.size ≤ q → (fun q : Nat => s.heap.size ≤ q) q := fun _ h => h
  have hbA : ¬ (fun q : Nat => s.heap.size ≤ q) b := Nat.not_le.mpr hbl
  obtain ⟨o, o', h1, h2, he, hR'⟩ := st_most hR (xs (nI i + (1 : Int32)).toNatClampNeg) (xs (nI i + (2 : Int32)).toNatClampNeg)
  refine lv_aload_n hx hb dL_law_918 rfl (lv_at hl 1 rfl) ?_
  refine lv_aload_n hx hb dL_law_919 rfl (lv_at hl 0 rfl) ?_
  refine lv_iload_n hx hb dL_law_920 rfl (lv_at hl 3 rfl) ?_
  refine lv_iconst (v := (1 : Int32)) hx hb dL_law_921 (by decide) ?_
  refine lv_iadd hx hb dL_law_922 ?_
  refine va_sld hx hb hX hbl hbA hS (vp_off (k := 1) (by omega) (by omega)) dL_law_923 ?_
  refine lv_aload_n hx hb dL_law_924 rfl (lv_at hl 0 rfl) ?_
  refine lv_iload_n hx hb dL_law_925 rfl (lv_at hl 3 rfl) ?_
  refine lv_iconst (v := (2 : Int32)) hx hb dL_law_926 (by decide) ?_
  refine lv_iadd hx hb dL_law_927 ?_
  refine va_sld hx hb hX hbl hbA hS (vp_off (k := 2) (by omega) (by omega)) dL_law_928 ?_
  refine zVi (As := [.int (xs (nI i + (1 : Int32)).toNatClampNeg), .int (xs (nI i + (2 : Int32)).toNatClampNeg)]) (ci := 7) (bs := wA ca x ad mm F M) (bs' := wA ca x ad mm ((va_up F.1 7 o.2), F.2.1, F.2.2) M) ⟨hx, hb, hml, hown, hts⟩ (k_X7_most l D ca x (ad 1 0) (ad 2 0) (ad 7 0) (ad 9 0) (ad 11 0) (ad 12 0) (ad 0) (ad 10) (F.2.1 2) (F.1 0) (F.1 7) (xs (nI i + (1 : Int32)).toNatClampNeg) (xs (nI i + (2 : Int32)).toNatClampNeg) _ h1) (cwV 2 hts gL_law_X7_most rfl rfl rfl (by decide +kernel) ⟨(Nat.le_of_ble_eq_true rfl), (Nat.le_of_ble_eq_true rfl)⟩) hK hA hP hD hS dL_law_929 rfl hl.1 [0, 1, 11] [2, 3, 4, 5, 6, 7, 8, 9, 10, 12, 13, 14, 15, 16, 17, 18] (show ([0, 1, 11] ++ [2, 3, 4, 5, 6, 7, 8, 9, 10, 12, 13, 14, 15, 16, 17, 18] : List Nat).Perm (List.range 19) by decide) rfl (show ([0, 1, 11] ++ [2, 3, 4, 5, 6, 7, 8, 9, 10, 12, 13, 14, 15, 16, 17, 18] : List Nat).Perm (List.range 19) by decide) rfl rfl rfl rfl rfl rfl (Nat.le_of_ble_eq_true rfl) ⟨(Nat.le_of_ble_eq_true rfl), (Nat.le_of_ble_eq_true rfl)⟩ (fun H locs hP hD hS => ?_)
  refine lv_aload_n hx hb dL_law_932 rfl (lv_at hl 2 rfl) ?_
  refine lv_aload_n hx hb dL_law_933 rfl (lv_at hl 0 rfl) ?_
  refine lv_iload_n hx hb dL_law_934 rfl (lv_at hl 3 rfl) ?_
  refine lv_iconst (v := (1 : Int32)) hx hb dL_law_935 (by decide) ?_
  refine lv_iadd hx hb dL_law_936 ?_
  refine va_sld hx hb hX hbl hbA hS (vp_off (k := 1) (by omega) (by omega)) dL_law_937 ?_
  refine lv_aload_n hx hb dL_law_938 rfl (lv_at hl 0 rfl) ?_
  refine lv_iload_n hx hb dL_law_939 rfl (lv_at hl 3 rfl) ?_
  refine lv_iconst (v := (2 : Int32)) hx hb dL_law_940 (by decide) ?_
  refine lv_iadd hx hb dL_law_941 ?_
  refine va_sld hx hb hX hbl hbA hS (vp_off (k := 2) (by omega) (by omega)) dL_law_942 ?_
  refine zVi (As := [.int (xs (nI i + (1 : Int32)).toNatClampNeg), .int (xs (nI i + (2 : Int32)).toNatClampNeg)]) (ci := 8) (bs := wA ca x ad mm ((va_up F.1 7 o.2), F.2.1, F.2.2) M) (bs' := wA ca x ad mm ((va_up F.1 7 o.2), F.2.1, F.2.2) o'.2) ⟨hx, hb, hml, hown, hts⟩ (k_X8_most l D ca mm M (xs (nI i + (1 : Int32)).toNatClampNeg) (xs (nI i + (2 : Int32)).toNatClampNeg) _ h2) (cwV 2 hts gL_law_X8_most rfl rfl rfl (by decide +kernel) ⟨(Nat.le_of_ble_eq_true rfl), (Nat.le_of_ble_eq_true rfl)⟩) hK hA hP hD hS dL_law_943 rfl hl.1 [18] [0, 1, 2, 3, 4, 5, 6, 7, 8, 9, 10, 11, 12, 13, 14, 15, 16, 17] (show ([18] ++ [0, 1, 2, 3, 4, 5, 6, 7, 8, 9, 10, 11, 12, 13, 14, 15, 16, 17] : List Nat).Perm (List.range 19) by decide) rfl (show ([18] ++ [0, 1, 2, 3, 4, 5, 6, 7, 8, 9, 10, 11, 12, 13, 14, 15, 16, 17] : List Nat).Perm (List.range 19) by decide) rfl rfl rfl rfl rfl rfl (Nat.le_of_ble_eq_true rfl) ⟨(Nat.le_of_ble_eq_true rfl), (Nat.le_of_ble_eq_true rfl)⟩ (fun H locs hP hD hS => ?_)
  refine lv_icmp_eq (tgt := 1471) hx hb dL_law_946 (by decide) (fun _ => ?_) (fun c1 => absurd he c1)
  exact kk _ _ _ _ _ hR' hl hP hD hS
set_option maxHeartbeats 4000000 in
set_option maxRecDepth 100000 in
theorem law_c27 {p : Program} {l : Launch} {e : Env} {s : State} {m : MethodId} {below : List Frame} {meth : Method} {c : Code} {b L : Nat} {xs : Nat → Int32} {D : va_G} {ca : Nat → ClassId} {x : Nat} {ad : Nat → Nat → Nat} {mm : Nat → Nat} {aS aV aT : Nat → Nat} {F : FS} {M : GS} {i : Nat} (C0 : lw_At p s m meth c b L xs) (hK : va_K D vwCl (TY ca) s) (hAm : Amb aS aV aT (fun q : Nat => s.heap.size ≤ q) s s.heap) (hRS : RSt aS s) (hi : i + 6 ≤ L) (hL : L ≤ 384) (hR : Rel F M)
    (kk : ∀ (F' : FS) (M' : GS) (ls : Array Slot) (H : Heap) (locs : List Loc), Rel F' M' → lv_has ls 4 [(0, .ref b), (1, .ref x), (2, .ref (mm 0)), (3, .int (nI i))] → va_P D vwCl (wA ca x ad mm F' M').flatten H → va_D (fun q : Nat => s.heap.size ≤ q) (wA ca x ad mm F' M').flatten → va_S (fun q : Nat => s.heap.size ≤ q) s.heap H locs → W p l e room_1 s m #[Value.ref b] below meth c H locs 67 1942 (lw_Z below #[Value.ref b] s) (F0 m 1471 ls []))
    (ls : Array Slot) (H : Heap) (locs : List Loc) (hl : lv_has ls 4 [(0, .ref b), (1, .ref x), (2, .ref (mm 0)), (3, .int (nI i))]) (hP : va_P D vwCl (wA ca x ad mm F M).flatten H) (hD : va_D (fun q : Nat => s.heap.size ≤ q) (wA ca x ad mm F M).flatten) (hS : va_S (fun q : Nat => s.heap.size ≤ q) s.heap H locs) : W p l e room_1 s m #[Value.ref b] below meth c H locs 67 1942 (lw_Z below #[Value.ref b] s) (F0 m 951 ls []) := by
  obtain ⟨hx, hb, hr, hml, hown, hts0, hX, hbl, hlocks, hgv⟩ := id C0
  have hown : s.vm.findClass RL = some m.cls := hown
  have hts : ∀ w ∈ wsL_law, w.before #[Value.ref b] s = true := fun w h => hts0 w (wsL_law_in w h)
  have hA : ∀ q : Nat, s.heap.size ≤ q → (fun q : Nat => s.heap.size ≤ q) q := fun _ h => h
  have hbA : ¬ (fun q : Nat => s.heap.size ≤ q) b := Nat.not_le.mpr hbl
  obtain ⟨o, o', h1, h2, he, hR'⟩ := st_luck hR (xs (nI i + (1 : Int32)).toNatClampNeg) (xs (nI i + (2 : Int32)).toNatClampNeg) (xs (nI i + (3 : Int32)).toNatClampNeg) (xs (nI i + (4 : Int32)).toNatClampNeg) (xs (nI i + (5 : Int32)).toNatClampNeg)
  refine lv_aload_n hx hb dL_law_951 rfl (lv_at hl 1 rfl) ?_
  refine lv_aload_n hx hb dL_law_952 rfl (lv_at hl 0 rfl) ?_
  refine lv_iload_n hx hb dL_law_953 rfl (lv_at hl 3 rfl) ?_
  refine lv_iconst (v := (1 : Int32)) hx hb dL_law_954 (by decide) ?_
  refine lv_iadd hx hb dL_law_955 ?_
  refine va_sld hx hb hX hbl hbA hS (vp_off (k := 1) (by omega) (by omega)) dL_law_956 ?_
  refine lv_aload_n hx hb dL_law_957 rfl (lv_at hl 0 rfl) ?_
  refine lv_iload_n hx hb dL_law_958 rfl (lv_at hl 3 rfl) ?_
  refine lv_iconst (v := (2 : Int32)) hx hb dL_law_959 (by decide) ?_
  refine lv_iadd hx hb dL_law_960 ?_
  refine va_sld hx hb hX hbl hbA hS (vp_off (k := 2) (by omega) (by omega)) dL_law_961 ?_
  refine lv_aload_n hx hb dL_law_962 rfl (lv_at hl 0 rfl) ?_
  refine lv_iload_n hx hb dL_law_963 rfl (lv_at hl 3 rfl) ?_
  refine lv_iconst (v := (3 : Int32)) hx hb dL_law_964 (by decide) ?_
  refine lv_iadd hx hb dL_law_965 ?_
  refine va_sld hx hb hX hbl hbA hS (vp_off (k := 3) (by omega) (by omega)) dL_law_966 ?_
  refine lv_aload_n hx hb dL_law_967 rfl (lv_at hl 0 rfl) ?_
  refine lv_iload_n hx hb dL_law_968 rfl (lv_at hl 3 rfl) ?_
  refine lv_iconst (v := (4 : Int32)) hx hb dL_law_969 (by decide) ?_
  refine lv_iadd hx hb dL_law_970 ?_
  refine va_sld hx hb hX hbl hbA hS (vp_off (k := 4) (by omega) (by omega)) dL_law_971 ?_
  refine lv_aload_n hx hb dL_law_972 rfl (lv_at hl 0 rfl) ?_
  refine lv_iload_n hx hb dL_law_973 rfl (lv_at hl 3 rfl) ?_
  refine lv_iconst (v := (5 : Int32)) hx hb dL_law_974 (by decide) ?_
  refine lv_iadd hx hb dL_law_975 ?_
  refine va_sld hx hb hX hbl hbA hS (vp_off (k := 5) (by omega) (by omega)) dL_law_976 ?_
  refine zVl (As := [.int (xs (nI i + (1 : Int32)).toNatClampNeg), .int (xs (nI i + (2 : Int32)).toNatClampNeg), .int (xs (nI i + (3 : Int32)).toNatClampNeg), .int (xs (nI i + (4 : Int32)).toNatClampNeg), .int (xs (nI i + (5 : Int32)).toNatClampNeg)]) (ci := 7) (bs := wA ca x ad mm F M) (bs' := wA ca x ad mm (F.1, F.2.1, o.2) M) ⟨hx, hb, hml, hown, hts⟩ (k_X7_luck l D ca x (ad 1 0) (ad 2 0) (ad 7 0) (ad 9 0) (ad 10 0) (ad 12 0) (ad 0) (ad 11) (F.2.1 2) (F.1 0) F.2.2 (xs (nI i + (1 : Int32)).toNatClampNeg) (xs (nI i + (2 : Int32)).toNatClampNeg) (xs (nI i + (3 : Int32)).toNatClampNeg) (xs (nI i + (4 : Int32)).toNatClampNeg) (xs (nI i + (5 : Int32)).toNatClampNeg) _ h1) (cwV 5 hts gL_law_X7_luck rfl rfl rfl (by decide +kernel) ⟨(Nat.le_of_ble_eq_true rfl), (Nat.le_of_ble_eq_true rfl)⟩) hK hA hP hD hS dL_law_977 rfl hl.1 [0, 1, 12] [2, 3, 4, 5, 6, 7, 8, 9, 10, 11, 13, 14, 15, 16, 17, 18] (show ([0, 1, 12] ++ [2, 3, 4, 5, 6, 7, 8, 9, 10, 11, 13, 14, 15, 16, 17, 18] : List Nat).Perm (List.range 19) by decide) rfl (show ([0, 1, 12] ++ [2, 3, 4, 5, 6, 7, 8, 9, 10, 11, 13, 14, 15, 16, 17, 18] : List Nat).Perm (List.range 19) by decide) rfl rfl rfl rfl rfl rfl (Nat.le_of_ble_eq_true rfl) ⟨(Nat.le_of_ble_eq_true rfl), (Nat.le_of_ble_eq_true rfl)⟩ (fun H locs hP hD hS => ?_)
  refine lv_aload_n hx hb dL_law_980 rfl (lv_at hl 2 rfl) ?_
  refine lv_aload_n hx hb dL_law_981 rfl (lv_at hl 0 rfl) ?_
  refine lv_iload_n hx hb dL_law_982 rfl (lv_at hl 3 rfl) ?_
  refine lv_iconst (v := (1 : Int32)) hx hb dL_law_983 (by decide) ?_
  refine lv_iadd hx hb dL_law_984 ?_
  refine va_sld hx hb hX hbl hbA hS (vp_off (k := 1) (by omega) (by omega)) dL_law_985 ?_
  refine lv_aload_n hx hb dL_law_986 rfl (lv_at hl 0 rfl) ?_
  refine lv_iload_n hx hb dL_law_987 rfl (lv_at hl 3 rfl) ?_
  refine lv_iconst (v := (2 : Int32)) hx hb dL_law_988 (by decide) ?_
  refine lv_iadd hx hb dL_law_989 ?_
  refine va_sld hx hb hX hbl hbA hS (vp_off (k := 2) (by omega) (by omega)) dL_law_990 ?_
  refine lv_aload_n hx hb dL_law_991 rfl (lv_at hl 0 rfl) ?_
  refine lv_iload_n hx hb dL_law_992 rfl (lv_at hl 3 rfl) ?_
  refine lv_iconst (v := (3 : Int32)) hx hb dL_law_993 (by decide) ?_
  refine lv_iadd hx hb dL_law_994 ?_
  refine va_sld hx hb hX hbl hbA hS (vp_off (k := 3) (by omega) (by omega)) dL_law_995 ?_
  refine lv_aload_n hx hb dL_law_996 rfl (lv_at hl 0 rfl) ?_
  refine lv_iload_n hx hb dL_law_997 rfl (lv_at hl 3 rfl) ?_
  refine lv_iconst (v := (4 : Int32)) hx hb dL_law_998 (by decide) ?_
  refine lv_iadd hx hb dL_law_999 ?_
  refine va_sld hx hb hX hbl hbA hS (vp_off (k := 4) (by omega) (by omega)) dL_law_1000 ?_
  refine lv_aload_n hx hb dL_law_1001 rfl (lv_at hl 0 rfl) ?_
  refine lv_iload_n hx hb dL_law_1002 rfl (lv_at hl 3 rfl) ?_
  refine lv_iconst (v := (5 : Int32)) hx hb dL_law_1003 (by decide) ?_
  refine lv_iadd hx hb dL_law_1004 ?_
  refine va_sld hx hb hX hbl hbA hS (vp_off (k := 5) (by omega) (by omega)) dL_law_1005 ?_
  refine zVl (As := [.int (xs (nI i + (1 : Int32)).toNatClampNeg), .int (xs (nI i + (2 : Int32)).toNatClampNeg), .int (xs (nI i + (3 : Int32)).toNatClampNeg), .int (xs (nI i + (4 : Int32)).toNatClampNeg), .int (xs (nI i + (5 : Int32)).toNatClampNeg)]) (ci := 8) (bs := wA ca x ad mm (F.1, F.2.1, o.2) M) (bs' := wA ca x ad mm (F.1, F.2.1, o.2) M) ⟨hx, hb, hml, hown, hts⟩ (k_X8_luck l D ca mm M (xs (nI i + (1 : Int32)).toNatClampNeg) (xs (nI i + (2 : Int32)).toNatClampNeg) (xs (nI i + (3 : Int32)).toNatClampNeg) (xs (nI i + (4 : Int32)).toNatClampNeg) (xs (nI i + (5 : Int32)).toNatClampNeg) _ h2) (cwV 5 hts gL_law_X8_luck rfl rfl rfl (by decide +kernel) ⟨(Nat.le_of_ble_eq_true rfl), (Nat.le_of_ble_eq_true rfl)⟩) hK hA hP hD hS dL_law_1006 rfl hl.1 [18] [0, 1, 2, 3, 4, 5, 6, 7, 8, 9, 10, 11, 12, 13, 14, 15, 16, 17] (show ([18] ++ [0, 1, 2, 3, 4, 5, 6, 7, 8, 9, 10, 11, 12, 13, 14, 15, 16, 17] : List Nat).Perm (List.range 19) by decide) rfl (show ([18] ++ [0, 1, 2, 3, 4, 5, 6, 7, 8, 9, 10, 11, 12, 13, 14, 15, 16, 17] : List Nat).Perm (List.range 19) by decide) rfl rfl rfl rfl rfl rfl (Nat.le_of_ble_eq_true rfl) ⟨(Nat.le_of_ble_eq_true rfl), (Nat.le_of_ble_eq_true rfl)⟩ (fun H locs hP hD hS => ?_)
  refine W.lcmp hx hb dL_law_1009 ?_
  refine lv_if_eq (tgt := 1471) hx hb dL_law_1010 (by decide) (fun _ => ?_) (fun c1 => absurd ((lg_cmp_eq _ _).mpr he) c1)
  exact kk _ _ _ _ _ hR' hl hP hD hS
set_option maxHeartbeats 4000000 in
set_option maxRecDepth 100000 in
theorem law_c28 {p : Program} {l : Launch} {e : Env} {s : State} {m : MethodId} {below : List Frame} {meth : Method} {c : Code} {b L : Nat} {xs : Nat → Int32} {D : va_G} {ca : Nat → ClassId} {x : Nat} {ad : Nat → Nat → Nat} {mm : Nat → Nat} {aS aV aT : Nat → Nat} {F : FS} {M : GS} {i : Nat} (C0 : lw_At p s m meth c b L xs) (hK : va_K D vwCl (TY ca) s) (hAm : Amb aS aV aT (fun q : Nat => s.heap.size ≤ q) s s.heap) (hRS : RSt aS s) (hi : i + 6 ≤ L) (hL : L ≤ 384) (hR : Rel F M)
    (kk : ∀ (F' : FS) (M' : GS) (ls : Array Slot) (H : Heap) (locs : List Loc), Rel F' M' → lv_has ls 4 [(0, .ref b), (1, .ref x), (2, .ref (mm 0)), (3, .int (nI i))] → va_P D vwCl (wA ca x ad mm F' M').flatten H → va_D (fun q : Nat => s.heap.size ≤ q) (wA ca x ad mm F' M').flatten → va_S (fun q : Nat => s.heap.size ≤ q) s.heap H locs → W p l e room_1 s m #[Value.ref b] below meth c H locs 67 1942 (lw_Z below #[Value.ref b] s) (F0 m 1471 ls []))
    (ls : Array Slot) (H : Heap) (locs : List Loc) (hl : lv_has ls 4 [(0, .ref b), (1, .ref x), (2, .ref (mm 0)), (3, .int (nI i))]) (hP : va_P D vwCl (wA ca x ad mm F M).flatten H) (hD : va_D (fun q : Nat => s.heap.size ≤ q) (wA ca x ad mm F M).flatten) (hS : va_S (fun q : Nat => s.heap.size ≤ q) s.heap H locs) : W p l e room_1 s m #[Value.ref b] below meth c H locs 67 1942 (lw_Z below #[Value.ref b] s) (F0 m 1015 ls []) := by
  obtain ⟨hx, hb, hr, hml, hown, hts0, hX, hbl, hlocks, hgv⟩ := id C0
  have hown : s.vm.findClass RL = some m.cls := hown
  have hts : ∀ w ∈ wsL_law, w.before #[Value.ref b] s = true := fun w h => hts0 w (wsL_law_in w h)
  have hA : ∀ q : Nat, s.heap.size ≤ q → (fun q : Nat => s.heap.size ≤ q) q := fun _ h => h
  have hbA : ¬ (fun q : Nat => s.heap.size ≤ q) b := Nat.not_le.mpr hbl
  obtain ⟨o, o', h1, h2, he, hR'⟩ := st_mean hR (xs (nI i + (1 : Int32)).toNatClampNeg) (xs (nI i + (2 : Int32)).toNatClampNeg) (xs (nI i + (3 : Int32)).toNatClampNeg) (xs (nI i + (4 : Int32)).toNatClampNeg)
  refine lv_aload_n hx hb dL_law_1015 rfl (lv_at hl 1 rfl) ?_
  refine lv_aload_n hx hb dL_law_1016 rfl (lv_at hl 0 rfl) ?_
  refine lv_iload_n hx hb dL_law_1017 rfl (lv_at hl 3 rfl) ?_
  refine lv_iconst (v := (1 : Int32)) hx hb dL_law_1018 (by decide) ?_
  refine lv_iadd hx hb dL_law_1019 ?_
  refine va_sld hx hb hX hbl hbA hS (vp_off (k := 1) (by omega) (by omega)) dL_law_1020 ?_
  refine lv_aload_n hx hb dL_law_1021 rfl (lv_at hl 0 rfl) ?_
  refine lv_iload_n hx hb dL_law_1022 rfl (lv_at hl 3 rfl) ?_
  refine lv_iconst (v := (2 : Int32)) hx hb dL_law_1023 (by decide) ?_
  refine lv_iadd hx hb dL_law_1024 ?_
  refine va_sld hx hb hX hbl hbA hS (vp_off (k := 2) (by omega) (by omega)) dL_law_1025 ?_
  refine lv_aload_n hx hb dL_law_1026 rfl (lv_at hl 0 rfl) ?_
  refine lv_iload_n hx hb dL_law_1027 rfl (lv_at hl 3 rfl) ?_
  refine lv_iconst (v := (3 : Int32)) hx hb dL_law_1028 (by decide) ?_
  refine lv_iadd hx hb dL_law_1029 ?_
  refine va_sld hx hb hX hbl hbA hS (vp_off (k := 3) (by omega) (by omega)) dL_law_1030 ?_
  refine lv_aload_n hx hb dL_law_1031 rfl (lv_at hl 0 rfl) ?_
  refine lv_iload_n hx hb dL_law_1032 rfl (lv_at hl 3 rfl) ?_
  refine lv_iconst (v := (4 : Int32)) hx hb dL_law_1033 (by decide) ?_
  refine lv_iadd hx hb dL_law_1034 ?_
  refine va_sld hx hb hX hbl hbA hS (vp_off (k := 4) (by omega) (by omega)) dL_law_1035 ?_
  refine zVl (As := [.int (xs (nI i + (1 : Int32)).toNatClampNeg), .int (xs (nI i + (2 : Int32)).toNatClampNeg), .int (xs (nI i + (3 : Int32)).toNatClampNeg), .int (xs (nI i + (4 : Int32)).toNatClampNeg)]) (ci := 7) (bs := wA ca x ad mm F M) (bs' := wA ca x ad mm F M) ⟨hx, hb, hml, hown, hts⟩ (k_X7_mean l D ca x (ad 1 0) (ad 2 0) (ad 7 0) (ad 9 0) (ad 10 0) (ad 11 0) (ad 12 0) (ad 0) (F.2.1 2) (F.1 0) (xs (nI i + (1 : Int32)).toNatClampNeg) (xs (nI i + (2 : Int32)).toNatClampNeg) (xs (nI i + (3 : Int32)).toNatClampNeg) (xs (nI i + (4 : Int32)).toNatClampNeg) _ h1) (cwV 4 hts gL_law_X7_mean rfl rfl rfl (by decide +kernel) ⟨(Nat.le_of_ble_eq_true rfl), (Nat.le_of_ble_eq_true rfl)⟩) hK hA hP hD hS dL_law_1036 rfl hl.1 [0, 1] [2, 3, 4, 5, 6, 7, 8, 9, 10, 11, 12, 13, 14, 15, 16, 17, 18] (show ([0, 1] ++ [2, 3, 4, 5, 6, 7, 8, 9, 10, 11, 12, 13, 14, 15, 16, 17, 18] : List Nat).Perm (List.range 19) by decide) rfl (show ([0, 1] ++ [2, 3, 4, 5, 6, 7, 8, 9, 10, 11, 12, 13, 14, 15, 16, 17, 18] : List Nat).Perm (List.range 19) by decide) rfl rfl rfl rfl rfl rfl (Nat.le_of_ble_eq_true rfl) ⟨(Nat.le_of_ble_eq_true rfl), (Nat.le_of_ble_eq_true rfl)⟩ (fun H locs hP hD hS => ?_)
  refine lv_aload_n hx hb dL_law_1039 rfl (lv_at hl 2 rfl) ?_
  refine lv_aload_n hx hb dL_law_1040 rfl (lv_at hl 0 rfl) ?_
  refine lv_iload_n hx hb dL_law_1041 rfl (lv_at hl 3 rfl) ?_
  refine lv_iconst (v := (1 : Int32)) hx hb dL_law_1042 (by decide) ?_
  refine lv_iadd hx hb dL_law_1043 ?_
  refine va_sld hx hb hX hbl hbA hS (vp_off (k := 1) (by omega) (by omega)) dL_law_1044 ?_
  refine lv_aload_n hx hb dL_law_1045 rfl (lv_at hl 0 rfl) ?_
  refine lv_iload_n hx hb dL_law_1046 rfl (lv_at hl 3 rfl) ?_
  refine lv_iconst (v := (2 : Int32)) hx hb dL_law_1047 (by decide) ?_
  refine lv_iadd hx hb dL_law_1048 ?_
  refine va_sld hx hb hX hbl hbA hS (vp_off (k := 2) (by omega) (by omega)) dL_law_1049 ?_
  refine lv_aload_n hx hb dL_law_1050 rfl (lv_at hl 0 rfl) ?_
  refine lv_iload_n hx hb dL_law_1051 rfl (lv_at hl 3 rfl) ?_
  refine lv_iconst (v := (3 : Int32)) hx hb dL_law_1052 (by decide) ?_
  refine lv_iadd hx hb dL_law_1053 ?_
  refine va_sld hx hb hX hbl hbA hS (vp_off (k := 3) (by omega) (by omega)) dL_law_1054 ?_
  refine lv_aload_n hx hb dL_law_1055 rfl (lv_at hl 0 rfl) ?_
  refine lv_iload_n hx hb dL_law_1056 rfl (lv_at hl 3 rfl) ?_
  refine lv_iconst (v := (4 : Int32)) hx hb dL_law_1057 (by decide) ?_
  refine lv_iadd hx hb dL_law_1058 ?_
  refine va_sld hx hb hX hbl hbA hS (vp_off (k := 4) (by omega) (by omega)) dL_law_1059 ?_
  refine zVl (As := [.int (xs (nI i + (1 : Int32)).toNatClampNeg), .int (xs (nI i + (2 : Int32)).toNatClampNeg), .int (xs (nI i + (3 : Int32)).toNatClampNeg), .int (xs (nI i + (4 : Int32)).toNatClampNeg)]) (ci := 8) (bs := wA ca x ad mm F M) (bs' := wA ca x ad mm F M) ⟨hx, hb, hml, hown, hts⟩ (k_X8_mean l D ca mm M (xs (nI i + (1 : Int32)).toNatClampNeg) (xs (nI i + (2 : Int32)).toNatClampNeg) (xs (nI i + (3 : Int32)).toNatClampNeg) (xs (nI i + (4 : Int32)).toNatClampNeg) _ h2) (cwV 4 hts gL_law_X8_mean rfl rfl rfl (by decide +kernel) ⟨(Nat.le_of_ble_eq_true rfl), (Nat.le_of_ble_eq_true rfl)⟩) hK hA hP hD hS dL_law_1060 rfl hl.1 [18] [0, 1, 2, 3, 4, 5, 6, 7, 8, 9, 10, 11, 12, 13, 14, 15, 16, 17] (show ([18] ++ [0, 1, 2, 3, 4, 5, 6, 7, 8, 9, 10, 11, 12, 13, 14, 15, 16, 17] : List Nat).Perm (List.range 19) by decide) rfl (show ([18] ++ [0, 1, 2, 3, 4, 5, 6, 7, 8, 9, 10, 11, 12, 13, 14, 15, 16, 17] : List Nat).Perm (List.range 19) by decide) rfl rfl rfl rfl rfl rfl (Nat.le_of_ble_eq_true rfl) ⟨(Nat.le_of_ble_eq_true rfl), (Nat.le_of_ble_eq_true rfl)⟩ (fun H locs hP hD hS => ?_)
  refine W.lcmp hx hb dL_law_1063 ?_
  refine lv_if_eq (tgt := 1471) hx hb dL_law_1064 (by decide) (fun _ => ?_) (fun c1 => absurd ((lg_cmp_eq _ _).mpr he) c1)
  exact kk _ _ _ _ _ hR' hl hP hD hS
set_option maxHeartbeats 4000000 in
set_option maxRecDepth 100000 in
theorem law_c29 {p : Program} {l : Launch} {e : Env} {s : State} {m : MethodId} {below : List Frame} {meth : Method} {c : Code} {b L : Nat} {xs : Nat → Int32} {D : va_G} {ca : Nat → ClassId} {x : Nat} {ad : Nat → Nat → Nat} {mm : Nat → Nat} {aS aV aT : Nat → Nat} {F : FS} {M : GS} {i : Nat} (C0 : lw_At p s m meth c b L xs) (hK : va_K D vwCl (TY ca) s) (hAm : Amb aS aV aT (fun q : Nat => s.heap.size ≤ q) s s.heap) (hRS : RSt aS s) (hi : i + 6 ≤ L) (hL : L ≤ 384) (hR : Rel F M)
    (kk : ∀ (F' : FS) (M' : GS) (ls : Array Slot) (H : Heap) (locs : List Loc), Rel F' M' → lv_has ls 4 [(0, .ref b), (1, .ref x), (2, .ref (mm 0)), (3, .int (nI i))] → va_P D vwCl (wA ca x ad mm F' M').flatten H → va_D (fun q : Nat => s.heap.size ≤ q) (wA ca x ad mm F' M').flatten → va_S (fun q : Nat => s.heap.size ≤ q) s.heap H locs → W p l e room_1 s m #[Value.ref b] below meth c H locs 67 1942 (lw_Z below #[Value.ref b] s) (F0 m 1471 ls []))
    (ls : Array Slot) (H : Heap) (locs : List Loc) (hl : lv_has ls 4 [(0, .ref b), (1, .ref x), (2, .ref (mm 0)), (3, .int (nI i))]) (hP : va_P D vwCl (wA ca x ad mm F M).flatten H) (hD : va_D (fun q : Nat => s.heap.size ≤ q) (wA ca x ad mm F M).flatten) (hS : va_S (fun q : Nat => s.heap.size ≤ q) s.heap H locs) : W p l e room_1 s m #[Value.ref b] below meth c H locs 67 1942 (lw_Z below #[Value.ref b] s) (F0 m 1069 ls []) := by
  obtain ⟨hx, hb, hr, hml, hown, hts0, hX, hbl, hlocks, hgv⟩ := id C0
  have hown : s.vm.findClass RL = some m.cls := hown
  have hts : ∀ w ∈ wsL_law, w.before #[Value.ref b] s = true := fun w h => hts0 w (wsL_law_in w h)
  have hA : ∀ q : Nat, s.heap.size ≤ q → (fun q : Nat => s.heap.size ≤ q) q := fun _ h => h
  have hbA : ¬ (fun q : Nat => s.heap.size ≤ q) b := Nat.not_le.mpr hbl
  obtain ⟨o, o', h1, h2, he, hR'⟩ := st_see hR (xs (nI i + (1 : Int32)).toNatClampNeg) (xs (nI i + (2 : Int32)).toNatClampNeg)
  refine lv_aload_n hx hb dL_law_1069 rfl (lv_at hl 1 rfl) ?_
  refine lv_aload_n hx hb dL_law_1070 rfl (lv_at hl 0 rfl) ?_
  refine lv_iload_n hx hb dL_law_1071 rfl (lv_at hl 3 rfl) ?_
  refine lv_iconst (v := (1 : Int32)) hx hb dL_law_1072 (by decide) ?_
  refine lv_iadd hx hb dL_law_1073 ?_
  refine va_sld hx hb hX hbl hbA hS (vp_off (k := 1) (by omega) (by omega)) dL_law_1074 ?_
  refine lv_aload_n hx hb dL_law_1075 rfl (lv_at hl 0 rfl) ?_
  refine lv_iload_n hx hb dL_law_1076 rfl (lv_at hl 3 rfl) ?_
  refine lv_iconst (v := (2 : Int32)) hx hb dL_law_1077 (by decide) ?_
  refine lv_iadd hx hb dL_law_1078 ?_
  refine va_sld hx hb hX hbl hbA hS (vp_off (k := 2) (by omega) (by omega)) dL_law_1079 ?_
  refine zVi (As := [.int (xs (nI i + (1 : Int32)).toNatClampNeg), .int (xs (nI i + (2 : Int32)).toNatClampNeg)]) (ci := 7) (bs := wA ca x ad mm F M) (bs' := wA ca x ad mm ((va_up F.1 6 o.2), F.2.1, F.2.2) M) ⟨hx, hb, hml, hown, hts⟩ (k_X7_see l D ca x (ad 0 0) (ad 1 0) (ad 2 0) (ad 7 0) (ad 10 0) (ad 11 0) (ad 12 0) (ad 9) (F.2.1 2) (F.1 6) (xs (nI i + (1 : Int32)).toNatClampNeg) (xs (nI i + (2 : Int32)).toNatClampNeg) _ h1) (cwV 2 hts gL_law_X7_see rfl rfl rfl (by decide +kernel) ⟨(Nat.le_of_ble_eq_true rfl), (Nat.le_of_ble_eq_true rfl)⟩) hK hA hP hD hS dL_law_1080 rfl hl.1 [0, 10] [1, 2, 3, 4, 5, 6, 7, 8, 9, 11, 12, 13, 14, 15, 16, 17, 18] (show ([0, 10] ++ [1, 2, 3, 4, 5, 6, 7, 8, 9, 11, 12, 13, 14, 15, 16, 17, 18] : List Nat).Perm (List.range 19) by decide) rfl (show ([0, 10] ++ [1, 2, 3, 4, 5, 6, 7, 8, 9, 11, 12, 13, 14, 15, 16, 17, 18] : List Nat).Perm (List.range 19) by decide) rfl rfl rfl rfl rfl rfl (Nat.le_of_ble_eq_true rfl) ⟨(Nat.le_of_ble_eq_true rfl), (Nat.le_of_ble_eq_true rfl)⟩ (fun H locs hP hD hS => ?_)
  refine lv_aload_n hx hb dL_law_1083 rfl (lv_at hl 2 rfl) ?_
  refine lv_aload_n hx hb dL_law_1084 rfl (lv_at hl 0 rfl) ?_
  refine lv_iload_n hx hb dL_law_1085 rfl (lv_at hl 3 rfl) ?_
  refine lv_iconst (v := (1 : Int32)) hx hb dL_law_1086 (by decide) ?_
  refine lv_iadd hx hb dL_law_1087 ?_
  refine va_sld hx hb hX hbl hbA hS (vp_off (k := 1) (by omega) (by omega)) dL_law_1088 ?_
  refine lv_aload_n hx hb dL_law_1089 rfl (lv_at hl 0 rfl) ?_
  refine lv_iload_n hx hb dL_law_1090 rfl (lv_at hl 3 rfl) ?_
  refine lv_iconst (v := (2 : Int32)) hx hb dL_law_1091 (by decide) ?_
  refine lv_iadd hx hb dL_law_1092 ?_
  refine va_sld hx hb hX hbl hbA hS (vp_off (k := 2) (by omega) (by omega)) dL_law_1093 ?_
  refine zVi (As := [.int (xs (nI i + (1 : Int32)).toNatClampNeg), .int (xs (nI i + (2 : Int32)).toNatClampNeg)]) (ci := 8) (bs := wA ca x ad mm ((va_up F.1 6 o.2), F.2.1, F.2.2) M) (bs' := wA ca x ad mm ((va_up F.1 6 o.2), F.2.1, F.2.2) o'.2) ⟨hx, hb, hml, hown, hts⟩ (k_X8_see l D ca mm M (xs (nI i + (1 : Int32)).toNatClampNeg) (xs (nI i + (2 : Int32)).toNatClampNeg) _ h2) (cwV 2 hts gL_law_X8_see rfl rfl rfl (by decide +kernel) ⟨(Nat.le_of_ble_eq_true rfl), (Nat.le_of_ble_eq_true rfl)⟩) hK hA hP hD hS dL_law_1094 rfl hl.1 [18] [0, 1, 2, 3, 4, 5, 6, 7, 8, 9, 10, 11, 12, 13, 14, 15, 16, 17] (show ([18] ++ [0, 1, 2, 3, 4, 5, 6, 7, 8, 9, 10, 11, 12, 13, 14, 15, 16, 17] : List Nat).Perm (List.range 19) by decide) rfl (show ([18] ++ [0, 1, 2, 3, 4, 5, 6, 7, 8, 9, 10, 11, 12, 13, 14, 15, 16, 17] : List Nat).Perm (List.range 19) by decide) rfl rfl rfl rfl rfl rfl (Nat.le_of_ble_eq_true rfl) ⟨(Nat.le_of_ble_eq_true rfl), (Nat.le_of_ble_eq_true rfl)⟩ (fun H locs hP hD hS => ?_)
  refine lv_icmp_eq (tgt := 1471) hx hb dL_law_1097 (by decide) (fun _ => ?_) (fun c1 => absurd he c1)
  exact kk _ _ _ _ _ hR' hl hP hD hS
