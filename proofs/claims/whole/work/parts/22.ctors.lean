def row0 : GS := (fun _ _ => 0, fun k => if k = 1 then -4 else 0)
abbrev rmX0_init : Room := { frames := 2, cells := 5, slots := 32, locals := 43 }
set_option maxHeartbeats 8000000 in
set_option maxRecDepth 100000 in
theorem k_X0_init (l : Launch) (D : va_G) (ca : Nat → ClassId) (h0 : Nat) : KN l yX0_init wsX0_init rmX0_init D ca (fun _ => True) [.ref h0] (([(h0, .inr (0, [.null, .null, .null, .null, .null, .int 0, .int 0, .int 0, .int 0, .int 0, .int 0, .int 0, .int 0]))] : va_W)) (fun u : Nat → Nat => cH ca (va_up u 0 h0) hall0) 5 32 := by
  refine KN.of (cc := cX0_init) (n := 1) (plainFor_of_name (by decide)) rfl rfl (Nat.le_of_ble_eq_true rfl) ?_
  intro p e s m below meth c A Z hx hb hml hts hown hA hK hP hD hS hN hinit hret ls hl
  have hown : s.vm.findClass RX0 = some m.cls := hown
  have hl : lv_has ls 1 [(0, .ref h0)] := hl
  have inX0 : ∀ w ∈ wsX00, w ∈ wsX0_init := by decide +kernel
  have k1 := hts (.methodLink RX0 3 objectInit) (by decide +kernel)
  have k2 := hts (.instanceMethod objectInit) (by decide +kernel)
  have k3 := hts (.code objectInit ⟨#[0xb1]⟩ 1 none) (by decide +kernel)
  have k4 := hts (.arrayClass .int) (by decide +kernel)
  have k5 := hts (.fieldLink RX0 9 "FriezeFolk$Hall" "kind" "[I") (by decide +kernel)
  have k6 := hts (.fieldLink RX0 15 "FriezeFolk$Hall" "warmth" "[I") (by decide +kernel)
  have k7 := hts (.fieldLink RX0 18 "FriezeFolk$Hall" "fade" "[I") (by decide +kernel)
  have k8 := hts (.fieldLink RX0 21 "FriezeFolk$Hall" "length" "[I") (by decide +kernel)
  have k9 := hts (.fieldLink RX0 24 "FriezeFolk$Hall" "price" "[I") (by decide +kernel)
  refine lv_aload_n hx hb dX0_init_0 rfl (lv_at hl 0 rfl) ?_
  refine W.objInit hx hb hown k1 k2 k3 rfl (by rw [hml]; exact hl.1) rfl dX0_init_1 (Nat.le_of_ble_eq_true rfl) (Nat.le_of_ble_eq_true rfl) ?_
  refine W.eq (g2 := F0 m 4 ls []) rfl ?_
  refine lv_aload_n hx hb dX0_init_4 rfl (lv_at hl 0 rfl) ?_
  refine lv_bipush (v := (6 : Int32)) hx hb dX0_init_5 (by decide) ?_
  refine ynewa (atype := .int) (ty := .int) (a0 := (6, .inl (fun _ => 0))) (N' := 6) hx hb k4 rfl 0 rfl (fun _ h => h) hK hP hD hS hA (fun _ => rfl) (by decide) (by decide) (Nat.le_of_ble_eq_true rfl) (Nat.le_of_ble_eq_true rfl) (Nat.le_of_ble_eq_true rfl) dX0_init_7 (fun q0 H hP hD hS => ?_)
  have hP : va_P D vwCl (([(h0, .inr (0, [.null, .null, .null, .null, .null, .int 0, .int 0, .int 0, .int 0, .int 0, .int 0, .int 0, .int 0])), (q0, .inl (ca 0, 6, .inl (fun _ => 0)))] : va_W)) H := hP
  have hD : va_D A (([(h0, .inr (0, [.null, .null, .null, .null, .null, .int 0, .int 0, .int 0, .int 0, .int 0, .int 0, .int 0, .int 0])), (q0, .inl (ca 0, 6, .inl (fun _ => 0)))] : va_W)) := hD
  refine yputF (ref := "FriezeFolk$Hall") (C := RX0) (T := TX0) (N := 13) (ci := 0) (v := .ref q0) (ty := .array .int) hx hb hts inX0 tyX0 tyX0_ok nmX0 hown hK hP hD hS hinit 0 rfl rfl 0 (by decide) k5 rfl rfl rfl (by decide +kernel) rfl rfl (Nat.le_of_ble_eq_true rfl) dX0_init_9 (wn := (([(h0, .inr (0, [.ref q0, .null, .null, .null, .null, .int 0, .int 0, .int 0, .int 0, .int 0, .int 0, .int 0, .int 0])), (q0, .inl (ca 0, 6, .inl (fun _ => 0)))] : va_W))) rfl (fun H locs hP hD hS => ?_)
  refine lv_aload_n hx hb dX0_init_12 rfl (lv_at hl 0 rfl) ?_
  refine lv_bipush (v := (6 : Int32)) hx hb dX0_init_13 (by decide) ?_
  refine ynewa (atype := .int) (ty := .int) (a0 := (6, .inl (fun _ => 0))) (N' := 6) hx hb k4 rfl 0 rfl (fun _ h => h) hK hP hD hS hA (fun _ => rfl) (by decide) (by decide) (Nat.le_of_ble_eq_true rfl) (Nat.le_of_ble_eq_true rfl) (Nat.le_of_ble_eq_true rfl) dX0_init_15 (fun q1 H hP hD hS => ?_)
  have hP : va_P D vwCl (([(h0, .inr (0, [.ref q0, .null, .null, .null, .null, .int 0, .int 0, .int 0, .int 0, .int 0, .int 0, .int 0, .int 0])), (q0, .inl (ca 0, 6, .inl (fun _ => 0))), (q1, .inl (ca 0, 6, .inl (fun _ => 0)))] : va_W)) H := hP
  have hD : va_D A (([(h0, .inr (0, [.ref q0, .null, .null, .null, .null, .int 0, .int 0, .int 0, .int 0, .int 0, .int 0, .int 0, .int 0])), (q0, .inl (ca 0, 6, .inl (fun _ => 0))), (q1, .inl (ca 0, 6, .inl (fun _ => 0)))] : va_W)) := hD
  refine yputF (ref := "FriezeFolk$Hall") (C := RX0) (T := TX0) (N := 13) (ci := 0) (v := .ref q1) (ty := .array .int) hx hb hts inX0 tyX0 tyX0_ok nmX0 hown hK hP hD hS hinit 0 rfl rfl 1 (by decide) k6 rfl rfl rfl (by decide +kernel) rfl rfl (Nat.le_of_ble_eq_true rfl) dX0_init_17 (wn := (([(h0, .inr (0, [.ref q0, .ref q1, .null, .null, .null, .int 0, .int 0, .int 0, .int 0, .int 0, .int 0, .int 0, .int 0])), (q0, .inl (ca 0, 6, .inl (fun _ => 0))), (q1, .inl (ca 0, 6, .inl (fun _ => 0)))] : va_W))) rfl (fun H locs hP hD hS => ?_)
  refine lv_aload_n hx hb dX0_init_20 rfl (lv_at hl 0 rfl) ?_
  refine lv_bipush (v := (12 : Int32)) hx hb dX0_init_21 (by decide) ?_
  refine ynewa (atype := .int) (ty := .int) (a0 := (12, .inl (fun _ => 0))) (N' := 12) hx hb k4 rfl 0 rfl (fun _ h => h) hK hP hD hS hA (fun _ => rfl) (by decide) (by decide) (Nat.le_of_ble_eq_true rfl) (Nat.le_of_ble_eq_true rfl) (Nat.le_of_ble_eq_true rfl) dX0_init_23 (fun q2 H hP hD hS => ?_)
  have hP : va_P D vwCl (([(h0, .inr (0, [.ref q0, .ref q1, .null, .null, .null, .int 0, .int 0, .int 0, .int 0, .int 0, .int 0, .int 0, .int 0])), (q0, .inl (ca 0, 6, .inl (fun _ => 0))), (q1, .inl (ca 0, 6, .inl (fun _ => 0))), (q2, .inl (ca 0, 12, .inl (fun _ => 0)))] : va_W)) H := hP
  have hD : va_D A (([(h0, .inr (0, [.ref q0, .ref q1, .null, .null, .null, .int 0, .int 0, .int 0, .int 0, .int 0, .int 0, .int 0, .int 0])), (q0, .inl (ca 0, 6, .inl (fun _ => 0))), (q1, .inl (ca 0, 6, .inl (fun _ => 0))), (q2, .inl (ca 0, 12, .inl (fun _ => 0)))] : va_W)) := hD
  refine yputF (ref := "FriezeFolk$Hall") (C := RX0) (T := TX0) (N := 13) (ci := 0) (v := .ref q2) (ty := .array .int) hx hb hts inX0 tyX0 tyX0_ok nmX0 hown hK hP hD hS hinit 0 rfl rfl 2 (by decide) k7 rfl rfl rfl (by decide +kernel) rfl rfl (Nat.le_of_ble_eq_true rfl) dX0_init_25 (wn := (([(h0, .inr (0, [.ref q0, .ref q1, .ref q2, .null, .null, .int 0, .int 0, .int 0, .int 0, .int 0, .int 0, .int 0, .int 0])), (q0, .inl (ca 0, 6, .inl (fun _ => 0))), (q1, .inl (ca 0, 6, .inl (fun _ => 0))), (q2, .inl (ca 0, 12, .inl (fun _ => 0)))] : va_W))) rfl (fun H locs hP hD hS => ?_)
  refine lv_aload_n hx hb dX0_init_28 rfl (lv_at hl 0 rfl) ?_
  refine lv_iconst (v := (4 : Int32)) hx hb dX0_init_29 (by decide) ?_
  refine ynewa (atype := .int) (ty := .int) (a0 := (4, .inl (fun _ => 0))) (N' := 4) hx hb k4 rfl 0 rfl (fun _ h => h) hK hP hD hS hA (fun _ => rfl) (by decide) (by decide) (Nat.le_of_ble_eq_true rfl) (Nat.le_of_ble_eq_true rfl) (Nat.le_of_ble_eq_true rfl) dX0_init_30 (fun q3 H hP hD hS => ?_)
  have hP : va_P D vwCl (([(h0, .inr (0, [.ref q0, .ref q1, .ref q2, .null, .null, .int 0, .int 0, .int 0, .int 0, .int 0, .int 0, .int 0, .int 0])), (q0, .inl (ca 0, 6, .inl (fun _ => 0))), (q1, .inl (ca 0, 6, .inl (fun _ => 0))), (q2, .inl (ca 0, 12, .inl (fun _ => 0))), (q3, .inl (ca 0, 4, .inl (fun _ => 0)))] : va_W)) H := hP
  have hD : va_D A (([(h0, .inr (0, [.ref q0, .ref q1, .ref q2, .null, .null, .int 0, .int 0, .int 0, .int 0, .int 0, .int 0, .int 0, .int 0])), (q0, .inl (ca 0, 6, .inl (fun _ => 0))), (q1, .inl (ca 0, 6, .inl (fun _ => 0))), (q2, .inl (ca 0, 12, .inl (fun _ => 0))), (q3, .inl (ca 0, 4, .inl (fun _ => 0)))] : va_W)) := hD
  refine yputF (ref := "FriezeFolk$Hall") (C := RX0) (T := TX0) (N := 13) (ci := 0) (v := .ref q3) (ty := .array .int) hx hb hts inX0 tyX0 tyX0_ok nmX0 hown hK hP hD hS hinit 0 rfl rfl 3 (by decide) k8 rfl rfl rfl (by decide +kernel) rfl rfl (Nat.le_of_ble_eq_true rfl) dX0_init_32 (wn := (([(h0, .inr (0, [.ref q0, .ref q1, .ref q2, .ref q3, .null, .int 0, .int 0, .int 0, .int 0, .int 0, .int 0, .int 0, .int 0])), (q0, .inl (ca 0, 6, .inl (fun _ => 0))), (q1, .inl (ca 0, 6, .inl (fun _ => 0))), (q2, .inl (ca 0, 12, .inl (fun _ => 0))), (q3, .inl (ca 0, 4, .inl (fun _ => 0)))] : va_W))) rfl (fun H locs hP hD hS => ?_)
  refine lv_aload_n hx hb dX0_init_35 rfl (lv_at hl 0 rfl) ?_
  refine lv_iconst (v := (4 : Int32)) hx hb dX0_init_36 (by decide) ?_
  refine ynewa (atype := .int) (ty := .int) (a0 := (4, .inl (fun _ => 0))) (N' := 4) hx hb k4 rfl 0 rfl (fun _ h => h) hK hP hD hS hA (fun _ => rfl) (by decide) (by decide) (Nat.le_of_ble_eq_true rfl) (Nat.le_of_ble_eq_true rfl) (Nat.le_of_ble_eq_true rfl) dX0_init_37 (fun q4 H hP hD hS => ?_)
  have hP : va_P D vwCl (([(h0, .inr (0, [.ref q0, .ref q1, .ref q2, .ref q3, .null, .int 0, .int 0, .int 0, .int 0, .int 0, .int 0, .int 0, .int 0])), (q0, .inl (ca 0, 6, .inl (fun _ => 0))), (q1, .inl (ca 0, 6, .inl (fun _ => 0))), (q2, .inl (ca 0, 12, .inl (fun _ => 0))), (q3, .inl (ca 0, 4, .inl (fun _ => 0))), (q4, .inl (ca 0, 4, .inl (fun _ => 0)))] : va_W)) H := hP
  have hD : va_D A (([(h0, .inr (0, [.ref q0, .ref q1, .ref q2, .ref q3, .null, .int 0, .int 0, .int 0, .int 0, .int 0, .int 0, .int 0, .int 0])), (q0, .inl (ca 0, 6, .inl (fun _ => 0))), (q1, .inl (ca 0, 6, .inl (fun _ => 0))), (q2, .inl (ca 0, 12, .inl (fun _ => 0))), (q3, .inl (ca 0, 4, .inl (fun _ => 0))), (q4, .inl (ca 0, 4, .inl (fun _ => 0)))] : va_W)) := hD
  refine yputF (ref := "FriezeFolk$Hall") (C := RX0) (T := TX0) (N := 13) (ci := 0) (v := .ref q4) (ty := .array .int) hx hb hts inX0 tyX0 tyX0_ok nmX0 hown hK hP hD hS hinit 0 rfl rfl 4 (by decide) k9 rfl rfl rfl (by decide +kernel) rfl rfl (Nat.le_of_ble_eq_true rfl) dX0_init_39 (wn := (([(h0, .inr (0, [.ref q0, .ref q1, .ref q2, .ref q3, .ref q4, .int 0, .int 0, .int 0, .int 0, .int 0, .int 0, .int 0, .int 0])), (q0, .inl (ca 0, 6, .inl (fun _ => 0))), (q1, .inl (ca 0, 6, .inl (fun _ => 0))), (q2, .inl (ca 0, 12, .inl (fun _ => 0))), (q3, .inl (ca 0, 4, .inl (fun _ => 0))), (q4, .inl (ca 0, 4, .inl (fun _ => 0)))] : va_W))) rfl (fun H locs hP hD hS => ?_)
  refine lv_aload_n hx hb dX0_init_42 rfl (lv_at hl 0 rfl) ?_
  refine yVv (As := []) (ci := 0) ⟨hx, hb, hml, hown, hts⟩ (k_X0_clear l D ca (fun k => ([h0, q0, q1, q2, q3, q4] : List Nat).getD k 0) zGS _ clear_z) (cwV 0 hts gX0_init_X0_clear rfl rfl rfl (by decide +kernel) ⟨(Nat.le_of_ble_eq_true rfl), (Nat.le_of_ble_eq_true rfl)⟩) hK hA hP hD hS dX0_init_43 rfl hl.1 [0, 1, 2, 3, 4, 5] [] [0, 1, 2, 3, 4, 5] rfl rfl (wr := []) rfl rfl (by decide) (wn := ((cH ca (fun k => ([h0, q0, q1, q2, q3, q4] : List Nat).getD k 0) hall0))) rfl rfl rfl rfl rfl rfl (Nat.le_of_ble_eq_true rfl) ⟨(Nat.le_of_ble_eq_true rfl), (Nat.le_of_ble_eq_true rfl)⟩ (fun H locs hP hD hS => ?_)
  exact hret (fun k => ([h0, q0, q1, q2, q3, q4] : List Nat).getD k 0) _ _ _ _ (hP.sub [0, 1, 2, 3, 4, 5] rfl) (hD.sub [0, 1, 2, 3, 4, 5] (by decide) rfl) hS dX0_init_46
abbrev rmX1_init : Room := { frames := 3, cells := 6, slots := 45, locals := 63 }
set_option maxHeartbeats 8000000 in
set_option maxRecDepth 100000 in
theorem k_X1_init (l : Launch) (D : va_G) (ca : Nat → ClassId) (h0 : Nat) : KN l yX1_init wsX1_init rmX1_init D ca (fun _ => True) [.ref h0] (([(h0, .inr (1, [.null, .int 0]))] : va_W)) (fun u : Nat → Nat => (cIm (u 0) h0 0) ++ (cH ca u hall0)) 6 45 := by
  refine KN.of (cc := cX1_init) (n := 1) (plainFor_of_name (by decide)) rfl rfl (Nat.le_of_ble_eq_true rfl) ?_
  intro p e s m below meth c A Z hx hb hml hts hown hA hK hP hD hS hN hinit hret ls hl
  have hown : s.vm.findClass RX1 = some m.cls := hown
  have hl : lv_has ls 1 [(0, .ref h0)] := hl
  have inX0 : ∀ w ∈ wsX00, w ∈ wsX1_init := by decide +kernel
  have inX1 : ∀ w ∈ wsX10, w ∈ wsX1_init := by decide +kernel
  have k1 := hts (.methodLink RX1 1 objectInit) (by decide +kernel)
  have k2 := hts (.instanceMethod objectInit) (by decide +kernel)
  have k3 := hts (.code objectInit ⟨#[0xb1]⟩ 1 none) (by decide +kernel)
  have k4 := hts (.classLink RX1 7 RX0) (by decide +kernel)
  have k5 := hts (.instantiable RX0 13) (by decide +kernel)
  have k6 := hts (.initialized RX0) (by decide +kernel)
  have k7 := hts (.instanceMethod yX0_init) (by decide +kernel)
  have k8 := hts (.methodLink RX1 9 yX0_init) (by decide +kernel)
  have k9 := hts (.fieldLink RX1 10 "FriezeFolk$Image" "hall" "LFriezeFolk$Hall;") (by decide +kernel)
  have k10 := hts (.fieldLink RX1 16 "FriezeFolk$Image" "held" "Z") (by decide +kernel)
  refine lv_aload_n hx hb dX1_init_0 rfl (lv_at hl 0 rfl) ?_
  refine W.objInit hx hb hown k1 k2 k3 rfl (by rw [hml]; exact hl.1) rfl dX1_init_1 (Nat.le_of_ble_eq_true rfl) (Nat.le_of_ble_eq_true rfl) ?_
  refine W.eq (g2 := F0 m 4 ls []) rfl ?_
  refine lv_aload_n hx hb dX1_init_4 rfl (lv_at hl 0 rfl) ?_
  refine va_new (ci := 0) (fs := [.null, .null, .null, .null, .null, .int 0, .int 0, .int 0, .int 0, .int 0, .int 0, .int 0, .int 0]) (C := RX0) (T := TX0) (N := 13) hx hb hts inX0 tyX0 tyX0_ok hown k4 k5 k6 hK hP hD hS hA rfl (fun j hj => by rcases (show j = 0 ∨ j = 1 ∨ j = 2 ∨ j = 3 ∨ j = 4 ∨ j = 5 ∨ j = 6 ∨ j = 7 ∨ j = 8 ∨ j = 9 ∨ j = 10 ∨ j = 11 ∨ j = 12 by omega) with rfl | rfl | rfl | rfl | rfl | rfl | rfl | rfl | rfl | rfl | rfl | rfl | rfl <;> rfl) (Nat.le_of_ble_eq_true rfl) (Nat.le_of_ble_eq_true rfl) dX1_init_5 (fun q0 H hP hD hS => ?_)
  have hP : va_P D vwCl (([(h0, .inr (1, [.null, .int 0])), (q0, .inr (0, [.null, .null, .null, .null, .null, .int 0, .int 0, .int 0, .int 0, .int 0, .int 0, .int 0, .int 0]))] : va_W)) H := hP
  have hD : va_D A (([(h0, .inr (1, [.null, .int 0])), (q0, .inr (0, [.null, .null, .null, .null, .null, .int 0, .int 0, .int 0, .int 0, .int 0, .int 0, .int 0, .int 0]))] : va_W)) := hD
  refine lv_dup hx hb dX1_init_8 rfl ?_
  refine yI (fun _ _ _ _ => trivial) (fun _ _ => trivial) ⟨hx, hb, hml, hown, hts⟩ (k_X0_init l D ca q0) (cwI 0 hts gX1_init_X0_init rfl rfl rfl k6 k8 k7 rfl (by decide +kernel) ⟨(Nat.le_of_ble_eq_true rfl), (Nat.le_of_ble_eq_true rfl)⟩) hK hA hP hD hS dX1_init_9 hl.1 [1] [0] [0, 1, 2, 3, 4, 5, 6] rfl rfl (wr := (([(h0, .inr (1, [.null, .int 0]))] : va_W))) rfl rfl (by decide) (wnn := fun u1 => (([(h0, .inr (1, [.null, .int 0]))] : va_W) ++ (cH ca (va_up u1 0 q0) hall0))) (fun _ => rfl) rfl rfl (Nat.le_of_ble_eq_true rfl) ⟨(Nat.le_of_ble_eq_true rfl), (Nat.le_of_ble_eq_true rfl)⟩ (fun u1 H locs hP hD hS => ?_)
  refine yputF (ref := "FriezeFolk$Image") (C := RX1) (T := TX1) (N := 2) (ci := 1) (v := .ref q0) (ty := .object "FriezeFolk$Hall") hx hb hts inX1 tyX1 tyX1_ok nmX1 hown hK hP hD hS hinit 0 rfl rfl 0 (by decide) k9 rfl rfl rfl (by decide +kernel) rfl rfl (Nat.le_of_ble_eq_true rfl) dX1_init_12 (wn := (([(h0, .inr (1, [.ref q0, .int 0]))] : va_W) ++ (cH ca (va_up u1 0 q0) hall0))) rfl (fun H locs hP hD hS => ?_)
  refine lv_aload_n hx hb dX1_init_15 rfl (lv_at hl 0 rfl) ?_
  refine lv_iconst (v := (0 : Int32)) hx hb dX1_init_16 (by decide) ?_
  refine yput (ref := "FriezeFolk$Image") (C := RX1) (T := TX1) (N := 2) (ci := 1) (v := .int (0 : Int32)) (ty := .boolean) hx hb hts inX1 tyX1 tyX1_ok nmX1 hown hK hP hD hS 0 rfl rfl 1 (by decide) k10 rfl rfl (by decide +kernel) rfl rfl (Nat.le_of_ble_eq_true rfl) dX1_init_17 (wn := (([(h0, .inr (1, [.ref q0, .int (0 : Int32)]))] : va_W) ++ (cH ca (va_up u1 0 q0) hall0))) rfl (fun H locs hP hD hS => ?_)
  exact hret (va_up u1 0 q0) _ _ _ _ (hP.sub [0, 1, 2, 3, 4, 5, 6] rfl) (hD.sub [0, 1, 2, 3, 4, 5, 6] (by decide) rfl) hS dX1_init_20
abbrev rmX2_init : Room := { frames := 1, cells := 1, slots := 289, locals := 12 }
set_option maxHeartbeats 8000000 in
set_option maxRecDepth 100000 in
theorem k_X2_init (l : Launch) (D : va_G) (ca : Nat → ClassId) (h0 : Nat) : KN l yX2_init wsX2_init rmX2_init D ca (fun _ => True) [.ref h0] (([(h0, .inr (2, [.null, .long 0]))] : va_W)) (fun u : Nat → Nat => cL ca (va_up u 0 h0) (fun _ => 0, 1)) 1 289 := by
  refine KN.of (cc := cX2_init) (n := 1) (plainFor_of_name (by decide)) rfl rfl (Nat.le_of_ble_eq_true rfl) ?_
  intro p e s m below meth c A Z hx hb hml hts hown hA hK hP hD hS hN hinit hret ls hl
  have hown : s.vm.findClass RX2 = some m.cls := hown
  have hl : lv_has ls 1 [(0, .ref h0)] := hl
  have inX2 : ∀ w ∈ wsX20, w ∈ wsX2_init := by decide +kernel
  have k1 := hts (.methodLink RX2 3 objectInit) (by decide +kernel)
  have k2 := hts (.instanceMethod objectInit) (by decide +kernel)
  have k3 := hts (.code objectInit ⟨#[0xb1]⟩ 1 none) (by decide +kernel)
  have k4 := hts (.arrayClass .long) (by decide +kernel)
  have k5 := hts (.fieldLink RX2 11 "FriezeFolk$Lamps" "ways" "[J") (by decide +kernel)
  have k6 := hts (.fieldLink RX2 15 "FriezeFolk$Lamps" "whole" "J") (by decide +kernel)
  refine lv_aload_n hx hb dX2_init_0 rfl (lv_at hl 0 rfl) ?_
  refine W.objInit hx hb hown k1 k2 k3 rfl (by rw [hml]; exact hl.1) rfl dX2_init_1 (Nat.le_of_ble_eq_true rfl) (Nat.le_of_ble_eq_true rfl) ?_
  refine W.eq (g2 := F0 m 4 ls []) rfl ?_
  refine lv_aload_n hx hb dX2_init_4 rfl (lv_at hl 0 rfl) ?_
  refine lv_sipush (v := (289 : Int32)) hx hb dX2_init_5 (by decide) ?_
  refine ynewa (atype := .long) (ty := .long) (a0 := (289, .inr (.inl (fun _ => 0)))) (N' := 289) hx hb k4 rfl 2 rfl (fun _ h => h) hK hP hD hS hA (fun _ => rfl) (by decide) (by decide) (Nat.le_of_ble_eq_true rfl) (Nat.le_of_ble_eq_true rfl) (Nat.le_of_ble_eq_true rfl) dX2_init_8 (fun q0 H hP hD hS => ?_)
  have hP : va_P D vwCl (([(h0, .inr (2, [.null, .long 0])), (q0, .inl (ca 2, 289, .inr (.inl (fun _ => 0))))] : va_W)) H := hP
  have hD : va_D A (([(h0, .inr (2, [.null, .long 0])), (q0, .inl (ca 2, 289, .inr (.inl (fun _ => 0))))] : va_W)) := hD
  refine yputF (ref := "FriezeFolk$Lamps") (C := RX2) (T := TX2) (N := 2) (ci := 2) (v := .ref q0) (ty := .array .long) hx hb hts inX2 tyX2 tyX2_ok nmX2 hown hK hP hD hS hinit 0 rfl rfl 0 (by decide) k5 rfl rfl rfl (by decide +kernel) rfl rfl (Nat.le_of_ble_eq_true rfl) dX2_init_10 (wn := (([(h0, .inr (2, [.ref q0, .long 0])), (q0, .inl (ca 2, 289, .inr (.inl (fun _ => 0))))] : va_W))) rfl (fun H locs hP hD hS => ?_)
  refine lv_aload_n hx hb dX2_init_13 rfl (lv_at hl 0 rfl) ?_
  refine lv_lconst (v := (1 : Int64)) hx hb dX2_init_14 (by decide) ?_
  refine yput (ref := "FriezeFolk$Lamps") (C := RX2) (T := TX2) (N := 2) (ci := 2) (v := .long (1 : Int64)) (ty := .long) hx hb hts inX2 tyX2 tyX2_ok nmX2 hown hK hP hD hS 0 rfl rfl 1 (by decide) k6 rfl rfl (by decide +kernel) rfl rfl (Nat.le_of_ble_eq_true rfl) dX2_init_15 (wn := (([(h0, .inr (2, [.ref q0, .long (1 : Int64)])), (q0, .inl (ca 2, 289, .inr (.inl (fun _ => 0))))] : va_W))) rfl (fun H locs hP hD hS => ?_)
  exact hret (fun k => ([h0, q0] : List Nat).getD k 0) _ _ _ _ (hP.sub [0, 1] rfl) (hD.sub [0, 1] (by decide) rfl) hS dX2_init_18
abbrev rmX3_init : Room := { frames := 1, cells := 2, slots := 12, locals := 12 }
set_option maxHeartbeats 8000000 in
set_option maxRecDepth 100000 in
theorem k_X3_init (l : Launch) (D : va_G) (ca : Nat → ClassId) (h0 : Nat) : KN l yX3_init wsX3_init rmX3_init D ca (fun _ => True) [.ref h0] (([(h0, .inr (3, [.null, .null, .int 0]))] : va_W)) (fun u : Nat → Nat => cM ca (va_up u 0 h0) zGS) 2 12 := by
  refine KN.of (cc := cX3_init) (n := 1) (plainFor_of_name (by decide)) rfl rfl (Nat.le_of_ble_eq_true rfl) ?_
  intro p e s m below meth c A Z hx hb hml hts hown hA hK hP hD hS hN hinit hret ls hl
  have hown : s.vm.findClass RX3 = some m.cls := hown
  have hl : lv_has ls 1 [(0, .ref h0)] := hl
  have inX3 : ∀ w ∈ wsX30, w ∈ wsX3_init := by decide +kernel
  have k1 := hts (.methodLink RX3 3 objectInit) (by decide +kernel)
  have k2 := hts (.instanceMethod objectInit) (by decide +kernel)
  have k3 := hts (.code objectInit ⟨#[0xb1]⟩ 1 none) (by decide +kernel)
  have k4 := hts (.arrayClass .int) (by decide +kernel)
  have k5 := hts (.fieldLink RX3 9 "FriezeFolk$Memory" "where" "[I") (by decide +kernel)
  have k6 := hts (.fieldLink RX3 15 "FriezeFolk$Memory" "frank" "[I") (by decide +kernel)
  have k7 := hts (.fieldLink RX3 18 "FriezeFolk$Memory" "size" "I") (by decide +kernel)
  refine lv_aload_n hx hb dX3_init_0 rfl (lv_at hl 0 rfl) ?_
  refine W.objInit hx hb hown k1 k2 k3 rfl (by rw [hml]; exact hl.1) rfl dX3_init_1 (Nat.le_of_ble_eq_true rfl) (Nat.le_of_ble_eq_true rfl) ?_
  refine W.eq (g2 := F0 m 4 ls []) rfl ?_
  refine lv_aload_n hx hb dX3_init_4 rfl (lv_at hl 0 rfl) ?_
  refine lv_bipush (v := (6 : Int32)) hx hb dX3_init_5 (by decide) ?_
  refine ynewa (atype := .int) (ty := .int) (a0 := (6, .inl (fun _ => 0))) (N' := 6) hx hb k4 rfl 0 rfl (fun _ h => h) hK hP hD hS hA (fun _ => rfl) (by decide) (by decide) (Nat.le_of_ble_eq_true rfl) (Nat.le_of_ble_eq_true rfl) (Nat.le_of_ble_eq_true rfl) dX3_init_7 (fun q0 H hP hD hS => ?_)
  have hP : va_P D vwCl (([(h0, .inr (3, [.null, .null, .int 0])), (q0, .inl (ca 0, 6, .inl (fun _ => 0)))] : va_W)) H := hP
  have hD : va_D A (([(h0, .inr (3, [.null, .null, .int 0])), (q0, .inl (ca 0, 6, .inl (fun _ => 0)))] : va_W)) := hD
  refine yputF (ref := "FriezeFolk$Memory") (C := RX3) (T := TX3) (N := 3) (ci := 3) (v := .ref q0) (ty := .array .int) hx hb hts inX3 tyX3 tyX3_ok nmX3 hown hK hP hD hS hinit 0 rfl rfl 0 (by decide) k5 rfl rfl rfl (by decide +kernel) rfl rfl (Nat.le_of_ble_eq_true rfl) dX3_init_9 (wn := (([(h0, .inr (3, [.ref q0, .null, .int 0])), (q0, .inl (ca 0, 6, .inl (fun _ => 0)))] : va_W))) rfl (fun H locs hP hD hS => ?_)
  refine lv_aload_n hx hb dX3_init_12 rfl (lv_at hl 0 rfl) ?_
  refine lv_bipush (v := (6 : Int32)) hx hb dX3_init_13 (by decide) ?_
  refine ynewa (atype := .int) (ty := .int) (a0 := (6, .inl (fun _ => 0))) (N' := 6) hx hb k4 rfl 0 rfl (fun _ h => h) hK hP hD hS hA (fun _ => rfl) (by decide) (by decide) (Nat.le_of_ble_eq_true rfl) (Nat.le_of_ble_eq_true rfl) (Nat.le_of_ble_eq_true rfl) dX3_init_15 (fun q1 H hP hD hS => ?_)
  have hP : va_P D vwCl (([(h0, .inr (3, [.ref q0, .null, .int 0])), (q0, .inl (ca 0, 6, .inl (fun _ => 0))), (q1, .inl (ca 0, 6, .inl (fun _ => 0)))] : va_W)) H := hP
  have hD : va_D A (([(h0, .inr (3, [.ref q0, .null, .int 0])), (q0, .inl (ca 0, 6, .inl (fun _ => 0))), (q1, .inl (ca 0, 6, .inl (fun _ => 0)))] : va_W)) := hD
  refine yputF (ref := "FriezeFolk$Memory") (C := RX3) (T := TX3) (N := 3) (ci := 3) (v := .ref q1) (ty := .array .int) hx hb hts inX3 tyX3 tyX3_ok nmX3 hown hK hP hD hS hinit 0 rfl rfl 1 (by decide) k6 rfl rfl rfl (by decide +kernel) rfl rfl (Nat.le_of_ble_eq_true rfl) dX3_init_17 (wn := (([(h0, .inr (3, [.ref q0, .ref q1, .int 0])), (q0, .inl (ca 0, 6, .inl (fun _ => 0))), (q1, .inl (ca 0, 6, .inl (fun _ => 0)))] : va_W))) rfl (fun H locs hP hD hS => ?_)
  refine lv_aload_n hx hb dX3_init_20 rfl (lv_at hl 0 rfl) ?_
  refine lv_iconst (v := (0 : Int32)) hx hb dX3_init_21 (by decide) ?_
  refine yput (ref := "FriezeFolk$Memory") (C := RX3) (T := TX3) (N := 3) (ci := 3) (v := .int (0 : Int32)) (ty := .int) hx hb hts inX3 tyX3 tyX3_ok nmX3 hown hK hP hD hS 0 rfl rfl 2 (by decide) k7 rfl rfl (by decide +kernel) rfl rfl (Nat.le_of_ble_eq_true rfl) dX3_init_22 (wn := (([(h0, .inr (3, [.ref q0, .ref q1, .int (0 : Int32)])), (q0, .inl (ca 0, 6, .inl (fun _ => 0))), (q1, .inl (ca 0, 6, .inl (fun _ => 0)))] : va_W))) rfl (fun H locs hP hD hS => ?_)
  exact hret (fun k => ([h0, q0, q1] : List Nat).getD k 0) _ _ _ _ (hP.sub [0, 1, 2] rfl) (hD.sub [0, 1, 2] (by decide) rfl) hS dX3_init_25
abbrev rmX4_init : Room := { frames := 1, cells := 2, slots := 138, locals := 12 }
set_option maxHeartbeats 8000000 in
set_option maxRecDepth 100000 in
theorem k_X4_init (l : Launch) (D : va_G) (ca : Nat → ClassId) (h0 : Nat) : KN l yX4_init wsX4_init rmX4_init D ca (fun _ => True) [.ref h0] (([(h0, .inr (4, [.null, .null]))] : va_W)) (fun u : Nat → Nat => cP ca (va_up u 0 h0) zGS) 2 138 := by
  refine KN.of (cc := cX4_init) (n := 1) (plainFor_of_name (by decide)) rfl rfl (Nat.le_of_ble_eq_true rfl) ?_
  intro p e s m below meth c A Z hx hb hml hts hown hA hK hP hD hS hN hinit hret ls hl
  have hown : s.vm.findClass RX4 = some m.cls := hown
  have hl : lv_has ls 1 [(0, .ref h0)] := hl
  have inX4 : ∀ w ∈ wsX40, w ∈ wsX4_init := by decide +kernel
  have k1 := hts (.methodLink RX4 3 objectInit) (by decide +kernel)
  have k2 := hts (.instanceMethod objectInit) (by decide +kernel)
  have k3 := hts (.code objectInit ⟨#[0xb1]⟩ 1 none) (by decide +kernel)
  have k4 := hts (.arrayClass .int) (by decide +kernel)
  have k5 := hts (.fieldLink RX4 11 "FriezeFolk$Paperer" "least" "[I") (by decide +kernel)
  have k6 := hts (.fieldLink RX4 15 "FriezeFolk$Paperer" "chosen" "[I") (by decide +kernel)
  refine lv_aload_n hx hb dX4_init_0 rfl (lv_at hl 0 rfl) ?_
  refine W.objInit hx hb hown k1 k2 k3 rfl (by rw [hml]; exact hl.1) rfl dX4_init_1 (Nat.le_of_ble_eq_true rfl) (Nat.le_of_ble_eq_true rfl) ?_
  refine W.eq (g2 := F0 m 4 ls []) rfl ?_
  refine lv_aload_n hx hb dX4_init_4 rfl (lv_at hl 0 rfl) ?_
  refine lv_bipush (v := (69 : Int32)) hx hb dX4_init_5 (by decide) ?_
  refine ynewa (atype := .int) (ty := .int) (a0 := (69, .inl (fun _ => 0))) (N' := 69) hx hb k4 rfl 0 rfl (fun _ h => h) hK hP hD hS hA (fun _ => rfl) (by decide) (by decide) (Nat.le_of_ble_eq_true rfl) (Nat.le_of_ble_eq_true rfl) (Nat.le_of_ble_eq_true rfl) dX4_init_7 (fun q0 H hP hD hS => ?_)
  have hP : va_P D vwCl (([(h0, .inr (4, [.null, .null])), (q0, .inl (ca 0, 69, .inl (fun _ => 0)))] : va_W)) H := hP
  have hD : va_D A (([(h0, .inr (4, [.null, .null])), (q0, .inl (ca 0, 69, .inl (fun _ => 0)))] : va_W)) := hD
  refine yputF (ref := "FriezeFolk$Paperer") (C := RX4) (T := TX4) (N := 2) (ci := 4) (v := .ref q0) (ty := .array .int) hx hb hts inX4 tyX4 tyX4_ok nmX4 hown hK hP hD hS hinit 0 rfl rfl 0 (by decide) k5 rfl rfl rfl (by decide +kernel) rfl rfl (Nat.le_of_ble_eq_true rfl) dX4_init_9 (wn := (([(h0, .inr (4, [.ref q0, .null])), (q0, .inl (ca 0, 69, .inl (fun _ => 0)))] : va_W))) rfl (fun H locs hP hD hS => ?_)
  refine lv_aload_n hx hb dX4_init_12 rfl (lv_at hl 0 rfl) ?_
  refine lv_bipush (v := (69 : Int32)) hx hb dX4_init_13 (by decide) ?_
  refine ynewa (atype := .int) (ty := .int) (a0 := (69, .inl (fun _ => 0))) (N' := 69) hx hb k4 rfl 0 rfl (fun _ h => h) hK hP hD hS hA (fun _ => rfl) (by decide) (by decide) (Nat.le_of_ble_eq_true rfl) (Nat.le_of_ble_eq_true rfl) (Nat.le_of_ble_eq_true rfl) dX4_init_15 (fun q1 H hP hD hS => ?_)
  have hP : va_P D vwCl (([(h0, .inr (4, [.ref q0, .null])), (q0, .inl (ca 0, 69, .inl (fun _ => 0))), (q1, .inl (ca 0, 69, .inl (fun _ => 0)))] : va_W)) H := hP
  have hD : va_D A (([(h0, .inr (4, [.ref q0, .null])), (q0, .inl (ca 0, 69, .inl (fun _ => 0))), (q1, .inl (ca 0, 69, .inl (fun _ => 0)))] : va_W)) := hD
  refine yputF (ref := "FriezeFolk$Paperer") (C := RX4) (T := TX4) (N := 2) (ci := 4) (v := .ref q1) (ty := .array .int) hx hb hts inX4 tyX4 tyX4_ok nmX4 hown hK hP hD hS hinit 0 rfl rfl 1 (by decide) k6 rfl rfl rfl (by decide +kernel) rfl rfl (Nat.le_of_ble_eq_true rfl) dX4_init_17 (wn := (([(h0, .inr (4, [.ref q0, .ref q1])), (q0, .inl (ca 0, 69, .inl (fun _ => 0))), (q1, .inl (ca 0, 69, .inl (fun _ => 0)))] : va_W))) rfl (fun H locs hP hD hS => ?_)
  exact hret (fun k => ([h0, q0, q1] : List Nat).getD k 0) _ _ _ _ (hP.sub [0, 1, 2] rfl) (hD.sub [0, 1, 2] (by decide) rfl) hS dX4_init_20
abbrev rmX5_init : Room := { frames := 3, cells := 7, slots := 205, locals := 63 }
set_option maxHeartbeats 8000000 in
set_option maxRecDepth 100000 in
theorem k_X5_init (l : Launch) (D : va_G) (ca : Nat → ClassId) (h0 : Nat) : KN l yX5_init wsX5_init rmX5_init D ca (fun _ => True) [.ref h0] (([(h0, .inr (5, [.null, .null, .int 0, .int 0, .int 0, .int 0, .int 0, .int 0, .int 0, .int 0]))] : va_W)) (fun u : Nat → Nat => (cR ca (u 0) (va_up (fun k => u (k + 6)) 0 h0) zGS) ++ (cH ca u hall0)) 7 205 := by
  refine KN.of (cc := cX5_init) (n := 1) (plainFor_of_name (by decide)) rfl rfl (Nat.le_of_ble_eq_true rfl) ?_
  intro p e s m below meth c A Z hx hb hml hts hown hA hK hP hD hS hN hinit hret ls hl
  have hown : s.vm.findClass RX5 = some m.cls := hown
  have hl : lv_has ls 1 [(0, .ref h0)] := hl
  have inX0 : ∀ w ∈ wsX00, w ∈ wsX5_init := by decide +kernel
  have inX5 : ∀ w ∈ wsX50, w ∈ wsX5_init := by decide +kernel
  have k1 := hts (.methodLink RX5 3 objectInit) (by decide +kernel)
  have k2 := hts (.instanceMethod objectInit) (by decide +kernel)
  have k3 := hts (.code objectInit ⟨#[0xb1]⟩ 1 none) (by decide +kernel)
  have k4 := hts (.classLink RX5 9 RX0) (by decide +kernel)
  have k5 := hts (.instantiable RX0 13) (by decide +kernel)
  have k6 := hts (.initialized RX0) (by decide +kernel)
  have k7 := hts (.instanceMethod yX0_init) (by decide +kernel)
  have k8 := hts (.methodLink RX5 11 yX0_init) (by decide +kernel)
  have k9 := hts (.fieldLink RX5 12 "FriezeFolk$Reader" "told" "LFriezeFolk$Hall;") (by decide +kernel)
  have k10 := hts (.arrayClass .byte) (by decide +kernel)
  have k11 := hts (.fieldLink RX5 18 "FriezeFolk$Reader" "tape" "[B") (by decide +kernel)
  have k12 := hts (.fieldLink RX5 22 "FriezeFolk$Reader" "size" "I") (by decide +kernel)
  have k13 := hts (.fieldLink RX5 26 "FriezeFolk$Reader" "fault" "I") (by decide +kernel)
  have k14 := hts (.fieldLink RX5 29 "FriezeFolk$Reader" "faultAt" "I") (by decide +kernel)
  have k15 := hts (.fieldLink RX5 32 "FriezeFolk$Reader" "token" "I") (by decide +kernel)
  have k16 := hts (.fieldLink RX5 35 "FriezeFolk$Reader" "start" "I") (by decide +kernel)
  have k17 := hts (.fieldLink RX5 38 "FriezeFolk$Reader" "stop" "I") (by decide +kernel)
  have k18 := hts (.fieldLink RX5 41 "FriezeFolk$Reader" "number" "I") (by decide +kernel)
  have k19 := hts (.fieldLink RX5 44 "FriezeFolk$Reader" "linesTold" "I") (by decide +kernel)
  refine lv_aload_n hx hb dX5_init_0 rfl (lv_at hl 0 rfl) ?_
  refine W.objInit hx hb hown k1 k2 k3 rfl (by rw [hml]; exact hl.1) rfl dX5_init_1 (Nat.le_of_ble_eq_true rfl) (Nat.le_of_ble_eq_true rfl) ?_
  refine W.eq (g2 := F0 m 4 ls []) rfl ?_
  refine lv_aload_n hx hb dX5_init_4 rfl (lv_at hl 0 rfl) ?_
  refine va_new (ci := 0) (fs := [.null, .null, .null, .null, .null, .int 0, .int 0, .int 0, .int 0, .int 0, .int 0, .int 0, .int 0]) (C := RX0) (T := TX0) (N := 13) hx hb hts inX0 tyX0 tyX0_ok hown k4 k5 k6 hK hP hD hS hA rfl (fun j hj => by rcases (show j = 0 ∨ j = 1 ∨ j = 2 ∨ j = 3 ∨ j = 4 ∨ j = 5 ∨ j = 6 ∨ j = 7 ∨ j = 8 ∨ j = 9 ∨ j = 10 ∨ j = 11 ∨ j = 12 by omega) with rfl | rfl | rfl | rfl | rfl | rfl | rfl | rfl | rfl | rfl | rfl | rfl | rfl <;> rfl) (Nat.le_of_ble_eq_true rfl) (Nat.le_of_ble_eq_true rfl) dX5_init_5 (fun q0 H hP hD hS => ?_)
  have hP : va_P D vwCl (([(h0, .inr (5, [.null, .null, .int 0, .int 0, .int 0, .int 0, .int 0, .int 0, .int 0, .int 0])), (q0, .inr (0, [.null, .null, .null, .null, .null, .int 0, .int 0, .int 0, .int 0, .int 0, .int 0, .int 0, .int 0]))] : va_W)) H := hP
  have hD : va_D A (([(h0, .inr (5, [.null, .null, .int 0, .int 0, .int 0, .int 0, .int 0, .int 0, .int 0, .int 0])), (q0, .inr (0, [.null, .null, .null, .null, .null, .int 0, .int 0, .int 0, .int 0, .int 0, .int 0, .int 0, .int 0]))] : va_W)) := hD
  refine lv_dup hx hb dX5_init_8 rfl ?_
  refine yI (fun _ _ _ _ => trivial) (fun _ _ => trivial) ⟨hx, hb, hml, hown, hts⟩ (k_X0_init l D ca q0) (cwI 0 hts gX5_init_X0_init rfl rfl rfl k6 k8 k7 rfl (by decide +kernel) ⟨(Nat.le_of_ble_eq_true rfl), (Nat.le_of_ble_eq_true rfl)⟩) hK hA hP hD hS dX5_init_9 hl.1 [1] [0] [0, 1, 2, 3, 4, 5, 6] rfl rfl (wr := (([(h0, .inr (5, [.null, .null, .int 0, .int 0, .int 0, .int 0, .int 0, .int 0, .int 0, .int 0]))] : va_W))) rfl rfl (by decide) (wnn := fun u1 => (([(h0, .inr (5, [.null, .null, .int 0, .int 0, .int 0, .int 0, .int 0, .int 0, .int 0, .int 0]))] : va_W) ++ (cH ca (va_up u1 0 q0) hall0))) (fun _ => rfl) rfl rfl (Nat.le_of_ble_eq_true rfl) ⟨(Nat.le_of_ble_eq_true rfl), (Nat.le_of_ble_eq_true rfl)⟩ (fun u1 H locs hP hD hS => ?_)
  refine yputF (ref := "FriezeFolk$Reader") (C := RX5) (T := TX5) (N := 10) (ci := 5) (v := .ref q0) (ty := .object "FriezeFolk$Hall") hx hb hts inX5 tyX5 tyX5_ok nmX5 hown hK hP hD hS hinit 0 rfl rfl 0 (by decide) k9 rfl rfl rfl (by decide +kernel) rfl rfl (Nat.le_of_ble_eq_true rfl) dX5_init_12 (wn := (([(h0, .inr (5, [.ref q0, .null, .int 0, .int 0, .int 0, .int 0, .int 0, .int 0, .int 0, .int 0]))] : va_W) ++ (cH ca (va_up u1 0 q0) hall0))) rfl (fun H locs hP hD hS => ?_)
  refine lv_aload_n hx hb dX5_init_15 rfl (lv_at hl 0 rfl) ?_
  refine lv_sipush (v := (160 : Int32)) hx hb dX5_init_16 (by decide) ?_
  refine ynewa (atype := .byte) (ty := .byte) (a0 := (160, .inl (fun _ => 0))) (N' := 160) hx hb k10 rfl 1 rfl (fun _ h => h) hK hP hD hS hA (fun _ => rfl) (by decide) (by decide) (Nat.le_of_ble_eq_true rfl) (Nat.le_of_ble_eq_true rfl) (Nat.le_of_ble_eq_true rfl) dX5_init_19 (fun q2 H hP hD hS => ?_)
  have hP : va_P D vwCl (([(h0, .inr (5, [.ref q0, .null, .int 0, .int 0, .int 0, .int 0, .int 0, .int 0, .int 0, .int 0]))] : va_W) ++ (cH ca (va_up u1 0 q0) hall0) ++ ([(q2, .inl (ca 1, 160, .inl (fun _ => 0)))] : va_W)) H := hP
  have hD : va_D A (([(h0, .inr (5, [.ref q0, .null, .int 0, .int 0, .int 0, .int 0, .int 0, .int 0, .int 0, .int 0]))] : va_W) ++ (cH ca (va_up u1 0 q0) hall0) ++ ([(q2, .inl (ca 1, 160, .inl (fun _ => 0)))] : va_W)) := hD
  refine yputF (ref := "FriezeFolk$Reader") (C := RX5) (T := TX5) (N := 10) (ci := 5) (v := .ref q2) (ty := .array .byte) hx hb hts inX5 tyX5 tyX5_ok nmX5 hown hK hP hD hS hinit 0 rfl rfl 1 (by decide) k11 rfl rfl rfl (by decide +kernel) rfl rfl (Nat.le_of_ble_eq_true rfl) dX5_init_21 (wn := (([(h0, .inr (5, [.ref q0, .ref q2, .int 0, .int 0, .int 0, .int 0, .int 0, .int 0, .int 0, .int 0]))] : va_W) ++ (cH ca (va_up u1 0 q0) hall0) ++ ([(q2, .inl (ca 1, 160, .inl (fun _ => 0)))] : va_W))) rfl (fun H locs hP hD hS => ?_)
  refine lv_aload_n hx hb dX5_init_24 rfl (lv_at hl 0 rfl) ?_
  refine lv_iconst (v := (0 : Int32)) hx hb dX5_init_25 (by decide) ?_
  refine yput (ref := "FriezeFolk$Reader") (C := RX5) (T := TX5) (N := 10) (ci := 5) (v := .int (0 : Int32)) (ty := .int) hx hb hts inX5 tyX5 tyX5_ok nmX5 hown hK hP hD hS 0 rfl rfl 2 (by decide) k12 rfl rfl (by decide +kernel) rfl rfl (Nat.le_of_ble_eq_true rfl) dX5_init_26 (wn := (([(h0, .inr (5, [.ref q0, .ref q2, .int (0 : Int32), .int 0, .int 0, .int 0, .int 0, .int 0, .int 0, .int 0]))] : va_W) ++ (cH ca (va_up u1 0 q0) hall0) ++ ([(q2, .inl (ca 1, 160, .inl (fun _ => 0)))] : va_W))) rfl (fun H locs hP hD hS => ?_)
  refine lv_aload_n hx hb dX5_init_29 rfl (lv_at hl 0 rfl) ?_
  refine lv_iconst (v := (0 : Int32)) hx hb dX5_init_30 (by decide) ?_
  refine yput (ref := "FriezeFolk$Reader") (C := RX5) (T := TX5) (N := 10) (ci := 5) (v := .int (0 : Int32)) (ty := .int) hx hb hts inX5 tyX5 tyX5_ok nmX5 hown hK hP hD hS 0 rfl rfl 3 (by decide) k13 rfl rfl (by decide +kernel) rfl rfl (Nat.le_of_ble_eq_true rfl) dX5_init_31 (wn := (([(h0, .inr (5, [.ref q0, .ref q2, .int (0 : Int32), .int (0 : Int32), .int 0, .int 0, .int 0, .int 0, .int 0, .int 0]))] : va_W) ++ (cH ca (va_up u1 0 q0) hall0) ++ ([(q2, .inl (ca 1, 160, .inl (fun _ => 0)))] : va_W))) rfl (fun H locs hP hD hS => ?_)
  refine lv_aload_n hx hb dX5_init_34 rfl (lv_at hl 0 rfl) ?_
  refine lv_iconst (v := (0 : Int32)) hx hb dX5_init_35 (by decide) ?_
  refine yput (ref := "FriezeFolk$Reader") (C := RX5) (T := TX5) (N := 10) (ci := 5) (v := .int (0 : Int32)) (ty := .int) hx hb hts inX5 tyX5 tyX5_ok nmX5 hown hK hP hD hS 0 rfl rfl 4 (by decide) k14 rfl rfl (by decide +kernel) rfl rfl (Nat.le_of_ble_eq_true rfl) dX5_init_36 (wn := (([(h0, .inr (5, [.ref q0, .ref q2, .int (0 : Int32), .int (0 : Int32), .int (0 : Int32), .int 0, .int 0, .int 0, .int 0, .int 0]))] : va_W) ++ (cH ca (va_up u1 0 q0) hall0) ++ ([(q2, .inl (ca 1, 160, .inl (fun _ => 0)))] : va_W))) rfl (fun H locs hP hD hS => ?_)
  refine lv_aload_n hx hb dX5_init_39 rfl (lv_at hl 0 rfl) ?_
  refine lv_iconst (v := (0 : Int32)) hx hb dX5_init_40 (by decide) ?_
  refine yput (ref := "FriezeFolk$Reader") (C := RX5) (T := TX5) (N := 10) (ci := 5) (v := .int (0 : Int32)) (ty := .int) hx hb hts inX5 tyX5 tyX5_ok nmX5 hown hK hP hD hS 0 rfl rfl 5 (by decide) k15 rfl rfl (by decide +kernel) rfl rfl (Nat.le_of_ble_eq_true rfl) dX5_init_41 (wn := (([(h0, .inr (5, [.ref q0, .ref q2, .int (0 : Int32), .int (0 : Int32), .int (0 : Int32), .int (0 : Int32), .int 0, .int 0, .int 0, .int 0]))] : va_W) ++ (cH ca (va_up u1 0 q0) hall0) ++ ([(q2, .inl (ca 1, 160, .inl (fun _ => 0)))] : va_W))) rfl (fun H locs hP hD hS => ?_)
  refine lv_aload_n hx hb dX5_init_44 rfl (lv_at hl 0 rfl) ?_
  refine lv_iconst (v := (0 : Int32)) hx hb dX5_init_45 (by decide) ?_
  refine yput (ref := "FriezeFolk$Reader") (C := RX5) (T := TX5) (N := 10) (ci := 5) (v := .int (0 : Int32)) (ty := .int) hx hb hts inX5 tyX5 tyX5_ok nmX5 hown hK hP hD hS 0 rfl rfl 6 (by decide) k16 rfl rfl (by decide +kernel) rfl rfl (Nat.le_of_ble_eq_true rfl) dX5_init_46 (wn := (([(h0, .inr (5, [.ref q0, .ref q2, .int (0 : Int32), .int (0 : Int32), .int (0 : Int32), .int (0 : Int32), .int (0 : Int32), .int 0, .int 0, .int 0]))] : va_W) ++ (cH ca (va_up u1 0 q0) hall0) ++ ([(q2, .inl (ca 1, 160, .inl (fun _ => 0)))] : va_W))) rfl (fun H locs hP hD hS => ?_)
  refine lv_aload_n hx hb dX5_init_49 rfl (lv_at hl 0 rfl) ?_
  refine lv_iconst (v := (0 : Int32)) hx hb dX5_init_50 (by decide) ?_
  refine yput (ref := "FriezeFolk$Reader") (C := RX5) (T := TX5) (N := 10) (ci := 5) (v := .int (0 : Int32)) (ty := .int) hx hb hts inX5 tyX5 tyX5_ok nmX5 hown hK hP hD hS 0 rfl rfl 7 (by decide) k17 rfl rfl (by decide +kernel) rfl rfl (Nat.le_of_ble_eq_true rfl) dX5_init_51 (wn := (([(h0, .inr (5, [.ref q0, .ref q2, .int (0 : Int32), .int (0 : Int32), .int (0 : Int32), .int (0 : Int32), .int (0 : Int32), .int (0 : Int32), .int 0, .int 0]))] : va_W) ++ (cH ca (va_up u1 0 q0) hall0) ++ ([(q2, .inl (ca 1, 160, .inl (fun _ => 0)))] : va_W))) rfl (fun H locs hP hD hS => ?_)
  refine lv_aload_n hx hb dX5_init_54 rfl (lv_at hl 0 rfl) ?_
  refine lv_iconst (v := (0 : Int32)) hx hb dX5_init_55 (by decide) ?_
  refine yput (ref := "FriezeFolk$Reader") (C := RX5) (T := TX5) (N := 10) (ci := 5) (v := .int (0 : Int32)) (ty := .int) hx hb hts inX5 tyX5 tyX5_ok nmX5 hown hK hP hD hS 0 rfl rfl 8 (by decide) k18 rfl rfl (by decide +kernel) rfl rfl (Nat.le_of_ble_eq_true rfl) dX5_init_56 (wn := (([(h0, .inr (5, [.ref q0, .ref q2, .int (0 : Int32), .int (0 : Int32), .int (0 : Int32), .int (0 : Int32), .int (0 : Int32), .int (0 : Int32), .int (0 : Int32), .int 0]))] : va_W) ++ (cH ca (va_up u1 0 q0) hall0) ++ ([(q2, .inl (ca 1, 160, .inl (fun _ => 0)))] : va_W))) rfl (fun H locs hP hD hS => ?_)
  refine lv_aload_n hx hb dX5_init_59 rfl (lv_at hl 0 rfl) ?_
  refine lv_iconst (v := (0 : Int32)) hx hb dX5_init_60 (by decide) ?_
  refine yput (ref := "FriezeFolk$Reader") (C := RX5) (T := TX5) (N := 10) (ci := 5) (v := .int (0 : Int32)) (ty := .int) hx hb hts inX5 tyX5 tyX5_ok nmX5 hown hK hP hD hS 0 rfl rfl 9 (by decide) k19 rfl rfl (by decide +kernel) rfl rfl (Nat.le_of_ble_eq_true rfl) dX5_init_61 (wn := (([(h0, .inr (5, [.ref q0, .ref q2, .int (0 : Int32), .int (0 : Int32), .int (0 : Int32), .int (0 : Int32), .int (0 : Int32), .int (0 : Int32), .int (0 : Int32), .int (0 : Int32)]))] : va_W) ++ (cH ca (va_up u1 0 q0) hall0) ++ ([(q2, .inl (ca 1, 160, .inl (fun _ => 0)))] : va_W))) rfl (fun H locs hP hD hS => ?_)
  exact hret (fun k => if k < 6 then va_up u1 0 q0 k else q2) _ _ _ _ (hP.sub [0, 7, 1, 2, 3, 4, 5, 6] rfl) (hD.sub [0, 7, 1, 2, 3, 4, 5, 6] (by decide) rfl) hS dX5_init_64
abbrev rmX6_init : Room := { frames := 1, cells := 1, slots := 40, locals := 12 }
set_option maxHeartbeats 8000000 in
set_option maxRecDepth 100000 in
theorem k_X6_init (l : Launch) (D : va_G) (ca : Nat → ClassId) (h0 : Nat) : KN l yX6_init wsX6_init rmX6_init D ca (fun _ => True) [.ref h0] (([(h0, .inr (6, [.null, .int 0, .int 0]))] : va_W)) (fun u : Nat → Nat => cW ca (va_up u 0 h0) row0) 1 40 := by
  refine KN.of (cc := cX6_init) (n := 1) (plainFor_of_name (by decide)) rfl rfl (Nat.le_of_ble_eq_true rfl) ?_
  intro p e s m below meth c A Z hx hb hml hts hown hA hK hP hD hS hN hinit hret ls hl
  have hown : s.vm.findClass RX6 = some m.cls := hown
  have hl : lv_has ls 1 [(0, .ref h0)] := hl
  have inX6 : ∀ w ∈ wsX60, w ∈ wsX6_init := by decide +kernel
  have k1 := hts (.methodLink RX6 3 objectInit) (by decide +kernel)
  have k2 := hts (.instanceMethod objectInit) (by decide +kernel)
  have k3 := hts (.code objectInit ⟨#[0xb1]⟩ 1 none) (by decide +kernel)
  have k4 := hts (.arrayClass .int) (by decide +kernel)
  have k5 := hts (.fieldLink RX6 9 "FriezeFolk$Row" "cells" "[I") (by decide +kernel)
  have k6 := hts (.fieldLink RX6 15 "FriezeFolk$Row" "lane" "I") (by decide +kernel)
  have k7 := hts (.fieldLink RX6 19 "FriezeFolk$Row" "size" "I") (by decide +kernel)
  refine lv_aload_n hx hb dX6_init_0 rfl (lv_at hl 0 rfl) ?_
  refine W.objInit hx hb hown k1 k2 k3 rfl (by rw [hml]; exact hl.1) rfl dX6_init_1 (Nat.le_of_ble_eq_true rfl) (Nat.le_of_ble_eq_true rfl) ?_
  refine W.eq (g2 := F0 m 4 ls []) rfl ?_
  refine lv_aload_n hx hb dX6_init_4 rfl (lv_at hl 0 rfl) ?_
  refine lv_bipush (v := (40 : Int32)) hx hb dX6_init_5 (by decide) ?_
  refine ynewa (atype := .int) (ty := .int) (a0 := (40, .inl (fun _ => 0))) (N' := 40) hx hb k4 rfl 0 rfl (fun _ h => h) hK hP hD hS hA (fun _ => rfl) (by decide) (by decide) (Nat.le_of_ble_eq_true rfl) (Nat.le_of_ble_eq_true rfl) (Nat.le_of_ble_eq_true rfl) dX6_init_7 (fun q0 H hP hD hS => ?_)
  have hP : va_P D vwCl (([(h0, .inr (6, [.null, .int 0, .int 0])), (q0, .inl (ca 0, 40, .inl (fun _ => 0)))] : va_W)) H := hP
  have hD : va_D A (([(h0, .inr (6, [.null, .int 0, .int 0])), (q0, .inl (ca 0, 40, .inl (fun _ => 0)))] : va_W)) := hD
  refine yputF (ref := "FriezeFolk$Row") (C := RX6) (T := TX6) (N := 3) (ci := 6) (v := .ref q0) (ty := .array .int) hx hb hts inX6 tyX6 tyX6_ok nmX6 hown hK hP hD hS hinit 0 rfl rfl 0 (by decide) k5 rfl rfl rfl (by decide +kernel) rfl rfl (Nat.le_of_ble_eq_true rfl) dX6_init_9 (wn := (([(h0, .inr (6, [.ref q0, .int 0, .int 0])), (q0, .inl (ca 0, 40, .inl (fun _ => 0)))] : va_W))) rfl (fun H locs hP hD hS => ?_)
  refine lv_aload_n hx hb dX6_init_12 rfl (lv_at hl 0 rfl) ?_
  refine lv_bipush (v := (-4 : Int32)) hx hb dX6_init_13 (by decide) ?_
  refine yput (ref := "FriezeFolk$Row") (C := RX6) (T := TX6) (N := 3) (ci := 6) (v := .int (-4 : Int32)) (ty := .int) hx hb hts inX6 tyX6 tyX6_ok nmX6 hown hK hP hD hS 0 rfl rfl 1 (by decide) k6 rfl rfl (by decide +kernel) rfl rfl (Nat.le_of_ble_eq_true rfl) dX6_init_15 (wn := (([(h0, .inr (6, [.ref q0, .int (-4 : Int32), .int 0])), (q0, .inl (ca 0, 40, .inl (fun _ => 0)))] : va_W))) rfl (fun H locs hP hD hS => ?_)
  refine lv_aload_n hx hb dX6_init_18 rfl (lv_at hl 0 rfl) ?_
  refine lv_iconst (v := (0 : Int32)) hx hb dX6_init_19 (by decide) ?_
  refine yput (ref := "FriezeFolk$Row") (C := RX6) (T := TX6) (N := 3) (ci := 6) (v := .int (0 : Int32)) (ty := .int) hx hb hts inX6 tyX6 tyX6_ok nmX6 hown hK hP hD hS 0 rfl rfl 2 (by decide) k7 rfl rfl (by decide +kernel) rfl rfl (Nat.le_of_ble_eq_true rfl) dX6_init_20 (wn := (([(h0, .inr (6, [.ref q0, .int (-4 : Int32), .int (0 : Int32)])), (q0, .inl (ca 0, 40, .inl (fun _ => 0)))] : va_W))) rfl (fun H locs hP hD hS => ?_)
  exact hret (fun k => ([h0, q0] : List Nat).getD k 0) _ _ _ _ (hP.sub [0, 1] rfl) (hD.sub [0, 1] (by decide) rfl) hS dX6_init_23
