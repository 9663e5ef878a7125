theorem law_cmp {L i : Nat} (hL : L ≤ 384) (hi : i < 1000) : (nI L - 6 < nI i) ↔ L < i + 6 := by
  rw [Int32.lt_iff_toInt_lt, show (6 : Int32) = nI 6 from rfl, pk_sub_toInt (by omega) (by omega), nI_toInt (by omega)]
  omega
set_option maxHeartbeats 8000000 in
set_option maxRecDepth 100000 in
theorem law_loop {p : Program} {l : Launch} {e : Env} {s : State} {m : MethodId} {below : List Frame} {meth : Method} {c : Code} {b L : Nat} {xs : Nat → Int32} {D : va_G} {ca : Nat → ClassId} {x : Nat} {ad : Nat → Nat → Nat} {mm : Nat → Nat} {aS aV aT : Nat → Nat} (C0 : lw_At p s m meth c b L xs) (hK : va_K D vwCl (TY ca) s) (hAm : Amb aS aV aT (fun q : Nat => s.heap.size ≤ q) s s.heap) (hRS : RSt aS s) (hL : L ≤ 384) :
    ∀ (n i : Nat), i < 1000 → L + 6 ≤ i + n → ∀ (F : FS) (M : GS) (ls : Array Slot) (H : Heap) (locs : List Loc), Rel F M → lv_has ls 4 [(0, .ref b), (1, .ref x), (2, .ref (mm 0)), (3, .int (nI i))] → va_P D vwCl (wA ca x ad mm F M).flatten H → va_D (fun q : Nat => s.heap.size ≤ q) (wA ca x ad mm F M).flatten → va_S (fun q : Nat => s.heap.size ≤ q) s.heap H locs → W p l e room_1 s m #[Value.ref b] below meth c H locs 67 1942 (lw_Z below #[Value.ref b] s) (F0 m 18 ls []) := by
  obtain ⟨hx, hb, hr, hml, hown, hts0, hX, hbl, hlocks, hgv⟩ := id C0
  have hbA : ¬ (fun q : Nat => s.heap.size ≤ q) b := Nat.not_le.mpr hbl
  intro n
  induction n with
  | zero =>
    intro i hi hn F M ls H locs hR hl hP hD hS
    refine lv_iload_n hx hb dL_law_18 rfl (lv_at hl 3 rfl) ?_
    refine lv_aload_n hx hb dL_law_19 rfl (lv_at hl 0 rfl) ?_
    refine va_slen hx hb hX hbl hbA hS dL_law_20 ?_
    refine lv_bipush (v := (6 : Int32)) hx hb dL_law_21 (by decide) ?_
    refine lv_isub hx hb dL_law_23 ?_
    refine lv_icmp_gt (tgt := 1477) hx hb dL_law_24 (by decide) (fun c1 => ?_) (fun c1 => absurd ((law_cmp hL hi).mpr (by omega)) c1)
    refine lv_iconst (v := 1) hx hb dL_law_1477 (by decide) ?_
    refine va_forget (fun q hq => hS.2.2 q hq) ?_
    exact lw_ret hx hb hr hlocks dL_law_1478
  | succ n ih =>
    intro i hi hn F M ls H locs hR hl hP hD hS
    refine lv_iload_n hx hb dL_law_18 rfl (lv_at hl 3 rfl) ?_
    refine lv_aload_n hx hb dL_law_19 rfl (lv_at hl 0 rfl) ?_
    refine va_slen hx hb hX hbl hbA hS dL_law_20 ?_
    refine lv_bipush (v := (6 : Int32)) hx hb dL_law_21 (by decide) ?_
    refine lv_isub hx hb dL_law_23 ?_
    refine lv_icmp_gt (tgt := 1477) hx hb dL_law_24 (by decide) (fun c1 => ?_) (fun c1 => ?_)
    · refine lv_iconst (v := 1) hx hb dL_law_1477 (by decide) ?_
      refine va_forget (fun q hq => hS.2.2 q hq) ?_
      exact lw_ret hx hb hr hlocks dL_law_1478
    · have hi6 : i + 6 ≤ L := by
        have h9 : ¬ (L < i + 6) := fun z => c1 ((law_cmp hL hi).mpr z)
        omega
      have kk : ∀ (F' : FS) (M' : GS) (ls : Array Slot) (H : Heap) (locs : List Loc), Rel F' M' → lv_has ls 4 [(0, .ref b), (1, .ref x), (2, .ref (mm 0)), (3, .int (nI i))] → va_P D vwCl (wA ca x ad mm F' M').flatten H → va_D (fun q : Nat => s.heap.size ≤ q) (wA ca x ad mm F' M').flatten → va_S (fun q : Nat => s.heap.size ≤ q) s.heap H locs → W p l e room_1 s m #[Value.ref b] below meth c H locs 67 1942 (lw_Z below #[Value.ref b] s) (F0 m 1471 ls []) := by
        intro F' M' ls H locs hR hl hP hD hS
        refine lv_iinc (v := nI (i + 6)) (lv' := [(3, .int (nI (i + 6))), (0, .ref b), (1, .ref x), (2, .ref (mm 0))]) hx hb dL_law_1471 hl (k := 3) rfl (by rw [show Int32.ofInt 6 = nI 6 from rfl, nI_add]) (by decide) rfl (fun ls hl => ?_)
        refine lv_goto (tgt := 18) hx hb dL_law_1474 (by decide) ?_
        exact ih (i + 6) (by omega) (by omega) F' M' ls H locs hR (lv_sub hl [1, 2, 3, 0] rfl) hP hD hS
      refine lv_aload_n hx hb dL_law_27 rfl (lv_at hl 0 rfl) ?_
      refine lv_iload_n hx hb dL_law_28 rfl (lv_at hl 3 rfl) ?_
      refine va_sld hx hb hX hbl hbA hS (vp_in_nI (by omega) (by omega)) dL_law_29 ?_
      refine lv_bipush (v := (63 : Int32)) hx hb dL_law_30 (by decide) ?_
      refine lv_iand hx hb dL_law_32 ?_
      generalize xs (nI i).toNatClampNeg &&& 63 = w
      by_cases g0 : w = (0 : Int32)
      · refine lv_tableIn (tgt := 220) hx hb dL_law_33 (by rw [g0]; decide) (by rw [g0]; decide) (by rw [g0] <;> rfl) (by decide) ?_
        exact law_c0 C0 hK hAm hRS hi6 hL hR kk ls H locs hl hP hD hS
      have e0 : ¬ w.toInt = 0 := fun z => g0 (Int32.toInt_inj.mp (z.trans (by decide)))
      by_cases g1 : w = (1 : Int32)
      · refine lv_tableIn (tgt := 243) hx hb dL_law_33 (by rw [g1]; decide) (by rw [g1]; decide) (by rw [g1] <;> rfl) (by decide) ?_
        exact law_c1 C0 hK hAm hRS hi6 hL hR kk ls H locs hl hP hD hS
      have e1 : ¬ w.toInt = 1 := fun z => g1 (Int32.toInt_inj.mp (z.trans (by decide)))
      by_cases g2 : w = (2 : Int32)
      · refine lv_tableIn (tgt := 266) hx hb dL_law_33 (by rw [g2]; decide) (by rw [g2]; decide) (by rw [g2] <;> rfl) (by decide) ?_
        exact law_c2 C0 hK hAm hRS hi6 hL hR kk ls H locs hl hP hD hS
      have e2 : ¬ w.toInt = 2 := fun z => g2 (Int32.toInt_inj.mp (z.trans (by decide)))
      by_cases g3 : w = (3 : Int32)
      · refine lv_tableIn (tgt := 279) hx hb dL_law_33 (by rw [g3]; decide) (by rw [g3]; decide) (by rw [g3] <;> rfl) (by decide) ?_
        exact law_c3 C0 hK hAm hRS hi6 hL hR kk ls H locs hl hP hD hS
      have e3 : ¬ w.toInt = 3 := fun z => g3 (Int32.toInt_inj.mp (z.trans (by decide)))
      by_cases g4 : w = (4 : Int32)
      · refine lv_tableIn (tgt := 292) hx hb dL_law_33 (by rw [g4]; decide) (by rw [g4]; decide) (by rw [g4] <;> rfl) (by decide) ?_
        exact law_c4 C0 hK hAm hRS hi6 hL hR kk ls H locs hl hP hD hS
      have e4 : ¬ w.toInt = 4 := fun z => g4 (Int32.toInt_inj.mp (z.trans (by decide)))
      by_cases g5 : w = (5 : Int32)
      · refine lv_tableIn (tgt := 315) hx hb dL_law_33 (by rw [g5]; decide) (by rw [g5]; decide) (by rw [g5] <;> rfl) (by decide) ?_
        exact law_c5 C0 hK hAm hRS hi6 hL hR kk ls H locs hl hP hD hS
      have e5 : ¬ w.toInt = 5 := fun z => g5 (Int32.toInt_inj.mp (z.trans (by decide)))
      by_cases g6 : w = (6 : Int32)
      · refine lv_tableIn (tgt := 348) hx hb dL_law_33 (by rw [g6]; decide) (by rw [g6]; decide) (by rw [g6] <;> rfl) (by decide) ?_
        exact law_c6 C0 hK hAm hRS hi6 hL hR kk ls H locs hl hP hD hS
      have e6 : ¬ w.toInt = 6 := fun z => g6 (Int32.toInt_inj.mp (z.trans (by decide)))
      by_cases g7 : w = (7 : Int32)
      · refine lv_tableIn (tgt := 381) hx hb dL_law_33 (by rw [g7]; decide) (by rw [g7]; decide) (by rw [g7] <;> rfl) (by decide) ?_
        exact law_c7 C0 hK hAm hRS hi6 hL hR kk ls H locs hl hP hD hS
      have e7 : ¬ w.toInt = 7 := fun z => g7 (Int32.toInt_inj.mp (z.trans (by decide)))
      by_cases g8 : w = (8 : Int32)
      · refine lv_tableIn (tgt := 414) hx hb dL_law_33 (by rw [g8]; decide) (by rw [g8]; decide) (by rw [g8] <;> rfl) (by decide) ?_
        exact law_c8 C0 hK hAm hRS hi6 hL hR kk ls H locs hl hP hD hS
      have e8 : ¬ w.toInt = 8 := fun z => g8 (Int32.toInt_inj.mp (z.trans (by decide)))
      by_cases g9 : w = (9 : Int32)
      · refine lv_tableIn (tgt := 457) hx hb dL_law_33 (by rw [g9]; decide) (by rw [g9]; decide) (by rw [g9] <;> rfl) (by decide) ?_
        exact law_c9 C0 hK hAm hRS hi6 hL hR kk ls H locs hl hP hD hS
      have e9 : ¬ w.toInt = 9 := fun z => g9 (Int32.toInt_inj.mp (z.trans (by decide)))
      by_cases g10 : w = (10 : Int32)
      · refine lv_tableIn (tgt := 490) hx hb dL_law_33 (by rw [g10]; decide) (by rw [g10]; decide) (by rw [g10] <;> rfl) (by decide) ?_
        exact law_c10 C0 hK hAm hRS hi6 hL hR kk ls H locs hl hP hD hS
      have e10 : ¬ w.toInt = 10 := fun z => g10 (Int32.toInt_inj.mp (z.trans (by decide)))
      by_cases g11 : w = (11 : Int32)
      · refine lv_tableIn (tgt := 513) hx hb dL_law_33 (by rw [g11]; decide) (by rw [g11]; decide) (by rw [g11] <;> rfl) (by decide) ?_
        exact law_c11 C0 hK hAm hRS hi6 hL hR kk ls H locs hl hP hD hS
      have e11 : ¬ w.toInt = 11 := fun z => g11 (Int32.toInt_inj.mp (z.trans (by decide)))
      by_cases g12 : w = (12 : Int32)
      · refine lv_tableIn (tgt := 546) hx hb dL_law_33 (by rw [g12]; decide) (by rw [g12]; decide) (by rw [g12] <;> rfl) (by decide) ?_
        exact law_c12 C0 hK hAm hRS hi6 hL hR kk ls H locs hl hP hD hS
      have e12 : ¬ w.toInt = 12 := fun z => g12 (Int32.toInt_inj.mp (z.trans (by decide)))
      by_cases g13 : w = (13 : Int32)
      · refine lv_tableIn (tgt := 579) hx hb dL_law_33 (by rw [g13]; decide) (by rw [g13]; decide) (by rw [g13] <;> rfl) (by decide) ?_
        exact law_c13 C0 hK hAm hRS hi6 hL hR kk ls H locs hl hP hD hS
      have e13 : ¬ w.toInt = 13 := fun z => g13 (Int32.toInt_inj.mp (z.trans (by decide)))
      by_cases g14 : w = (14 : Int32)
      · refine lv_tableIn (tgt := 612) hx hb dL_law_33 (by rw [g14]; decide) (by rw [g14]; decide) (by rw [g14] <;> rfl) (by decide) ?_
        exact law_c14 C0 hK hAm hRS hi6 hL hR kk ls H locs hl hP hD hS
      have e14 : ¬ w.toInt = 14 := fun z => g14 (Int32.toInt_inj.mp (z.trans (by decide)))
      by_cases g15 : w = (15 : Int32)
      · refine lv_tableIn (tgt := 635) hx hb dL_law_33 (by rw [g15]; decide) (by rw [g15]; decide) (by rw [g15] <;> rfl) (by decide) ?_
        exact law_c15 C0 hK hAm hRS hi6 hL hR kk ls H locs hl hP hD hS
      have e15 : ¬ w.toInt = 15 := fun z => g15 (Int32.toInt_inj.mp (z.trans (by decide)))
      by_cases g16 : w = (16 : Int32)
      · refine lv_tableIn (tgt := 658) hx hb dL_law_33 (by rw [g16]; decide) (by rw [g16]; decide) (by rw [g16] <;> rfl) (by decide) ?_
        exact law_c16 C0 hK hAm hRS hi6 hL hR kk ls H locs hl hP hD hS
      have e16 : ¬ w.toInt = 16 := fun z => g16 (Int32.toInt_inj.mp (z.trans (by decide)))
      by_cases g17 : w = (17 : Int32)
      · refine lv_tableIn (tgt := 691) hx hb dL_law_33 (by rw [g17]; decide) (by rw [g17]; decide) (by rw [g17] <;> rfl) (by decide) ?_
        exact law_c17 C0 hK hAm hRS hi6 hL hR kk ls H locs hl hP hD hS
      have e17 : ¬ w.toInt = 17 := fun z => g17 (Int32.toInt_inj.mp (z.trans (by decide)))
      by_cases g18 : w = (18 : Int32)
      · refine lv_tableIn (tgt := 724) hx hb dL_law_33 (by rw [g18]; decide) (by rw [g18]; decide) (by rw [g18] <;> rfl) (by decide) ?_
        exact law_c18 C0 hK hAm hRS hi6 hL hR kk ls H locs hl hP hD hS
      have e18 : ¬ w.toInt = 18 := fun z => g18 (Int32.toInt_inj.mp (z.trans (by decide)))
      by_cases g19 : w = (19 : Int32)
      · refine lv_tableIn (tgt := 747) hx hb dL_law_33 (by rw [g19]; decide) (by rw [g19]; decide) (by rw [g19] <;> rfl) (by decide) ?_
        exact law_c19 C0 hK hAm hRS hi6 hL hR kk ls H locs hl hP hD hS
      have e19 : ¬ w.toInt = 19 := fun z => g19 (Int32.toInt_inj.mp (z.trans (by decide)))
      by_cases g20 : w = (20 : Int32)
      · refine lv_tableIn (tgt := 780) hx hb dL_law_33 (by rw [g20]; decide) (by rw [g20]; decide) (by rw [g20] <;> rfl) (by decide) ?_
        exact law_c20 C0 hK hAm hRS hi6 hL hR kk ls H locs hl hP hD hS
      have e20 : ¬ w.toInt = 20 := fun z => g20 (Int32.toInt_inj.mp (z.trans (by decide)))
      by_cases g21 : w = (21 : Int32)
      · refine lv_tableIn (tgt := 803) hx hb dL_law_33 (by rw [g21]; decide) (by rw [g21]; decide) (by rw [g21] <;> rfl) (by decide) ?_
        exact law_c21 C0 hK hAm hRS hi6 hL hR kk ls H locs hl hP hD hS
      have e21 : ¬ w.toInt = 21 := fun z => g21 (Int32.toInt_inj.mp (z.trans (by decide)))
      by_cases g22 : w = (22 : Int32)
      · refine lv_tableIn (tgt := 836) hx hb dL_law_33 (by rw [g22]; decide) (by rw [g22]; decide) (by rw [g22] <;> rfl) (by decide) ?_
        exact law_c22 C0 hK hAm hRS hi6 hL hR kk ls H locs hl hP hD hS
      have e22 : ¬ w.toInt = 22 := fun z => g22 (Int32.toInt_inj.mp (z.trans (by decide)))
      by_cases g23 : w = (23 : Int32)
      · refine lv_tableIn (tgt := 859) hx hb dL_law_33 (by rw [g23]; decide) (by rw [g23]; decide) (by rw [g23] <;> rfl) (by decide) ?_
        exact law_c23 C0 hK hAm hRS hi6 hL hR kk ls H locs hl hP hD hS
      have e23 : ¬ w.toInt = 23 := fun z => g23 (Int32.toInt_inj.mp (z.trans (by decide)))
      by_cases g24 : w = (24 : Int32)
      · refine lv_tableIn (tgt := 872) hx hb dL_law_33 (by rw [g24]; decide) (by rw [g24]; decide) (by rw [g24] <;> rfl) (by decide) ?_
        exact law_c24 C0 hK hAm hRS hi6 hL hR kk ls H locs hl hP hD hS
      have e24 : ¬ w.toInt = 24 := fun z => g24 (Int32.toInt_inj.mp (z.trans (by decide)))
      by_cases g25 : w = (25 : Int32)
      · refine lv_tableIn (tgt := 885) hx hb dL_law_33 (by rw [g25]; decide) (by rw [g25]; decide) (by rw [g25] <;> rfl) (by decide) ?_
        exact law_c25 C0 hK hAm hRS hi6 hL hR kk ls H locs hl hP hD hS
      have e25 : ¬ w.toInt = 25 := fun z => g25 (Int32.toInt_inj.mp (z.trans (by decide)))
      by_cases g26 : w = (26 : Int32)
      · refine lv_tableIn (tgt := 918) hx hb dL_law_33 (by rw [g26]; decide) (by rw [g26]; decide) (by rw [g26] <;> rfl) (by decide) ?_
        exact law_c26 C0 hK hAm hRS hi6 hL hR kk ls H locs hl hP hD hS
      have e26 : ¬ w.toInt = 26 := fun z => g26 (Int32.toInt_inj.mp (z.trans (by decide)))
      by_cases g27 : w = (27 : Int32)
      · refine lv_tableIn (tgt := 951) hx hb dL_law_33 (by rw [g27]; decide) (by rw [g27]; decide) (by rw [g27] <;> rfl) (by decide) ?_
        exact law_c27 C0 hK hAm hRS hi6 hL hR kk ls H locs hl hP hD hS
      have e27 : ¬ w.toInt = 27 := fun z => g27 (Int32.toInt_inj.mp (z.trans (by decide)))
      by_cases g28 : w = (28 : Int32)
      · refine lv_tableIn (tgt := 1015) hx hb dL_law_33 (by rw [g28]; decide) (by rw [g28]; decide) (by rw [g28] <;> rfl) (by decide) ?_
        exact law_c28 C0 hK hAm hRS hi6 hL hR kk ls H locs hl hP hD hS
      have e28 : ¬ w.toInt = 28 := fun z => g28 (Int32.toInt_inj.mp (z.trans (by decide)))
      by_cases g29 : w = (29 : Int32)
      · refine lv_tableIn (tgt := 1069) hx hb dL_law_33 (by rw [g29]; decide) (by rw [g29]; decide) (by rw [g29] <;> rfl) (by decide) ?_
        exact law_c29 C0 hK hAm hRS hi6 hL hR kk ls H locs hl hP hD hS
      have e29 : ¬ w.toInt = 29 := fun z => g29 (Int32.toInt_inj.mp (z.trans (by decide)))
      by_cases g30 : w = (30 : Int32)
      · refine lv_tableIn (tgt := 1102) hx hb dL_law_33 (by rw [g30]; decide) (by rw [g30]; decide) (by rw [g30] <;> rfl) (by decide) ?_
        exact law_c30 C0 hK hAm hRS hi6 hL hR kk ls H locs hl hP hD hS
      have e30 : ¬ w.toInt = 30 := fun z => g30 (Int32.toInt_inj.mp (z.trans (by decide)))
      by_cases g31 : w = (31 : Int32)
      · refine lv_tableIn (tgt := 1125) hx hb dL_law_33 (by rw [g31]; decide) (by rw [g31]; decide) (by rw [g31] <;> rfl) (by decide) ?_
        exact law_c31 C0 hK hAm hRS hi6 hL hR kk ls H locs hl hP hD hS
      have e31 : ¬ w.toInt = 31 := fun z => g31 (Int32.toInt_inj.mp (z.trans (by decide)))
      by_cases g32 : w = (32 : Int32)
      · refine lv_tableIn (tgt := 1148) hx hb dL_law_33 (by rw [g32]; decide) (by rw [g32]; decide) (by rw [g32] <;> rfl) (by decide) ?_
        exact law_c32 C0 hK hAm hRS hi6 hL hR kk ls H locs hl hP hD hS
      have e32 : ¬ w.toInt = 32 := fun z => g32 (Int32.toInt_inj.mp (z.trans (by decide)))
      by_cases g33 : w = (33 : Int32)
      · refine lv_tableIn (tgt := 1171) hx hb dL_law_33 (by rw [g33]; decide) (by rw [g33]; decide) (by rw [g33] <;> rfl) (by decide) ?_
        exact law_c33 C0 hK hAm hRS hi6 hL hR kk ls H locs hl hP hD hS
      have e33 : ¬ w.toInt = 33 := fun z => g33 (Int32.toInt_inj.mp (z.trans (by decide)))
      by_cases g34 : w = (34 : Int32)
      · refine lv_tableIn (tgt := 1184) hx hb dL_law_33 (by rw [g34]; decide) (by rw [g34]; decide) (by rw [g34] <;> rfl) (by decide) ?_
        exact law_c34 C0 hK hAm hRS hi6 hL hR kk ls H locs hl hP hD hS
      have e34 : ¬ w.toInt = 34 := fun z => g34 (Int32.toInt_inj.mp (z.trans (by decide)))
      by_cases g35 : w = (35 : Int32)
      · refine lv_tableIn (tgt := 1207) hx hb dL_law_33 (by rw [g35]; decide) (by rw [g35]; decide) (by rw [g35] <;> rfl) (by decide) ?_
        exact law_c35 C0 hK hAm hRS hi6 hL hR kk ls H locs hl hP hD hS
      have e35 : ¬ w.toInt = 35 := fun z => g35 (Int32.toInt_inj.mp (z.trans (by decide)))
      by_cases g36 : w = (36 : Int32)
      · refine lv_tableIn (tgt := 1250) hx hb dL_law_33 (by rw [g36]; decide) (by rw [g36]; decide) (by rw [g36] <;> rfl) (by decide) ?_
        exact law_c36 C0 hK hAm hRS hi6 hL hR kk ls H locs hl hP hD hS
      have e36 : ¬ w.toInt = 36 := fun z => g36 (Int32.toInt_inj.mp (z.trans (by decide)))
      by_cases g37 : w = (37 : Int32)
      · refine lv_tableIn (tgt := 1273) hx hb dL_law_33 (by rw [g37]; decide) (by rw [g37]; decide) (by rw [g37] <;> rfl) (by decide) ?_
        exact law_c37 C0 hK hAm hRS hi6 hL hR kk ls H locs hl hP hD hS
      have e37 : ¬ w.toInt = 37 := fun z => g37 (Int32.toInt_inj.mp (z.trans (by decide)))
      by_cases g38 : w = (38 : Int32)
      · refine lv_tableIn (tgt := 1296) hx hb dL_law_33 (by rw [g38]; decide) (by rw [g38]; decide) (by rw [g38] <;> rfl) (by decide) ?_
        exact law_c38 C0 hK hAm hRS hi6 hL hR kk ls H locs hl hP hD hS
      have e38 : ¬ w.toInt = 38 := fun z => g38 (Int32.toInt_inj.mp (z.trans (by decide)))
      by_cases g39 : w = (39 : Int32)
      · refine lv_tableIn (tgt := 1339) hx hb dL_law_33 (by rw [g39]; decide) (by rw [g39]; decide) (by rw [g39] <;> rfl) (by decide) ?_
        exact law_c39 C0 hK hAm hRS hi6 hL hR kk ls H locs hl hP hD hS
      have e39 : ¬ w.toInt = 39 := fun z => g39 (Int32.toInt_inj.mp (z.trans (by decide)))
      by_cases g40 : w = (40 : Int32)
      · refine lv_tableIn (tgt := 1382) hx hb dL_law_33 (by rw [g40]; decide) (by rw [g40]; decide) (by rw [g40] <;> rfl) (by decide) ?_
        exact law_c40 C0 hK hAm hRS hi6 hL hR kk ls H locs hl hP hD hS
      have e40 : ¬ w.toInt = 40 := fun z => g40 (Int32.toInt_inj.mp (z.trans (by decide)))
      by_cases g41 : w = (41 : Int32)
      · refine lv_tableIn (tgt := 1435) hx hb dL_law_33 (by rw [g41]; decide) (by rw [g41]; decide) (by rw [g41] <;> rfl) (by decide) ?_
        exact law_c41 C0 hK hAm hRS hi6 hL hR kk ls H locs hl hP hD hS
      have e41 : ¬ w.toInt = 41 := fun z => g41 (Int32.toInt_inj.mp (z.trans (by decide)))
      by_cases g42 : w = (42 : Int32)
      · refine lv_tableIn (tgt := 1448) hx hb dL_law_33 (by rw [g42]; decide) (by rw [g42]; decide) (by rw [g42] <;> rfl) (by decide) ?_
        exact law_c42 C0 hK hAm hRS hi6 hL hR kk ls H locs hl hP hD hS
      have e42 : ¬ w.toInt = 42 := fun z => g42 (Int32.toInt_inj.mp (z.trans (by decide)))
      refine lv_tableOut (tgt := 1471) hx hb dL_law_33 (by omega) (by decide) ?_
      exact kk F M ls H locs hR hl hP hD hS
