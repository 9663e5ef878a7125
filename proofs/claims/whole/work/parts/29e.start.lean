theorem st_amb {s : State} {b : Nat} (hts0 : ∀ w ∈ lw_tbl, w.before #[Value.ref b] s = true) (hgv : (Jvm.Cond.and given_1 narrow_1).before #[Value.ref b] s = true) : ∃ aS aV aT : Nat → Nat, Amb aS aV aT (fun q : Nat => s.heap.size ≤ q) s s.heap ∧ RSt aS s := by
  have hs := flat_of_before _ hgv
  have hA : ∀ a : Nat, a < s.heap.size → ¬ (fun q : Nat => s.heap.size ≤ q) a := fun a h => Nat.not_le.mpr h
  have z1 : va_Z RJ0 "COMPACT_STRINGS" "Z" (.int 1) (fun q : Nat => s.heap.size ≤ q) s s.heap := va_Zof (hts0 (Cond.laysStatic RJ0 "COMPACT_STRINGS" "Z") (List.mem_of_getElem? (i := 371) (by decide +kernel))) (hts0 (Cond.initialized RJ0) (List.mem_of_getElem? (i := 61) (by decide +kernel))) (va_eqt (hs (.eq (.static "java/lang/String" "COMPACT_STRINGS" "Z") (.int 1)) (by decide +kernel))) hA
  have z2 : va_Zq RJ3 "SIOOBE_FORMATTER" "Ljava/util/function/BiFunction;" (fun q : Nat => s.heap.size ≤ q) s s.heap := va_Zqof (hts0 (Cond.laysStatic RJ3 "SIOOBE_FORMATTER" "Ljava/util/function/BiFunction;") (List.mem_of_getElem? (i := 387) (by decide +kernel))) (hts0 (Cond.initialized RJ3) (List.mem_of_getElem? (i := 63) (by decide +kernel))) (hs (.isRef (.static "jdk/internal/util/Preconditions" "SIOOBE_FORMATTER" "Ljava/util/function/BiFunction;")) (by decide +kernel)) hA
  obtain ⟨aS, aV, hStr, hTm⟩ := vk_Sof (args := #[Value.ref b]) (s := s) (N := 8) (tm := fun i => .string RX5 (txI.getD i 0)) (len := txL) (byt := txB) (A := fun q : Nat => s.heap.size ≤ q) (by decide +kernel) (fun i hi => hs _ ((by decide +kernel : ∀ i, i < 8 → Cond.exactly (.string RX5 (txI.getD i 0)) "java/lang/String" ∈ flatC (Jvm.Cond.and given_1 narrow_1)) i hi)) (fun i hi => hs _ ((by decide +kernel : ∀ i, i < 8 → Cond.eq (.field (.string RX5 (txI.getD i 0)) "java/lang/String" "coder" "B") (.int 0) ∈ flatC (Jvm.Cond.and given_1 narrow_1)) i hi)) (fun i hi => hs _ ((by decide +kernel : ∀ i, i < 8 → Cond.arrayOf (.field (.string RX5 (txI.getD i 0)) "java/lang/String" "value" "[B") .byte ∈ flatC (Jvm.Cond.and given_1 narrow_1)) i hi)) (fun i hi => hs _ ((by decide +kernel : ∀ i, i < 8 → Cond.eq (.length (.field (.string RX5 (txI.getD i 0)) "java/lang/String" "value" "[B")) (.int (Int32.ofNat (txL.getD i 0))) ∈ flatC (Jvm.Cond.and given_1 narrow_1)) i hi)) (fun i hi j hj => hs _ ((by decide +kernel : ∀ i, i < 8 → ∀ j, j < txL.getD i 0 → Cond.eq (.elem (.field (.string RX5 (txI.getD i 0)) "java/lang/String" "value" "[B") (.int (Int32.ofNat j))) (.int ((txB.getD i []).getD j 0)) ∈ flatC (Jvm.Cond.and given_1 narrow_1)) i hi j hj)) (fun i j hi hj hne => (((by decide +kernel : ∀ i, i < 8 → ∀ j, j < 8 → i ≠ j → Cond.not (Cond.eq (.string RX5 (txI.getD i 0)) (.string RX5 (txI.getD j 0))) ∈ flatC (Jvm.Cond.and given_1 narrow_1) ∨ Cond.not (Cond.eq (.string RX5 (txI.getD j 0)) (.string RX5 (txI.getD i 0))) ∈ flatC (Jvm.Cond.and given_1 narrow_1)) i hi j hj hne)).elim (fun h => Or.inl (hs _ h)) (fun h => Or.inr (hs _ h))) hA
  have hT : ∀ k : Nat, k < 4 → ∃ t : Nat, (Term.static RX5 (stN.getD k "") "[I").eval #[Value.ref b] s none [] s = some (.ref t) ∧ va_T .int t 8 (fun j => .int (tabF k j)) (fun q : Nat => s.heap.size ≤ q) s s.heap := by
    intro k hk
    exact va_Tof (f := fun j => .int (tabF k j)) (by decide) (hs _ ((by decide +kernel : ∀ k, k < 4 → Cond.arrayOf (.static RX5 (stN.getD k "") "[I") .int ∈ flatC (Jvm.Cond.and given_1 narrow_1)) k hk)) (va_eqt (hs _ ((by decide +kernel : ∀ k, k < 4 → Cond.eq (.length (.static RX5 (stN.getD k "") "[I")) (.int (Int32.ofNat 8)) ∈ flatC (Jvm.Cond.and given_1 narrow_1)) k hk))) (fun j hj => va_eqt (hs _ ((by decide +kernel : ∀ k, k < 4 → ∀ j, j < 8 → Cond.eq (.elem (.static RX5 (stN.getD k "") "[I") (.int (Int32.ofNat j))) (.int (tabF k j)) ∈ flatC (Jvm.Cond.and given_1 narrow_1)) k hk j hj))) hA
  obtain ⟨aT, haT⟩ := Classical.axiomOfChoice (show ∀ k : Nat, ∃ t : Nat, k < 4 → (Term.static RX5 (stN.getD k "") "[I").eval #[Value.ref b] s none [] s = some (.ref t) ∧ va_T .int t 8 (fun j => .int (tabF k j)) (fun q : Nat => s.heap.size ≤ q) s s.heap from fun k => by
    by_cases hk : k < 4
    · obtain ⟨t, ht⟩ := hT k hk
      exact ⟨t, fun _ => ht⟩
    · exact ⟨0, fun h => absurd h hk⟩)
  have hlay : ∀ k, k < 4 → (Cond.laysStatic RX5 (stN.getD k "") "[I").before #[Value.ref b] s = true := by
    intro k hk
    rcases (show k = 0 ∨ k = 1 ∨ k = 2 ∨ k = 3 by omega) with rfl | rfl | rfl | rfl
    · exact (hts0 (Cond.laysStatic RX5 "FIRST_LEAST" "[I") (List.mem_of_getElem? (i := 430) (by decide +kernel)))
    · exact (hts0 (Cond.laysStatic RX5 "FIRST_MOST" "[I") (List.mem_of_getElem? (i := 432) (by decide +kernel)))
    · exact (hts0 (Cond.laysStatic RX5 "SECOND_LEAST" "[I") (List.mem_of_getElem? (i := 442) (by decide +kernel)))
    · exact (hts0 (Cond.laysStatic RX5 "SECOND_MOST" "[I") (List.mem_of_getElem? (i := 444) (by decide +kernel)))
  have hini := (hts0 (Cond.initialized RX5) (List.mem_of_getElem? (i := 55) (by decide +kernel)))
  have hsr : ∀ k, k < 8 → (Cond.stringRef RX5 (txI.getD k 0) (txS.getD k "")).before #[Value.ref b] s = true := by
    intro k hk
    rcases (show k = 0 ∨ k = 1 ∨ k = 2 ∨ k = 3 ∨ k = 4 ∨ k = 5 ∨ k = 6 ∨ k = 7 by omega) with rfl | rfl | rfl | rfl | rfl | rfl | rfl | rfl
    · exact (hts0 (Cond.stringRef RX5 123 "plain") (List.mem_of_getElem? (i := 357) (by decide +kernel)))
    · exact (hts0 (Cond.stringRef RX5 129 "confider") (List.mem_of_getElem? (i := 410) (by decide +kernel)))
    · exact (hts0 (Cond.stringRef RX5 131 "child") (List.mem_of_getElem? (i := 411) (by decide +kernel)))
    · exact (hts0 (Cond.stringRef RX5 133 "clerk") (List.mem_of_getElem? (i := 412) (by decide +kernel)))
    · exact (hts0 (Cond.stringRef RX5 135 "wall") (List.mem_of_getElem? (i := 413) (by decide +kernel)))
    · exact (hts0 (Cond.stringRef RX5 137 "window") (List.mem_of_getElem? (i := 414) (by decide +kernel)))
    · exact (hts0 (Cond.stringRef RX5 138 "upside") (List.mem_of_getElem? (i := 415) (by decide +kernel)))
    · exact (hts0 (Cond.stringRef RX5 139 "\x72oll") (List.mem_of_getElem? (i := 416) (by decide +kernel)))
  exact ⟨aS, aV, aT, ⟨z1, z2, hStr, fun k hk => ⟨va_Zof (hlay k hk) hini (haT k hk).1 hA, (haT k hk).2⟩⟩, fun k hk => vk_R.of (hsr k hk) (hTm k hk)⟩
theorem st_nw {s : State} {b : Nat} (hts0 : ∀ w ∈ lw_tbl, w.before #[Value.ref b] s = true) : NW7 s := by
  exact ⟨va_Nw.of rfl (hts0 (Cond.methodLinkNest RX7 21 yX1_init RX7) (List.mem_of_getElem? (i := 155) (by decide +kernel))), va_Nw.of rfl (hts0 (Cond.methodLinkNest RX7 28 yX5_init RX7) (List.mem_of_getElem? (i := 172) (by decide +kernel))), va_Nw.of rfl (hts0 (Cond.methodLinkNest RX7 35 yX3_init RX7) (List.mem_of_getElem? (i := 216) (by decide +kernel))), va_Nw.of rfl (hts0 (Cond.methodLinkNest RX7 42 yX4_init RX7) (List.mem_of_getElem? (i := 233) (by decide +kernel))), va_Nw.of rfl (hts0 (Cond.methodLinkNest RX7 49 yX2_init RX7) (List.mem_of_getElem? (i := 246) (by decide +kernel))), va_Nw.of rfl (hts0 (Cond.methodLinkNest RX7 56 yX6_init RX7) (List.mem_of_getElem? (i := 262) (by decide +kernel))), va_AO.of (hts0 (Cond.arrayOver (.object RX1)) (List.mem_of_getElem? (i := 153) (by decide +kernel))), va_AO.of (hts0 (Cond.arrayOver (.object RX6)) (List.mem_of_getElem? (i := 260) (by decide +kernel)))⟩
theorem nw_same (U U' : State) (h : U'.vm = U.vm) (hN : NW7 U) : NW7 U' := by
  obtain ⟨h1, h2, h3, h4, h5, h6, h7, h8⟩ := hN
  exact ⟨h1.same rfl h.symm, h2.same rfl h.symm, h3.same rfl h.symm, h4.same rfl h.symm, h5.same rfl h.symm, h6.same rfl h.symm, h7.moved (by rw [h]; exact Vm.Alike.refl _), h8.moved (by rw [h]; exact Vm.Alike.refl _)⟩
theorem nw_warm {s : State} (hN : NW7 s) (U : State) (hW : s.WarmedH U.vm) : NW7 U := by
  obtain ⟨h1, h2, h3, h4, h5, h6, h7, h8⟩ := hN
  exact ⟨va_Nw.warmM hW h1, va_Nw.warmM hW h2, va_Nw.warmM hW h3, va_Nw.warmM hW h4, va_Nw.warmM hW h5, va_Nw.warmM hW h6, h7.moved hW.alike, h8.moved hW.alike⟩
theorem ty_prim {s : State} {args : Array Value} {ty : FieldType} (h : (Cond.arrayClass ty).before args s = true) : ∃ cA : ClassId, ArrOfT s cA ty ∧ s.vm.findClass ("[" ++ ty.toString) = some cA := by
  obtain ⟨cA, kA, comp, h1, h2, h3⟩ := Cond.arrayClass_spec h
  exact ⟨cA, fun N z => ⟨(fun k h => by cases h), kA, h2, comp, h3⟩, h1⟩
theorem ty_obj {s : State} {args : Array Value} {n : String} (h : (Cond.arrayOver (.object n)).before args s = true) : ∃ cA : ClassId, ArrOfT s cA (.object n) ∧ va_RA s cA (.object n) := by
  obtain ⟨comp, cA, kA, h1, h2, h3, h4, h5⟩ := Cond.arrayOver_spec h
  exact ⟨cA, fun N z => ⟨(fun k h => by cases h), kA, h3, comp, h4⟩, kA, comp, h3, h4, h1, h5⟩
set_option maxHeartbeats 8000000 in
set_option maxRecDepth 100000 in
theorem st_K {s : State} {b : Nat} (hts0 : ∀ w ∈ lw_tbl, w.before #[Value.ref b] s = true) : ∃ (D : va_G) (ca : Nat → ClassId), va_K D vwCl (TY ca) s := by
  obtain ⟨c0, iS0, hKn0⟩ := u_known (C := RX0) (T := TX0) (N := 13) (n := 13) hts0 inX0 (hts0 (Cond.instantiable RX0 13) (List.mem_of_getElem? (i := 77) (by decide +kernel)))
  obtain ⟨c1, iS1, hKn1⟩ := u_known (C := RX1) (T := TX1) (N := 2) (n := 2) hts0 inX1 (hts0 (Cond.instantiable RX1 2) (List.mem_of_getElem? (i := 154) (by decide +kernel)))
  obtain ⟨c2, iS2, hKn2⟩ := u_known (C := RX2) (T := TX2) (N := 2) (n := 2) hts0 inX2 (hts0 (Cond.instantiable RX2 2) (List.mem_of_getElem? (i := 245) (by decide +kernel)))
  obtain ⟨c3, iS3, hKn3⟩ := u_known (C := RX3) (T := TX3) (N := 3) (n := 3) hts0 inX3 (hts0 (Cond.instantiable RX3 3) (List.mem_of_getElem? (i := 215) (by decide +kernel)))
  obtain ⟨c4, iS4, hKn4⟩ := u_known (C := RX4) (T := TX4) (N := 2) (n := 2) hts0 inX4 (hts0 (Cond.instantiable RX4 2) (List.mem_of_getElem? (i := 232) (by decide +kernel)))
  obtain ⟨c5, iS5, hKn5⟩ := u_known (C := RX5) (T := TX5) (N := 10) (n := 10) hts0 inX5 (hts0 (Cond.instantiable RX5 10) (List.mem_of_getElem? (i := 171) (by decide +kernel)))
  obtain ⟨c6, iS6, hKn6⟩ := u_known (C := RX6) (T := TX6) (N := 3) (n := 3) hts0 inX6 (hts0 (Cond.instantiable RX6 3) (List.mem_of_getElem? (i := 261) (by decide +kernel)))
  obtain ⟨c7, iS7, hKn7⟩ := u_known (C := RX7) (T := TX7) (N := 9) (n := 9) hts0 inX7 (hts0 (Cond.instantiable RX7 9) (List.mem_of_getElem? (i := 69) (by decide +kernel)))
  obtain ⟨c8, iS8, hKn8⟩ := u_known (C := RX8) (T := TX8) (N := 24) (n := 24) hts0 inX8 (hts0 (Cond.instantiable RX8 24) (List.mem_of_getElem? (i := 845) (by decide +kernel)))
  obtain ⟨aI, bI, dI⟩ := ty_prim (hts0 (Cond.arrayClass .int) (List.mem_of_getElem? (i := 151) (by decide +kernel)))
  obtain ⟨aB, bB, dB⟩ := ty_prim (hts0 (Cond.arrayClass .byte) (List.mem_of_getElem? (i := 213) (by decide +kernel)))
  obtain ⟨aJ, bJ, dJ⟩ := ty_prim (hts0 (Cond.arrayClass .long) (List.mem_of_getElem? (i := 258) (by decide +kernel)))
  obtain ⟨aZ, bZ, dZ⟩ := ty_prim (hts0 (Cond.arrayClass .boolean) (List.mem_of_getElem? (i := 923) (by decide +kernel)))
  obtain ⟨aP, bP, dP⟩ := ty_obj (hts0 (Cond.arrayOver (.object RX1)) (List.mem_of_getElem? (i := 153) (by decide +kernel)))
  obtain ⟨aR, bR, dR⟩ := ty_obj (hts0 (Cond.arrayOver (.object RX6)) (List.mem_of_getElem? (i := 260) (by decide +kernel)))
  refine ⟨(fun k => [c0, c1, c2, c3, c4, c5, c6, c7, c8].getD k c0, fun k => [iS0, iS1, iS2, iS3, iS4, iS5, iS6, iS7, iS8].getD k iS0), fun k => [aI, aB, aJ, aZ, aP, aR].getD k aI, ⟨?_, ?_⟩⟩
  · intro k q hq
    match k, hq with
    | 0, hq => cases hq; exact hKn0
    | 1, hq => cases hq; exact hKn1
    | 2, hq => cases hq; exact hKn2
    | 3, hq => cases hq; exact hKn3
    | 4, hq => cases hq; exact hKn4
    | 5, hq => cases hq; exact hKn5
    | 6, hq => cases hq; exact hKn6
    | 7, hq => cases hq; exact hKn7
    | 8, hq => cases hq; exact hKn8
    | k + 9, hq => simp [vwCl] at hq
  · intro k q hq
    match k, hq with
    | 0, hq => cases hq; exact ⟨bI, dI⟩
    | 1, hq => cases hq; exact ⟨bB, dB⟩
    | 2, hq => cases hq; exact ⟨bJ, dJ⟩
    | 3, hq => cases hq; exact ⟨bZ, dZ⟩
    | 4, hq => cases hq; exact ⟨bP, dP⟩
    | 5, hq => cases hq; exact ⟨bR, dR⟩
    | k + 6, hq => simp [TY] at hq
set_option maxHeartbeats 8000000 in
set_option maxRecDepth 100000 in
/-- THE LAW, from its entry -/
theorem whole_start {p : Program} {e : Env} {s : State} {m : MethodId} {below : List Frame} {meth : Method} {c : Code} (l : Launch) (hflags : l.flags = flags0) {b L : Nat} {xs : Nat → Int32} (hL : L ≤ 384) (C0 : lw_At p s m meth c b L xs) : W p l e room_1 s m #[Value.ref b] below meth c s.heap [] 0 0 (lw_Z below #[Value.ref b] s) (entryFrame m ([Value.ref b] : List Value).toArray 4) := by
  obtain ⟨hx, hb, hr, hml, hown, hts0, hX, hbl, hlocks, hgv⟩ := id C0
  have hown : s.vm.findClass RL = some m.cls := hown
  have hts : ∀ w ∈ wsL_law, w.before #[Value.ref b] s = true := fun w h => hts0 w (wsL_law_in w h)
  have hA : ∀ q : Nat, s.heap.size ≤ q → (fun q : Nat => s.heap.size ≤ q) q := fun _ h => h
  obtain ⟨aS, aV, aT, hAm, hRS⟩ := st_amb hts0 hgv
  obtain ⟨D, ca, hK⟩ := st_K hts0
  have hS : va_S (fun q : Nat => s.heap.size ≤ q) s.heap s.heap [] := va_S.rf
  have hP : va_P D vwCl [] s.heap := fun k q h => by simp at h
  have hD : va_D (fun q : Nat => s.heap.size ≤ q) [] := ⟨fun i j p q h => by simp at h, fun k q h => by simp at h⟩
  have hl := lv_entry ([.ref b]) (n := 4) (Nat.le_of_ble_eq_true rfl)
  rw [lg_entry_eq]
  generalize (lg_sl ([.ref b]) ++ List.replicate (4 - (lg_sl ([.ref b])).length) Slot.unset).toArray = ls at hl ⊢
  have hl : lv_has ls 4 [(0, .ref b)] := hl
  refine va_new (ci := 7) (fs := [.null, .null, .null, .null, .null, .null, .null, .null, .int 0]) (C := RX7) (T := TX7) (N := 9) hx hb hts0 inX7 tyX7 tyX7_ok hown (hts0 (Cond.classLink RL 7 RX7) (List.mem_of_getElem? (i := 68) (by decide +kernel))) (hts0 (Cond.instantiable RX7 9) (List.mem_of_getElem? (i := 69) (by decide +kernel))) (hts0 (Cond.initialized RX7) (List.mem_of_getElem? (i := 51) (by decide +kernel))) hK hP hD hS hA rfl (fun j hj => by rcases (show j = 0 ∨ j = 1 ∨ j = 2 ∨ j = 3 ∨ j = 4 ∨ j = 5 ∨ j = 6 ∨ j = 7 ∨ j = 8 by omega) with rfl | rfl | rfl | rfl | rfl | rfl | rfl | rfl | rfl <;> rfl) (Nat.le_of_ble_eq_true rfl) (Nat.le_of_ble_eq_true rfl) dL_law_0 (fun q0 H hP hD hS => ?_)
  have hP : va_P D vwCl ([([(q0, .inr (7, [.null, .null, .null, .null, .null, .null, .null, .null, .int 0]))] : va_W)] : List va_W).flatten H := hP
  have hD : va_D (fun q : Nat => s.heap.size ≤ q) ([([(q0, .inr (7, [.null, .null, .null, .null, .null, .null, .null, .null, .int 0]))] : va_W)] : List va_W).flatten := hD
  refine lv_dup hx hb dL_law_3 rfl ?_
  refine zI2 nw_same (nw_warm (st_nw hts0)) ⟨hx, hb, hml, hown, hts⟩ (k_X7_init l D ca q0) (cwI 0 hts gL_law_X7_init rfl rfl rfl (hts0 (Cond.initialized RX7) (List.mem_of_getElem? (i := 51) (by decide +kernel))) (hts0 (Cond.methodLink RL 9 yX7_init) (List.mem_of_getElem? (i := 70) (by decide +kernel))) (hts0 (Cond.instanceMethod yX7_init) (List.mem_of_getElem? (i := 71) (by decide +kernel))) rfl (by decide +kernel) ⟨(Nat.le_of_ble_eq_true rfl), (Nat.le_of_ble_eq_true rfl)⟩) hK hA hP hD hS dL_law_4 hl.1 [0] [] [0, 1, 2, 3, 4, 5, 6, 7, 8, 9, 10, 11, 12, 13, 14, 15, 16, 17] [] (show ([0] ++ [] : List Nat).Perm (List.range 1) by decide) rfl (bn := fun ad => [cF q0 (ad 0 0) (ad 1 0) (ad 2 0) (ad 7 0) (ad 9 0) (ad 10 0) (ad 11 0) (ad 12 0) (folk0.2.1 2), cH ca (ad 0) (folk0.1 0), cH ca (ad 1) (folk0.1 1), cAI ca (ad 2 0) (va_up (va_up (fun _ => none) 0 (some (ad 3 0))) 1 (some (ad 5 0))), cIm (ad 4 0) (ad 3 0) (folk0.2.1 0), cH ca (ad 4) (folk0.1 2), cIm (ad 6 0) (ad 5 0) (folk0.2.1 1), cH ca (ad 6) (folk0.1 3), cR ca (ad 8 0) (ad 7) (folk0.1 4), cH ca (ad 8) (folk0.1 5), cM ca (ad 9) (folk0.1 6), cP ca (ad 10) (folk0.1 7), cL ca (ad 11) folk0.2.2, cAR ca (ad 12 0) (va_up (va_up (va_up (va_up (fun _ => none) 0 (some (ad 13 0))) 1 (some (ad 14 0))) 2 (some (ad 15 0))) 3 (some (ad 16 0))), cW ca (ad 13) (folk0.1 8), cW ca (ad 14) (folk0.1 9), cW ca (ad 15) (folk0.1 10), cW ca (ad 16) (folk0.1 11)]) (fun _ => show ([0, 1, 2, 3, 4, 5, 6, 7, 8, 9, 10, 11, 12, 13, 14, 15, 16, 17] ++ [] : List Nat).Perm (List.range 18) by decide) (fun _ => rfl) (fun _ => rfl) rfl (Nat.le_of_ble_eq_true rfl) ⟨(Nat.le_of_ble_eq_true rfl), (Nat.le_of_ble_eq_true rfl)⟩ (fun ad H locs hP hD hS => ?_)
  refine lv_astore_n (lv' := [(1, .ref q0), (0, .ref b)]) hx hb dL_law_7 rfl hl (by decide) rfl (fun ls hl => ?_)
  refine va_new (ci := 8) (fs := [.null, .null, .int 0, .null, .int 0, .int 0, .int 0, .int 0, .int 0, .int 0, .int 0, .int 0, .null, .null, .null, .null, .null, .int 0, .null, .null, .null, .null, .null, .int 0]) (C := RX8) (T := TX8) (N := 24) hx hb hts0 inX8 tyX8 tyX8_ok hown (hts0 (Cond.classLink RL 10 RX8) (List.mem_of_getElem? (i := 844) (by decide +kernel))) (hts0 (Cond.instantiable RX8 24) (List.mem_of_getElem? (i := 845) (by decide +kernel))) (hts0 (Cond.initialized RX8) (List.mem_of_getElem? (i := 60) (by decide +kernel))) hK hP hD hS hA rfl (fun j hj => by rcases (show j = 0 ∨ j = 1 ∨ j = 2 ∨ j = 3 ∨ j = 4 ∨ j = 5 ∨ j = 6 ∨ j = 7 ∨ j = 8 ∨ j = 9 ∨ j = 10 ∨ j = 11 ∨ j = 12 ∨ j = 13 ∨ j = 14 ∨ j = 15 ∨ j = 16 ∨ j = 17 ∨ j = 18 ∨ j = 19 ∨ j = 20 ∨ j = 21 ∨ j = 22 ∨ j = 23 by omega) with rfl | rfl | rfl | rfl | rfl | rfl | rfl | rfl | rfl | rfl | rfl | rfl | rfl | rfl | rfl | rfl | rfl | rfl | rfl | rfl | rfl | rfl | rfl | rfl <;> rfl) (Nat.le_of_ble_eq_true rfl) (Nat.le_of_ble_eq_true rfl) dL_law_8 (fun q1 H hP hD hS => ?_)
  replace hP := vP_ins (b0 := cF q0 (ad 0 0) (ad 1 0) (ad 2 0) (ad 7 0) (ad 9 0) (ad 10 0) (ad 11 0) (ad 12 0) (folk0.2.1 2)) (r := [cH ca (ad 0) (folk0.1 0), cH ca (ad 1) (folk0.1 1), cAI ca (ad 2 0) (va_up (va_up (fun _ => none) 0 (some (ad 3 0))) 1 (some (ad 5 0))), cIm (ad 4 0) (ad 3 0) (folk0.2.1 0), cH ca (ad 4) (folk0.1 2), cIm (ad 6 0) (ad 5 0) (folk0.2.1 1), cH ca (ad 6) (folk0.1 3), cR ca (ad 8 0) (ad 7) (folk0.1 4), cH ca (ad 8) (folk0.1 5), cM ca (ad 9) (folk0.1 6), cP ca (ad 10) (folk0.1 7), cL ca (ad 11) folk0.2.2, cAR ca (ad 12 0) (va_up (va_up (va_up (va_up (fun _ => none) 0 (some (ad 13 0))) 1 (some (ad 14 0))) 2 (some (ad 15 0))) 3 (some (ad 16 0))), cW ca (ad 13) (folk0.1 8), cW ca (ad 14) (folk0.1 9), cW ca (ad 15) (folk0.1 10), cW ca (ad 16) (folk0.1 11)]) (x := (q1, .inr (8, [.null, .null, .int 0, .null, .int 0, .int 0, .int 0, .int 0, .int 0, .int 0, .int 0, .int 0, .null, .null, .null, .null, .null, .int 0, .null, .null, .null, .null, .null, .int 0]))) hP
  replace hD := vD_ins (b0 := cF q0 (ad 0 0) (ad 1 0) (ad 2 0) (ad 7 0) (ad 9 0) (ad 10 0) (ad 11 0) (ad 12 0) (folk0.2.1 2)) (r := [cH ca (ad 0) (folk0.1 0), cH ca (ad 1) (folk0.1 1), cAI ca (ad 2 0) (va_up (va_up (fun _ => none) 0 (some (ad 3 0))) 1 (some (ad 5 0))), cIm (ad 4 0) (ad 3 0) (folk0.2.1 0), cH ca (ad 4) (folk0.1 2), cIm (ad 6 0) (ad 5 0) (folk0.2.1 1), cH ca (ad 6) (folk0.1 3), cR ca (ad 8 0) (ad 7) (folk0.1 4), cH ca (ad 8) (folk0.1 5), cM ca (ad 9) (folk0.1 6), cP ca (ad 10) (folk0.1 7), cL ca (ad 11) folk0.2.2, cAR ca (ad 12 0) (va_up (va_up (va_up (va_up (fun _ => none) 0 (some (ad 13 0))) 1 (some (ad 14 0))) 2 (some (ad 15 0))) 3 (some (ad 16 0))), cW ca (ad 13) (folk0.1 8), cW ca (ad 14) (folk0.1 9), cW ca (ad 15) (folk0.1 10), cW ca (ad 16) (folk0.1 11)]) (x := (q1, .inr (8, [.null, .null, .int 0, .null, .int 0, .int 0, .int 0, .int 0, .int 0, .int 0, .int 0, .int 0, .null, .null, .null, .null, .null, .int 0, .null, .null, .null, .null, .null, .int 0]))) hD
  refine lv_dup hx hb dL_law_11 rfl ?_
  refine zI2 (N := fun _ => True) (fun _ _ _ _ => trivial) (fun _ _ => trivial) ⟨hx, hb, hml, hown, hts⟩ (k_X8_init l D ca q1) (cwI 0 hts gL_law_X8_init rfl rfl rfl (hts0 (Cond.initialized RX8) (List.mem_of_getElem? (i := 60) (by decide +kernel))) (hts0 (Cond.methodLink RL 12 yX8_init) (List.mem_of_getElem? (i := 846) (by decide +kernel))) (hts0 (Cond.instanceMethod yX8_init) (List.mem_of_getElem? (i := 847) (by decide +kernel))) rfl (by decide +kernel) ⟨(Nat.le_of_ble_eq_true rfl), (Nat.le_of_ble_eq_true rfl)⟩) hK hA hP hD hS dL_law_12 hl.1 [1] [0, 2, 3, 4, 5, 6, 7, 8, 9, 10, 11, 12, 13, 14, 15, 16, 17, 18] [18] [0, 1, 2, 3, 4, 5, 6, 7, 8, 9, 10, 11, 12, 13, 14, 15, 16, 17] (show ([1] ++ [0, 2, 3, 4, 5, 6, 7, 8, 9, 10, 11, 12, 13, 14, 15, 16, 17, 18] : List Nat).Perm (List.range 19) by decide) rfl (bn := fun u => wA ca q0 ad (va_up u 0 q1) folk0 mod0) (fun _ => show ([18] ++ [0, 1, 2, 3, 4, 5, 6, 7, 8, 9, 10, 11, 12, 13, 14, 15, 16, 17] : List Nat).Perm (List.range 19) by decide) (fun _ => rfl) (fun _ => rfl) rfl (Nat.le_of_ble_eq_true rfl) ⟨(Nat.le_of_ble_eq_true rfl), (Nat.le_of_ble_eq_true rfl)⟩ (fun u H locs hP hD hS => ?_)
  refine lv_astore_n (lv' := [(2, .ref q1), (1, .ref q0), (0, .ref b)]) hx hb dL_law_15 rfl hl (by decide) rfl (fun ls hl => ?_)
  refine lv_iconst (v := 0) hx hb dL_law_16 (by decide) ?_
  refine lv_istore_n (lv' := [(3, .int 0), (2, .ref q1), (1, .ref q0), (0, .ref b)]) hx hb dL_law_17 rfl hl (by decide) rfl (fun ls hl => ?_)
  exact law_loop (x := q0) (ad := ad) (mm := va_up u 0 q1) C0 hK hAm hRS hL (L + 6) 0 (by omega) (by omega) folk0 mod0 ls H locs rel_start (lv_sub hl [3, 2, 1, 0] rfl) hP hD hS
