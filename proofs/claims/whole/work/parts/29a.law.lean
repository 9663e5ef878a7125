/-! THE CLAIM OUT OF ONE WALK OF THE LAW'S BODY. Your part is whole_start (and what it stands on); all else here is the same for every law, but numbers. -/
def R_law : String := "FriezeFolkLaw"
def lw_P (b : Addr) (xs : List Int32) (args : Array Value) (s : State) : Prop := args = #[.ref b] ∧ s.IntsAt b xs ∧ xs.length ≤ 384 ∧ (Jvm.Cond.and given_1 narrow_1).before args s = true
def lw_Q (_ : Array Value) (s : State) (o : Outcome) (t : State) : Prop := o = .returned (some (.int 1)) ∧ Framed s o t [] 67 1942
def lw_Z (below : List Frame) (a : Array Value) (s : State) : State → Prop := fun t => ∃ o, t.status = .running ∧ Ended t below o ∧ lw_Q a s o t
/-- the law's own end, with 1 on the stack, nothing written that was there before, its room as the claim has it -/
theorem lw_ret {p : Program} {l : Launch} {e : Env} {s : State} {m : MethodId} {below : List Frame} {meth : Method} {c : Code} {b : Nat} (hx : p.tables.exec = Jvm.exec) (hb : c.code = code) (hr : meth.sig.returnType = ret) (hlocks : meth.locks = false) {pc : Nat} {H : Heap} {ls : Array Slot} (hdg : decode code pc = .ok (.ireturn, 1)) : W p l e room_1 s m #[Value.ref b] below meth c H [] 67 1942 (lw_Z below #[Value.ref b] s) (F0 m pc ls [.int 1]) := by
  intro T hT X
  obtain ⟨fs, hret, hrun, hended, hW, hframe⟩ := X.leave (v := some (.int 1)) (hlocks := hlocks) (fun h => by rw [hr] at h; cases h)
  have hmeth' : T.vm.method? m = some meth := X.method'
  refine ⟨T.setFrames fs, ?_, .returned (some (.int 1)), hrun, hended, rfl, ⟨_, rfl⟩, hW, hframe⟩
  jvm_step X.here [X.here.top, hx, hb, hdg, hmeth', hr, ret, narrow_b1]
  (try refine ⟨rfl, ?_⟩); (try refine ⟨rfl, ?_⟩)
  first | (intro acts; rw [hret _ acts rfl rfl rfl]) | rw [hret _ _ rfl rfl rfl]
  exact Steps.refl _
/-- what holds at the law's entry: the machine, the code, the tables' words (any of lw_tbl by 'hts w (by decide +kernel)'), the script of L ints xs at the cell b, what the Statement gives of the start (any of its parts by flat_of_before) -/
def lw_At (p : Program) (s : State) (m : MethodId) (meth : Method) (c : Code) (b L : Nat) (xs : Nat → Int32) : Prop :=
  p.tables.exec = Jvm.exec ∧ c.code = code ∧ meth.sig.returnType = ret ∧ c.maxLocals = 4 ∧ s.vm.findClass R_law = some m.cls ∧ (∀ w ∈ lw_tbl, w.before #[Value.ref b] s = true) ∧ va_X b L xs s s.heap ∧ b < s.heap.size ∧ meth.locks = false ∧ (Jvm.Cond.and given_1 narrow_1).before #[Value.ref b] s = true
theorem vp_off {i k L : Nat} (h : i + k < L) (hL : L < 2 ^ 31) : vp_in (nI i + nI k) L := by
  rw [nI_add]
  exact vp_in_nI h hL
set_option maxHeartbeats 4000000 in
set_option maxRecDepth 100000 in
theorem law_c0 {p : Program} {l : Launch} {e : Env} {s : State} {m : MethodId} {below : List Frame} {meth : Method} {c : Code} {b L : Nat} {xs : Nat → Int32} {D : va_G} {ca : Nat → ClassId} {x : Nat} {ad : Nat → Nat → Nat} {mm : Nat → Nat} {aS aV aT : Nat → Nat} {F : FS} {M : GS} {i : Nat} (C0 : lw_At p s m meth c b L xs) (hK : va_K D vwCl (TY ca) s) (hAm : Amb aS aV aT (fun q : Nat => s.heap.size ≤ q) s s.heap) (hRS : RSt aS s) (hi : i + 6 ≤ L) (hL : L ≤ 384) (hR : Rel F M)
    (kk : ∀ (F' : FS) (M' : GS) (ls : Array Slot) (H : Heap) (locs : List Loc), Rel F' M' → lv_has ls 4 [(0, .ref b), (1, .ref x), (2, .ref (mm 0)), (3, .int (nI i))] → va_P D vwCl (wA ca x ad mm F' M').flatten H → va_D (fun q : Nat => s.heap.size ≤ q) (wA ca x ad mm F' M').flatten → va_S (fun q : Nat => s.heap.size ≤ q) s.heap H locs → W p l e room_1 s m #[Value.ref b] below meth c H locs 67 1942 (lw_Z below #[Value.ref b] s) (F0 m 1471 ls []))
    (ls : Array Slot) (H : Heap) (locs : List Loc) (hl : lv_has ls 4 [(0, .ref b), (1, .ref x), (2, .ref (mm 0)), (3, .int (nI i))]) (hP : va_P D vwCl (wA ca x ad mm F M).flatten H) (hD : va_D (fun q : Nat => s.heap.size ≤ q) (wA ca x ad mm F M).flatten) (hS : va_S (fun q : Nat => s.heap.size ≤ q) s.heap H locs) : W p l e room_1 s m #[Value.ref b] below meth c H locs 67 1942 (lw_Z below #[Value.ref b] s) (F0 m 220 ls []) := by
  obtain ⟨hx, hb, hr, hml, hown, hts0, hX, hbl, hlocks, hgv⟩ := id C0
  have hown : s.vm.findClass RL = some m.cls := hown
  have hts : ∀ w ∈ wsL_law, w.before #[Value.ref b] s = true := fun w h => hts0 w (wsL_law_in w h)
  have hA : ∀ q : Nat, s.heap.size ≤ q → (fun q : Nat => s.heap.size ≤ q) q := fun _ h => h
  have hbA : ¬ (fun q : Nat => s.heap.size ≤ q) b := Nat.not_le.mpr hbl
  obtain ⟨o, o', h1, h2, he, hR'⟩ := st_feed hR (xs (nI i + (1 : Int32)).toNatClampNeg)
  refine lv_aload_n hx hb dL_law_220 rfl (lv_at hl 1 rfl) ?_
  refine lv_aload_n hx hb dL_law_221 rfl (lv_at hl 0 rfl) ?_
  refine lv_iload_n hx hb dL_law_222 rfl (lv_at hl 3 rfl) ?_
  refine lv_iconst (v := (1 : Int32)) hx hb dL_law_223 (by decide) ?_
  refine lv_iadd hx hb dL_law_224 ?_
  refine va_sld hx hb hX hbl hbA hS (vp_off (k := 1) (by omega) (by omega)) dL_law_225 ?_
  refine zVi (As := [.int (xs (nI i + (1 : Int32)).toNatClampNeg)]) (ci := 7) (bs := wA ca x ad mm F M) (bs' := wA ca x ad mm ((va_up F.1 4 o.2), F.2.1, F.2.2) M) ⟨hx, hb, hml, hown, hts⟩ (k_X7_feed l D ca x (ad 0 0) (ad 1 0) (ad 2 0) (ad 9 0) (ad 10 0) (ad 11 0) (ad 12 0) (ad 8 0) (ad 7) (F.2.1 2) (F.1 4) (xs (nI i + (1 : Int32)).toNatClampNeg) _ h1) (cwV 1 hts gL_law_X7_feed rfl rfl rfl (by decide +kernel) ⟨(Nat.le_of_ble_eq_true rfl), (Nat.le_of_ble_eq_true rfl)⟩) hK hA hP hD hS dL_law_226 rfl hl.1 [0, 8] [1, 2, 3, 4, 5, 6, 7, 9, 10, 11, 12, 13, 14, 15, 16, 17, 18] (show ([0, 8] ++ [1, 2, 3, 4, 5, 6, 7, 9, 10, 11, 12, 13, 14, 15, 16, 17, 18] : List Nat).Perm (List.range 19) by decide) rfl (show ([0, 8] ++ [1, 2, 3, 4, 5, 6, 7, 9, 10, 11, 12, 13, 14, 15, 16, 17, 18] : List Nat).Perm (List.range 19) by decide) rfl rfl rfl rfl rfl rfl (Nat.le_of_ble_eq_true rfl) ⟨(Nat.le_of_ble_eq_true rfl), (Nat.le_of_ble_eq_true rfl)⟩ (fun H locs hP hD hS => ?_)
  refine lv_aload_n hx hb dL_law_229 rfl (lv_at hl 2 rfl) ?_
  refine lv_aload_n hx hb dL_law_230 rfl (lv_at hl 0 rfl) ?_
  refine lv_iload_n hx hb dL_law_231 rfl (lv_at hl 3 rfl) ?_
  refine lv_iconst (v := (1 : Int32)) hx hb dL_law_232 (by decide) ?_
  refine lv_iadd hx hb dL_law_233 ?_
  refine va_sld hx hb hX hbl hbA hS (vp_off (k := 1) (by omega) (by omega)) dL_law_234 ?_
  refine zVi (As := [.int (xs (nI i + (1 : Int32)).toNatClampNeg)]) (ci := 8) (bs := wA ca x ad mm ((va_up F.1 4 o.2), F.2.1, F.2.2) M) (bs' := wA ca x ad mm ((va_up F.1 4 o.2), F.2.1, F.2.2) o'.2) ⟨hx, hb, hml, hown, hts⟩ (k_X8_feed l D ca mm M (xs (nI i + (1 : Int32)).toNatClampNeg) _ h2) (cwV 1 hts gL_law_X8_feed rfl rfl rfl (by decide +kernel) ⟨(Nat.le_of_ble_eq_true rfl), (Nat.le_of_ble_eq_true rfl)⟩) hK hA hP hD hS dL_law_235 rfl hl.1 [18] [0, 1, 2, 3, 4, 5, 6, 7, 8, 9, 10, 11, 12, 13, 14, 15, 16, 17] (show ([18] ++ [0, 1, 2, 3, 4, 5, 6, 7, 8, 9, 10, 11, 12, 13, 14, 15, 16, 17] : List Nat).Perm (List.range 19) by decide) rfl (show ([18] ++ [0, 1, 2, 3, 4, 5, 6, 7, 8, 9, 10, 11, 12, 13, 14, 15, 16, 17] : List Nat).Perm (List.range 19) by decide) rfl rfl rfl rfl rfl rfl (Nat.le_of_ble_eq_true rfl) ⟨(Nat.le_of_ble_eq_true rfl), (Nat.le_of_ble_eq_true rfl)⟩ (fun H locs hP hD hS => ?_)
  refine lv_icmp_eq (tgt := 1471) hx hb dL_law_238 (by decide) (fun _ => ?_) (fun c1 => absurd he c1)
  exact kk _ _ _ _ _ hR' hl hP hD hS
set_option maxHeartbeats 4000000 in
set_option maxRecDepth 100000 in
theorem law_c1 {p : Program} {l : Launch} {e : Env} {s : State} {m : MethodId} {below : List Frame} {meth : Method} {c : Code} {b L : Nat} {xs : Nat → Int32} {D : va_G} {ca : Nat → ClassId} {x : Nat} {ad : Nat → Nat → Nat} {mm : Nat → Nat} {aS aV aT : Nat → Nat} {F : FS} {M : GS} {i : Nat} (C0 : lw_At p s m meth c b L xs) (hK : va_K D vwCl (TY ca) s) (hAm : Amb aS aV aT (fun q : Nat => s.heap.size ≤ q) s s.heap) (hRS : RSt aS s) (hi : i + 6 ≤ L) (hL : L ≤ 384) (hR : Rel F M)
    (kk : ∀ (F' : FS) (M' : GS) (ls : Array Slot) (H : Heap) (locs : List Loc), Rel F' M' → lv_has ls 4 [(0, .ref b), (1, .ref x), (2, .ref (mm 0)), (3, .int (nI i))] → va_P D vwCl (wA ca x ad mm F' M').flatten H → va_D (fun q : Nat => s.heap.size ≤ q) (wA ca x ad mm F' M').flatten → va_S (fun q : Nat => s.heap.size ≤ q) s.heap H locs → W p l e room_1 s m #[Value.ref b] below meth c H locs 67 1942 (lw_Z below #[Value.ref b] s) (F0 m 1471 ls []))
    (ls : Array Slot) (H : Heap) (locs : List Loc) (hl : lv_has ls 4 [(0, .ref b), (1, .ref x), (2, .ref (mm 0)), (3, .int (nI i))]) (hP : va_P D vwCl (wA ca x ad mm F M).flatten H) (hD : va_D (fun q : Nat => s.heap.size ≤ q) (wA ca x ad mm F M).flatten) (hS : va_S (fun q : Nat => s.heap.size ≤ q) s.heap H locs) : W p l e room_1 s m #[Value.ref b] below meth c H locs 67 1942 (lw_Z below #[Value.ref b] s) (F0 m 243 ls []) := by
  obtain ⟨hx, hb, hr, hml, hown, hts0, hX, hbl, hlocks, hgv⟩ := id C0
  have hown : s.vm.findClass RL = some m.cls := hown
  have hts : ∀ w ∈ wsL_law, w.before #[Value.ref b] s = true := fun w h => hts0 w (wsL_law_in w h)
  have hA : ∀ q : Nat, s.heap.size ≤ q → (fun q : Nat => s.heap.size ≤ q) q := fun _ h => h
  have hbA : ¬ (fun q : Nat => s.heap.size ≤ q) b := Nat.not_le.mpr hbl
  obtain ⟨o, o', h1, h2, he, hR'⟩ := st_end hR (xs (nI i + (1 : Int32)).toNatClampNeg)
  refine lv_aload_n hx hb dL_law_243 rfl (lv_at hl 1 rfl) ?_
  refine lv_aload_n hx hb dL_law_244 rfl (lv_at hl 0 rfl) ?_
  refine lv_iload_n hx hb dL_law_245 rfl (lv_at hl 3 rfl) ?_
  refine lv_iconst (v := (1 : Int32)) hx hb dL_law_246 (by decide) ?_
  refine lv_iadd hx hb dL_law_247 ?_
  refine va_sld hx hb hX hbl hbA hS (vp_off (k := 1) (by omega) (by omega)) dL_law_248 ?_
  refine zVi (As := [.int (xs (nI i + (1 : Int32)).toNatClampNeg)]) (ci := 7) (bs := wA ca x ad mm F M) (bs' := wA ca x ad mm ((va_up F.1 4 o.2), F.2.1, F.2.2) M) ⟨hx, hb, hml, hown, hts⟩ (k_X7_end l D ca x (ad 0 0) (ad 1 0) (ad 2 0) (ad 9 0) (ad 10 0) (ad 11 0) (ad 12 0) (ad 8 0) (ad 7) (F.2.1 2) (F.1 4) (xs (nI i + (1 : Int32)).toNatClampNeg) _ h1) (cwV 1 hts gL_law_X7_end rfl rfl rfl (by decide +kernel) ⟨(Nat.le_of_ble_eq_true rfl), (Nat.le_of_ble_eq_true rfl)⟩) hK hA hP hD hS dL_law_249 rfl hl.1 [0, 8] [1, 2, 3, 4, 5, 6, 7, 9, 10, 11, 12, 13, 14, 15, 16, 17, 18] (show ([0, 8] ++ [1, 2, 3, 4, 5, 6, 7, 9, 10, 11, 12, 13, 14, 15, 16, 17, 18] : List Nat).Perm (List.range 19) by decide) rfl (show ([0, 8] ++ [1, 2, 3, 4, 5, 6, 7, 9, 10, 11, 12, 13, 14, 15, 16, 17, 18] : List Nat).Perm (List.range 19) by decide) rfl rfl rfl rfl rfl rfl (Nat.le_of_ble_eq_true rfl) ⟨(Nat.le_of_ble_eq_true rfl), (Nat.le_of_ble_eq_true rfl)⟩ (fun H locs hP hD hS => ?_)
  refine lv_aload_n hx hb dL_law_252 rfl (lv_at hl 2 rfl) ?_
  refine lv_aload_n hx hb dL_law_253 rfl (lv_at hl 0 rfl) ?_
  refine lv_iload_n hx hb dL_law_254 rfl (lv_at hl 3 rfl) ?_
  refine lv_iconst (v := (1 : Int32)) hx hb dL_law_255 (by decide) ?_
  refine lv_iadd hx hb dL_law_256 ?_
  refine va_sld hx hb hX hbl hbA hS (vp_off (k := 1) (by omega) (by omega)) dL_law_257 ?_
  refine zVi (As := [.int (xs (nI i + (1 : Int32)).toNatClampNeg)]) (ci := 8) (bs := wA ca x ad mm ((va_up F.1 4 o.2), F.2.1, F.2.2) M) (bs' := wA ca x ad mm ((va_up F.1 4 o.2), F.2.1, F.2.2) o'.2) ⟨hx, hb, hml, hown, hts⟩ (k_X8_end l D ca mm M (xs (nI i + (1 : Int32)).toNatClampNeg) _ h2) (cwV 1 hts gL_law_X8_end rfl rfl rfl (by decide +kernel) ⟨(Nat.le_of_ble_eq_true rfl), (Nat.le_of_ble_eq_true rfl)⟩) hK hA hP hD hS dL_law_258 rfl hl.1 [18] [0, 1, 2, 3, 4, 5, 6, 7, 8, 9, 10, 11, 12, 13, 14, 15, 16, 17] (show ([18] ++ [0, 1, 2, 3, 4, 5, 6, 7, 8, 9, 10, 11, 12, 13, 14, 15, 16, 17] : List Nat).Perm (List.range 19) by decide) rfl (show ([18] ++ [0, 1, 2, 3, 4, 5, 6, 7, 8, 9, 10, 11, 12, 13, 14, 15, 16, 17] : List Nat).Perm (List.range 19) by decide) rfl rfl rfl rfl rfl rfl (Nat.le_of_ble_eq_true rfl) ⟨(Nat.le_of_ble_eq_true rfl), (Nat.le_of_ble_eq_true rfl)⟩ (fun H locs hP hD hS => ?_)
  refine lv_icmp_eq (tgt := 1471) hx hb dL_law_261 (by decide) (fun _ => ?_) (fun c1 => absurd he c1)
  exact kk _ _ _ _ _ hR' hl hP hD hS
set_option maxHeartbeats 4000000 in
set_option maxRecDepth 100000 in
theorem law_c2 {p : Program} {l : Launch} {e : Env} {s : State} {m : MethodId} {below : List Frame} {meth : Method} {c : Code} {b L : Nat} {xs : Nat → Int32} {D : va_G} {ca : Nat → ClassId} {x : Nat} {ad : Nat → Nat → Nat} {mm : Nat → Nat} {aS aV aT : Nat → Nat} {F : FS} {M : GS} {i : Nat} (C0 : lw_At p s m meth c b L xs) (hK : va_K D vwCl (TY ca) s) (hAm : Amb aS aV aT (fun q : Nat => s.heap.size ≤ q) s s.heap) (hRS : RSt aS s) (hi : i + 6 ≤ L) (hL : L ≤ 384) (hR : Rel F M)
    (kk : ∀ (F' : FS) (M' : GS) (ls : Array Slot) (H : Heap) (locs : List Loc), Rel F' M' → lv_has ls 4 [(0, .ref b), (1, .ref x), (2, .ref (mm 0)), (3, .int (nI i))] → va_P D vwCl (wA ca x ad mm F' M').flatten H → va_D (fun q : Nat => s.heap.size ≤ q) (wA ca x ad mm F' M').flatten → va_S (fun q : Nat => s.heap.size ≤ q) s.heap H locs → W p l e room_1 s m #[Value.ref b] below meth c H locs 67 1942 (lw_Z below #[Value.ref b] s) (F0 m 1471 ls []))
    (ls : Array Slot) (H : Heap) (locs : List Loc) (hl : lv_has ls 4 [(0, .ref b), (1, .ref x), (2, .ref (mm 0)), (3, .int (nI i))]) (hP : va_P D vwCl (wA ca x ad mm F M).flatten H) (hD : va_D (fun q : Nat => s.heap.size ≤ q) (wA ca x ad mm F M).flatten) (hS : va_S (fun q : Nat => s.heap.size ≤ q) s.heap H locs) : W p l e room_1 s m #[Value.ref b] below meth c H locs 67 1942 (lw_Z below #[Value.ref b] s) (F0 m 266 ls []) := by
  obtain ⟨hx, hb, hr, hml, hown, hts0, hX, hbl, hlocks, hgv⟩ := id C0
  have hown : s.vm.findClass RL = some m.cls := hown
  have hts : ∀ w ∈ wsL_law, w.before #[Value.ref b] s = true := fun w h => hts0 w (wsL_law_in w h)
  have hA : ∀ q : Nat, s.heap.size ≤ q → (fun q : Nat => s.heap.size ≤ q) q := fun _ h => h
  have hbA : ¬ (fun q : Nat => s.heap.size ≤ q) b := Nat.not_le.mpr hbl
  obtain ⟨o, o', h1, h2, he, hR'⟩ := st_text hR 
  refine lv_aload_n hx hb dL_law_266 rfl (lv_at hl 1 rfl) ?_
  refine zVia (As := []) (ci := 7) (bs := wA ca x ad mm F M) (bs' := wA ca x ad mm ((va_up (va_up (va_up (va_up F.1 0 o.2.1) 4 o.2.2.1) 5 o.2.2.2.1) 6 o.2.2.2.2.1), (va_up (va_up F.2.1 0 o.2.2.2.2.2.1) 1 o.2.2.2.2.2.2), F.2.2) M) ⟨hx, hb, hml, hown, hts⟩ (k_X7_text aS aV aT l D ca x (ad 1 0) (ad 10 0) (ad 11 0) (ad 12 0) (ad 0) (ad 2 0) (va_up (va_up (fun _ => none) 0 (some (ad 3 0))) 1 (some (ad 5 0))) (ad 7) (ad 8) (ad 9) (ad 4 0) (ad 3 0) (ad 6 0) (ad 5 0) (F.2.1 2) (F.1 0) (F.1 4) (F.1 5) (F.1 6) (F.2.1 0) (F.2.1 1)  _ rfl rfl h1) (cwV 0 hts gL_law_X7_text rfl rfl rfl (by decide +kernel) ⟨(Nat.le_of_ble_eq_true rfl), (Nat.le_of_ble_eq_true rfl)⟩) hK hA hP hD hS hAm hRS dL_law_267 rfl hl.1 [0, 1, 3, 8, 9, 10, 4, 6] [2, 5, 7, 11, 12, 13, 14, 15, 16, 17, 18] (show ([0, 1, 3, 8, 9, 10, 4, 6] ++ [2, 5, 7, 11, 12, 13, 14, 15, 16, 17, 18] : List Nat).Perm (List.range 19) by decide) rfl (show ([0, 1, 3, 8, 9, 10, 4, 6] ++ [2, 5, 7, 11, 12, 13, 14, 15, 16, 17, 18] : List Nat).Perm (List.range 19) by decide) rfl rfl rfl rfl rfl rfl (Nat.le_of_ble_eq_true rfl) ⟨(Nat.le_of_ble_eq_true rfl), (Nat.le_of_ble_eq_true rfl)⟩ (fun H locs hP hD hS => ?_)
  refine lv_aload_n hx hb dL_law_270 rfl (lv_at hl 2 rfl) ?_
  refine zVi (As := []) (ci := 8) (bs := wA ca x ad mm ((va_up (va_up (va_up (va_up F.1 0 o.2.1) 4 o.2.2.1) 5 o.2.2.2.1) 6 o.2.2.2.2.1), (va_up (va_up F.2.1 0 o.2.2.2.2.2.1) 1 o.2.2.2.2.2.2), F.2.2) M) (bs' := wA ca x ad mm ((va_up (va_up (va_up (va_up F.1 0 o.2.1) 4 o.2.2.1) 5 o.2.2.2.1) 6 o.2.2.2.2.1), (va_up (va_up F.2.1 0 o.2.2.2.2.2.1) 1 o.2.2.2.2.2.2), F.2.2) o'.2) ⟨hx, hb, hml, hown, hts⟩ (k_X8_text l D ca mm M  _ h2) (cwV 0 hts gL_law_X8_text rfl rfl rfl (by decide +kernel) ⟨(Nat.le_of_ble_eq_true rfl), (Nat.le_of_ble_eq_true rfl)⟩) hK hA hP hD hS dL_law_271 rfl hl.1 [18] [0, 1, 2, 3, 4, 5, 6, 7, 8, 9, 10, 11, 12, 13, 14, 15, 16, 17] (show ([18] ++ [0, 1, 2, 3, 4, 5, 6, 7, 8, 9, 10, 11, 12, 13, 14, 15, 16, 17] : List Nat).Perm (List.range 19) by decide) rfl (show ([18] ++ [0, 1, 2, 3, 4, 5, 6, 7, 8, 9, 10, 11, 12, 13, 14, 15, 16, 17] : List Nat).Perm (List.range 19) by decide) rfl rfl rfl rfl rfl rfl (Nat.le_of_ble_eq_true rfl) ⟨(Nat.le_of_ble_eq_true rfl), (Nat.le_of_ble_eq_true rfl)⟩ (fun H locs hP hD hS => ?_)
  refine lv_icmp_eq (tgt := 1471) hx hb dL_law_274 (by decide) (fun _ => ?_) (fun c1 => absurd he c1)
  exact kk _ _ _ _ _ hR' hl hP hD hS
set_option maxHeartbeats 4000000 in
set_option maxRecDepth 100000 in
theorem law_c3 {p : Program} {l : Launch} {e : Env} {s : State} {m : MethodId} {below : List Frame} {meth : Method} {c : Code} {b L : Nat} {xs : Nat → Int32} {D : va_G} {ca : Nat → ClassId} {x : Nat} {ad : Nat → Nat → Nat} {mm : Nat → Nat} {aS aV aT : Nat → Nat} {F : FS} {M : GS} {i : Nat} (C0 : lw_At p s m meth c b L xs) (hK : va_K D vwCl (TY ca) s) (hAm : Amb aS aV aT (fun q : Nat => s.heap.size ≤ q) s s.heap) (hRS : RSt aS s) (hi : i + 6 ≤ L) (hL : L ≤ 384) (hR : Rel F M)
    (kk : ∀ (F' : FS) (M' : GS) (ls : Array Slot) (H : Heap) (locs : List Loc), Rel F' M' → lv_has ls 4 [(0, .ref b), (1, .ref x), (2, .ref (mm 0)), (3, .int (nI i))] → va_P D vwCl (wA ca x ad mm F' M').flatten H → va_D (fun q : Nat => s.heap.size ≤ q) (wA ca x ad mm F' M').flatten → va_S (fun q : Nat => s.heap.size ≤ q) s.heap H locs → W p l e room_1 s m #[Value.ref b] below meth c H locs 67 1942 (lw_Z below #[Value.ref b] s) (F0 m 1471 ls []))
    (ls : Array Slot) (H : Heap) (locs : List Loc) (hl : lv_has ls 4 [(0, .ref b), (1, .ref x), (2, .ref (mm 0)), (3, .int (nI i))]) (hP : va_P D vwCl (wA ca x ad mm F M).flatten H) (hD : va_D (fun q : Nat => s.heap.size ≤ q) (wA ca x ad mm F M).flatten) (hS : va_S (fun q : Nat => s.heap.size ≤ q) s.heap H locs) : W p l e room_1 s m #[Value.ref b] below meth c H locs 67 1942 (lw_Z below #[Value.ref b] s) (F0 m 279 ls []) := by
  obtain ⟨hx, hb, hr, hml, hown, hts0, hX, hbl, hlocks, hgv⟩ := id C0
  have hown : s.vm.findClass RL = some m.cls := hown
  have hts : ∀ w ∈ wsL_law, w.before #[Value.ref b] s = true := fun w h => hts0 w (wsL_law_in w h)
  have hA : ∀ q : Nat, s.heap.size ≤ q → (fun q : Nat => s.heap.size ≤ q) q := fun _ h => h
  have hbA : ¬ (fun q : Nat => s.heap.size ≤ q) b := Nat.not_le.mpr hbl
  obtain ⟨o, o', h1, h2, he, hR'⟩ := st_fault hR 
  refine lv_aload_n hx hb dL_law_279 rfl (lv_at hl 1 rfl) ?_
  refine zVi (As := []) (ci := 7) (bs := wA ca x ad mm F M) (bs' := wA ca x ad mm F M) ⟨hx, hb, hml, hown, hts⟩ (k_X7_fault l D ca x (ad 0 0) (ad 1 0) (ad 2 0) (ad 9 0) (ad 10 0) (ad 11 0) (ad 12 0) (ad 8 0) (ad 7) (F.2.1 2) (F.1 4)  _ h1) (cwV 0 hts gL_law_X7_fault rfl rfl rfl (by decide +kernel) ⟨(Nat.le_of_ble_eq_true rfl), (Nat.le_of_ble_eq_true rfl)⟩) hK hA hP hD hS dL_law_280 rfl hl.1 [0, 8] [1, 2, 3, 4, 5, 6, 7, 9, 10, 11, 12, 13, 14, 15, 16, 17, 18] (show ([0, 8] ++ [1, 2, 3, 4, 5, 6, 7, 9, 10, 11, 12, 13, 14, 15, 16, 17, 18] : List Nat).Perm (List.range 19) by decide) rfl (show ([0, 8] ++ [1, 2, 3, 4, 5, 6, 7, 9, 10, 11, 12, 13, 14, 15, 16, 17, 18] : List Nat).Perm (List.range 19) by decide) rfl rfl rfl rfl rfl rfl (Nat.le_of_ble_eq_true rfl) ⟨(Nat.le_of_ble_eq_true rfl), (Nat.le_of_ble_eq_true rfl)⟩ (fun H locs hP hD hS => ?_)
  refine lv_aload_n hx hb dL_law_283 rfl (lv_at hl 2 rfl) ?_
  refine zVi (As := []) (ci := 8) (bs := wA ca x ad mm F M) (bs' := wA ca x ad mm F M) ⟨hx, hb, hml, hown, hts⟩ (k_X8_fault l D ca mm M  _ h2) (cwV 0 hts gL_law_X8_fault rfl rfl rfl (by decide +kernel) ⟨(Nat.le_of_ble_eq_true rfl), (Nat.le_of_ble_eq_true rfl)⟩) hK hA hP hD hS dL_law_284 rfl hl.1 [18] [0, 1, 2, 3, 4, 5, 6, 7, 8, 9, 10, 11, 12, 13, 14, 15, 16, 17] (show ([18] ++ [0, 1, 2, 3, 4, 5, 6, 7, 8, 9, 10, 11, 12, 13, 14, 15, 16, 17] : List Nat).Perm (List.range 19) by decide) rfl (show ([18] ++ [0, 1, 2, 3, 4, 5, 6, 7, 8, 9, 10, 11, 12, 13, 14, 15, 16, 17] : List Nat).Perm (List.range 19) by decide) rfl rfl rfl rfl rfl rfl (Nat.le_of_ble_eq_true rfl) ⟨(Nat.le_of_ble_eq_true rfl), (Nat.le_of_ble_eq_true rfl)⟩ (fun H locs hP hD hS => ?_)
  refine lv_icmp_eq (tgt := 1471) hx hb dL_law_287 (by decide) (fun _ => ?_) (fun c1 => absurd he c1)
  exact kk _ _ _ _ _ hR' hl hP hD hS
set_option maxHeartbeats 4000000 in
set_option maxRecDepth 100000 in
theorem law_c4 {p : Program} {l : Launch} {e : Env} {s : State} {m : MethodId} {below : List Frame} {meth : Method} {c : Code} {b L : Nat} {xs : Nat → Int32} {D : va_G} {ca : Nat → ClassId} {x : Nat} {ad : Nat → Nat → Nat} {mm : Nat → Nat} {aS aV aT : Nat → Nat} {F : FS} {M : GS} {i : Nat} (C0 : lw_At p s m meth c b L xs) (hK : va_K D vwCl (TY ca) s) (hAm : Amb aS aV aT (fun q : Nat => s.heap.size ≤ q) s s.heap) (hRS : RSt aS s) (hi : i + 6 ≤ L) (hL : L ≤ 384) (hR : Rel F M)
    (kk : ∀ (F' : FS) (M' : GS) (ls : Array Slot) (H : Heap) (locs : List Loc), Rel F' M' → lv_has ls 4 [(0, .ref b), (1, .ref x), (2, .ref (mm 0)), (3, .int (nI i))] → va_P D vwCl (wA ca x ad mm F' M').flatten H → va_D (fun q : Nat => s.heap.size ≤ q) (wA ca x ad mm F' M').flatten → va_S (fun q : Nat => s.heap.size ≤ q) s.heap H locs → W p l e room_1 s m #[Value.ref b] below meth c H locs 67 1942 (lw_Z below #[Value.ref b] s) (F0 m 1471 ls []))
    (ls : Array Slot) (H : Heap) (locs : List Loc) (hl : lv_has ls 4 [(0, .ref b), (1, .ref x), (2, .ref (mm 0)), (3, .int (nI i))]) (hP : va_P D vwCl (wA ca x ad mm F M).flatten H) (hD : va_D (fun q : Nat => s.heap.size ≤ q) (wA ca x ad mm F M).flatten) (hS : va_S (fun q : Nat => s.heap.size ≤ q) s.heap H locs) : W p l e room_1 s m #[Value.ref b] below meth c H locs 67 1942 (lw_Z below #[Value.ref b] s) (F0 m 292 ls []) := by
  obtain ⟨hx, hb, hr, hml, hown, hts0, hX, hbl, hlocks, hgv⟩ := id C0
  have hown : s.vm.findClass RL = some m.cls := hown
  have hts : ∀ w ∈ wsL_law, w.before #[Value.ref b] s = true := fun w h => hts0 w (wsL_law_in w h)
  have hA : ∀ q : Nat, s.heap.size ≤ q → (fun q : Nat => s.heap.size ≤ q) q := fun _ h => h
  have hbA : ¬ (fun q : Nat => s.heap.size ≤ q) b := Nat.not_le.mpr hbl
  obtain ⟨o, o', h1, h2, he, hR'⟩ := st_rule hR (xs (nI i + (1 : Int32)).toNatClampNeg)
  refine lv_aload_n hx hb dL_law_292 rfl (lv_at hl 1 rfl) ?_
  refine lv_aload_n hx hb dL_law_293 rfl (lv_at hl 0 rfl) ?_
  refine lv_iload_n hx hb dL_law_294 rfl (lv_at hl 3 rfl) ?_
  refine lv_iconst (v := (1 : Int32)) hx hb dL_law_295 (by decide) ?_
  refine lv_iadd hx hb dL_law_296 ?_
  refine va_sld hx hb hX hbl hbA hS (vp_off (k := 1) (by omega) (by omega)) dL_law_297 ?_
  refine zVi (As := [.int (xs (nI i + (1 : Int32)).toNatClampNeg)]) (ci := 7) (bs := wA ca x ad mm F M) (bs' := wA ca x ad mm F M) ⟨hx, hb, hml, hown, hts⟩ (k_X7_rule l D ca x (ad 1 0) (ad 2 0) (ad 7 0) (ad 9 0) (ad 10 0) (ad 11 0) (ad 12 0) (ad 0) (F.2.1 2) (F.1 0) (xs (nI i + (1 : Int32)).toNatClampNeg) _ h1) (cwV 1 hts gL_law_X7_rule rfl rfl rfl (by decide +kernel) ⟨(Nat.le_of_ble_eq_true rfl), (Nat.le_of_ble_eq_true rfl)⟩) hK hA hP hD hS dL_law_298 rfl hl.1 [0, 1] [2, 3, 4, 5, 6, 7, 8, 9, 10, 11, 12, 13, 14, 15, 16, 17, 18] (show ([0, 1] ++ [2, 3, 4, 5, 6, 7, 8, 9, 10, 11, 12, 13, 14, 15, 16, 17, 18] : List Nat).Perm (List.range 19) by decide) rfl (show ([0, 1] ++ [2, 3, 4, 5, 6, 7, 8, 9, 10, 11, 12, 13, 14, 15, 16, 17, 18] : List Nat).Perm (List.range 19) by decide) rfl rfl rfl rfl rfl rfl (Nat.le_of_ble_eq_true rfl) ⟨(Nat.le_of_ble_eq_true rfl), (Nat.le_of_ble_eq_true rfl)⟩ (fun H locs hP hD hS => ?_)
  refine lv_aload_n hx hb dL_law_301 rfl (lv_at hl 2 rfl) ?_
  refine lv_aload_n hx hb dL_law_302 rfl (lv_at hl 0 rfl) ?_
  refine lv_iload_n hx hb dL_law_303 rfl (lv_at hl 3 rfl) ?_
  refine lv_iconst (v := (1 : Int32)) hx hb dL_law_304 (by decide) ?_
  refine lv_iadd hx hb dL_law_305 ?_
  refine va_sld hx hb hX hbl hbA hS (vp_off (k := 1) (by omega) (by omega)) dL_law_306 ?_
  refine zVi (As := [.int (xs (nI i + (1 : Int32)).toNatClampNeg)]) (ci := 8) (bs := wA ca x ad mm F M) (bs' := wA ca x ad mm F M) ⟨hx, hb, hml, hown, hts⟩ (k_X8_rule l D ca mm M (xs (nI i + (1 : Int32)).toNatClampNeg) _ h2) (cwV 1 hts gL_law_X8_rule rfl rfl rfl (by decide +kernel) ⟨(Nat.le_of_ble_eq_true rfl), (Nat.le_of_ble_eq_true rfl)⟩) hK hA hP hD hS dL_law_307 rfl hl.1 [18] [0, 1, 2, 3, 4, 5, 6, 7, 8, 9, 10, 11, 12, 13, 14, 15, 16, 17] (show ([18] ++ [0, 1, 2, 3, 4, 5, 6, 7, 8, 9, 10, 11, 12, 13, 14, 15, 16, 17] : List Nat).Perm (List.range 19) by decide) rfl (show ([18] ++ [0, 1, 2, 3, 4, 5, 6, 7, 8, 9, 10, 11, 12, 13, 14, 15, 16, 17] : List Nat).Perm (List.range 19) by decide) rfl rfl rfl rfl rfl rfl (Nat.le_of_ble_eq_true rfl) ⟨(Nat.le_of_ble_eq_true rfl), (Nat.le_of_ble_eq_true rfl)⟩ (fun H locs hP hD hS => ?_)
  refine lv_icmp_eq (tgt := 1471) hx hb dL_law_310 (by decide) (fun _ => ?_) (fun c1 => absurd he c1)
  exact kk _ _ _ _ _ hR' hl hP hD hS
set_option maxHeartbeats 4000000 in
set_option maxRecDepth 100000 in
theorem law_c5 {p : Program} {l : Launch} {e : Env} {s : State} {m : MethodId} {below : List Frame} {meth : Method} {c : Code} {b L : Nat} {xs : Nat → Int32} {D : va_G} {ca : Nat → ClassId} {x : Nat} {ad : Nat → Nat → Nat} {mm : Nat → Nat} {aS aV aT : Nat → Nat} {F : FS} {M : GS} {i : Nat} (C0 : lw_At p s m meth c b L xs) (hK : va_K D vwCl (TY ca) s) (hAm : Amb aS aV aT (fun q : Nat => s.heap.size ≤ q) s s.heap) (hRS : RSt aS s) (hi : i + 6 ≤ L) (hL : L ≤ 384) (hR : Rel F M)
    (kk : ∀ (F' : FS) (M' : GS) (ls : Array Slot) (H : Heap) (locs : List Loc), Rel F' M' → lv_has ls 4 [(0, .ref b), (1, .ref x), (2, .ref (mm 0)), (3, .int (nI i))] → va_P D vwCl (wA ca x ad mm F' M').flatten H → va_D (fun q : Nat => s.heap.size ≤ q) (wA ca x ad mm F' M').flatten → va_S (fun q : Nat => s.heap.size ≤ q) s.heap H locs → W p l e room_1 s m #[Value.ref b] below meth c H locs 67 1942 (lw_Z below #[Value.ref b] s) (F0 m 1471 ls []))
    (ls : Array Slot) (H : Heap) (locs : List Loc) (hl : lv_has ls 4 [(0, .ref b), (1, .ref x), (2, .ref (mm 0)), (3, .int (nI i))]) (hP : va_P D vwCl (wA ca x ad mm F M).flatten H) (hD : va_D (fun q : Nat => s.heap.size ≤ q) (wA ca x ad mm F M).flatten) (hS : va_S (fun q : Nat => s.heap.size ≤ q) s.heap H locs) : W p l e room_1 s m #[Value.ref b] below meth c H locs 67 1942 (lw_Z below #[Value.ref b] s) (F0 m 315 ls []) := by
  obtain ⟨hx, hb, hr, hml, hown, hts0, hX, hbl, hlocks, hgv⟩ := id C0
  have hown : s.vm.findClass RL = some m.cls := hown
  have hts : ∀ w ∈ wsL_law, w.before #[Value.ref b] s = true := fun w h => hts0 w (wsL_law_in w h)
  have hA : ∀ q : Nat, s.heap.size ≤ q → (fun q : Nat => s.heap.size ≤ q) q := fun _ h => h
  have hbA : ¬ (fun q : Nat => s.heap.size ≤ q) b := Nat.not_le.mpr hbl
  obtain ⟨o, o', h1, h2, he, hR'⟩ := st_block hR (xs (nI i + (1 : Int32)).toNatClampNeg) (xs (nI i + (2 : Int32)).toNatClampNeg)
  refine lv_aload_n hx hb dL_law_315 rfl (lv_at hl 1 rfl) ?_
  refine lv_aload_n hx hb dL_law_316 rfl (lv_at hl 0 rfl) ?_
  refine lv_iload_n hx hb dL_law_317 rfl (lv_at hl 3 rfl) ?_
  refine lv_iconst (v := (1 : Int32)) hx hb dL_law_318 (by decide) ?_
  refine lv_iadd hx hb dL_law_319 ?_
  refine va_sld hx hb hX hbl hbA hS (vp_off (k := 1) (by omega) (by omega)) dL_law_320 ?_
  refine lv_aload_n hx hb dL_law_321 rfl (lv_at hl 0 rfl) ?_
  refine lv_iload_n hx hb dL_law_322 rfl (lv_at hl 3 rfl) ?_
  refine lv_iconst (v := (2 : Int32)) hx hb dL_law_323 (by decide) ?_
  refine lv_iadd hx hb dL_law_324 ?_
  refine va_sld hx hb hX hbl hbA hS (vp_off (k := 2) (by omega) (by omega)) dL_law_325 ?_
  refine zVi (As := [.int (xs (nI i + (1 : Int32)).toNatClampNeg), .int (xs (nI i + (2 : Int32)).toNatClampNeg)]) (ci := 7) (bs := wA ca x ad mm F M) (bs' := wA ca x ad mm F M) ⟨hx, hb, hml, hown, hts⟩ (k_X7_block l D ca x (ad 1 0) (ad 2 0) (ad 7 0) (ad 9 0) (ad 10 0) (ad 11 0) (ad 12 0) (ad 0) (F.2.1 2) (F.1 0) (xs (nI i + (1 : Int32)).toNatClampNeg) (xs (nI i + (2 : Int32)).toNatClampNeg) _ h1) (cwV 2 hts gL_law_X7_block rfl rfl rfl (by decide +kernel) ⟨(Nat.le_of_ble_eq_true rfl), (Nat.le_of_ble_eq_true rfl)⟩) hK hA hP hD hS dL_law_326 rfl hl.1 [0, 1] [2, 3, 4, 5, 6, 7, 8, 9, 10, 11, 12, 13, 14, 15, 16, 17, 18] (show ([0, 1] ++ [2, 3, 4, 5, 6, 7, 8, 9, 10, 11, 12, 13, 14, 15, 16, 17, 18] : List Nat).Perm (List.range 19) by decide) rfl (show ([0, 1] ++ [2, 3, 4, 5, 6, 7, 8, 9, 10, 11, 12, 13, 14, 15, 16, 17, 18] : List Nat).Perm (List.range 19) by decide) rfl rfl rfl rfl rfl rfl (Nat.le_of_ble_eq_true rfl) ⟨(Nat.le_of_ble_eq_true rfl), (Nat.le_of_ble_eq_true rfl)⟩ (fun H locs hP hD hS => ?_)
  refine lv_aload_n hx hb dL_law_329 rfl (lv_at hl 2 rfl) ?_
  refine lv_aload_n hx hb dL_law_330 rfl (lv_at hl 0 rfl) ?_
  refine lv_iload_n hx hb dL_law_331 rfl (lv_at hl 3 rfl) ?_
  refine lv_iconst (v := (1 : Int32)) hx hb dL_law_332 (by decide) ?_
  refine lv_iadd hx hb dL_law_333 ?_
  refine va_sld hx hb hX hbl hbA hS (vp_off (k := 1) (by omega) (by omega)) dL_law_334 ?_
  refine lv_aload_n hx hb dL_law_335 rfl (lv_at hl 0 rfl) ?_
  refine lv_iload_n hx hb dL_law_336 rfl (lv_at hl 3 rfl) ?_
  refine lv_iconst (v := (2 : Int32)) hx hb dL_law_337 (by decide) ?_
  refine lv_iadd hx hb dL_law_338 ?_
  refine va_sld hx hb hX hbl hbA hS (vp_off (k := 2) (by omega) (by omega)) dL_law_339 ?_
  refine zVi (As := [.int (xs (nI i + (1 : Int32)).toNatClampNeg), .int (xs (nI i + (2 : Int32)).toNatClampNeg)]) (ci := 8) (bs := wA ca x ad mm F M) (bs' := wA ca x ad mm F M) ⟨hx, hb, hml, hown, hts⟩ (k_X8_block l D ca mm M (xs (nI i + (1 : Int32)).toNatClampNeg) (xs (nI i + (2 : Int32)).toNatClampNeg) _ h2) (cwV 2 hts gL_law_X8_block rfl rfl rfl (by decide +kernel) ⟨(Nat.le_of_ble_eq_true rfl), (Nat.le_of_ble_eq_true rfl)⟩) hK hA hP hD hS dL_law_340 rfl hl.1 [18] [0, 1, 2, 3, 4, 5, 6, 7, 8, 9, 10, 11, 12, 13, 14, 15, 16, 17] (show ([18] ++ [0, 1, 2, 3, 4, 5, 6, 7, 8, 9, 10, 11, 12, 13, 14, 15, 16, 17] : List Nat).Perm (List.range 19) by decide) rfl (show ([18] ++ [0, 1, 2, 3, 4, 5, 6, 7, 8, 9, 10, 11, 12, 13, 14, 15, 16, 17] : List Nat).Perm (List.range 19) by decide) rfl rfl rfl rfl rfl rfl (Nat.le_of_ble_eq_true rfl) ⟨(Nat.le_of_ble_eq_true rfl), (Nat.le_of_ble_eq_true rfl)⟩ (fun H locs hP hD hS => ?_)
  refine lv_icmp_eq (tgt := 1471) hx hb dL_law_343 (by decide) (fun _ => ?_) (fun c1 => absurd he c1)
  exact kk _ _ _ _ _ hR' hl hP hD hS
set_option maxHeartbeats 4000000 in
set_option maxRecDepth 100000 in
theorem law_c6 {p : Program} {l : Launch} {e : Env} {s : State} {m : MethodId} {below : List Frame} {meth : Method} {c : Code} {b L : Nat} {xs : Nat → Int32} {D : va_G} {ca : Nat → ClassId} {x : Nat} {ad : Nat → Nat → Nat} {mm : Nat → Nat} {aS aV aT : Nat → Nat} {F : FS} {M : GS} {i : Nat} (C0 : lw_At p s m meth c b L xs) (hK : va_K D vwCl (TY ca) s) (hAm : Amb aS aV aT (fun q : Nat => s.heap.size ≤ q) s s.heap) (hRS : RSt aS s) (hi : i + 6 ≤ L) (hL : L ≤ 384) (hR : Rel F M)
    (kk : ∀ (F' : FS) (M' : GS) (ls : Array Slot) (H : Heap) (locs : List Loc), Rel F' M' → lv_has ls 4 [(0, .ref b), (1, .ref x), (2, .ref (mm 0)), (3, .int (nI i))] → va_P D vwCl (wA ca x ad mm F' M').flatten H → va_D (fun q : Nat => s.heap.size ≤ q) (wA ca x ad mm F' M').flatten → va_S (fun q : Nat => s.heap.size ≤ q) s.heap H locs → W p l e room_1 s m #[Value.ref b] below meth c H locs 67 1942 (lw_Z below #[Value.ref b] s) (F0 m 1471 ls []))
    (ls : Array Slot) (H : Heap) (locs : List Loc) (hl : lv_has ls 4 [(0, .ref b), (1, .ref x), (2, .ref (mm 0)), (3, .int (nI i))]) (hP : va_P D vwCl (wA ca x ad mm F M).flatten H) (hD : va_D (fun q : Nat => s.heap.size ≤ q) (wA ca x ad mm F M).flatten) (hS : va_S (fun q : Nat => s.heap.size ≤ q) s.heap H locs) : W p l e room_1 s m #[Value.ref b] below meth c H locs 67 1942 (lw_Z below #[Value.ref b] s) (F0 m 348 ls []) := by
  obtain ⟨hx, hb, hr, hml, hown, hts0, hX, hbl, hlocks, hgv⟩ := id C0
  have hown : s.vm.findClass RL = some m.cls := hown
  have hts : ∀ w ∈ wsL_law, w.before #[Value.ref b] s = true := fun w h => hts0 w (wsL_law_in w h)
  have hA : ∀ q : Nat, s.heap.size ≤ q → (fun q : Nat => s.heap.size ≤ q) q := fun _ h => h
  have hbA : ¬ (fun q : Nat => s.heap.size ≤ q) b := Nat.not_le.mpr hbl
  obtain ⟨o, o', h1, h2, he, hR'⟩ := st_place hR (xs (nI i + (1 : Int32)).toNatClampNeg) (xs (nI i + (2 : Int32)).toNatClampNeg)
  refine lv_aload_n hx hb dL_law_348 rfl (lv_at hl 1 rfl) ?_
  refine lv_aload_n hx hb dL_law_349 rfl (lv_at hl 0 rfl) ?_
  refine lv_iload_n hx hb dL_law_350 rfl (lv_at hl 3 rfl) ?_
  refine lv_iconst (v := (1 : Int32)) hx hb dL_law_351 (by decide) ?_
  refine lv_iadd hx hb dL_law_352 ?_
  refine va_sld hx hb hX hbl hbA hS (vp_off (k := 1) (by omega) (by omega)) dL_law_353 ?_
  refine lv_aload_n hx hb dL_law_354 rfl (lv_at hl 0 rfl) ?_
  refine lv_iload_n hx hb dL_law_355 rfl (lv_at hl 3 rfl) ?_
  refine lv_iconst (v := (2 : Int32)) hx hb dL_law_356 (by decide) ?_
  refine lv_iadd hx hb dL_law_357 ?_
  refine va_sld hx hb hX hbl hbA hS (vp_off (k := 2) (by omega) (by omega)) dL_law_358 ?_
  refine zVi (As := [.int (xs (nI i + (1 : Int32)).toNatClampNeg), .int (xs (nI i + (2 : Int32)).toNatClampNeg)]) (ci := 7) (bs := wA ca x ad mm F M) (bs' := wA ca x ad mm F M) ⟨hx, hb, hml, hown, hts⟩ (k_X7_place l D ca x (ad 1 0) (ad 2 0) (ad 7 0) (ad 9 0) (ad 10 0) (ad 11 0) (ad 12 0) (ad 0) (F.2.1 2) (F.1 0) (xs (nI i + (1 : Int32)).toNatClampNeg) (xs (nI i + (2 : Int32)).toNatClampNeg) _ h1) (cwV 2 hts gL_law_X7_place rfl rfl rfl (by decide +kernel) ⟨(Nat.le_of_ble_eq_true rfl), (Nat.le_of_ble_eq_true rfl)⟩) hK hA hP hD hS dL_law_359 rfl hl.1 [0, 1] [2, 3, 4, 5, 6, 7, 8, 9, 10, 11, 12, 13, 14, 15, 16, 17, 18] (show ([0, 1] ++ [2, 3, 4, 5, 6, 7, 8, 9, 10, 11, 12, 13, 14, 15, 16, 17, 18] : List Nat).Perm (List.range 19) by decide) rfl (show ([0, 1] ++ [2, 3, 4, 5, 6, 7, 8, 9, 10, 11, 12, 13, 14, 15, 16, 17, 18] : List Nat).Perm (List.range 19) by decide) rfl rfl rfl rfl rfl rfl (Nat.le_of_ble_eq_true rfl) ⟨(Nat.le_of_ble_eq_true rfl), (Nat.le_of_ble_eq_true rfl)⟩ (fun H locs hP hD hS => ?_)
  refine lv_aload_n hx hb dL_law_362 rfl (lv_at hl 2 rfl) ?_
  refine lv_aload_n hx hb dL_law_363 rfl (lv_at hl 0 rfl) ?_
  refine lv_iload_n hx hb dL_law_364 rfl (lv_at hl 3 rfl) ?_
  refine lv_iconst (v := (1 : Int32)) hx hb dL_law_365 (by decide) ?_
  refine lv_iadd hx hb dL_law_366 ?_
  refine va_sld hx hb hX hbl hbA hS (vp_off (k := 1) (by omega) (by omega)) dL_law_367 ?_
  refine lv_aload_n hx hb dL_law_368 rfl (lv_at hl 0 rfl) ?_
  refine lv_iload_n hx hb dL_law_369 rfl (lv_at hl 3 rfl) ?_
  refine lv_iconst (v := (2 : Int32)) hx hb dL_law_370 (by decide) ?_
  refine lv_iadd hx hb dL_law_371 ?_
  refine va_sld hx hb hX hbl hbA hS (vp_off (k := 2) (by omega) (by omega)) dL_law_372 ?_
  refine zVi (As := [.int (xs (nI i + (1 : Int32)).toNatClampNeg), .int (xs (nI i + (2 : Int32)).toNatClampNeg)]) (ci := 8) (bs := wA ca x ad mm F M) (bs' := wA ca x ad mm F M) ⟨hx, hb, hml, hown, hts⟩ (k_X8_place l D ca mm M (xs (nI i + (1 : Int32)).toNatClampNeg) (xs (nI i + (2 : Int32)).toNatClampNeg) _ h2) (cwV 2 hts gL_law_X8_place rfl rfl rfl (by decide +kernel) ⟨(Nat.le_of_ble_eq_true rfl), (Nat.le_of_ble_eq_true rfl)⟩) hK hA hP hD hS dL_law_373 rfl hl.1 [18] [0, 1, 2, 3, 4, 5, 6, 7, 8, 9, 10, 11, 12, 13, 14, 15, 16, 17] (show ([18] ++ [0, 1, 2, 3, 4, 5, 6, 7, 8, 9, 10, 11, 12, 13, 14, 15, 16, 17] : List Nat).Perm (List.range 19) by decide) rfl (show ([18] ++ [0, 1, 2, 3, 4, 5, 6, 7, 8, 9, 10, 11, 12, 13, 14, 15, 16, 17] : List Nat).Perm (List.range 19) by decide) rfl rfl rfl rfl rfl rfl (Nat.le_of_ble_eq_true rfl) ⟨(Nat.le_of_ble_eq_true rfl), (Nat.le_of_ble_eq_true rfl)⟩ (fun H locs hP hD hS => ?_)
  refine lv_icmp_eq (tgt := 1471) hx hb dL_law_376 (by decide) (fun _ => ?_) (fun c1 => absurd he c1)
  exact kk _ _ _ _ _ hR' hl hP hD hS
set_option maxHeartbeats 4000000 in
set_option maxRecDepth 100000 in
theorem law_c7 {p : Program} {l : Launch} {e : Env} {s : State} {m : MethodId} {below : List Frame} {meth : Method} {c : Code} {b L : Nat} {xs : Nat → Int32} {D : va_G} {ca : Nat → ClassId} {x : Nat} {ad : Nat → Nat → Nat} {mm : Nat → Nat} {aS aV aT : Nat → Nat} {F : FS} {M : GS} {i : Nat} (C0 : lw_At p s m meth c b L xs) (hK : va_K D vwCl (TY ca) s) (hAm : Amb aS aV aT (fun q : Nat => s.heap.size ≤ q) s s.heap) (hRS : RSt aS s) (hi : i + 6 ≤ L) (hL : L ≤ 384) (hR : Rel F M)
    (kk : ∀ (F' : FS) (M' : GS) (ls : Array Slot) (H : Heap) (locs : List Loc), Rel F' M' → lv_has ls 4 [(0, .ref b), (1, .ref x), (2, .ref (mm 0)), (3, .int (nI i))] → va_P D vwCl (wA ca x ad mm F' M').flatten H → va_D (fun q : Nat => s.heap.size ≤ q) (wA ca x ad mm F' M').flatten → va_S (fun q : Nat => s.heap.size ≤ q) s.heap H locs → W p l e room_1 s m #[Value.ref b] below meth c H locs 67 1942 (lw_Z below #[Value.ref b] s) (F0 m 1471 ls []))
    (ls : Array Slot) (H : Heap) (locs : List Loc) (hl : lv_has ls 4 [(0, .ref b), (1, .ref x), (2, .ref (mm 0)), (3, .int (nI i))]) (hP : va_P D vwCl (wA ca x ad mm F M).flatten H) (hD : va_D (fun q : Nat => s.heap.size ≤ q) (wA ca x ad mm F M).flatten) (hS : va_S (fun q : Nat => s.heap.size ≤ q) s.heap H locs) : W p l e room_1 s m #[Value.ref b] below meth c H locs 67 1942 (lw_Z below #[Value.ref b] s) (F0 m 381 ls []) := by
  obtain ⟨hx, hb, hr, hml, hown, hts0, hX, hbl, hlocks, hgv⟩ := id C0
  have hown : s.vm.findClass RL = some m.cls := hown
  have hts : ∀ w ∈ wsL_law, w.before #[Value.ref b] s = true := fun w h => hts0 w (wsL_law_in w h)
  have hA : ∀ q : Nat, s.heap.size ≤ q → (fun q : Nat => s.heap.size ≤ q) q := fun _ h => h
  have hbA : ¬ (fun q : Nat => s.heap.size ≤ q) b := Nat.not_le.mpr hbl
  obtain ⟨o, o', h1, h2, he, hR'⟩ := st_roll hR (xs (nI i + (1 : Int32)).toNatClampNeg) (xs (nI i + (2 : Int32)).toNatClampNeg)
  refine lv_aload_n hx hb dL_law_381 rfl (lv_at hl 1 rfl) ?_
  refine lv_aload_n hx hb dL_law_382 rfl (lv_at hl 0 rfl) ?_
  refine lv_iload_n hx hb dL_law_383 rfl (lv_at hl 3 rfl) ?_
  refine lv_iconst (v := (1 : Int32)) hx hb dL_law_384 (by decide) ?_
  refine lv_iadd hx hb dL_law_385 ?_
  refine va_sld hx hb hX hbl hbA hS (vp_off (k := 1) (by omega) (by omega)) dL_law_386 ?_
  refine lv_aload_n hx hb dL_law_387 rfl (lv_at hl 0 rfl) ?_
  refine lv_iload_n hx hb dL_law_388 rfl (lv_at hl 3 rfl) ?_
  refine lv_iconst (v := (2 : Int32)) hx hb dL_law_389 (by decide) ?_
  refine lv_iadd hx hb dL_law_390 ?_
  refine va_sld hx hb hX hbl hbA hS (vp_off (k := 2) (by omega) (by omega)) dL_law_391 ?_
  refine zVi (As := [.int (xs (nI i + (1 : Int32)).toNatClampNeg), .int (xs (nI i + (2 : Int32)).toNatClampNeg)]) (ci := 7) (bs := wA ca x ad mm F M) (bs' := wA ca x ad mm F M) ⟨hx, hb, hml, hown, hts⟩ (k_X7_roll l D ca x (ad 1 0) (ad 2 0) (ad 7 0) (ad 9 0) (ad 10 0) (ad 11 0) (ad 12 0) (ad 0) (F.2.1 2) (F.1 0) (xs (nI i + (1 : Int32)).toNatClampNeg) (xs (nI i + (2 : Int32)).toNatClampNeg) _ h1) (cwV 2 hts gL_law_X7_roll rfl rfl rfl (by decide +kernel) ⟨(Nat.le_of_ble_eq_true rfl), (Nat.le_of_ble_eq_true rfl)⟩) hK hA hP hD hS dL_law_392 rfl hl.1 [0, 1] [2, 3, 4, 5, 6, 7, 8, 9, 10, 11, 12, 13, 14, 15, 16, 17, 18] (show ([0, 1] ++ [2, 3, 4, 5, 6, 7, 8, 9, 10, 11, 12, 13, 14, 15, 16, 17, 18] : List Nat).Perm (List.range 19) by decide) rfl (show ([0, 1] ++ [2, 3, 4, 5, 6, 7, 8, 9, 10, 11, 12, 13, 14, 15, 16, 17, 18] : List Nat).Perm (List.range 19) by decide) rfl rfl rfl rfl rfl rfl (Nat.le_of_ble_eq_true rfl) ⟨(Nat.le_of_ble_eq_true rfl), (Nat.le_of_ble_eq_true rfl)⟩ (fun H locs hP hD hS => ?_)
  refine lv_aload_n hx hb dL_law_395 rfl (lv_at hl 2 rfl) ?_
  refine lv_aload_n hx hb dL_law_396 rfl (lv_at hl 0 rfl) ?_
  refine lv_iload_n hx hb dL_law_397 rfl (lv_at hl 3 rfl) ?_
  refine lv_iconst (v := (1 : Int32)) hx hb dL_law_398 (by decide) ?_
  refine lv_iadd hx hb dL_law_399 ?_
  refine va_sld hx hb hX hbl hbA hS (vp_off (k := 1) (by omega) (by omega)) dL_law_400 ?_
  refine lv_aload_n hx hb dL_law_401 rfl (lv_at hl 0 rfl) ?_
  refine lv_iload_n hx hb dL_law_402 rfl (lv_at hl 3 rfl) ?_
  refine lv_iconst (v := (2 : Int32)) hx hb dL_law_403 (by decide) ?_
  refine lv_iadd hx hb dL_law_404 ?_
  refine va_sld hx hb hX hbl hbA hS (vp_off (k := 2) (by omega) (by omega)) dL_law_405 ?_
  refine zVi (As := [.int (xs (nI i + (1 : Int32)).toNatClampNeg), .int (xs (nI i + (2 : Int32)).toNatClampNeg)]) (ci := 8) (bs := wA ca x ad mm F M) (bs' := wA ca x ad mm F M) ⟨hx, hb, hml, hown, hts⟩ (k_X8_roll l D ca mm M (xs (nI i + (1 : Int32)).toNatClampNeg) (xs (nI i + (2 : Int32)).toNatClampNeg) _ h2) (cwV 2 hts gL_law_X8_roll rfl rfl rfl (by decide +kernel) ⟨(Nat.le_of_ble_eq_true rfl), (Nat.le_of_ble_eq_true rfl)⟩) hK hA hP hD hS dL_law_406 rfl hl.1 [18] [0, 1, 2, 3, 4, 5, 6, 7, 8, 9, 10, 11, 12, 13, 14, 15, 16, 17] (show ([18] ++ [0, 1, 2, 3, 4, 5, 6, 7, 8, 9, 10, 11, 12, 13, 14, 15, 16, 17] : List Nat).Perm (List.range 19) by decide) rfl (show ([18] ++ [0, 1, 2, 3, 4, 5, 6, 7, 8, 9, 10, 11, 12, 13, 14, 15, 16, 17] : List Nat).Perm (List.range 19) by decide) rfl rfl rfl rfl rfl rfl (Nat.le_of_ble_eq_true rfl) ⟨(Nat.le_of_ble_eq_true rfl), (Nat.le_of_ble_eq_true rfl)⟩ (fun H locs hP hD hS => ?_)
  refine lv_icmp_eq (tgt := 1471) hx hb dL_law_409 (by decide) (fun _ => ?_) (fun c1 => absurd he c1)
  exact kk _ _ _ _ _ hR' hl hP hD hS
set_option maxHeartbeats 4000000 in
set_option maxRecDepth 100000 in
theorem law_c8 {p : Program} {l : Launch} {e : Env} {s : State} {m : MethodId} {below : List Frame} {meth : Method} {c : Code} {b L : Nat} {xs : Nat → Int32} {D : va_G} {ca : Nat → ClassId} {x : Nat} {ad : Nat → Nat → Nat} {mm : Nat → Nat} {aS aV aT : Nat → Nat} {F : FS} {M : GS} {i : Nat} (C0 : lw_At p s m meth c b L xs) (hK : va_K D vwCl (TY ca) s) (hAm : Amb aS aV aT (fun q : Nat => s.heap.size ≤ q) s s.heap) (hRS : RSt aS s) (hi : i + 6 ≤ L) (hL : L ≤ 384) (hR : Rel F M)
    (kk : ∀ (F' : FS) (M' : GS) (ls : Array Slot) (H : Heap) (locs : List Loc), Rel F' M' → lv_has ls 4 [(0, .ref b), (1, .ref x), (2, .ref (mm 0)), (3, .int (nI i))] → va_P D vwCl (wA ca x ad mm F' M').flatten H → va_D (fun q : Nat => s.heap.size ≤ q) (wA ca x ad mm F' M').flatten → va_S (fun q : Nat => s.heap.size ≤ q) s.heap H locs → W p l e room_1 s m #[Value.ref b] below meth c H locs 67 1942 (lw_Z below #[Value.ref b] s) (F0 m 1471 ls []))
    (ls : Array Slot) (H : Heap) (locs : List Loc) (hl : lv_has ls 4 [(0, .ref b), (1, .ref x), (2, .ref (mm 0)), (3, .int (nI i))]) (hP : va_P D vwCl (wA ca x ad mm F M).flatten H) (hD : va_D (fun q : Nat => s.heap.size ≤ q) (wA ca x ad mm F M).flatten) (hS : va_S (fun q : Nat => s.heap.size ≤ q) s.heap H locs) : W p l e room_1 s m #[Value.ref b] below meth c H locs 67 1942 (lw_Z below #[Value.ref b] s) (F0 m 414 ls []) := by
  obtain ⟨hx, hb, hr, hml, hown, hts0, hX, hbl, hlocks, hgv⟩ := id C0
  have hown : s.vm.findClass RL = some m.cls := hown
  have hts : ∀ w ∈ wsL_law, w.before #[Value.ref b] s = true := fun w h => hts0 w (wsL_law_in w h)
  have hA : ∀ q : Nat, s.heap.size ≤ q → (fun q : Nat => s.heap.size ≤ q) q := fun _ h => h
  have hbA : ¬ (fun q : Nat => s.heap.size ≤ q) b := Nat.not_le.mpr hbl
  obtain ⟨o, o', h1, h2, he, hR'⟩ := st_alter hR (xs (nI i + (1 : Int32)).toNatClampNeg) (xs (nI i + (2 : Int32)).toNatClampNeg) (xs (nI i + (3 : Int32)).toNatClampNeg)
  refine lv_aload_n hx hb dL_law_414 rfl (lv_at hl 1 rfl) ?_
  refine lv_aload_n hx hb dL_law_415 rfl (lv_at hl 0 rfl) ?_
  refine lv_iload_n hx hb dL_law_416 rfl (lv_at hl 3 rfl) ?_
  refine lv_iconst (v := (1 : Int32)) hx hb dL_law_417 (by decide) ?_
  refine lv_iadd hx hb dL_law_418 ?_
  refine va_sld hx hb hX hbl hbA hS (vp_off (k := 1) (by omega) (by omega)) dL_law_419 ?_
  refine lv_aload_n hx hb dL_law_420 rfl (lv_at hl 0 rfl) ?_
  refine lv_iload_n hx hb dL_law_421 rfl (lv_at hl 3 rfl) ?_
  refine lv_iconst (v := (2 : Int32)) hx hb dL_law_422 (by decide) ?_
  refine lv_iadd hx hb dL_law_423 ?_
  refine va_sld hx hb hX hbl hbA hS (vp_off (k := 2) (by omega) (by omega)) dL_law_424 ?_
  refine lv_aload_n hx hb dL_law_425 rfl (lv_at hl 0 rfl) ?_
  refine lv_iload_n hx hb dL_law_426 rfl (lv_at hl 3 rfl) ?_
  refine lv_iconst (v := (3 : Int32)) hx hb dL_law_427 (by decide) ?_
  refine lv_iadd hx hb dL_law_428 ?_
  refine va_sld hx hb hX hbl hbA hS (vp_off (k := 3) (by omega) (by omega)) dL_law_429 ?_
  refine zVi (As := [.int (xs (nI i + (1 : Int32)).toNatClampNeg), .int (xs (nI i + (2 : Int32)).toNatClampNeg), .int (xs (nI i + (3 : Int32)).toNatClampNeg)]) (ci := 7) (bs := wA ca x ad mm F M) (bs' := wA ca x ad mm ((va_up F.1 0 o.2), F.2.1, F.2.2) M) ⟨hx, hb, hml, hown, hts⟩ (k_X7_alter l D ca x (ad 1 0) (ad 2 0) (ad 7 0) (ad 9 0) (ad 10 0) (ad 11 0) (ad 12 0) (ad 0) (F.2.1 2) (F.1 0) (xs (nI i + (1 : Int32)).toNatClampNeg) (xs (nI i + (2 : Int32)).toNatClampNeg) (xs (nI i + (3 : Int32)).toNatClampNeg) _ h1) (cwV 3 hts gL_law_X7_alter rfl rfl rfl (by decide +kernel) ⟨(Nat.le_of_ble_eq_true rfl), (Nat.le_of_ble_eq_true rfl)⟩) hK hA hP hD hS dL_law_430 rfl hl.1 [0, 1] [2, 3, 4, 5, 6, 7, 8, 9, 10, 11, 12, 13, 14, 15, 16, 17, 18] (show ([0, 1] ++ [2, 3, 4, 5, 6, 7, 8, 9, 10, 11, 12, 13, 14, 15, 16, 17, 18] : List Nat).Perm (List.range 19) by decide) rfl (show ([0, 1] ++ [2, 3, 4, 5, 6, 7, 8, 9, 10, 11, 12, 13, 14, 15, 16, 17, 18] : List Nat).Perm (List.range 19) by decide) rfl rfl rfl rfl rfl rfl (Nat.le_of_ble_eq_true rfl) ⟨(Nat.le_of_ble_eq_true rfl), (Nat.le_of_ble_eq_true rfl)⟩ (fun H locs hP hD hS => ?_)
  refine lv_aload_n hx hb dL_law_433 rfl (lv_at hl 2 rfl) ?_
  refine lv_aload_n hx hb dL_law_434 rfl (lv_at hl 0 rfl) ?_
  refine lv_iload_n hx hb dL_law_435 rfl (lv_at hl 3 rfl) ?_
  refine lv_iconst (v := (1 : Int32)) hx hb dL_law_436 (by decide) ?_
  refine lv_iadd hx hb dL_law_437 ?_
  refine va_sld hx hb hX hbl hbA hS (vp_off (k := 1) (by omega) (by omega)) dL_law_438 ?_
  refine lv_aload_n hx hb dL_law_439 rfl (lv_at hl 0 rfl) ?_
  refine lv_iload_n hx hb dL_law_440 rfl (lv_at hl 3 rfl) ?_
  refine lv_iconst (v := (2 : Int32)) hx hb dL_law_441 (by decide) ?_
  refine lv_iadd hx hb dL_law_442 ?_
  refine va_sld hx hb hX hbl hbA hS (vp_off (k := 2) (by omega) (by omega)) dL_law_443 ?_
  refine lv_aload_n hx hb dL_law_444 rfl (lv_at hl 0 rfl) ?_
  refine lv_iload_n hx hb dL_law_445 rfl (lv_at hl 3 rfl) ?_
  refine lv_iconst (v := (3 : Int32)) hx hb dL_law_446 (by decide) ?_
  refine lv_iadd hx hb dL_law_447 ?_
  refine va_sld hx hb hX hbl hbA hS (vp_off (k := 3) (by omega) (by omega)) dL_law_448 ?_
  refine zVi (As := [.int (xs (nI i + (1 : Int32)).toNatClampNeg), .int (xs (nI i + (2 : Int32)).toNatClampNeg), .int (xs (nI i + (3 : Int32)).toNatClampNeg)]) (ci := 8) (bs := wA ca x ad mm ((va_up F.1 0 o.2), F.2.1, F.2.2) M) (bs' := wA ca x ad mm ((va_up F.1 0 o.2), F.2.1, F.2.2) o'.2) ⟨hx, hb, hml, hown, hts⟩ (k_X8_alter l D ca mm M (xs (nI i + (1 : Int32)).toNatClampNeg) (xs (nI i + (2 : Int32)).toNatClampNeg) (xs (nI i + (3 : Int32)).toNatClampNeg) _ h2) (cwV 3 hts gL_law_X8_alter rfl rfl rfl (by decide +kernel) ⟨(Nat.le_of_ble_eq_true rfl), (Nat.le_of_ble_eq_true rfl)⟩) hK hA hP hD hS dL_law_449 rfl hl.1 [18] [0, 1, 2, 3, 4, 5, 6, 7, 8, 9, 10, 11, 12, 13, 14, 15, 16, 17] (show ([18] ++ [0, 1, 2, 3, 4, 5, 6, 7, 8, 9, 10, 11, 12, 13, 14, 15, 16, 17] : List Nat).Perm (List.range 19) by decide) rfl (show ([18] ++ [0, 1, 2, 3, 4, 5, 6, 7, 8, 9, 10, 11, 12, 13, 14, 15, 16, 17] : List Nat).Perm (List.range 19) by decide) rfl rfl rfl rfl rfl rfl (Nat.le_of_ble_eq_true rfl) ⟨(Nat.le_of_ble_eq_true rfl), (Nat.le_of_ble_eq_true rfl)⟩ (fun H locs hP hD hS => ?_)
  refine lv_icmp_eq (tgt := 1471) hx hb dL_law_452 (by decide) (fun _ => ?_) (fun c1 => absurd he c1)
  exact kk _ _ _ _ _ hR' hl hP hD hS
set_option maxHeartbeats 4000000 in
set_option maxRecDepth 100000 in
theorem law_c9 {p : Program} {l : Launch} {e : Env} {s : State} {m : MethodId} {below : List Frame} {meth : Method} {c : Code} {b L : Nat} {xs : Nat → Int32} {D : va_G} {ca : Nat → ClassId} {x : Nat} {ad : Nat → Nat → Nat} {mm : Nat → Nat} {aS aV aT : Nat → Nat} {F : FS} {M : GS} {i : Nat} (C0 : lw_At p s m meth c b L xs) (hK : va_K D vwCl (TY ca) s) (hAm : Amb aS aV aT (fun q : Nat => s.heap.size ≤ q) s s.heap) (hRS : RSt aS s) (hi : i + 6 ≤ L) (hL : L ≤ 384) (hR : Rel F M)
    (kk : ∀ (F' : FS) (M' : GS) (ls : Array Slot) (H : Heap) (locs : List Loc), Rel F' M' → lv_has ls 4 [(0, .ref b), (1, .ref x), (2, .ref (mm 0)), (3, .int (nI i))] → va_P D vwCl (wA ca x ad mm F' M').flatten H → va_D (fun q : Nat => s.heap.size ≤ q) (wA ca x ad mm F' M').flatten → va_S (fun q : Nat => s.heap.size ≤ q) s.heap H locs → W p l e room_1 s m #[Value.ref b] below meth c H locs 67 1942 (lw_Z below #[Value.ref b] s) (F0 m 1471 ls []))
    (ls : Array Slot) (H : Heap) (locs : List Loc) (hl : lv_has ls 4 [(0, .ref b), (1, .ref x), (2, .ref (mm 0)), (3, .int (nI i))]) (hP : va_P D vwCl (wA ca x ad mm F M).flatten H) (hD : va_D (fun q : Nat => s.heap.size ≤ q) (wA ca x ad mm F M).flatten) (hS : va_S (fun q : Nat => s.heap.size ≤ q) s.heap H locs) : W p l e room_1 s m #[Value.ref b] below meth c H locs 67 1942 (lw_Z below #[Value.ref b] s) (F0 m 457 ls []) := by
  obtain ⟨hx, hb, hr, hml, hown, hts0, hX, hbl, hlocks, hgv⟩ := id C0
  have hown : s.vm.findClass RL = some m.cls := hown
  have hts : ∀ w ∈ wsL_law, w.before #[Value.ref b] s = true := fun w h => hts0 w (wsL_law_in w h)
  have hA : ∀ q : Nat, s.heap.size ≤ q → (fun q : Nat => s.heap.size ≤ q) q := fun _ h => h
  have hbA : ¬ (fun q : Nat => s.heap.size ≤ q) b := Nat.not_le.mpr hbl
  obtain ⟨o, o', h1, h2, he, hR'⟩ := st_set hR (xs (nI i + (1 : Int32)).toNatClampNeg) (xs (nI i + (2 : Int32)).toNatClampNeg)
  refine lv_aload_n hx hb dL_law_457 rfl (lv_at hl 1 rfl) ?_
  refine lv_aload_n hx hb dL_law_458 rfl (lv_at hl 0 rfl) ?_
  refine lv_iload_n hx hb dL_law_459 rfl (lv_at hl 3 rfl) ?_
  refine lv_iconst (v := (1 : Int32)) hx hb dL_law_460 (by decide) ?_
  refine lv_iadd hx hb dL_law_461 ?_
  refine va_sld hx hb hX hbl hbA hS (vp_off (k := 1) (by omega) (by omega)) dL_law_462 ?_
  refine lv_aload_n hx hb dL_law_463 rfl (lv_at hl 0 rfl) ?_
  refine lv_iload_n hx hb dL_law_464 rfl (lv_at hl 3 rfl) ?_
  refine lv_iconst (v := (2 : Int32)) hx hb dL_law_465 (by decide) ?_
  refine lv_iadd hx hb dL_law_466 ?_
  refine va_sld hx hb hX hbl hbA hS (vp_off (k := 2) (by omega) (by omega)) dL_law_467 ?_
  refine zVi (As := [.int (xs (nI i + (1 : Int32)).toNatClampNeg), .int (xs (nI i + (2 : Int32)).toNatClampNeg)]) (ci := 7) (bs := wA ca x ad mm F M) (bs' := wA ca x ad mm ((va_up F.1 0 o.2), F.2.1, F.2.2) M) ⟨hx, hb, hml, hown, hts⟩ (k_X7_set l D ca x (ad 1 0) (ad 2 0) (ad 7 0) (ad 9 0) (ad 10 0) (ad 11 0) (ad 12 0) (ad 0) (F.2.1 2) (F.1 0) (xs (nI i + (1 : Int32)).toNatClampNeg) (xs (nI i + (2 : Int32)).toNatClampNeg) _ h1) (cwV 2 hts gL_law_X7_set rfl rfl rfl (by decide +kernel) ⟨(Nat.le_of_ble_eq_true rfl), (Nat.le_of_ble_eq_true rfl)⟩) hK hA hP hD hS dL_law_468 rfl hl.1 [0, 1] [2, 3, 4, 5, 6, 7, 8, 9, 10, 11, 12, 13, 14, 15, 16, 17, 18] (show ([0, 1] ++ [2, 3, 4, 5, 6, 7, 8, 9, 10, 11, 12, 13, 14, 15, 16, 17, 18] : List Nat).Perm (List.range 19) by decide) rfl (show ([0, 1] ++ [2, 3, 4, 5, 6, 7, 8, 9, 10, 11, 12, 13, 14, 15, 16, 17, 18] : List Nat).Perm (List.range 19) by decide) rfl rfl rfl rfl rfl rfl (Nat.le_of_ble_eq_true rfl) ⟨(Nat.le_of_ble_eq_true rfl), (Nat.le_of_ble_eq_true rfl)⟩ (fun H locs hP hD hS => ?_)
  refine lv_aload_n hx hb dL_law_471 rfl (lv_at hl 2 rfl) ?_
  refine lv_aload_n hx hb dL_law_472 rfl (lv_at hl 0 rfl) ?_
  refine lv_iload_n hx hb dL_law_473 rfl (lv_at hl 3 rfl) ?_
  refine lv_iconst (v := (1 : Int32)) hx hb dL_law_474 (by decide) ?_
  refine lv_iadd hx hb dL_law_475 ?_
  refine va_sld hx hb hX hbl hbA hS (vp_off (k := 1) (by omega) (by omega)) dL_law_476 ?_
  refine lv_aload_n hx hb dL_law_477 rfl (lv_at hl 0 rfl) ?_
  refine lv_iload_n hx hb dL_law_478 rfl (lv_at hl 3 rfl) ?_
  refine lv_iconst (v := (2 : Int32)) hx hb dL_law_479 (by decide) ?_
  refine lv_iadd hx hb dL_law_480 ?_
  refine va_sld hx hb hX hbl hbA hS (vp_off (k := 2) (by omega) (by omega)) dL_law_481 ?_
  refine zVi (As := [.int (xs (nI i + (1 : Int32)).toNatClampNeg), .int (xs (nI i + (2 : Int32)).toNatClampNeg)]) (ci := 8) (bs := wA ca x ad mm ((va_up F.1 0 o.2), F.2.1, F.2.2) M) (bs' := wA ca x ad mm ((va_up F.1 0 o.2), F.2.1, F.2.2) o'.2) ⟨hx, hb, hml, hown, hts⟩ (k_X8_set l D ca mm M (xs (nI i + (1 : Int32)).toNatClampNeg) (xs (nI i + (2 : Int32)).toNatClampNeg) _ h2) (cwV 2 hts gL_law_X8_set rfl rfl rfl (by decide +kernel) ⟨(Nat.le_of_ble_eq_true rfl), (Nat.le_of_ble_eq_true rfl)⟩) hK hA hP hD hS dL_law_482 rfl hl.1 [18] [0, 1, 2, 3, 4, 5, 6, 7, 8, 9, 10, 11, 12, 13, 14, 15, 16, 17] (show ([18] ++ [0, 1, 2, 3, 4, 5, 6, 7, 8, 9, 10, 11, 12, 13, 14, 15, 16, 17] : List Nat).Perm (List.range 19) by decide) rfl (show ([18] ++ [0, 1, 2, 3, 4, 5, 6, 7, 8, 9, 10, 11, 12, 13, 14, 15, 16, 17] : List Nat).Perm (List.range 19) by decide) rfl rfl rfl rfl rfl rfl (Nat.le_of_ble_eq_true rfl) ⟨(Nat.le_of_ble_eq_true rfl), (Nat.le_of_ble_eq_true rfl)⟩ (fun H locs hP hD hS => ?_)
  refine lv_icmp_eq (tgt := 1471) hx hb dL_law_485 (by decide) (fun _ => ?_) (fun c1 => absurd he c1)
  exact kk _ _ _ _ _ hR' hl hP hD hS
set_option maxHeartbeats 4000000 in
set_option maxRecDepth 100000 in
theorem law_c10 {p : Program} {l : Launch} {e : Env} {s : State} {m : MethodId} {below : List Frame} {meth : Method} {c : Code} {b L : Nat} {xs : Nat → Int32} {D : va_G} {ca : Nat → ClassId} {x : Nat} {ad : Nat → Nat → Nat} {mm : Nat → Nat} {aS aV aT : Nat → Nat} {F : FS} {M : GS} {i : Nat} (C0 : lw_At p s m meth c b L xs) (hK : va_K D vwCl (TY ca) s) (hAm : Amb aS aV aT (fun q : Nat => s.heap.size ≤ q) s s.heap) (hRS : RSt aS s) (hi : i + 6 ≤ L) (hL : L ≤ 384) (hR : Rel F M)
    (kk : ∀ (F' : FS) (M' : GS) (ls : Array Slot) (H : Heap) (locs : List Loc), Rel F' M' → lv_has ls 4 [(0, .ref b), (1, .ref x), (2, .ref (mm 0)), (3, .int (nI i))] → va_P D vwCl (wA ca x ad mm F' M').flatten H → va_D (fun q : Nat => s.heap.size ≤ q) (wA ca x ad mm F' M').flatten → va_S (fun q : Nat => s.heap.size ≤ q) s.heap H locs → W p l e room_1 s m #[Value.ref b] below meth c H locs 67 1942 (lw_Z below #[Value.ref b] s) (F0 m 1471 ls []))
    (ls : Array Slot) (H : Heap) (locs : List Loc) (hl : lv_has ls 4 [(0, .ref b), (1, .ref x), (2, .ref (mm 0)), (3, .int (nI i))]) (hP : va_P D vwCl (wA ca x ad mm F M).flatten H) (hD : va_D (fun q : Nat => s.heap.size ≤ q) (wA ca x ad mm F M).flatten) (hS : va_S (fun q : Nat => s.heap.size ≤ q) s.heap H locs) : W p l e room_1 s m #[Value.ref b] below meth c H locs 67 1942 (lw_Z below #[Value.ref b] s) (F0 m 490 ls []) := by
  obtain ⟨hx, hb, hr, hml, hown, hts0, hX, hbl, hlocks, hgv⟩ := id C0
  have hown : s.vm.findClass RL = some m.cls := hown
  have hts : ∀ w ∈ wsL_law, w.before #[Value.ref b] s = true := fun w h => hts0 w (wsL_law_in w h)
  have hA : ∀ q : Nat, s.heap.size ≤ q → (fun q : Nat => s.heap.size ≤ q) q := fun _ h => h
  have hbA : ¬ (fun q : Nat => s.heap.size ≤ q) b := Nat.not_le.mpr hbl
  obtain ⟨o, o', h1, h2, he, hR'⟩ := st_turn hR (xs (nI i + (1 : Int32)).toNatClampNeg)
  refine lv_aload_n hx hb dL_law_490 rfl (lv_at hl 1 rfl) ?_
  refine lv_aload_n hx hb dL_law_491 rfl (lv_at hl 0 rfl) ?_
  refine lv_iload_n hx hb dL_law_492 rfl (lv_at hl 3 rfl) ?_
  refine lv_iconst (v := (1 : Int32)) hx hb dL_law_493 (by decide) ?_
  refine lv_iadd hx hb dL_law_494 ?_
  refine va_sld hx hb hX hbl hbA hS (vp_off (k := 1) (by omega) (by omega)) dL_law_495 ?_
  refine zVi (As := [.int (xs (nI i + (1 : Int32)).toNatClampNeg)]) (ci := 7) (bs := wA ca x ad mm F M) (bs' := wA ca x ad mm ((va_up F.1 0 o.2), F.2.1, F.2.2) M) ⟨hx, hb, hml, hown, hts⟩ (k_X7_turn l D ca x (ad 1 0) (ad 2 0) (ad 7 0) (ad 9 0) (ad 10 0) (ad 11 0) (ad 12 0) (ad 0) (F.2.1 2) (F.1 0) (xs (nI i + (1 : Int32)).toNatClampNeg) _ h1) (cwV 1 hts gL_law_X7_turn rfl rfl rfl (by decide +kernel) ⟨(Nat.le_of_ble_eq_true rfl), (Nat.le_of_ble_eq_true rfl)⟩) hK hA hP hD hS dL_law_496 rfl hl.1 [0, 1] [2, 3, 4, 5, 6, 7, 8, 9, 10, 11, 12, 13, 14, 15, 16, 17, 18] (show ([0, 1] ++ [2, 3, 4, 5, 6, 7, 8, 9, 10, 11, 12, 13, 14, 15, 16, 17, 18] : List Nat).Perm (List.range 19) by decide) rfl (show ([0, 1] ++ [2, 3, 4, 5, 6, 7, 8, 9, 10, 11, 12, 13, 14, 15, 16, 17, 18] : List Nat).Perm (List.range 19) by decide) rfl rfl rfl rfl rfl rfl (Nat.le_of_ble_eq_true rfl) ⟨(Nat.le_of_ble_eq_true rfl), (Nat.le_of_ble_eq_true rfl)⟩ (fun H locs hP hD hS => ?_)
  refine lv_aload_n hx hb dL_law_499 rfl (lv_at hl 2 rfl) ?_
  refine lv_aload_n hx hb dL_law_500 rfl (lv_at hl 0 rfl) ?_
  refine lv_iload_n hx hb dL_law_501 rfl (lv_at hl 3 rfl) ?_
  refine lv_iconst (v := (1 : Int32)) hx hb dL_law_502 (by decide) ?_
  refine lv_iadd hx hb dL_law_503 ?_
  refine va_sld hx hb hX hbl hbA hS (vp_off (k := 1) (by omega) (by omega)) dL_law_504 ?_
  refine zVi (As := [.int (xs (nI i + (1 : Int32)).toNatClampNeg)]) (ci := 8) (bs := wA ca x ad mm ((va_up F.1 0 o.2), F.2.1, F.2.2) M) (bs' := wA ca x ad mm ((va_up F.1 0 o.2), F.2.1, F.2.2) o'.2) ⟨hx, hb, hml, hown, hts⟩ (k_X8_turn l D ca mm M (xs (nI i + (1 : Int32)).toNatClampNeg) _ h2) (cwV 1 hts gL_law_X8_turn rfl rfl rfl (by decide +kernel) ⟨(Nat.le_of_ble_eq_true rfl), (Nat.le_of_ble_eq_true rfl)⟩) hK hA hP hD hS dL_law_505 rfl hl.1 [18] [0, 1, 2, 3, 4, 5, 6, 7, 8, 9, 10, 11, 12, 13, 14, 15, 16, 17] (show ([18] ++ [0, 1, 2, 3, 4, 5, 6, 7, 8, 9, 10, 11, 12, 13, 14, 15, 16, 17] : List Nat).Perm (List.range 19) by decide) rfl (show ([18] ++ [0, 1, 2, 3, 4, 5, 6, 7, 8, 9, 10, 11, 12, 13, 14, 15, 16, 17] : List Nat).Perm (List.range 19) by decide) rfl rfl rfl rfl rfl rfl (Nat.le_of_ble_eq_true rfl) ⟨(Nat.le_of_ble_eq_true rfl), (Nat.le_of_ble_eq_true rfl)⟩ (fun H locs hP hD hS => ?_)
  refine lv_icmp_eq (tgt := 1471) hx hb dL_law_508 (by decide) (fun _ => ?_) (fun c1 => absurd he c1)
  exact kk _ _ _ _ _ hR' hl hP hD hS
set_option maxHeartbeats 4000000 in
set_option maxRecDepth 100000 in
theorem law_c11 {p : Program} {l : Launch} {e : Env} {s : State} {m : MethodId} {below : List Frame} {meth : Method} {c : Code} {b L : Nat} {xs : Nat → Int32} {D : va_G} {ca : Nat → ClassId} {x : Nat} {ad : Nat → Nat → Nat} {mm : Nat → Nat} {aS aV aT : Nat → Nat} {F : FS} {M : GS} {i : Nat} (C0 : lw_At p s m meth c b L xs) (hK : va_K D vwCl (TY ca) s) (hAm : Amb aS aV aT (fun q : Nat => s.heap.size ≤ q) s s.heap) (hRS : RSt aS s) (hi : i + 6 ≤ L) (hL : L ≤ 384) (hR : Rel F M)
    (kk : ∀ (F' : FS) (M' : GS) (ls : Array Slot) (H : Heap) (locs : List Loc), Rel F' M' → lv_has ls 4 [(0, .ref b), (1, .ref x), (2, .ref (mm 0)), (3, .int (nI i))] → va_P D vwCl (wA ca x ad mm F' M').flatten H → va_D (fun q : Nat => s.heap.size ≤ q) (wA ca x ad mm F' M').flatten → va_S (fun q : Nat => s.heap.size ≤ q) s.heap H locs → W p l e room_1 s m #[Value.ref b] below meth c H locs 67 1942 (lw_Z below #[Value.ref b] s) (F0 m 1471 ls []))
    (ls : Array Slot) (H : Heap) (locs : List Loc) (hl : lv_has ls 4 [(0, .ref b), (1, .ref x), (2, .ref (mm 0)), (3, .int (nI i))]) (hP : va_P D vwCl (wA ca x ad mm F M).flatten H) (hD : va_D (fun q : Nat => s.heap.size ≤ q) (wA ca x ad mm F M).flatten) (hS : va_S (fun q : Nat => s.heap.size ≤ q) s.heap H locs) : W p l e room_1 s m #[Value.ref b] below meth c H locs 67 1942 (lw_Z below #[Value.ref b] s) (F0 m 513 ls []) := by
  obtain ⟨hx, hb, hr, hml, hown, hts0, hX, hbl, hlocks, hgv⟩ := id C0
  have hown : s.vm.findClass RL = some m.cls := hown
  have hts : ∀ w ∈ wsL_law, w.before #[Value.ref b] s = true := fun w h => hts0 w (wsL_law_in w h)
  have hA : ∀ q : Nat, s.heap.size ≤ q → (fun q : Nat => s.heap.size ≤ q) q := fun _ h => h
  have hbA : ¬ (fun q : Nat => s.heap.size ≤ q) b := Nat.not_le.mpr hbl
  obtain ⟨o, o', h1, h2, he, hR'⟩ := st_paint hR (xs (nI i + (1 : Int32)).toNatClampNeg) (xs (nI i + (2 : Int32)).toNatClampNeg)
  refine lv_aload_n hx hb dL_law_513 rfl (lv_at hl 1 rfl) ?_
  refine lv_aload_n hx hb dL_law_514 rfl (lv_at hl 0 rfl) ?_
  refine lv_iload_n hx hb dL_law_515 rfl (lv_at hl 3 rfl) ?_
  refine lv_iconst (v := (1 : Int32)) hx hb dL_law_516 (by decide) ?_
  refine lv_iadd hx hb dL_law_517 ?_
  refine va_sld hx hb hX hbl hbA hS (vp_off (k := 1) (by omega) (by omega)) dL_law_518 ?_
  refine lv_aload_n hx hb dL_law_519 rfl (lv_at hl 0 rfl) ?_
  refine lv_iload_n hx hb dL_law_520 rfl (lv_at hl 3 rfl) ?_
  refine lv_iconst (v := (2 : Int32)) hx hb dL_law_521 (by decide) ?_
  refine lv_iadd hx hb dL_law_522 ?_
  refine va_sld hx hb hX hbl hbA hS (vp_off (k := 2) (by omega) (by omega)) dL_law_523 ?_
  refine zVi (As := [.int (xs (nI i + (1 : Int32)).toNatClampNeg), .int (xs (nI i + (2 : Int32)).toNatClampNeg)]) (ci := 7) (bs := wA ca x ad mm F M) (bs' := wA ca x ad mm ((va_up F.1 0 o.2), F.2.1, F.2.2) M) ⟨hx, hb, hml, hown, hts⟩ (k_X7_paint l D ca x (ad 1 0) (ad 2 0) (ad 7 0) (ad 9 0) (ad 10 0) (ad 11 0) (ad 12 0) (ad 0) (F.2.1 2) (F.1 0) (xs (nI i + (1 : Int32)).toNatClampNeg) (xs (nI i + (2 : Int32)).toNatClampNeg) _ h1) (cwV 2 hts gL_law_X7_paint rfl rfl rfl (by decide +kernel) ⟨(Nat.le_of_ble_eq_true rfl), (Nat.le_of_ble_eq_true rfl)⟩) hK hA hP hD hS dL_law_524 rfl hl.1 [0, 1] [2, 3, 4, 5, 6, 7, 8, 9, 10, 11, 12, 13, 14, 15, 16, 17, 18] (show ([0, 1] ++ [2, 3, 4, 5, 6, 7, 8, 9, 10, 11, 12, 13, 14, 15, 16, 17, 18] : List Nat).Perm (List.range 19) by decide) rfl (show ([0, 1] ++ [2, 3, 4, 5, 6, 7, 8, 9, 10, 11, 12, 13, 14, 15, 16, 17, 18] : List Nat).Perm (List.range 19) by decide) rfl rfl rfl rfl rfl rfl (Nat.le_of_ble_eq_true rfl) ⟨(Nat.le_of_ble_eq_true rfl), (Nat.le_of_ble_eq_true rfl)⟩ (fun H locs hP hD hS => ?_)
  refine lv_aload_n hx hb dL_law_527 rfl (lv_at hl 2 rfl) ?_
  refine lv_aload_n hx hb dL_law_528 rfl (lv_at hl 0 rfl) ?_
  refine lv_iload_n hx hb dL_law_529 rfl (lv_at hl 3 rfl) ?_
  refine lv_iconst (v := (1 : Int32)) hx hb dL_law_530 (by decide) ?_
  refine lv_iadd hx hb dL_law_531 ?_
  refine va_sld hx hb hX hbl hbA hS (vp_off (k := 1) (by omega) (by omega)) dL_law_532 ?_
  refine lv_aload_n hx hb dL_law_533 rfl (lv_at hl 0 rfl) ?_
  refine lv_iload_n hx hb dL_law_534 rfl (lv_at hl 3 rfl) ?_
  refine lv_iconst (v := (2 : Int32)) hx hb dL_law_535 (by decide) ?_
  refine lv_iadd hx hb dL_law_536 ?_
  refine va_sld hx hb hX hbl hbA hS (vp_off (k := 2) (by omega) (by omega)) dL_law_537 ?_
  refine zVi (As := [.int (xs (nI i + (1 : Int32)).toNatClampNeg), .int (xs (nI i + (2 : Int32)).toNatClampNeg)]) (ci := 8) (bs := wA ca x ad mm ((va_up F.1 0 o.2), F.2.1, F.2.2) M) (bs' := wA ca x ad mm ((va_up F.1 0 o.2), F.2.1, F.2.2) o'.2) ⟨hx, hb, hml, hown, hts⟩ (k_X8_paint l D ca mm M (xs (nI i + (1 : Int32)).toNatClampNeg) (xs (nI i + (2 : Int32)).toNatClampNeg) _ h2) (cwV 2 hts gL_law_X8_paint rfl rfl rfl (by decide +kernel) ⟨(Nat.le_of_ble_eq_true rfl), (Nat.le_of_ble_eq_true rfl)⟩) hK hA hP hD hS dL_law_538 rfl hl.1 [18] [0, 1, 2, 3, 4, 5, 6, 7, 8, 9, 10, 11, 12, 13, 14, 15, 16, 17] (show ([18] ++ [0, 1, 2, 3, 4, 5, 6, 7, 8, 9, 10, 11, 12, 13, 14, 15, 16, 17] : List Nat).Perm (List.range 19) by decide) rfl (show ([18] ++ [0, 1, 2, 3, 4, 5, 6, 7, 8, 9, 10, 11, 12, 13, 14, 15, 16, 17] : List Nat).Perm (List.range 19) by decide) rfl rfl rfl rfl rfl rfl (Nat.le_of_ble_eq_true rfl) ⟨(Nat.le_of_ble_eq_true rfl), (Nat.le_of_ble_eq_true rfl)⟩ (fun H locs hP hD hS => ?_)
  refine lv_icmp_eq (tgt := 1471) hx hb dL_law_541 (by decide) (fun _ => ?_) (fun c1 => absurd he c1)
  exact kk _ _ _ _ _ hR' hl hP hD hS
set_option maxHeartbeats 4000000 in
set_option maxRecDepth 100000 in
theorem law_c12 {p : Program} {l : Launch} {e : Env} {s : State} {m : MethodId} {below : List Frame} {meth : Method} {c : Code} {b L : Nat} {xs : Nat → Int32} {D : va_G} {ca : Nat → ClassId} {x : Nat} {ad : Nat → Nat → Nat} {mm : Nat → Nat} {aS aV aT : Nat → Nat} {F : FS} {M : GS} {i : Nat} (C0 : lw_At p s m meth c b L xs) (hK : va_K D vwCl (TY ca) s) (hAm : Amb aS aV aT (fun q : Nat => s.heap.size ≤ q) s s.heap) (hRS : RSt aS s) (hi : i + 6 ≤ L) (hL : L ≤ 384) (hR : Rel F M)
    (kk : ∀ (F' : FS) (M' : GS) (ls : Array Slot) (H : Heap) (locs : List Loc), Rel F' M' → lv_has ls 4 [(0, .ref b), (1, .ref x), (2, .ref (mm 0)), (3, .int (nI i))] → va_P D vwCl (wA ca x ad mm F' M').flatten H → va_D (fun q : Nat => s.heap.size ≤ q) (wA ca x ad mm F' M').flatten → va_S (fun q : Nat => s.heap.size ≤ q) s.heap H locs → W p l e room_1 s m #[Value.ref b] below meth c H locs 67 1942 (lw_Z below #[Value.ref b] s) (F0 m 1471 ls []))
    (ls : Array Slot) (H : Heap) (locs : List Loc) (hl : lv_has ls 4 [(0, .ref b), (1, .ref x), (2, .ref (mm 0)), (3, .int (nI i))]) (hP : va_P D vwCl (wA ca x ad mm F M).flatten H) (hD : va_D (fun q : Nat => s.heap.size ≤ q) (wA ca x ad mm F M).flatten) (hS : va_S (fun q : Nat => s.heap.size ≤ q) s.heap H locs) : W p l e room_1 s m #[Value.ref b] below meth c H locs 67 1942 (lw_Z below #[Value.ref b] s) (F0 m 546 ls []) := by
  obtain ⟨hx, hb, hr, hml, hown, hts0, hX, hbl, hlocks, hgv⟩ := id C0
  have hown : s.vm.findClass RL = some m.cls := hown
  have hts : ∀ w ∈ wsL_law, w.before #[Value.ref b] s = true := fun w h => hts0 w (wsL_law_in w h)
  have hA : ∀ q : Nat, s.heap.size ≤ q → (fun q : Nat => s.heap.size ≤ q) q := fun _ h => h
  have hbA : ¬ (fun q : Nat => s.heap.size ≤ q) b := Nat.not_le.mpr hbl
  obtain ⟨o, o', h1, h2, he, hR'⟩ := st_print hR (xs (nI i + (1 : Int32)).toNatClampNeg) (xs (nI i + (2 : Int32)).toNatClampNeg)
  refine lv_aload_n hx hb dL_law_546 rfl (lv_at hl 1 rfl) ?_
  refine lv_aload_n hx hb dL_law_547 rfl (lv_at hl 0 rfl) ?_
  refine lv_iload_n hx hb dL_law_548 rfl (lv_at hl 3 rfl) ?_
  refine lv_iconst (v := (1 : Int32)) hx hb dL_law_549 (by decide) ?_
  refine lv_iadd hx hb dL_law_550 ?_
  refine va_sld hx hb hX hbl hbA hS (vp_off (k := 1) (by omega) (by omega)) dL_law_551 ?_
  refine lv_aload_n hx hb dL_law_552 rfl (lv_at hl 0 rfl) ?_
  refine lv_iload_n hx hb dL_law_553 rfl (lv_at hl 3 rfl) ?_
  refine lv_iconst (v := (2 : Int32)) hx hb dL_law_554 (by decide) ?_
  refine lv_iadd hx hb dL_law_555 ?_
  refine va_sld hx hb hX hbl hbA hS (vp_off (k := 2) (by omega) (by omega)) dL_law_556 ?_
  refine zVi (As := [.int (xs (nI i + (1 : Int32)).toNatClampNeg), .int (xs (nI i + (2 : Int32)).toNatClampNeg)]) (ci := 7) (bs := wA ca x ad mm F M) (bs' := wA ca x ad mm ((va_up F.1 0 o.2), F.2.1, F.2.2) M) ⟨hx, hb, hml, hown, hts⟩ (k_X7_print l D ca x (ad 1 0) (ad 2 0) (ad 7 0) (ad 9 0) (ad 10 0) (ad 11 0) (ad 12 0) (ad 0) (F.2.1 2) (F.1 0) (xs (nI i + (1 : Int32)).toNatClampNeg) (xs (nI i + (2 : Int32)).toNatClampNeg) _ h1) (cwV 2 hts gL_law_X7_print rfl rfl rfl (by decide +kernel) ⟨(Nat.le_of_ble_eq_true rfl), (Nat.le_of_ble_eq_true rfl)⟩) hK hA hP hD hS dL_law_557 rfl hl.1 [0, 1] [2, 3, 4, 5, 6, 7, 8, 9, 10, 11, 12, 13, 14, 15, 16, 17, 18] (show ([0, 1] ++ [2, 3, 4, 5, 6, 7, 8, 9, 10, 11, 12, 13, 14, 15, 16, 17, 18] : List Nat).Perm (List.range 19) by decide) rfl (show ([0, 1] ++ [2, 3, 4, 5, 6, 7, 8, 9, 10, 11, 12, 13, 14, 15, 16, 17, 18] : List Nat).Perm (List.range 19) by decide) rfl rfl rfl rfl rfl rfl (Nat.le_of_ble_eq_true rfl) ⟨(Nat.le_of_ble_eq_true rfl), (Nat.le_of_ble_eq_true rfl)⟩ (fun H locs hP hD hS => ?_)
  refine lv_aload_n hx hb dL_law_560 rfl (lv_at hl 2 rfl) ?_
  refine lv_aload_n hx hb dL_law_561 rfl (lv_at hl 0 rfl) ?_
  refine lv_iload_n hx hb dL_law_562 rfl (lv_at hl 3 rfl) ?_
  refine lv_iconst (v := (1 : Int32)) hx hb dL_law_563 (by decide) ?_
  refine lv_iadd hx hb dL_law_564 ?_
  refine va_sld hx hb hX hbl hbA hS (vp_off (k := 1) (by omega) (by omega)) dL_law_565 ?_
  refine lv_aload_n hx hb dL_law_566 rfl (lv_at hl 0 rfl) ?_
  refine lv_iload_n hx hb dL_law_567 rfl (lv_at hl 3 rfl) ?_
  refine lv_iconst (v := (2 : Int32)) hx hb dL_law_568 (by decide) ?_
  refine lv_iadd hx hb dL_law_569 ?_
  refine va_sld hx hb hX hbl hbA hS (vp_off (k := 2) (by omega) (by omega)) dL_law_570 ?_
  refine zVi (As := [.int (xs (nI i + (1 : Int32)).toNatClampNeg), .int (xs (nI i + (2 : Int32)).toNatClampNeg)]) (ci := 8) (bs := wA ca x ad mm ((va_up F.1 0 o.2), F.2.1, F.2.2) M) (bs' := wA ca x ad mm ((va_up F.1 0 o.2), F.2.1, F.2.2) o'.2) ⟨hx, hb, hml, hown, hts⟩ (k_X8_print l D ca mm M (xs (nI i + (1 : Int32)).toNatClampNeg) (xs (nI i + (2 : Int32)).toNatClampNeg) _ h2) (cwV 2 hts gL_law_X8_print rfl rfl rfl (by decide +kernel) ⟨(Nat.le_of_ble_eq_true rfl), (Nat.le_of_ble_eq_true rfl)⟩) hK hA hP hD hS dL_law_571 rfl hl.1 [18] [0, 1, 2, 3, 4, 5, 6, 7, 8, 9, 10, 11, 12, 13, 14, 15, 16, 17] (show ([18] ++ [0, 1, 2, 3, 4, 5, 6, 7, 8, 9, 10, 11, 12, 13, 14, 15, 16, 17] : List Nat).Perm (List.range 19) by decide) rfl (show ([18] ++ [0, 1, 2, 3, 4, 5, 6, 7, 8, 9, 10, 11, 12, 13, 14, 15, 16, 17] : List Nat).Perm (List.range 19) by decide) rfl rfl rfl rfl rfl rfl (Nat.le_of_ble_eq_true rfl) ⟨(Nat.le_of_ble_eq_true rfl), (Nat.le_of_ble_eq_true rfl)⟩ (fun H locs hP hD hS => ?_)
  refine lv_icmp_eq (tgt := 1471) hx hb dL_law_574 (by decide) (fun _ => ?_) (fun c1 => absurd he c1)
  exact kk _ _ _ _ _ hR' hl hP hD hS
set_option maxHeartbeats 4000000 in
set_option maxRecDepth 100000 in
theorem law_c13 {p : Program} {l : Launch} {e : Env} {s : State} {m : MethodId} {below : List Frame} {meth : Method} {c : Code} {b L : Nat} {xs : Nat → Int32} {D : va_G} {ca : Nat → ClassId} {x : Nat} {ad : Nat → Nat → Nat} {mm : Nat → Nat} {aS aV aT : Nat → Nat} {F : FS} {M : GS} {i : Nat} (C0 : lw_At p s m meth c b L xs) (hK : va_K D vwCl (TY ca) s) (hAm : Amb aS aV aT (fun q : Nat => s.heap.size ≤ q) s s.heap) (hRS : RSt aS s) (hi : i + 6 ≤ L) (hL : L ≤ 384) (hR : Rel F M)
    (kk : ∀ (F' : FS) (M' : GS) (ls : Array Slot) (H : Heap) (locs : List Loc), Rel F' M' → lv_has ls 4 [(0, .ref b), (1, .ref x), (2, .ref (mm 0)), (3, .int (nI i))] → va_P D vwCl (wA ca x ad mm F' M').flatten H → va_D (fun q : Nat => s.heap.size ≤ q) (wA ca x ad mm F' M').flatten → va_S (fun q : Nat => s.heap.size ≤ q) s.heap H locs → W p l e room_1 s m #[Value.ref b] below meth c H locs 67 1942 (lw_Z below #[Value.ref b] s) (F0 m 1471 ls []))
    (ls : Array Slot) (H : Heap) (locs : List Loc) (hl : lv_has ls 4 [(0, .ref b), (1, .ref x), (2, .ref (mm 0)), (3, .int (nI i))]) (hP : va_P D vwCl (wA ca x ad mm F M).flatten H) (hD : va_D (fun q : Nat => s.heap.size ≤ q) (wA ca x ad mm F M).flatten) (hS : va_S (fun q : Nat => s.heap.size ≤ q) s.heap H locs) : W p l e room_1 s m #[Value.ref b] below meth c H locs 67 1942 (lw_Z below #[Value.ref b] s) (F0 m 579 ls []) := by
  obtain ⟨hx, hb, hr, hml, hown, hts0, hX, hbl, hlocks, hgv⟩ := id C0
  have hown : s.vm.findClass RL = some m.cls := hown
  have hts : ∀ w ∈ wsL_law, w.before #[Value.ref b] s = true := fun w h => hts0 w (wsL_law_in w h)
  have hA : ∀ q : Nat, s.heap.size ≤ q → (fun q : Nat => s.heap.size ≤ q) q := fun _ h => h
  have hbA : ¬ (fun q : Nat => s.heap.size ≤ q) b := Nat.not_le.mpr hbl
  obtain ⟨o, o', h1, h2, he, hR'⟩ := st_stock hR (xs (nI i + (1 : Int32)).toNatClampNeg) (xs (nI i + (2 : Int32)).toNatClampNeg)
  refine lv_aload_n hx hb dL_law_579 rfl (lv_at hl 1 rfl) ?_
  refine lv_aload_n hx hb dL_law_580 rfl (lv_at hl 0 rfl) ?_
  refine lv_iload_n hx hb dL_law_581 rfl (lv_at hl 3 rfl) ?_
  refine lv_iconst (v := (1 : Int32)) hx hb dL_law_582 (by decide) ?_
  refine lv_iadd hx hb dL_law_583 ?_
  refine va_sld hx hb hX hbl hbA hS (vp_off (k := 1) (by omega) (by omega)) dL_law_584 ?_
  refine lv_aload_n hx hb dL_law_585 rfl (lv_at hl 0 rfl) ?_
  refine lv_iload_n hx hb dL_law_586 rfl (lv_at hl 3 rfl) ?_
  refine lv_iconst (v := (2 : Int32)) hx hb dL_law_587 (by decide) ?_
  refine lv_iadd hx hb dL_law_588 ?_
  refine va_sld hx hb hX hbl hbA hS (vp_off (k := 2) (by omega) (by omega)) dL_law_589 ?_
  refine zVi (As := [.int (xs (nI i + (1 : Int32)).toNatClampNeg), .int (xs (nI i + (2 : Int32)).toNatClampNeg)]) (ci := 7) (bs := wA ca x ad mm F M) (bs' := wA ca x ad mm ((va_up F.1 0 o.2), F.2.1, F.2.2) M) ⟨hx, hb, hml, hown, hts⟩ (k_X7_stock l D ca x (ad 1 0) (ad 2 0) (ad 7 0) (ad 9 0) (ad 10 0) (ad 11 0) (ad 12 0) (ad 0) (F.2.1 2) (F.1 0) (xs (nI i + (1 : Int32)).toNatClampNeg) (xs (nI i + (2 : Int32)).toNatClampNeg) _ h1) (cwV 2 hts gL_law_X7_stock rfl rfl rfl (by decide +kernel) ⟨(Nat.le_of_ble_eq_true rfl), (Nat.le_of_ble_eq_true rfl)⟩) hK hA hP hD hS dL_law_590 rfl hl.1 [0, 1] [2, 3, 4, 5, 6, 7, 8, 9, 10, 11, 12, 13, 14, 15, 16, 17, 18] (show ([0, 1] ++ [2, 3, 4, 5, 6, 7, 8, 9, 10, 11, 12, 13, 14, 15, 16, 17, 18] : List Nat).Perm (List.range 19) by decide) rfl (show ([0, 1] ++ [2, 3, 4, 5, 6, 7, 8, 9, 10, 11, 12, 13, 14, 15, 16, 17, 18] : List Nat).Perm (List.range 19) by decide) rfl rfl rfl rfl rfl rfl (Nat.le_of_ble_eq_true rfl) ⟨(Nat.le_of_ble_eq_true rfl), (Nat.le_of_ble_eq_true rfl)⟩ (fun H locs hP hD hS => ?_)
  refine lv_aload_n hx hb dL_law_593 rfl (lv_at hl 2 rfl) ?_
  refine lv_aload_n hx hb dL_law_594 rfl (lv_at hl 0 rfl) ?_
  refine lv_iload_n hx hb dL_law_595 rfl (lv_at hl 3 rfl) ?_
  refine lv_iconst (v := (1 : Int32)) hx hb dL_law_596 (by decide) ?_
  refine lv_iadd hx hb dL_law_597 ?_
  refine va_sld hx hb hX hbl hbA hS (vp_off (k := 1) (by omega) (by omega)) dL_law_598 ?_
  refine lv_aload_n hx hb dL_law_599 rfl (lv_at hl 0 rfl) ?_
  refine lv_iload_n hx hb dL_law_600 rfl (lv_at hl 3 rfl) ?_
  refine lv_iconst (v := (2 : Int32)) hx hb dL_law_601 (by decide) ?_
  refine lv_iadd hx hb dL_law_602 ?_
  refine va_sld hx hb hX hbl hbA hS (vp_off (k := 2) (by omega) (by omega)) dL_law_603 ?_
  refine zVi (As := [.int (xs (nI i + (1 : Int32)).toNatClampNeg), .int (xs (nI i + (2 : Int32)).toNatClampNeg)]) (ci := 8) (bs := wA ca x ad mm ((va_up F.1 0 o.2), F.2.1, F.2.2) M) (bs' := wA ca x ad mm ((va_up F.1 0 o.2), F.2.1, F.2.2) o'.2) ⟨hx, hb, hml, hown, hts⟩ (k_X8_stock l D ca mm M (xs (nI i + (1 : Int32)).toNatClampNeg) (xs (nI i + (2 : Int32)).toNatClampNeg) _ h2) (cwV 2 hts gL_law_X8_stock rfl rfl rfl (by decide +kernel) ⟨(Nat.le_of_ble_eq_true rfl), (Nat.le_of_ble_eq_true rfl)⟩) hK hA hP hD hS dL_law_604 rfl hl.1 [18] [0, 1, 2, 3, 4, 5, 6, 7, 8, 9, 10, 11, 12, 13, 14, 15, 16, 17] (show ([18] ++ [0, 1, 2, 3, 4, 5, 6, 7, 8, 9, 10, 11, 12, 13, 14, 15, 16, 17] : List Nat).Perm (List.range 19) by decide) rfl (show ([18] ++ [0, 1, 2, 3, 4, 5, 6, 7, 8, 9, 10, 11, 12, 13, 14, 15, 16, 17] : List Nat).Perm (List.range 19) by decide) rfl rfl rfl rfl rfl rfl (Nat.le_of_ble_eq_true rfl) ⟨(Nat.le_of_ble_eq_true rfl), (Nat.le_of_ble_eq_true rfl)⟩ (fun H locs hP hD hS => ?_)
  refine lv_icmp_eq (tgt := 1471) hx hb dL_law_607 (by decide) (fun _ => ?_) (fun c1 => absurd he c1)
  exact kk _ _ _ _ _ hR' hl hP hD hS
set_option maxHeartbeats 4000000 in
set_option maxRecDepth 100000 in
theorem law_c14 {p : Program} {l : Launch} {e : Env} {s : State} {m : MethodId} {below : List Frame} {meth : Method} {c : Code} {b L : Nat} {xs : Nat → Int32} {D : va_G} {ca : Nat → ClassId} {x : Nat} {ad : Nat → Nat → Nat} {mm : Nat → Nat} {aS aV aT : Nat → Nat} {F : FS} {M : GS} {i : Nat} (C0 : lw_At p s m meth c b L xs) (hK : va_K D vwCl (TY ca) s) (hAm : Amb aS aV aT (fun q : Nat => s.heap.size ≤ q) s s.heap) (hRS : RSt aS s) (hi : i + 6 ≤ L) (hL : L ≤ 384) (hR : Rel F M)
    (kk : ∀ (F' : FS) (M' : GS) (ls : Array Slot) (H : Heap) (locs : List Loc), Rel F' M' → lv_has ls 4 [(0, .ref b), (1, .ref x), (2, .ref (mm 0)), (3, .int (nI i))] → va_P D vwCl (wA ca x ad mm F' M').flatten H → va_D (fun q : Nat => s.heap.size ≤ q) (wA ca x ad mm F' M').flatten → va_S (fun q : Nat => s.heap.size ≤ q) s.heap H locs → W p l e room_1 s m #[Value.ref b] below meth c H locs 67 1942 (lw_Z below #[Value.ref b] s) (F0 m 1471 ls []))
    (ls : Array Slot) (H : Heap) (locs : List Loc) (hl : lv_has ls 4 [(0, .ref b), (1, .ref x), (2, .ref (mm 0)), (3, .int (nI i))]) (hP : va_P D vwCl (wA ca x ad mm F M).flatten H) (hD : va_D (fun q : Nat => s.heap.size ≤ q) (wA ca x ad mm F M).flatten) (hS : va_S (fun q : Nat => s.heap.size ≤ q) s.heap H locs) : W p l e room_1 s m #[Value.ref b] below meth c H locs 67 1942 (lw_Z below #[Value.ref b] s) (F0 m 612 ls []) := by
  obtain ⟨hx, hb, hr, hml, hown, hts0, hX, hbl, hlocks, hgv⟩ := id C0
  have hown : s.vm.findClass RL = some m.cls := hown
  have hts : ∀ w ∈ wsL_law, w.before #[Value.ref b] s = true := fun w h => hts0 w (wsL_law_in w h)
  have hA : ∀ q : Nat, s.heap.size ≤ q → (fun q : Nat => s.heap.size ≤ q) q := fun _ h => h
  have hbA : ¬ (fun q : Nat => s.heap.size ≤ q) b := Nat.not_le.mpr hbl
  obtain ⟨o, o', h1, h2, he, hR'⟩ := st_drop hR (xs (nI i + (1 : Int32)).toNatClampNeg)
  refine lv_aload_n hx hb dL_law_612 rfl (lv_at hl 1 rfl) ?_
  refine lv_aload_n hx hb dL_law_613 rfl (lv_at hl 0 rfl) ?_
  refine lv_iload_n hx hb dL_law_614 rfl (lv_at hl 3 rfl) ?_
  refine lv_iconst (v := (1 : Int32)) hx hb dL_law_615 (by decide) ?_
  refine lv_iadd hx hb dL_law_616 ?_
  refine va_sld hx hb hX hbl hbA hS (vp_off (k := 1) (by omega) (by omega)) dL_law_617 ?_
  refine zVi (As := [.int (xs (nI i + (1 : Int32)).toNatClampNeg)]) (ci := 7) (bs := wA ca x ad mm F M) (bs' := wA ca x ad mm ((va_up F.1 0 o.2), F.2.1, F.2.2) M) ⟨hx, hb, hml, hown, hts⟩ (k_X7_drop l D ca x (ad 1 0) (ad 2 0) (ad 7 0) (ad 9 0) (ad 10 0) (ad 11 0) (ad 12 0) (ad 0) (F.2.1 2) (F.1 0) (xs (nI i + (1 : Int32)).toNatClampNeg) _ h1) (cwV 1 hts gL_law_X7_drop rfl rfl rfl (by decide +kernel) ⟨(Nat.le_of_ble_eq_true rfl), (Nat.le_of_ble_eq_true rfl)⟩) hK hA hP hD hS dL_law_618 rfl hl.1 [0, 1] [2, 3, 4, 5, 6, 7, 8, 9, 10, 11, 12, 13, 14, 15, 16, 17, 18] (show ([0, 1] ++ [2, 3, 4, 5, 6, 7, 8, 9, 10, 11, 12, 13, 14, 15, 16, 17, 18] : List Nat).Perm (List.range 19) by decide) rfl (show ([0, 1] ++ [2, 3, 4, 5, 6, 7, 8, 9, 10, 11, 12, 13, 14, 15, 16, 17, 18] : List Nat).Perm (List.range 19) by decide) rfl rfl rfl rfl rfl rfl (Nat.le_of_ble_eq_true rfl) ⟨(Nat.le_of_ble_eq_true rfl), (Nat.le_of_ble_eq_true rfl)⟩ (fun H locs hP hD hS => ?_)
  refine lv_aload_n hx hb dL_law_621 rfl (lv_at hl 2 rfl) ?_
  refine lv_aload_n hx hb dL_law_622 rfl (lv_at hl 0 rfl) ?_
  refine lv_iload_n hx hb dL_law_623 rfl (lv_at hl 3 rfl) ?_
  refine lv_iconst (v := (1 : Int32)) hx hb dL_law_624 (by decide) ?_
  refine lv_iadd hx hb dL_law_625 ?_
  refine va_sld hx hb hX hbl hbA hS (vp_off (k := 1) (by omega) (by omega)) dL_law_626 ?_
  refine zVi (As := [.int (xs (nI i + (1 : Int32)).toNatClampNeg)]) (ci := 8) (bs := wA ca x ad mm ((va_up F.1 0 o.2), F.2.1, F.2.2) M) (bs' := wA ca x ad mm ((va_up F.1 0 o.2), F.2.1, F.2.2) o'.2) ⟨hx, hb, hml, hown, hts⟩ (k_X8_drop l D ca mm M (xs (nI i + (1 : Int32)).toNatClampNeg) _ h2) (cwV 1 hts gL_law_X8_drop rfl rfl rfl (by decide +kernel) ⟨(Nat.le_of_ble_eq_true rfl), (Nat.le_of_ble_eq_true rfl)⟩) hK hA hP hD hS dL_law_627 rfl hl.1 [18] [0, 1, 2, 3, 4, 5, 6, 7, 8, 9, 10, 11, 12, 13, 14, 15, 16, 17] (show ([18] ++ [0, 1, 2, 3, 4, 5, 6, 7, 8, 9, 10, 11, 12, 13, 14, 15, 16, 17] : List Nat).Perm (List.range 19) by decide) rfl (show ([18] ++ [0, 1, 2, 3, 4, 5, 6, 7, 8, 9, 10, 11, 12, 13, 14, 15, 16, 17] : List Nat).Perm (List.range 19) by decide) rfl rfl rfl rfl rfl rfl (Nat.le_of_ble_eq_true rfl) ⟨(Nat.le_of_ble_eq_true rfl), (Nat.le_of_ble_eq_true rfl)⟩ (fun H locs hP hD hS => ?_)
  refine lv_icmp_eq (tgt := 1471) hx hb dL_law_630 (by decide) (fun _ => ?_) (fun c1 => absurd he c1)
  exact kk _ _ _ _ _ hR' hl hP hD hS
