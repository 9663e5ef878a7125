/-! worlds as lists of blocks: a call takes some blocks, the rest is never opened -/
theorem vP_iff {D : va_G} {cl : List vw_C} {ws : va_W} {H : Heap} : va_P D cl ws H ↔ ∀ q ∈ ws, va_at D cl q H :=
  ⟨fun h q hq => by obtain ⟨k, hk⟩ := List.getElem?_of_mem hq; exact h k q hk, fun h k q hk => h q (List.mem_of_getElem? hk)⟩
theorem vD_iff {A : Nat → Prop} {ws : va_W} : va_D A ws ↔ (ws.map Prod.fst).Nodup ∧ ∀ q ∈ ws, A q.1 := by
  constructor
  · intro h
    refine ⟨?_, fun q hq => by obtain ⟨k, hk⟩ := List.getElem?_of_mem hq; exact h.2 k q hk⟩
    refine List.pairwise_iff_getElem.mpr ?_
    intro i j hi hj hij e
    rw [List.length_map] at hi hj
    have := h.1 i j ws[i] ws[j] (List.getElem?_eq_getElem hi) (List.getElem?_eq_getElem hj) (by simpa using e)
    omega
  · intro h
    refine ⟨fun i j p q hi hj e => ?_, fun k q hk => h.2 q (List.mem_of_getElem? hk)⟩
    obtain ⟨hi1, hi2⟩ := List.getElem?_eq_some_iff.mp hi
    obtain ⟨hj1, hj2⟩ := List.getElem?_eq_some_iff.mp hj
    have hp := List.pairwise_iff_getElem.mp h.1
    have e2 : ∀ (i j : Nat) (hi : i < ws.length) (hj : j < ws.length), i < j → ws[i].1 ≠ ws[j].1 := fun i j hi hj hij => by
      have := hp i j (by rw [List.length_map]; exact hi) (by rw [List.length_map]; exact hj) hij
      simpa using this
    rcases Nat.lt_trichotomy i j with hlt | heq | hgt
    · exact absurd (by rw [hi2, hj2]; exact e) (e2 i j hi1 hj1 hlt)
    · exact heq
    · exact absurd (by rw [hi2, hj2]; exact e.symm) (e2 j i hj1 hi1 hgt)
theorem vP_perm {D : va_G} {cl : List vw_C} {ws ws' : va_W} {H : Heap} (h : ws.Perm ws') (hP : va_P D cl ws H) : va_P D cl ws' H := vP_iff.mpr fun q hq => vP_iff.mp hP q (h.mem_iff.mpr hq)
theorem vD_perm {A : Nat → Prop} {ws ws' : va_W} (h : ws.Perm ws') (hD : va_D A ws) : va_D A ws' := by
  obtain ⟨h1, h2⟩ := vD_iff.mp hD
  exact vD_iff.mpr ⟨(h.map Prod.fst).nodup_iff.mp h1, fun q hq => h2 q (h.mem_iff.mpr hq)⟩
theorem bl_id (bs : List va_W) : (List.range bs.length).map (fun i => bs.getD i []) = bs := by
  refine List.ext_getElem (by simp) ?_
  intro i h1 h2
  simp [List.getD_eq_getElem?_getD, List.getElem?_eq_getElem h2]
theorem bl_perm {bs : List va_W} {isC isR : List Nat} (h : (isC ++ isR).Perm (List.range bs.length)) : bs.flatten.Perm ((isC.map (fun i => bs.getD i [])).flatten ++ (isR.map (fun i => bs.getD i [])).flatten) := by
  have h1 := (h.map (fun i => bs.getD i [])).flatten
  rw [bl_id, List.map_append, List.flatten_append] at h1
  exact h1.symm
theorem nd_iff {l : List Nat} : va_nd l = true ↔ l.Nodup := by
  induction l with
  | nil => simp [va_nd]
  | cons a l ih => simp [va_nd, ih]
theorem ix_l (a b : va_W) : (List.range a.length).map (fun i => (a ++ b)[i]?) = a.map some := by
  refine List.ext_getElem (by simp) ?_
  intro i h1 h2
  simp only [List.length_map, List.length_range] at h1
  simp [List.getElem?_append_left h1, List.getElem?_eq_getElem h1]
theorem ix_r (a b : va_W) : ((List.range b.length).map (fun i => a.length + i)).map (fun i => (a ++ b)[i]?) = b.map some := by
  refine List.ext_getElem (by simp) ?_
  intro i h1 h2
  simp only [List.length_map, List.length_range] at h1
  simp [List.getElem?_append_right, List.getElem?_eq_getElem h1]
theorem ix_all (a : va_W) : (List.range a.length).map (fun i => a[i]?) = a.map some := by
  have := ix_l a []
  simpa using this
theorem ix_rn (a b : va_W) : va_nd ((List.range b.length).map (fun i => a.length + i)) = true := by
  rw [nd_iff]
  exact List.Pairwise.map _ (fun i j h e => h (by omega)) List.nodup_range
theorem ix_dis (a b : va_W) : ∀ i ∈ (List.range b.length).map (fun i => a.length + i), i ∉ List.range a.length := by
  intro i hi hi2
  obtain ⟨j, -, rfl⟩ := List.mem_map.mp hi
  have := List.mem_range.mp hi2
  omega
section ZZ
variable {p : Program} {l : Launch} {e : Env} {R : Room} {s : State} {m : MethodId} {args : Array Value} {below : List Frame} {meth : Method} {c : Code} {H : Heap} {locs : List Loc} {Q : State → Prop} {cc : ByteArray} {pc : Nat} {ls : Array Slot} {rest : List Value} {D : va_G} {ca : Nat → ClassId} {A : Nat → Prop} {cells slots : Nat}
variable {nL maxL index n mc ms : Nat} {Ts wy : List Cond} {own C : String} {y : MethodName} {bytes : ByteArray} {ret : Option FieldType} {rm : Room} {b : Nat} {As st : List Value} {wc wc' : va_W} {bs bs' : List va_W}
theorem znext {t : State} {H1 : Heap} (isC isR : List Nat) (hP : va_P D vwCl (wc ++ (isR.map (fun i => bs.getD i [])).flatten) H) (hD : va_D A (wc ++ (isR.map (fun i => bs.getD i [])).flatten)) (hp' : (isC ++ isR).Perm (List.range bs'.length)) (hwc' : (isC.map (fun i => bs'.getD i [])).flatten = wc') (hwr : isR.map (fun i => bs'.getD i []) = isR.map (fun i => bs.getD i []))
    (hF : ∀ q, va_A wc H.size q → A q) (ht : t.heap = H1) (hB : Ce D ca (va_A wc H.size) wc' () t) (hk1 : ∀ q : Nat, q < H.size → ¬ va_A wc H.size q → H1[q]? = H[q]?) : va_P D vwCl bs'.flatten H1 ∧ va_D A bs'.flatten := by
  obtain ⟨hP1, hK1, hD1⟩ := hB
  rw [ht] at hP1
  obtain ⟨hP2, hD2⟩ := va_join hP hD _ _ (ix_l _ _) (ix_r _ _) (ix_rn _ _) (ix_dis _ _) hk1 hF hP1 hD1
  have e := bl_perm hp'
  rw [hwc', hwr] at e
  have e2 := List.perm_append_comm.trans e.symm
  exact ⟨vP_perm e2 hP2, vD_perm e2 hD2⟩
theorem zVi {r : Int32} (S : CallFix p m c cc nL s args Ts own) (hC : KI l y wy rm D ca (.ref b :: As) wc wc' r) (cw : CallW R s args own C index y bytes maxL ret wy rm 0 0 n) (hK : va_K D vwCl (TY ca) s) (hA : ∀ q : Nat, s.heap.size ≤ q → A q) (hP : va_P D vwCl bs.flatten H) (hD : va_D A bs.flatten) (hS : va_S A s.heap H locs) (hdg : decode cc pc = .ok (.invokevirtual index, 3)) (hn : As.length = n) (hl : ls.size = nL)
    (isC isR : List Nat) (hp : (isC ++ isR).Perm (List.range bs.length)) (hwc : (isC.map (fun i => bs.getD i [])).flatten = wc) (hp' : (isC ++ isR).Perm (List.range bs'.length)) (hwc' : (isC.map (fun i => bs'.getD i [])).flatten = wc') (hwr : isR.map (fun i => bs'.getD i []) = isR.map (fun i => bs.getD i [])) {ci : Nat} {q : vw_C} {fs : List Value} (hci : vwCl[ci]? = some q) (hq : q.1 = C) (hb0 : wc[0]? = some (b, .inr (ci, fs))) (hst : st = As.reverse ++ .ref b :: rest) (hcat : (rest.map fun v => v.category).sum ≤ 8) (hroom : cells ≤ R.cells ∧ slots ≤ R.slots)
    (kk : ∀ (H1 : Heap) (locs1 : List Loc), va_P D vwCl bs'.flatten H1 → va_D A bs'.flatten → va_S A s.heap H1 locs1 → W p l e R s m args below meth c H1 locs1 cells slots Q (F0 m (pc + 3) ls (.int r :: rest))) : W p l e R s m args below meth c H locs cells slots Q (F0 m pc ls st) := by
  have e := bl_perm hp
  rw [hwc] at e
  have hP0 := vP_perm e hP
  have hD0 := vD_perm e hD
  have hPc := hP0.sub _ (fm_of_map (ix_l wc (isR.map (fun i => bs.getD i [])).flatten))
  have hDc := hD0.sub _ (by rw [nd_iff]; exact List.nodup_range) (ix_l wc (isR.map (fun i => bs.getD i [])).flatten)
  have hF := va_free (wc := wc) hD0 hS hA _ (ix_l wc (isR.map (fun i => bs.getD i [])).flatten)
  subst hq
  refine va_calli (va_runV (As := As) (rest := rest) S (hC H.size) cw ⟨Cw.blind D ca wc H.size _, va_recv hK hPc hci hb0, fun U hU hW => xpre hK hPc hDc hU hW⟩ rfl hn hl hst (lv_room hcat) hdg hroom) hS (fun q _ h => hF q h) hF (fun r1 u t H1 locs1 ht hvm hw hB hz1 hk1 hS1 => ?_)
  subst hw
  obtain ⟨h1, h2⟩ := znext isC isR hP0 hD0 hp' hwc' hwr hF ht hB hk1
  exact kk H1 locs1 h1 h2 hS1
theorem zVl {r : Int64} (S : CallFix p m c cc nL s args Ts own) (hC : KL l y wy rm D ca (.ref b :: As) wc wc' r) (cw : CallW R s args own C index y bytes maxL ret wy rm 0 0 n) (hK : va_K D vwCl (TY ca) s) (hA : ∀ q : Nat, s.heap.size ≤ q → A q) (hP : va_P D vwCl bs.flatten H) (hD : va_D A bs.flatten) (hS : va_S A s.heap H locs) (hdg : decode cc pc = .ok (.invokevirtual index, 3)) (hn : As.length = n) (hl : ls.size = nL)
    (isC isR : List Nat) (hp : (isC ++ isR).Perm (List.range bs.length)) (hwc : (isC.map (fun i => bs.getD i [])).flatten = wc) (hp' : (isC ++ isR).Perm (List.range bs'.length)) (hwc' : (isC.map (fun i => bs'.getD i [])).flatten = wc') (hwr : isR.map (fun i => bs'.getD i []) = isR.map (fun i => bs.getD i [])) {ci : Nat} {q : vw_C} {fs : List Value} (hci : vwCl[ci]? = some q) (hq : q.1 = C) (hb0 : wc[0]? = some (b, .inr (ci, fs))) (hst : st = As.reverse ++ .ref b :: rest) (hcat : (rest.map fun v => v.category).sum ≤ 8) (hroom : cells ≤ R.cells ∧ slots ≤ R.slots)
    (kk : ∀ (H1 : Heap) (locs1 : List Loc), va_P D vwCl bs'.flatten H1 → va_D A bs'.flatten → va_S A s.heap H1 locs1 → W p l e R s m args below meth c H1 locs1 cells slots Q (F0 m (pc + 3) ls (.long r :: rest))) : W p l e R s m args below meth c H locs cells slots Q (F0 m pc ls st) := by
  have e := bl_perm hp
  rw [hwc] at e
  have hP0 := vP_perm e hP
  have hD0 := vD_perm e hD
  have hPc := hP0.sub _ (fm_of_map (ix_l wc (isR.map (fun i => bs.getD i [])).flatten))
  have hDc := hD0.sub _ (by rw [nd_iff]; exact List.nodup_range) (ix_l wc (isR.map (fun i => bs.getD i [])).flatten)
  have hF := va_free (wc := wc) hD0 hS hA _ (ix_l wc (isR.map (fun i => bs.getD i [])).flatten)
  subst hq
  refine va_calll (va_runV (As := As) (rest := rest) S (hC H.size) cw ⟨Cw.blind D ca wc H.size _, va_recv hK hPc hci hb0, fun U hU hW => xpre hK hPc hDc hU hW⟩ rfl hn hl hst (lv_room hcat) hdg hroom) hS (fun q _ h => hF q h) hF (fun r1 u t H1 locs1 ht hvm hw hB hz1 hk1 hS1 => ?_)
  subst hw
  obtain ⟨h1, h2⟩ := znext isC isR hP0 hD0 hp' hwc' hwr hF ht hB hk1
  exact kk H1 locs1 h1 h2 hS1
theorem zVia {aS aV aT : Nat → Nat} {r : Int32} (S : CallFix p m c cc nL s args Ts own) (hC : KIa aS aV aT l y wy rm D ca (.ref b :: As) wc wc' r) (cw : CallW R s args own C index y bytes maxL ret wy rm 0 0 n) (hK : va_K D vwCl (TY ca) s) (hA : ∀ q : Nat, s.heap.size ≤ q → A q) (hP : va_P D vwCl bs.flatten H) (hD : va_D A bs.flatten) (hS : va_S A s.heap H locs) (hAm : Amb aS aV aT A s s.heap) (hRS : RSt aS s) (hdg : decode cc pc = .ok (.invokevirtual index, 3)) (hn : As.length = n) (hl : ls.size = nL)
    (isC isR : List Nat) (hp : (isC ++ isR).Perm (List.range bs.length)) (hwc : (isC.map (fun i => bs.getD i [])).flatten = wc) (hp' : (isC ++ isR).Perm (List.range bs'.length)) (hwc' : (isC.map (fun i => bs'.getD i [])).flatten = wc') (hwr : isR.map (fun i => bs'.getD i []) = isR.map (fun i => bs.getD i [])) {ci : Nat} {q : vw_C} {fs : List Value} (hci : vwCl[ci]? = some q) (hq : q.1 = C) (hb0 : wc[0]? = some (b, .inr (ci, fs))) (hst : st = As.reverse ++ .ref b :: rest) (hcat : (rest.map fun v => v.category).sum ≤ 8) (hroom : cells ≤ R.cells ∧ slots ≤ R.slots)
    (kk : ∀ (H1 : Heap) (locs1 : List Loc), va_P D vwCl bs'.flatten H1 → va_D A bs'.flatten → va_S A s.heap H1 locs1 → W p l e R s m args below meth c H1 locs1 cells slots Q (F0 m (pc + 3) ls (.int r :: rest))) : W p l e R s m args below meth c H locs cells slots Q (F0 m pc ls st) := by
  have e := bl_perm hp
  rw [hwc] at e
  have hP0 := vP_perm e hP
  have hD0 := vD_perm e hD
  have hPc := hP0.sub _ (fm_of_map (ix_l wc (isR.map (fun i => bs.getD i [])).flatten))
  have hDc := hD0.sub _ (by rw [nd_iff]; exact List.nodup_range) (ix_l wc (isR.map (fun i => bs.getD i [])).flatten)
  have hF := va_free (wc := wc) hD0 hS hA _ (ix_l wc (isR.map (fun i => bs.getD i [])).flatten)
  subst hq
  refine va_calli (va_runV (As := As) (rest := rest) S (hC H.size) cw ⟨Cwa.blind aS aV aT D ca wc H.size _, va_recv hK hPc hci hb0, fun U hU hW => xprea hK hPc hDc hAm hRS hS hF hU hW⟩ rfl hn hl hst (lv_room hcat) hdg hroom) hS (fun q _ h => hF q h) hF (fun r1 u t H1 locs1 ht hvm hw hB hz1 hk1 hS1 => ?_)
  subst hw
  obtain ⟨h1, h2⟩ := znext isC isR hP0 hD0 hp' hwc' hwr hF ht hB hk1
  exact kk H1 locs1 h1 h2 hS1
theorem zI {S : Type} {B : S → va_W} {bn : S → List va_W} {N : State → Prop} (hNb : ∀ (U U' : State), U'.vm = U.vm → N U → N U') (hNw : ∀ U : State, s.WarmedH U.vm → N U) (Sx : CallFix p m c cc nL s args Ts own) (hC : KN l y wy rm D ca N [.ref b] wc B mc ms) (cw : CallB R s args own index y bytes maxL none wy rm mc ms 0 ∧ y.name = "<init>" ∧ (Cond.instanceMethod y).before args s = true) (hK : va_K D vwCl (TY ca) s) (hA : ∀ q : Nat, s.heap.size ≤ q → A q) (hP : va_P D vwCl bs.flatten H) (hD : va_D A bs.flatten) (hS : va_S A s.heap H locs) (hdg : decode cc pc = .ok (.invokespecial index, 3)) (hl : ls.size = nL)
    (isC isR : List Nat) (hp : (isC ++ isR).Perm (List.range bs.length)) (hwc : (isC.map (fun i => bs.getD i [])).flatten = wc) (hp' : ∀ u, (isC ++ isR).Perm (List.range (bn u).length)) (hwc' : ∀ u, (isC.map (fun i => (bn u).getD i [])).flatten = B u) (hwr : ∀ u, isR.map (fun i => (bn u).getD i []) = isR.map (fun i => bs.getD i [])) (hst : st = .ref b :: rest) (hcat : (rest.map fun v => v.category).sum ≤ 8) (hroom : cells + mc ≤ R.cells ∧ slots + ms ≤ R.slots)
    (kk : ∀ (u : S) (H1 : Heap) (locs1 : List Loc), va_P D vwCl (bn u).flatten H1 → va_D A (bn u).flatten → va_S A s.heap H1 locs1 → W p l e R s m args below meth c H1 locs1 (cells + mc) (slots + ms) Q (F0 m (pc + 3) ls rest)) : W p l e R s m args below meth c H locs cells slots Q (F0 m pc ls st) := by
  have e := bl_perm hp
  rw [hwc] at e
  have hP0 := vP_perm e hP
  have hD0 := vD_perm e hD
  have hPc := hP0.sub _ (fm_of_map (ix_l wc (isR.map (fun i => bs.getD i [])).flatten))
  have hDc := hD0.sub _ (by rw [nd_iff]; exact List.nodup_range) (ix_l wc (isR.map (fun i => bs.getD i [])).flatten)
  have hF := va_free (wc := wc) hD0 hS hA _ (ix_l wc (isR.map (fun i => bs.getD i [])).flatten)
  refine va_callv (va_runI (As := []) (rest := rest) Sx (hC H.size) cw ⟨yblind hNb D ca wc H.size _, fun U hU hW => ⟨rfl, (xpre (av := []) hK hPc hDc hU hW).2, hNw U hW⟩⟩ rfl rfl hl hst (lv_room hcat) hdg hroom) hS (fun q _ h => hF q h) hF (fun u t H1 locs1 ht hvm hw hB hz1 hk1 hS1 => ?_)
  obtain ⟨h1, h2⟩ := znext isC isR hP0 hD0 (hp' u) (hwc' u) (hwr u) hF ht hB hk1
  exact kk u H1 locs1 h1 h2 hS1
theorem zIN {S : Type} {B : S → va_W} {bn : S → List va_W} {N : State → Prop} {host : String} (hNb : ∀ (U U' : State), U'.vm = U.vm → N U → N U') (hNw : ∀ U : State, s.WarmedH U.vm → N U) (Sx : CallFix p m c cc nL s args Ts own) (hC : KN l y wy rm D ca N [.ref b] wc B mc ms) (cw : va_CN R s args own index y host bytes maxL none wy rm mc ms 0 ∧ y.name = "<init>" ∧ (Cond.instanceMethod y).before args s = true) (hK : va_K D vwCl (TY ca) s) (hA : ∀ q : Nat, s.heap.size ≤ q → A q) (hP : va_P D vwCl bs.flatten H) (hD : va_D A bs.flatten) (hS : va_S A s.heap H locs) (hdg : decode cc pc = .ok (.invokespecial index, 3)) (hl : ls.size = nL)
    (isC isR : List Nat) (hp : (isC ++ isR).Perm (List.range bs.length)) (hwc : (isC.map (fun i => bs.getD i [])).flatten = wc) (hp' : ∀ u, (isC ++ isR).Perm (List.range (bn u).length)) (hwc' : ∀ u, (isC.map (fun i => (bn u).getD i [])).flatten = B u) (hwr : ∀ u, isR.map (fun i => (bn u).getD i []) = isR.map (fun i => bs.getD i [])) (hst : st = .ref b :: rest) (hcat : (rest.map fun v => v.category).sum ≤ 8) (hroom : cells + mc ≤ R.cells ∧ slots + ms ≤ R.slots)
    (kk : ∀ (u : S) (H1 : Heap) (locs1 : List Loc), va_P D vwCl (bn u).flatten H1 → va_D A (bn u).flatten → va_S A s.heap H1 locs1 → W p l e R s m args below meth c H1 locs1 (cells + mc) (slots + ms) Q (F0 m (pc + 3) ls rest)) : W p l e R s m args below meth c H locs cells slots Q (F0 m pc ls st) := by
  have e := bl_perm hp
  rw [hwc] at e
  have hP0 := vP_perm e hP
  have hD0 := vD_perm e hD
  have hPc := hP0.sub _ (fm_of_map (ix_l wc (isR.map (fun i => bs.getD i [])).flatten))
  have hDc := hD0.sub _ (by rw [nd_iff]; exact List.nodup_range) (ix_l wc (isR.map (fun i => bs.getD i [])).flatten)
  have hF := va_free (wc := wc) hD0 hS hA _ (ix_l wc (isR.map (fun i => bs.getD i [])).flatten)
  refine va_callv (va_runIN (As := []) (rest := rest) Sx (hC H.size) cw ⟨yblind hNb D ca wc H.size _, fun U hU hW => ⟨rfl, (xpre (av := []) hK hPc hDc hU hW).2, hNw U hW⟩⟩ rfl rfl hl hst (lv_room hcat) hdg hroom) hS (fun q _ h => hF q h) hF (fun u t H1 locs1 ht hvm hw hB hz1 hk1 hS1 => ?_)
  obtain ⟨h1, h2⟩ := znext isC isR hP0 hD0 (hp' u) (hwc' u) (hwr u) hF ht hB hk1
  exact kk u H1 locs1 h1 h2 hS1
end ZZ
