/-! what lies outside the worlds: the String constants, the static arrays, two statics of the JDK -/
def txL : List Nat := [5, 8, 5, 5, 4, 6, 6, 4]
def txB : List (List Int32) := [[112, 108, 97, 105, 110], [99, 111, 110, 102, 105, 100, 101, 114], [99, 104, 105, 108, 100], [99, 108, 101, 114, 107], [119, 97, 108, 108], [119, 105, 110, 100, 111, 119], [117, 112, 115, 105, 100, 101], [114, 111, 108, 108]]
def txI : List Nat := [123, 129, 131, 133, 135, 137, 138, 139]
def txS : List String := ["plain", "confider", "child", "clerk", "wall", "window", "upside", "\x72oll"]
def stN : List String := ["FIRST_LEAST", "FIRST_MOST", "SECOND_LEAST", "SECOND_MOST"]
def tabL : List (List Int32) := [[0, 0, 0, 0, 1, 0, 0, 1], [9, 9, 9, 9, 12, 11, 11, 9], [0, 0, 0, 0, 0, 0, 0, 1], [0, 0, 0, 0, 5, 11, 0, 9]]
def tabF (k : Nat) : Nat → Int32 := fun j => (tabL.getD k []).getD j 0
def Amb (aS aV aT : Nat → Nat) (A : Nat → Prop) (U : State) (H : Heap) : Prop := va_Z RJ0 "COMPACT_STRINGS" "Z" (.int 1) A U H ∧ va_Zq RJ3 "SIOOBE_FORMATTER" "Ljava/util/function/BiFunction;" A U H ∧ vk_S 8 txL txB aS aV A U H ∧ ∀ k : Nat, k < 4 → va_Z RX5 (stN.getD k "") "[I" (.ref (aT k)) A U H ∧ va_T .int (aT k) 8 (fun j => .int (tabF k j)) A U H
theorem Amb.moved {aS aV aT : Nat → Nat} {A : Nat → Prop} {u U : State} {H : Heap} (hvm : u.vm.Alike U.vm) (h : Amb aS aV aT A u H) : Amb aS aV aT A U H := ⟨h.1.moved hvm, h.2.1.moved hvm, h.2.2.1.moved hvm, fun k hk => ⟨(h.2.2.2 k hk).1.moved hvm, (h.2.2.2 k hk).2.moved hvm⟩⟩
theorem Amb.kept {aS aV aT : Nat → Nat} {A : Nat → Prop} {U : State} {H H1 : Heap} (h : Amb aS aV aT A U H) (hq : ∀ a : Nat, a < H.size → ¬ A a → H1[a]? = H[a]?) : Amb aS aV aT A U H1 := ⟨h.1.kept hq, h.2.1.kept hq, h.2.2.1.kept hq, fun k hk => ⟨(h.2.2.2 k hk).1.kept hq, (h.2.2.2 k hk).2.kept hq⟩⟩
theorem Amb.narrow {aS aV aT : Nat → Nat} {A B : Nat → Prop} {U : State} {H : Heap} (h : Amb aS aV aT A U H) (hAB : ∀ q, B q → A q) : Amb aS aV aT B U H := ⟨h.1.narrow hAB, h.2.1.narrow hAB, h.2.2.1.narrow hAB, fun k hk => ⟨(h.2.2.2 k hk).1.narrow hAB, (h.2.2.2 k hk).2.narrow hAB⟩⟩
def RSt (aS : Nat → Nat) (U : State) : Prop := ∀ k : Nat, k < 8 → vk_R RX5 (txI.getD k 0) (txS.getD k "") (aS k) U
theorem RSt.warm {aS : Nat → Nat} {s U : State} (hW : s.WarmedH U.vm) (h : RSt aS s) : RSt aS U := fun k hk => vk_R.warm hW (h k hk)
theorem RSt.same {aS : Nat → Nat} {u U : State} (hv : U.vm = u.vm) (h : RSt aS u) : RSt aS U := fun k hk => vk_R.same hv (h k hk)
def Am (aS aV aT : Nat → Nat) (A : Nat → Prop) (U : State) : Prop := Amb aS aV aT A U U.heap ∧ RSt aS U
def Cwa (aS aV aT : Nat → Nat) (D : va_G) (ca : Nat → ClassId) (ws : va_W) (sz : Nat) (U : State) : Prop := Cw D ca ws sz U ∧ Am aS aV aT (va_A ws sz) U
theorem Cwa.blind (aS aV aT : Nat → Nat) (D : va_G) (ca : Nat → ClassId) (wc : va_W) (sz : Nat) (av : List Value) : FrameBlind (va_Pc av (Cwa aS aV aT D ca wc sz)) := fun a U g mk q => by
  obtain ⟨q0, ⟨q1, qP, qK, qD⟩, qA, qR⟩ := q
  exact ⟨q0, ⟨q1, qP, va_K.moved (u := U) (U := U.calling g mk a) (Vm.Alike.refl U.vm) qK, qD⟩, Amb.moved (u := U) (U := U.calling g mk a) (Vm.Alike.refl U.vm) qA, RSt.same (u := U) (U := U.calling g mk a) rfl qR⟩
def KIa (aS aV aT : Nat → Nat) (l : Launch) (y : MethodName) (wy : List Cond) (rm : Room) (D : va_G) (ca : Nat → ClassId) (av : List Value) (ws ws' : va_W) (r : Int32) : Prop := ∀ sz : Nat, Met l y wy rm (va_Pc av (Cwa aS aV aT D ca ws sz)) (va_Qi (fun r' (_ : Unit) => r' = r) (Ce D ca (va_A ws sz) ws') (va_A ws sz)) 0 0 (va_A ws sz)
def KVa (aS aV aT : Nat → Nat) (l : Launch) (y : MethodName) (wy : List Cond) (rm : Room) (D : va_G) (ca : Nat → ClassId) (av : List Value) (ws ws' : va_W)  : Prop := ∀ sz : Nat, Met l y wy rm (va_Pc av (Cwa aS aV aT D ca ws sz)) (va_Qv (fun (_ : Unit) => True) (Ce D ca (va_A ws sz) ws') (va_A ws sz)) 0 0 (va_A ws sz)
theorem KIa.of {aS aV aT : Nat → Nat} {l : Launch} {y : MethodName} {wy wy' : List Cond} {rm : Room} {D : va_G} {ca : Nat → ClassId} {av : List Value} {ws ws' : va_W} {r : Int32} {cc : ByteArray} {n : Nat} {rt : FieldType} (hy : plainFor y = true) (hw : wy = Cond.code y cc n (some rt) :: wy') (hlen : (lg_sl av).length ≤ n)
    (h : ∀ (p : Program) (e : Env) (s : State) (m : MethodId) (below : List Frame) (meth : Method) (c : Code) (A : Nat → Prop) (Z : State → Prop), p.tables.exec = Jvm.exec → c.code = cc → c.maxLocals = n → (∀ w ∈ wy, w.before av.toArray s = true) → s.vm.findClass y.cls = some m.cls → (∀ q : Nat, s.heap.size ≤ q → A q) → va_K D vwCl (TY ca) s → va_P D vwCl ws s.heap → va_D A ws → va_S A s.heap s.heap [] → Amb aS aV aT A s s.heap → RSt aS s →
      (∀ (H : Heap) (locs : List Loc) (pc : Nat) (ls : Array Slot), narrow rt (.int r) = .int r → va_P D vwCl ws' H → va_D A ws' → va_S A s.heap H locs → decode cc pc = .ok (.ireturn, 1) → W p l e rm s m av.toArray below meth c H locs 0 0 Z (F0 m pc ls [.int r])) →
      ∀ ls : Array Slot, lv_has ls n (lv_args 0 av) → W p l e rm s m av.toArray below meth c s.heap [] 0 0 Z (F0 m 0 ls [])) : KIa aS aV aT l y wy rm D ca av ws ws' r := by
  intro sz
  refine Met.ofWF (cc := cc) (maxL := n) (ret := some rt) hy hw ?_
  intro p e s m args below meth c s₁ B hml hv
  obtain ⟨rfl, ⟨hsz, hP, hK, hD0⟩, hAm, hRS⟩ := hv
  have hts := atoms_spec (ws := wy) B.pre
  have hown : s.vm.findClass y.cls = some m.cls := findClass_of_methodNamed B.named
  have hlocks := B.notSynchronized
  subst hsz
  have hD := hD0.self (sz := s.heap.size)
  rw [lg_entry_eq]
  refine h p e s m below meth c (va_A ws s.heap.size) _ B.exec B.bytes hml hts hown (fun q hq => Or.inr hq) hK hP hD va_S.rf hAm hRS ?_ _ (lv_entry av hlen)
  intro H locs pc ls hn hP' hD' hS' hd
  exact W.zret (v := r) B.exec B.bytes B.returns hn (fun t ht hW => ⟨⟨r, (), rfl, rfl, by rw [ht]; exact hP', va_K.moved hW.alike hK, hD'⟩, hS'.F ht⟩) hS'.2.2 hd
theorem KVa.of {aS aV aT : Nat → Nat} {l : Launch} {y : MethodName} {wy wy' : List Cond} {rm : Room} {D : va_G} {ca : Nat → ClassId} {av : List Value} {ws ws' : va_W} {cc : ByteArray} {n : Nat} (hy : plainFor y = true) (hw : wy = Cond.code y cc n none :: wy') (hlen : (lg_sl av).length ≤ n)
    (h : ∀ (p : Program) (e : Env) (s : State) (m : MethodId) (below : List Frame) (meth : Method) (c : Code) (A : Nat → Prop) (Z : State → Prop), p.tables.exec = Jvm.exec → c.code = cc → c.maxLocals = n → (∀ w ∈ wy, w.before av.toArray s = true) → s.vm.findClass y.cls = some m.cls → (∀ q : Nat, s.heap.size ≤ q → A q) → va_K D vwCl (TY ca) s → va_P D vwCl ws s.heap → va_D A ws → va_S A s.heap s.heap [] → Amb aS aV aT A s s.heap → RSt aS s →
      (∀ (H : Heap) (locs : List Loc) (pc : Nat) (ls : Array Slot), va_P D vwCl ws' H → va_D A ws' → va_S A s.heap H locs → decode cc pc = .ok (.return_, 1) → W p l e rm s m av.toArray below meth c H locs 0 0 Z (F0 m pc ls [])) →
      ∀ ls : Array Slot, lv_has ls n (lv_args 0 av) → W p l e rm s m av.toArray below meth c s.heap [] 0 0 Z (F0 m 0 ls [])) : KVa aS aV aT l y wy rm D ca av ws ws' := by
  intro sz
  refine Met.ofWF (cc := cc) (maxL := n) (ret := none) hy hw ?_
  intro p e s m args below meth c s₁ B hml hv
  obtain ⟨rfl, ⟨hsz, hP, hK, hD0⟩, hAm, hRS⟩ := hv
  have hts := atoms_spec (ws := wy) B.pre
  have hown : s.vm.findClass y.cls = some m.cls := findClass_of_methodNamed B.named
  have hlocks := B.notSynchronized
  subst hsz
  have hD := hD0.self (sz := s.heap.size)
  rw [lg_entry_eq]
  refine h p e s m below meth c (va_A ws s.heap.size) _ B.exec B.bytes hml hts hown (fun q hq => Or.inr hq) hK hP hD va_S.rf hAm hRS ?_ _ (lv_entry av hlen)
  intro H locs pc ls hP' hD' hS' hd
  exact W.vret B.exec B.bytes B.returns (fun t ht hW => ⟨⟨(), rfl, trivial, by rw [ht]; exact hP', va_K.moved hW.alike hK, hD'⟩, hS'.F ht⟩) hS'.2.2 hd
section XA
variable {p : Program} {l : Launch} {e : Env} {R : Room} {s : State} {m : MethodId} {args : Array Value} {below : List Frame} {meth : Method} {c : Code} {H : Heap} {locs : List Loc} {Q : State → Prop} {cc : ByteArray} {pc : Nat} {ls : Array Slot} {rest : List Value} {D : va_G} {ca : Nat → ClassId} {ws : va_W} {A : Nat → Prop}
variable {nL maxL index n : Nat} {Ts wy : List Cond} {own C : String} {y : MethodName} {bytes : ByteArray} {ret : Option FieldType} {rm : Room} {b : Nat} {As st : List Value} {wc wc' wr wn : va_W} {aS aV aT : Nat → Nat}
theorem xprea {U : State} {av : List Value} (hK : va_K D vwCl (TY ca) s) (hPc : va_P D vwCl wc H) (hDc : va_D A wc) (hAm : Amb aS aV aT A s s.heap) (hRS : RSt aS s) (hS : va_S A s.heap H locs) (hF : ∀ q, va_A wc H.size q → A q) (hU : U.heap = H) (hW : s.WarmedH U.vm) : va_Pc av (Cwa aS aV aT D ca wc H.size) av.toArray U :=
  ⟨rfl, ⟨by rw [hU], by rw [hU]; exact hPc, va_K.moved hW.alike hK, hDc.weaken (fun _ _ _ _ => trivial)⟩, by rw [hU]; exact ((hAm.kept hS.2.1).narrow hF).moved hW.alike, hRS.warm hW⟩
theorem xVia {r : Int32} (S : CallFix p m c cc nL s args Ts own) (hC : KIa aS aV aT l y wy rm D ca (.ref b :: As) wc wc' r) (cw : CallW R s args own C index y bytes maxL ret wy rm 0 0 n) (hK : va_K D vwCl (TY ca) s) (hA : ∀ q : Nat, s.heap.size ≤ q → A q) (hP : va_P D vwCl ws H) (hD : va_D A ws) (hS : va_S A s.heap H locs) (hAm : Amb aS aV aT A s s.heap) (hRS : RSt aS s) (hdg : decode cc pc = .ok (.invokevirtual index, 3)) (hn : As.length = n) (hl : ls.size = nL)
    (isC isR pm : List Nat) (hnc : va_nd isC = true) (hCs : isC.map (fun i => ws[i]?) = wc.map some) (hRs : isR.map (fun i => ws[i]?) = wr.map some) (hnd : va_nd isR = true) (hdis : ∀ i ∈ isR, i ∉ isC) (hpm : pm.map (fun i => (wr ++ wc')[i]?) = wn.map some) (hpn : va_nd pm = true) (hrecv : ∃ cell : Cell, H[b]? = some cell ∧ cell.vm.isStatics = false ∧ s.vm.findClass C = some cell.cls) (hst : st = As.reverse ++ .ref b :: rest) (hcat : (rest.map fun v => v.category).sum ≤ 8)
    (kk : ∀ (H1 : Heap) (locs1 : List Loc), va_P D vwCl wn H1 → va_D A wn → va_S A s.heap H1 locs1 → W p l e R s m args below meth c H1 locs1 0 0 Q (F0 m (pc + 3) ls (.int r :: rest))) : W p l e R s m args below meth c H locs 0 0 Q (F0 m pc ls st) := by
  have hPc := hP.sub isC (fm_of_map hCs)
  have hDc := hD.sub isC hnc hCs
  have hF := va_free (wc := wc) hD hS hA isC hCs
  refine va_calli (va_runV (As := As) (rest := rest) S (hC H.size) cw ⟨Cwa.blind aS aV aT D ca wc H.size _, hrecv, fun U hU hW => xprea hK hPc hDc hAm hRS hS hF hU hW⟩ rfl hn hl hst (lv_room hcat) hdg ⟨Nat.zero_le _, Nat.zero_le _⟩) hS (fun q _ h => hF q h) hF (fun r1 u t H1 locs1 ht hvm hw hB hz1 hk1 hS1 => ?_)
  subst hw
  obtain ⟨h1, h2⟩ := xnext hP hD isC isR pm hCs hRs hnd hdis hpm hpn hF ht hB hk1
  exact kk H1 locs1 h1 h2 hS1
theorem xVva (S : CallFix p m c cc nL s args Ts own) (hC : KVa aS aV aT l y wy rm D ca (.ref b :: As) wc wc') (cw : CallW R s args own C index y bytes maxL ret wy rm 0 0 n) (hK : va_K D vwCl (TY ca) s) (hA : ∀ q : Nat, s.heap.size ≤ q → A q) (hP : va_P D vwCl ws H) (hD : va_D A ws) (hS : va_S A s.heap H locs) (hAm : Amb aS aV aT A s s.heap) (hRS : RSt aS s) (hdg : decode cc pc = .ok (.invokevirtual index, 3)) (hn : As.length = n) (hl : ls.size = nL)
    (isC isR pm : List Nat) (hnc : va_nd isC = true) (hCs : isC.map (fun i => ws[i]?) = wc.map some) (hRs : isR.map (fun i => ws[i]?) = wr.map some) (hnd : va_nd isR = true) (hdis : ∀ i ∈ isR, i ∉ isC) (hpm : pm.map (fun i => (wr ++ wc')[i]?) = wn.map some) (hpn : va_nd pm = true) (hrecv : ∃ cell : Cell, H[b]? = some cell ∧ cell.vm.isStatics = false ∧ s.vm.findClass C = some cell.cls) (hst : st = As.reverse ++ .ref b :: rest) (hcat : (rest.map fun v => v.category).sum ≤ 8)
    (kk : ∀ (H1 : Heap) (locs1 : List Loc), va_P D vwCl wn H1 → va_D A wn → va_S A s.heap H1 locs1 → W p l e R s m args below meth c H1 locs1 0 0 Q (F0 m (pc + 3) ls rest)) : W p l e R s m args below meth c H locs 0 0 Q (F0 m pc ls st) := by
  have hPc := hP.sub isC (fm_of_map hCs)
  have hDc := hD.sub isC hnc hCs
  have hF := va_free (wc := wc) hD hS hA isC hCs
  refine va_callv (va_runV (As := As) (rest := rest) S (hC H.size) cw ⟨Cwa.blind aS aV aT D ca wc H.size _, hrecv, fun U hU hW => xprea hK hPc hDc hAm hRS hS hF hU hW⟩ rfl hn hl hst (lv_room hcat) hdg ⟨Nat.zero_le _, Nat.zero_le _⟩) hS (fun q _ h => hF q h) hF (fun u t H1 locs1 ht hvm hw hB hz1 hk1 hS1 => ?_)
  obtain ⟨h1, h2⟩ := xnext hP hD isC isR pm hCs hRs hnd hdis hpm hpn hF ht hB hk1
  exact kk H1 locs1 h1 h2 hS1
theorem xSia {r : Int32} (S : CallFix p m c cc nL s args Ts own) (hC : KIa aS aV aT l y wy rm D ca As wc wc' r) (cw : CallB R s args own index y bytes maxL ret wy rm 0 0 n ∧ (Cond.static y).before args s = true) (hK : va_K D vwCl (TY ca) s) (hA : ∀ q : Nat, s.heap.size ≤ q → A q) (hP : va_P D vwCl ws H) (hD : va_D A ws) (hS : va_S A s.heap H locs) (hAm : Amb aS aV aT A s s.heap) (hRS : RSt aS s) (hdg : decode cc pc = .ok (.invokestatic index, 3)) (hn : As.length = n) (hl : ls.size = nL)
    (isC isR pm : List Nat) (hnc : va_nd isC = true) (hCs : isC.map (fun i => ws[i]?) = wc.map some) (hRs : isR.map (fun i => ws[i]?) = wr.map some) (hnd : va_nd isR = true) (hdis : ∀ i ∈ isR, i ∉ isC) (hpm : pm.map (fun i => (wr ++ wc')[i]?) = wn.map some) (hpn : va_nd pm = true) (hst : st = As.reverse ++ rest) (hcat : (rest.map fun v => v.category).sum ≤ 8)
    (kk : ∀ (H1 : Heap) (locs1 : List Loc), va_P D vwCl wn H1 → va_D A wn → va_S A s.heap H1 locs1 → W p l e R s m args below meth c H1 locs1 0 0 Q (F0 m (pc + 3) ls (.int r :: rest))) : W p l e R s m args below meth c H locs 0 0 Q (F0 m pc ls st) := by
  have hPc := hP.sub isC (fm_of_map hCs)
  have hDc := hD.sub isC hnc hCs
  have hF := va_free (wc := wc) hD hS hA isC hCs
  refine va_calli (va_runS (As := As) (rest := rest) S (hC H.size) cw ⟨Cwa.blind aS aV aT D ca wc H.size _, fun U hU hW => xprea hK hPc hDc hAm hRS hS hF hU hW⟩ rfl hn hl hst (lv_room hcat) hdg ⟨Nat.zero_le _, Nat.zero_le _⟩) hS (fun q _ h => hF q h) hF (fun r1 u t H1 locs1 ht hvm hw hB hz1 hk1 hS1 => ?_)
  subst hw
  obtain ⟨h1, h2⟩ := xnext hP hD isC isR pm hCs hRs hnd hdis hpm hpn hF ht hB hk1
  exact kk H1 locs1 h1 h2 hS1
theorem xSva (S : CallFix p m c cc nL s args Ts own) (hC : KVa aS aV aT l y wy rm D ca As wc wc') (cw : CallB R s args own index y bytes maxL ret wy rm 0 0 n ∧ (Cond.static y).before args s = true) (hK : va_K D vwCl (TY ca) s) (hA : ∀ q : Nat, s.heap.size ≤ q → A q) (hP : va_P D vwCl ws H) (hD : va_D A ws) (hS : va_S A s.heap H locs) (hAm : Amb aS aV aT A s s.heap) (hRS : RSt aS s) (hdg : decode cc pc = .ok (.invokestatic index, 3)) (hn : As.length = n) (hl : ls.size = nL)
    (isC isR pm : List Nat) (hnc : va_nd isC = true) (hCs : isC.map (fun i => ws[i]?) = wc.map some) (hRs : isR.map (fun i => ws[i]?) = wr.map some) (hnd : va_nd isR = true) (hdis : ∀ i ∈ isR, i ∉ isC) (hpm : pm.map (fun i => (wr ++ wc')[i]?) = wn.map some) (hpn : va_nd pm = true) (hst : st = As.reverse ++ rest) (hcat : (rest.map fun v => v.category).sum ≤ 8)
    (kk : ∀ (H1 : Heap) (locs1 : List Loc), va_P D vwCl wn H1 → va_D A wn → va_S A s.heap H1 locs1 → W p l e R s m args below meth c H1 locs1 0 0 Q (F0 m (pc + 3) ls rest)) : W p l e R s m args below meth c H locs 0 0 Q (F0 m pc ls st) := by
  have hPc := hP.sub isC (fm_of_map hCs)
  have hDc := hD.sub isC hnc hCs
  have hF := va_free (wc := wc) hD hS hA isC hCs
  refine va_callv (va_runS (As := As) (rest := rest) S (hC H.size) cw ⟨Cwa.blind aS aV aT D ca wc H.size _, fun U hU hW => xprea hK hPc hDc hAm hRS hS hF hU hW⟩ rfl hn hl hst (lv_room hcat) hdg ⟨Nat.zero_le _, Nat.zero_le _⟩) hS (fun q _ h => hF q h) hF (fun u t H1 locs1 ht hvm hw hB hz1 hk1 hS1 => ?_)
  obtain ⟨h1, h2⟩ := xnext hP hD isC isR pm hCs hRs hnd hdis hpm hpn hF ht hB hk1
  exact kk H1 locs1 h1 h2 hS1
end XA
