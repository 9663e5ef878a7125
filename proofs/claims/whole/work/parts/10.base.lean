/-! states: arrays by slot, ints by slot; cells of the objects; contracts; calls; loops -/
abbrev GS : Type := (Nat → Nat → Int32) × (Nat → Int32)
abbrev LmS : Type := (Nat → Int64) × Int64
def sI (g : GS) (k : Nat) (v : Int32) : GS := (g.1, va_up g.2 k v)
def sA (g : GS) (k : Nat) (f : Nat → Int32) : GS := (va_up g.1 k f, g.2)
abbrev TY (ca : Nat → ClassId) : List (ClassId × FieldType) := [(ca 0, .int), (ca 1, .byte), (ca 2, .long), (ca 3, .boolean), (ca 4, .object "FriezeFolk$Image"), (ca 5, .object "FriezeFolk$Row")]
abbrev cH (ca : Nat → ClassId) (a : Nat → Nat) (g : GS) : va_W := [(a 0, .inr (0, [.ref (a 1), .ref (a 2), .ref (a 3), .ref (a 4), .ref (a 5), .int (g.2 5), .int (g.2 6), .int (g.2 7), .int (g.2 8), .int (g.2 9), .int (g.2 10), .int (g.2 11), .int (g.2 12)])), (a 1, .inl (ca 0, 6, .inl (g.1 0))), (a 2, .inl (ca 0, 6, .inl (g.1 1))), (a 3, .inl (ca 0, 12, .inl (g.1 2))), (a 4, .inl (ca 0, 4, .inl (g.1 3))), (a 5, .inl (ca 0, 4, .inl (g.1 4)))]
abbrev cIm (h : Nat) (a : Nat) (v : Int32) : va_W := [(a, .inr (1, [.ref h, .int v]))]
abbrev cL (ca : Nat → ClassId) (a : Nat → Nat) (u : LmS) : va_W := [(a 0, .inr (2, [.ref (a 1), .long u.2])), (a 1, .inl (ca 2, 289, .inr (.inl u.1)))]
abbrev cM (ca : Nat → ClassId) (a : Nat → Nat) (g : GS) : va_W := [(a 0, .inr (3, [.ref (a 1), .ref (a 2), .int (g.2 2)])), (a 1, .inl (ca 0, 6, .inl (g.1 0))), (a 2, .inl (ca 0, 6, .inl (g.1 1)))]
abbrev cP (ca : Nat → ClassId) (a : Nat → Nat) (g : GS) : va_W := [(a 0, .inr (4, [.ref (a 1), .ref (a 2)])), (a 1, .inl (ca 0, 69, .inl (g.1 0))), (a 2, .inl (ca 0, 69, .inl (g.1 1)))]
abbrev cR (ca : Nat → ClassId) (t : Nat) (a : Nat → Nat) (g : GS) : va_W := [(a 0, .inr (5, [.ref t, .ref (a 1), .int (g.2 2), .int (g.2 3), .int (g.2 4), .int (g.2 5), .int (g.2 6), .int (g.2 7), .int (g.2 8), .int (g.2 9)])), (a 1, .inl (ca 1, 160, .inl (g.1 1)))]
abbrev cW (ca : Nat → ClassId) (a : Nat → Nat) (g : GS) : va_W := [(a 0, .inr (6, [.ref (a 1), .int (g.2 1), .int (g.2 2)])), (a 1, .inl (ca 0, 40, .inl (g.1 0)))]
/-- the system's own object: its refs by place (0 hall, 1 trial, 2 images, 3 reader, 4 memory, 5 paperer, 6 lamps, 7 rows), and torn -/
abbrev cF (x r0 r1 r2 r3 r4 r5 r6 r7 : Nat) (v : Int32) : va_W := [(x, .inr (7, [.ref r0, .ref r1, .ref r2, .ref r3, .ref r4, .ref r5, .ref r6, .ref r7, .int v]))]
abbrev cAI (ca : Nat → ClassId) (a : Nat) (f : Nat → Option Nat) : va_W := [(a, .inl (ca 4, 2, .inr (.inr (.inr (.inr f)))))]
abbrev cAR (ca : Nat → ClassId) (a : Nat) (f : Nat → Option Nat) : va_W := [(a, .inl (ca 5, 4, .inr (.inr (.inr (.inr f)))))]
abbrev cN (ca : Nat → ClassId) (n : Nat) (a : Nat) (f : Nat → Int32) : va_W := [(a, .inl (ca 0, n, .inl f))]
abbrev cNL (ca : Nat → ClassId) (n : Nat) (a : Nat) (f : Nat → Int64) : va_W := [(a, .inl (ca 2, n, .inr (.inl f)))]
/-- the reference's object: slot k's array lies at a (k + 1) -/
abbrev cO (ca : Nat → ClassId) (a : Nat → Nat) (g : GS) : va_W := [(a 0, .inr (8, [.ref (a 1), .ref (a 2), .int (g.2 2), .ref (a 4), .int (g.2 4), .int (g.2 5), .int (g.2 6), .int (g.2 7), .int (g.2 8), .int (g.2 9), .int (g.2 10), .int (g.2 11), .ref (a 13), .ref (a 14), .ref (a 15), .ref (a 16), .ref (a 17), .int (g.2 17), .ref (a 19), .ref (a 20), .ref (a 21), .ref (a 22), .ref (a 23), .int (g.2 23)])), (a 1, .inl (ca 0, 240, .inl (g.1 0))), (a 2, .inl (ca 0, 40, .inl (g.1 1))), (a 4, .inl (ca 0, 160, .inl (g.1 3))), (a 13, .inl (ca 0, 9, .inl (g.1 12))), (a 14, .inl (ca 0, 43, .inl (g.1 13))), (a 15, .inl (ca 0, 70, .inl (g.1 14))), (a 16, .inl (ca 0, 70, .inl (g.1 15))), (a 17, .inl (ca 0, 12, .inl (g.1 16))), (a 19, .inl (ca 0, 72, .inl (g.1 18))), (a 20, .inl (ca 3, 2, .inl (g.1 19))), (a 21, .inl (ca 0, 4, .inl (g.1 20))), (a 22, .inl (ca 0, 4, .inl (g.1 21))), (a 23, .inl (ca 0, 160, .inl (g.1 22)))]
-- contracts
def Cw (D : va_G) (ca : Nat → ClassId) (ws : va_W) (sz : Nat) (U : State) : Prop := U.heap.size = sz ∧ va_P D vwCl ws U.heap ∧ va_K D vwCl (TY ca) U ∧ va_D (fun _ => True) ws
def Ce (D : va_G) (ca : Nat → ClassId) (A : Nat → Prop) (ws : va_W) (_ : Unit) (t : State) : Prop := va_P D vwCl ws t.heap ∧ va_K D vwCl (TY ca) t ∧ va_D A ws
/-- y, called with av over the cells ws, answers r, and the cells are ws' -/
def KI (l : Launch) (y : MethodName) (wy : List Cond) (rm : Room) (D : va_G) (ca : Nat → ClassId) (av : List Value) (ws ws' : va_W) (r : Int32) : Prop := ∀ sz : Nat, Met l y wy rm (va_Pc av (Cw D ca ws sz)) (va_Qi (fun r' (_ : Unit) => r' = r) (Ce D ca (va_A ws sz) ws') (va_A ws sz)) 0 0 (va_A ws sz)
def KL (l : Launch) (y : MethodName) (wy : List Cond) (rm : Room) (D : va_G) (ca : Nat → ClassId) (av : List Value) (ws ws' : va_W) (r : Int64) : Prop := ∀ sz : Nat, Met l y wy rm (va_Pc av (Cw D ca ws sz)) (va_Ql (fun r' (_ : Unit) => r' = r) (Ce D ca (va_A ws sz) ws') (va_A ws sz)) 0 0 (va_A ws sz)
def KV (l : Launch) (y : MethodName) (wy : List Cond) (rm : Room) (D : va_G) (ca : Nat → ClassId) (av : List Value) (ws ws' : va_W) : Prop := ∀ sz : Nat, Met l y wy rm (va_Pc av (Cw D ca ws sz)) (va_Qv (fun (_ : Unit) => True) (Ce D ca (va_A ws sz) ws') (va_A ws sz)) 0 0 (va_A ws sz)
def KQ (l : Launch) (y : MethodName) (wy : List Cond) (rm : Room) (D : va_G) (ca : Nat → ClassId) (av : List Value) (ws ws' : va_W) (r : Option Nat) : Prop := ∀ sz : Nat, Met l y wy rm (va_Pc av (Cw D ca ws sz)) (va_Qq (fun r' (_ : Unit) => r' = r) (Ce D ca (va_A ws sz) ws') (va_A ws sz)) 0 0 (va_A ws sz)
theorem Met.ofWF {l : Launch} {y : MethodName} {ws ws' : List Cond} {rm : Room} {Pc : Array Value → State → Prop} {Qc : Array Value → State → Outcome → State → Prop} {mc ms : Nat} {free : Addr → Prop} {cc : ByteArray} {maxL : Nat} {ret : Option FieldType}
    (hy : plainFor y = true) (hw : ws = Cond.code y cc maxL ret :: ws')
    (body : ∀ p e s m args below meth c s₁, BodyLoose p l y (headSpec ws rm) cc maxL ret e s m args below meth c s₁ → c.maxLocals = maxL → Pc args s →
      W p l e (headSpec ws rm).room s m args below meth c s.heap [] 0 0 (MQ below Qc args s mc ms free) (entryFrame m args maxL)) : Met l y ws rm Pc Qc mc ms free := by
  refine MetFree.of_bodySF (code := cc) (maxLocals := maxL) (ret := ret) hy ?_ ?_
  · intro args s m h hn
    obtain ⟨meth, c, h1, h2, h3, h4, h5, h6, -, -⟩ := Cond.code_spec hn (atoms_spec (ws := ws) h _ (by rw [hw]; exact List.mem_cons_self))
    exact ⟨meth, c, h1, h2, h3, h4, h5, h6⟩
  · intro p e s m args below meth c s₁ B hml hP _
    have hh0 : s₁.heap = s.heap := by rw [B.state]; rfl
    obtain ⟨t, a1, o, b1, b2, b3⟩ := body p e s m args below meth c s₁ B hml hP s₁ hh0 (Stand.of_body B)
    exact ⟨t, o, a1, b1, b2, ⟨b3.1, b3.2⟩⟩
theorem KI.of {l : Launch} {y : MethodName} {wy wy' : List Cond} {rm : Room} {D : va_G} {ca : Nat → ClassId} {av : List Value} {ws ws' : va_W} {r : Int32} {cc : ByteArray} {n : Nat} {rt : FieldType} (hy : plainFor y = true) (hw : wy = Cond.code y cc n (some rt) :: wy') (hlen : (lg_sl av).length ≤ n)
    (h : ∀ (p : Program) (e : Env) (s : State) (m : MethodId) (below : List Frame) (meth : Method) (c : Code) (A : Nat → Prop) (Z : State → Prop), p.tables.exec = Jvm.exec → c.code = cc → c.maxLocals = n → (∀ w ∈ wy, w.before av.toArray s = true) → s.vm.findClass y.cls = some m.cls → (∀ q : Nat, s.heap.size ≤ q → A q) → va_K D vwCl (TY ca) s → va_P D vwCl ws s.heap → va_D A ws → va_S A s.heap s.heap [] →
      (∀ (H : Heap) (locs : List Loc) (pc : Nat) (ls : Array Slot), narrow rt (.int r) = .int r → va_P D vwCl ws' H → va_D A ws' → va_S A s.heap H locs → decode cc pc = .ok (.ireturn, 1) → W p l e rm s m av.toArray below meth c H locs 0 0 Z (F0 m pc ls [.int r])) →
      ∀ ls : Array Slot, lv_has ls n (lv_args 0 av) → W p l e rm s m av.toArray below meth c s.heap [] 0 0 Z (F0 m 0 ls [])) : KI l y wy rm D ca av ws ws' r := by
  intro sz
  refine Met.ofWF (cc := cc) (maxL := n) (ret := some rt) hy hw ?_
  intro p e s m args below meth c s₁ B hml hv
  obtain ⟨rfl, hsz, hP, hK, hD0⟩ := hv
  have hts := atoms_spec (ws := wy) B.pre
  have hown : s.vm.findClass y.cls = some m.cls := findClass_of_methodNamed B.named
  have hlocks := B.notSynchronized
  subst hsz
  have hD := hD0.self (sz := s.heap.size)
  rw [lg_entry_eq]
  refine h p e s m below meth c (va_A ws s.heap.size) _ B.exec B.bytes hml hts hown (fun q hq => Or.inr hq) hK hP hD va_S.rf ?_ _ (lv_entry av hlen)
  intro H locs pc ls hn hP' hD' hS' hd
  exact W.zret (v := r) B.exec B.bytes B.returns hn (fun t ht hW => ⟨⟨r, (), rfl, rfl, by rw [ht]; exact hP', va_K.moved hW.alike hK, hD'⟩, hS'.F ht⟩) hS'.2.2 hd
theorem KL.of {l : Launch} {y : MethodName} {wy wy' : List Cond} {rm : Room} {D : va_G} {ca : Nat → ClassId} {av : List Value} {ws ws' : va_W} {r : Int64} {cc : ByteArray} {n : Nat} (hy : plainFor y = true) (hw : wy = Cond.code y cc n (some .long) :: wy') (hlen : (lg_sl av).length ≤ n)
    (h : ∀ (p : Program) (e : Env) (s : State) (m : MethodId) (below : List Frame) (meth : Method) (c : Code) (A : Nat → Prop) (Z : State → Prop), p.tables.exec = Jvm.exec → c.code = cc → c.maxLocals = n → (∀ w ∈ wy, w.before av.toArray s = true) → s.vm.findClass y.cls = some m.cls → (∀ q : Nat, s.heap.size ≤ q → A q) → va_K D vwCl (TY ca) s → va_P D vwCl ws s.heap → va_D A ws → va_S A s.heap s.heap [] →
      (∀ (H : Heap) (locs : List Loc) (pc : Nat) (ls : Array Slot), va_P D vwCl ws' H → va_D A ws' → va_S A s.heap H locs → decode cc pc = .ok (.lreturn, 1) → W p l e rm s m av.toArray below meth c H locs 0 0 Z (F0 m pc ls [.long r])) →
      ∀ ls : Array Slot, lv_has ls n (lv_args 0 av) → W p l e rm s m av.toArray below meth c s.heap [] 0 0 Z (F0 m 0 ls [])) : KL l y wy rm D ca av ws ws' r := by
  intro sz
  refine Met.ofWF (cc := cc) (maxL := n) (ret := some .long) hy hw ?_
  intro p e s m args below meth c s₁ B hml hv
  obtain ⟨rfl, hsz, hP, hK, hD0⟩ := hv
  have hts := atoms_spec (ws := wy) B.pre
  have hown : s.vm.findClass y.cls = some m.cls := findClass_of_methodNamed B.named
  have hlocks := B.notSynchronized
  subst hsz
  have hD := hD0.self (sz := s.heap.size)
  rw [lg_entry_eq]
  refine h p e s m below meth c (va_A ws s.heap.size) _ B.exec B.bytes hml hts hown (fun q hq => Or.inr hq) hK hP hD va_S.rf ?_ _ (lv_entry av hlen)
  intro H locs pc ls hP' hD' hS' hd
  exact W.lret (v := r) B.exec B.bytes B.returns (fun t ht hW => ⟨⟨r, (), rfl, rfl, by rw [ht]; exact hP', va_K.moved hW.alike hK, hD'⟩, hS'.F ht⟩) hS'.2.2 hd
theorem KV.of {l : Launch} {y : MethodName} {wy wy' : List Cond} {rm : Room} {D : va_G} {ca : Nat → ClassId} {av : List Value} {ws ws' : va_W} {cc : ByteArray} {n : Nat} (hy : plainFor y = true) (hw : wy = Cond.code y cc n none :: wy') (hlen : (lg_sl av).length ≤ n)
    (h : ∀ (p : Program) (e : Env) (s : State) (m : MethodId) (below : List Frame) (meth : Method) (c : Code) (A : Nat → Prop) (Z : State → Prop), p.tables.exec = Jvm.exec → c.code = cc → c.maxLocals = n → (∀ w ∈ wy, w.before av.toArray s = true) → s.vm.findClass y.cls = some m.cls → (∀ q : Nat, s.heap.size ≤ q → A q) → va_K D vwCl (TY ca) s → va_P D vwCl ws s.heap → va_D A ws → va_S A s.heap s.heap [] →
      (∀ (H : Heap) (locs : List Loc) (pc : Nat) (ls : Array Slot), va_P D vwCl ws' H → va_D A ws' → va_S A s.heap H locs → decode cc pc = .ok (.return_, 1) → W p l e rm s m av.toArray below meth c H locs 0 0 Z (F0 m pc ls [])) →
      ∀ ls : Array Slot, lv_has ls n (lv_args 0 av) → W p l e rm s m av.toArray below meth c s.heap [] 0 0 Z (F0 m 0 ls [])) : KV l y wy rm D ca av ws ws' := by
  intro sz
  refine Met.ofWF (cc := cc) (maxL := n) (ret := none) hy hw ?_
  intro p e s m args below meth c s₁ B hml hv
  obtain ⟨rfl, hsz, hP, hK, hD0⟩ := hv
  have hts := atoms_spec (ws := wy) B.pre
  have hown : s.vm.findClass y.cls = some m.cls := findClass_of_methodNamed B.named
  have hlocks := B.notSynchronized
  subst hsz
  have hD := hD0.self (sz := s.heap.size)
  rw [lg_entry_eq]
  refine h p e s m below meth c (va_A ws s.heap.size) _ B.exec B.bytes hml hts hown (fun q hq => Or.inr hq) hK hP hD va_S.rf ?_ _ (lv_entry av hlen)
  intro H locs pc ls hP' hD' hS' hd
  exact W.vret B.exec B.bytes B.returns (fun t ht hW => ⟨⟨(), rfl, trivial, by rw [ht]; exact hP', va_K.moved hW.alike hK, hD'⟩, hS'.F ht⟩) hS'.2.2 hd
-- partial operations
def ald (n : Nat) (f : Nat → Int32) (i : Int32) : Option Int32 := if i < 0 ∨ n ≤ i.toNatClampNeg then none else some (f i.toNatClampNeg)
def ast (n : Nat) (f : Nat → Int32) (i x : Int32) : Option (Nat → Int32) := if i < 0 ∨ n ≤ i.toNatClampNeg then none else some (upd f i.toNatClampNeg x)
def aldL (n : Nat) (f : Nat → Int64) (i : Int32) : Option Int64 := if i < 0 ∨ n ≤ i.toNatClampNeg then none else some (f i.toNatClampNeg)
def astL (n : Nat) (f : Nat → Int64) (i : Int32) (x : Int64) : Option (Nat → Int64) := if i < 0 ∨ n ≤ i.toNatClampNeg then none else some (vp_updL f i.toNatClampNeg x)
def idv (x y : Int32) : Option Int32 := if y = 0 then none else some (x / y)
def irm (x y : Int32) : Option Int32 := if y = 0 then none else some (x - x / y * y)
def ldv (x y : Int64) : Option Int64 := if y = 0 then none else some (x / y)
def lrm (x y : Int64) : Option Int64 := if y = 0 then none else some (x - x / y * y)
def rtZ (v : Int32) : Option Int32 := if v = 0 ∨ v = 1 then some v else none
theorem ald_s {n : Nat} {f : Nat → Int32} {i v : Int32} (h : ald n f i = some v) : vp_in i n ∧ f i.toNatClampNeg = v := by
  unfold ald at h; split at h
  · cases h
  · rename_i hc; exact ⟨hc, Option.some.inj h⟩
theorem ast_s {n : Nat} {f f' : Nat → Int32} {i x : Int32} (h : ast n f i x = some f') : vp_in i n ∧ upd f i.toNatClampNeg x = f' := by
  unfold ast at h; split at h
  · cases h
  · rename_i hc; exact ⟨hc, Option.some.inj h⟩
theorem aldL_s {n : Nat} {f : Nat → Int64} {i : Int32} {v : Int64} (h : aldL n f i = some v) : vp_in i n ∧ f i.toNatClampNeg = v := by
  unfold aldL at h; split at h
  · cases h
  · rename_i hc; exact ⟨hc, Option.some.inj h⟩
theorem astL_s {n : Nat} {f f' : Nat → Int64} {i : Int32} {x : Int64} (h : astL n f i x = some f') : vp_in i n ∧ vp_updL f i.toNatClampNeg x = f' := by
  unfold astL at h; split at h
  · cases h
  · rename_i hc; exact ⟨hc, Option.some.inj h⟩
theorem idv_s {x y v : Int32} (h : idv x y = some v) : ¬ y = 0 ∧ x / y = v := by
  unfold idv at h; split at h
  · cases h
  · rename_i hc; exact ⟨hc, Option.some.inj h⟩
theorem irm_s {x y v : Int32} (h : irm x y = some v) : ¬ y = 0 ∧ x - x / y * y = v := by
  unfold irm at h; split at h
  · cases h
  · rename_i hc; exact ⟨hc, Option.some.inj h⟩
theorem ldv_s {x y v : Int64} (h : ldv x y = some v) : ¬ y = 0 ∧ x / y = v := by
  unfold ldv at h; split at h
  · cases h
  · rename_i hc; exact ⟨hc, Option.some.inj h⟩
theorem lrm_s {x y v : Int64} (h : lrm x y = some v) : ¬ y = 0 ∧ x - x / y * y = v := by
  unfold lrm at h; split at h
  · cases h
  · rename_i hc; exact ⟨hc, Option.some.inj h⟩
theorem rtZ_s {x v : Int32} (h : rtZ x = some v) : x = v ∧ narrow .boolean (.int v) = .int v := by
  unfold rtZ at h; split at h
  · rename_i hc
    obtain rfl := Option.some.inj h
    refine ⟨rfl, ?_⟩
    rcases hc with rfl | rfl <;> rfl
  · cases h
theorem obn {α β : Type} {x : Option α} {f : α → Option β} {r : β} (h : Option.bind x f = some r) : ∃ v, x = some v ∧ f v = some r := by
  cases x with
  | none => cases h
  | some v => exact ⟨v, rfl, h⟩
/-- a loop: its body goes on (inl) or leaves (inr) -/
def whO {σ ε : Type} (f : σ → Option (σ ⊕ ε)) : Nat → σ → Option ε
  | 0, _ => none
  | n + 1, s => Option.bind (f s) (fun o => match o with
    | .inl s' => whO f n s'
    | .inr x => some x)
def FU : Nat := 1000000
theorem whO_walk {σ ε : Type} {f : σ → Option (σ ⊕ ε)} {I : σ → Prop} {x : ε} (hs : ∀ s o, f s = some o → (∀ s', o = .inl s' → I s') → (∀ x', o = .inr x' → x' = x) → I s) : ∀ n s, whO f n s = some x → I s := by
  intro n
  induction n with
  | zero => intro s h; cases h
  | succ n ih =>
    intro s h
    obtain ⟨o, ho, h2⟩ := obn (show Option.bind (f s) _ = some x from h)
    refine hs s o ho (fun s' e => ?_) (fun x' e => ?_)
    · subst e; exact ih s' h2
    · subst e; exact Option.some.inj h2
theorem fm_of_map {α : Type} {is : List Nat} {f : Nat → Option α} {ws : List α} (h : is.map f = ws.map some) : is.filterMap f = ws := by
  have e : is.filterMap f = (is.map f).filterMap id := by rw [List.filterMap_map]; rfl
  rw [e, h, List.filterMap_map]
  simp
section XX
variable {p : Program} {l : Launch} {e : Env} {R : Room} {s : State} {m : MethodId} {args : Array Value} {below : List Frame} {meth : Method} {c : Code} {H : Heap} {locs : List Loc} {Q : State → Prop} {cc : ByteArray} {pc : Nat} {ls : Array Slot} {rest : List Value} {D : va_G} {ca : Nat → ClassId} {ws : va_W} {A : Nat → Prop}
theorem xald (hx : p.tables.exec = Jvm.exec) (hb : c.code = cc) (hK : va_K D vwCl (TY ca) s) (hP : va_P D vwCl ws H) (q0 : Nat) {a n : Nat} {f : Nat → Int32} (ha : ws[q0]? = some (a, .inl (ca 0, n, .inl f))) {i v : Int32} (h : ald n f i = some v) (hdg : decode cc pc = .ok (.iaload, 1))
    (kk : W p l e R s m args below meth c H locs 0 0 Q (F0 m (pc + 1) ls (.int v :: rest))) : W p l e R s m args below meth c H locs 0 0 Q (F0 m pc ls (.int i :: .ref a :: rest)) := by
  obtain ⟨h1, rfl⟩ := ald_s h
  exact va_iald hx hb hK hP q0 0 ha rfl h1 hdg kk
theorem xbald (hx : p.tables.exec = Jvm.exec) (hb : c.code = cc) (hK : va_K D vwCl (TY ca) s) (hP : va_P D vwCl ws H) (q0 : Nat) {a n : Nat} {f : Nat → Int32} (ha : ws[q0]? = some (a, .inl (ca 1, n, .inl f))) {i v : Int32} (h : ald n f i = some v) (hdg : decode cc pc = .ok (.baload, 1))
    (kk : W p l e R s m args below meth c H locs 0 0 Q (F0 m (pc + 1) ls (.int v :: rest))) : W p l e R s m args below meth c H locs 0 0 Q (F0 m pc ls (.int i :: .ref a :: rest)) := by
  obtain ⟨h1, rfl⟩ := ald_s h
  exact va_bald hx hb hK hP q0 1 ha rfl h1 hdg kk
theorem xzald (hx : p.tables.exec = Jvm.exec) (hb : c.code = cc) (hK : va_K D vwCl (TY ca) s) (hP : va_P D vwCl ws H) (q0 : Nat) {a n : Nat} {f : Nat → Int32} (ha : ws[q0]? = some (a, .inl (ca 3, n, .inl f))) {i v : Int32} (h : ald n f i = some v) (hdg : decode cc pc = .ok (.baload, 1))
    (kk : W p l e R s m args below meth c H locs 0 0 Q (F0 m (pc + 1) ls (.int v :: rest))) : W p l e R s m args below meth c H locs 0 0 Q (F0 m pc ls (.int i :: .ref a :: rest)) := by
  obtain ⟨h1, rfl⟩ := ald_s h
  exact va_zald hx hb hK hP q0 3 ha rfl h1 hdg kk
theorem xlald (hx : p.tables.exec = Jvm.exec) (hb : c.code = cc) (hK : va_K D vwCl (TY ca) s) (hP : va_P D vwCl ws H) (q0 : Nat) {a n : Nat} {f : Nat → Int64} (ha : ws[q0]? = some (a, .inl (ca 2, n, .inr (.inl f)))) {i : Int32} {v : Int64} (h : aldL n f i = some v) (hdg : decode cc pc = .ok (.laload, 1))
    (kk : W p l e R s m args below meth c H locs 0 0 Q (F0 m (pc + 1) ls (.long v :: rest))) : W p l e R s m args below meth c H locs 0 0 Q (F0 m pc ls (.int i :: .ref a :: rest)) := by
  obtain ⟨h1, rfl⟩ := aldL_s h
  exact va_lald hx hb hK hP q0 2 ha rfl h1 hdg kk
theorem xast (hx : p.tables.exec = Jvm.exec) (hb : c.code = cc) (hK : va_K D vwCl (TY ca) s) (hP : va_P D vwCl ws H) (hD : va_D A ws) (hS : va_S A s.heap H locs) (q0 : Nat) {a n : Nat} {f f' : Nat → Int32} (ha : ws[q0]? = some (a, .inl (ca 0, n, .inl f))) {i x : Int32} (h : ast n f i x = some f') (hdg : decode cc pc = .ok (.iastore, 1)) {wn : va_W} (hn : ws.set q0 (a, .inl (ca 0, n, .inl f')) = wn)
    (kk : ∀ (H1 : Heap) (locs1 : List Loc), va_P D vwCl wn H1 → va_D A wn → va_S A s.heap H1 locs1 → W p l e R s m args below meth c H1 locs1 0 0 Q (F0 m (pc + 1) ls rest)) : W p l e R s m args below meth c H locs 0 0 Q (F0 m pc ls (.int x :: .int i :: .ref a :: rest)) := by
  obtain ⟨h1, rfl⟩ := ast_s h
  subst hn
  exact va_iast hx hb hK hP hD hS q0 0 ha rfl h1 hdg kk
theorem xbast (hx : p.tables.exec = Jvm.exec) (hb : c.code = cc) (hK : va_K D vwCl (TY ca) s) (hP : va_P D vwCl ws H) (hD : va_D A ws) (hS : va_S A s.heap H locs) (q0 : Nat) {a n : Nat} {f f' : Nat → Int32} (ha : ws[q0]? = some (a, .inl (ca 1, n, .inl f))) {i x : Int32} (h : ast n f i (vp_nar .byte x) = some f') (hdg : decode cc pc = .ok (.bastore, 1)) {wn : va_W} (hn : ws.set q0 (a, .inl (ca 1, n, .inl f')) = wn)
    (kk : ∀ (H1 : Heap) (locs1 : List Loc), va_P D vwCl wn H1 → va_D A wn → va_S A s.heap H1 locs1 → W p l e R s m args below meth c H1 locs1 0 0 Q (F0 m (pc + 1) ls rest)) : W p l e R s m args below meth c H locs 0 0 Q (F0 m pc ls (.int x :: .int i :: .ref a :: rest)) := by
  obtain ⟨h1, rfl⟩ := ast_s h
  subst hn
  exact va_bast hx hb hK hP hD hS q0 1 ha rfl h1 hdg kk
theorem xzast (hx : p.tables.exec = Jvm.exec) (hb : c.code = cc) (hK : va_K D vwCl (TY ca) s) (hP : va_P D vwCl ws H) (hD : va_D A ws) (hS : va_S A s.heap H locs) (q0 : Nat) {a n : Nat} {f f' : Nat → Int32} (ha : ws[q0]? = some (a, .inl (ca 3, n, .inl f))) {i x : Int32} (h : ast n f i (vp_nar .boolean x) = some f') (hdg : decode cc pc = .ok (.bastore, 1)) {wn : va_W} (hn : ws.set q0 (a, .inl (ca 3, n, .inl f')) = wn)
    (kk : ∀ (H1 : Heap) (locs1 : List Loc), va_P D vwCl wn H1 → va_D A wn → va_S A s.heap H1 locs1 → W p l e R s m args below meth c H1 locs1 0 0 Q (F0 m (pc + 1) ls rest)) : W p l e R s m args below meth c H locs 0 0 Q (F0 m pc ls (.int x :: .int i :: .ref a :: rest)) := by
  obtain ⟨h1, rfl⟩ := ast_s h
  subst hn
  exact va_zast hx hb hK hP hD hS q0 3 ha rfl h1 hdg kk
theorem xlast (hx : p.tables.exec = Jvm.exec) (hb : c.code = cc) (hK : va_K D vwCl (TY ca) s) (hP : va_P D vwCl ws H) (hD : va_D A ws) (hS : va_S A s.heap H locs) (q0 : Nat) {a n : Nat} {f f' : Nat → Int64} (ha : ws[q0]? = some (a, .inl (ca 2, n, .inr (.inl f)))) {i : Int32} {x : Int64} (h : astL n f i x = some f') (hdg : decode cc pc = .ok (.lastore, 1)) {wn : va_W} (hn : ws.set q0 (a, .inl (ca 2, n, .inr (.inl f'))) = wn)
    (kk : ∀ (H1 : Heap) (locs1 : List Loc), va_P D vwCl wn H1 → va_D A wn → va_S A s.heap H1 locs1 → W p l e R s m args below meth c H1 locs1 0 0 Q (F0 m (pc + 1) ls rest)) : W p l e R s m args below meth c H locs 0 0 Q (F0 m pc ls (.long x :: .int i :: .ref a :: rest)) := by
  obtain ⟨h1, rfl⟩ := astL_s h
  subst hn
  exact va_last hx hb hK hP hD hS q0 2 ha rfl h1 hdg kk
theorem xidv (hx : p.tables.exec = Jvm.exec) (hb : c.code = cc) {x y v : Int32} (h : idv x y = some v) (hdg : decode cc pc = .ok (.idiv, 1)) (k : W p l e R s m args below meth c H locs 0 0 Q (F0 m (pc + 1) ls (.int v :: rest))) : W p l e R s m args below meth c H locs 0 0 Q (F0 m pc ls (.int y :: .int x :: rest)) := by
  obtain ⟨h1, rfl⟩ := idv_s h
  exact lv_idiv hx hb hdg h1 k
theorem xirm (hx : p.tables.exec = Jvm.exec) (hb : c.code = cc) {x y v : Int32} (h : irm x y = some v) (hdg : decode cc pc = .ok (.irem, 1)) (k : W p l e R s m args below meth c H locs 0 0 Q (F0 m (pc + 1) ls (.int v :: rest))) : W p l e R s m args below meth c H locs 0 0 Q (F0 m pc ls (.int y :: .int x :: rest)) := by
  obtain ⟨h1, rfl⟩ := irm_s h
  exact lv_irem hx hb hdg h1 k
theorem xldv (hx : p.tables.exec = Jvm.exec) (hb : c.code = cc) {x y v : Int64} (h : ldv x y = some v) (hdg : decode cc pc = .ok (.ldiv, 1)) (k : W p l e R s m args below meth c H locs 0 0 Q (F0 m (pc + 1) ls (.long v :: rest))) : W p l e R s m args below meth c H locs 0 0 Q (F0 m pc ls (.long y :: .long x :: rest)) := by
  obtain ⟨h1, rfl⟩ := ldv_s h
  exact lv_ldiv hx hb hdg h1 k
theorem xlrm (hx : p.tables.exec = Jvm.exec) (hb : c.code = cc) {x y v : Int64} (h : lrm x y = some v) (hdg : decode cc pc = .ok (.lrem, 1)) (k : W p l e R s m args below meth c H locs 0 0 Q (F0 m (pc + 1) ls (.long v :: rest))) : W p l e R s m args below meth c H locs 0 0 Q (F0 m pc ls (.long y :: .long x :: rest)) := by
  obtain ⟨h1, rfl⟩ := lrm_s h
  exact lv_lrem hx hb hdg h1 k
theorem xput (hx : p.tables.exec = Jvm.exec) (hb : c.code = cc) {own ref C : String} {T : u_T} {N ci index : Nat} {Ts : List Cond} (hts : ∀ w ∈ Ts, w.before args s = true) (hin : ∀ w ∈ u_ws C T N, w ∈ Ts) (ty0 : Nat → FieldType) (hty : ∀ k, k < N → parseFieldDescriptor (T k).2.2.1 = some (ty0 k)) (hnm : ∀ a, a < N → ∀ b, b < N → a ≠ b → (T a).2.1 ≠ (T b).2.1) (hown : s.vm.findClass own = some m.cls) (hK : va_K D vwCl (TY ca) s) (hP : va_P D vwCl ws H) (hD : va_D A ws) (hS0 : va_S A s.heap H locs) (q0 : Nat) {a : Nat} {fs : List Value} (he : ws[q0]? = some (a, .inr (ci, fs))) (hc : vwCl[ci]? = some (C, T, N)) (k : Nat) (hk : k < N) (hlink : (Cond.fieldLink own index ref (T k).2.1 (T k).2.2.1).before args s = true) (href : (T k).1 = ref) (hfin : (T k).2.2.2 = false) {ty : FieldType} {v : Value} (hd : parseFieldDescriptor (T k).2.2.1 = some ty) (hn : narrow ty v = v) (hfit : fits ty v = true) (hl : k < fs.length)
    (hdg : decode cc pc = .ok (.putfield index, 3)) {wn : va_W} (hw : ws.set q0 (a, .inr (ci, fs.set k v)) = wn) (kk : ∀ (H1 : Heap) (locs1 : List Loc), va_P D vwCl wn H1 → va_D A wn → va_S A s.heap H1 locs1 → W p l e R s m args below meth c H1 locs1 0 0 Q (F0 m (pc + 3) ls rest)) : W p l e R s m args below meth c H locs 0 0 Q (F0 m pc ls (v :: .ref a :: rest)) := by
  subst hw
  exact va_put hx hb hts hin ty0 hty hnm hown hK hP hD hS0 q0 he hc k hk hlink (fun x h => by rw [← href]; exact h) hfin hd hn hfit hl hdg kk
theorem xget (hx : p.tables.exec = Jvm.exec) (hb : c.code = cc) {own ref C : String} {T : u_T} {N ci index : Nat} {Ts : List Cond} (hts : ∀ w ∈ Ts, w.before args s = true) (hin : ∀ w ∈ u_ws C T N, w ∈ Ts) (hown : s.vm.findClass own = some m.cls) (hK : va_K D vwCl (TY ca) s) (hP : va_P D vwCl ws H) (q0 : Nat) {a : Nat} {fs : List Value} (he : ws[q0]? = some (a, .inr (ci, fs))) (hc : vwCl[ci]? = some (C, T, N)) (k : Nat) (hk : k < N) (hlink : (Cond.fieldLink own index ref (T k).2.1 (T k).2.2.1).before args s = true) (href : (T k).1 = ref) {v : Value} (hv : fs[k]? = some v) (hdg : decode cc pc = .ok (.getfield index, 3))
    (kk : W p l e R s m args below meth c H locs 0 0 Q (F0 m (pc + 3) ls (v :: rest))) : W p l e R s m args below meth c H locs 0 0 Q (F0 m pc ls (.ref a :: rest)) :=
  va_get hx hb hts hin hown hK hP q0 he hc k hk hlink (fun x h => by rw [← href]; exact h) hv hdg kk
-- calls
variable {nL maxL index n : Nat} {Ts wy : List Cond} {own C : String} {y : MethodName} {bytes : ByteArray} {ret : Option FieldType} {rm : Room} {b : Nat} {As st : List Value} {wc wc' wr wn : va_W}
theorem Cw.blind (D : va_G) (ca : Nat → ClassId) (wc : va_W) (sz : Nat) (av : List Value) : FrameBlind (va_Pc av (Cw D ca wc sz)) := fun a U g mk q => by
  obtain ⟨q0, q1, qP, qK, qD⟩ := q
  exact ⟨q0, q1, qP, va_K.moved (u := U) (U := U.calling g mk a) (Vm.Alike.refl U.vm) qK, qD⟩
theorem xnext {t : State} {H1 : Heap} (hP : va_P D vwCl ws H) (hD : va_D A ws) (isC isR pm : List Nat) (hCs : isC.map (fun i => ws[i]?) = wc.map some) (hRs : isR.map (fun i => ws[i]?) = wr.map some) (hnd : va_nd isR = true) (hdis : ∀ i ∈ isR, i ∉ isC) (hpm : pm.map (fun i => (wr ++ wc')[i]?) = wn.map some) (hpn : va_nd pm = true)
    (hF : ∀ q, va_A wc H.size q → A q) (ht : t.heap = H1) (hB : Ce D ca (va_A wc H.size) wc' () t) (hk1 : ∀ q : Nat, q < H.size → ¬ va_A wc H.size q → H1[q]? = H[q]?) : va_P D vwCl wn H1 ∧ va_D A wn := by
  obtain ⟨hP1, hK1, hD1⟩ := hB
  rw [ht] at hP1
  obtain ⟨hP2, hD2⟩ := va_join hP hD isC isR hCs hRs hnd hdis hk1 hF hP1 hD1
  exact ⟨hP2.sub pm (fm_of_map hpm), hD2.sub pm hpn hpm⟩
theorem xpre {U : State} {av : List Value} (hK : va_K D vwCl (TY ca) s) (hPc : va_P D vwCl wc H) (hDc : va_D A wc) (hU : U.heap = H) (hW : s.WarmedH U.vm) : va_Pc av (Cw D ca wc H.size) av.toArray U :=
  ⟨rfl, by rw [hU], by rw [hU]; exact hPc, va_K.moved hW.alike hK, hDc.weaken (fun _ _ _ _ => trivial)⟩
theorem xVi {r : Int32} (S : CallFix p m c cc nL s args Ts own) (hC : KI l y wy rm D ca (.ref b :: As) wc wc' r) (cw : CallW R s args own C index y bytes maxL ret wy rm 0 0 n) (hK : va_K D vwCl (TY ca) s) (hA : ∀ q : Nat, s.heap.size ≤ q → A q) (hP : va_P D vwCl ws H) (hD : va_D A ws) (hS : va_S A s.heap H locs) (hdg : decode cc pc = .ok (.invokevirtual index, 3)) (hn : As.length = n) (hl : ls.size = nL)
    (isC isR pm : List Nat) (hnc : va_nd isC = true) (hCs : isC.map (fun i => ws[i]?) = wc.map some) (hRs : isR.map (fun i => ws[i]?) = wr.map some) (hnd : va_nd isR = true) (hdis : ∀ i ∈ isR, i ∉ isC) (hpm : pm.map (fun i => (wr ++ wc')[i]?) = wn.map some) (hpn : va_nd pm = true) {ci : Nat} {q : vw_C} {fs : List Value} (hci : vwCl[ci]? = some q) (hq : q.1 = C) (hb0 : wc[0]? = some (b, .inr (ci, fs))) (hst : st = As.reverse ++ .ref b :: rest) (hcat : (rest.map fun v => v.category).sum ≤ 8)
    (kk : ∀ (H1 : Heap) (locs1 : List Loc), va_P D vwCl wn H1 → va_D A wn → va_S A s.heap H1 locs1 → W p l e R s m args below meth c H1 locs1 0 0 Q (F0 m (pc + 3) ls (.int r :: rest))) : W p l e R s m args below meth c H locs 0 0 Q (F0 m pc ls st) := by
  have hPc := hP.sub isC (fm_of_map hCs)
  have hDc := hD.sub isC hnc hCs
  have hF := va_free (wc := wc) hD hS hA isC hCs
  subst hq
  refine va_calli (va_runV (As := As) (rest := rest) S (hC H.size) cw ⟨Cw.blind D ca wc H.size _, va_recv hK hPc hci hb0, fun U hU hW => xpre hK hPc hDc hU hW⟩ rfl hn hl hst (lv_room hcat) hdg ⟨Nat.zero_le _, Nat.zero_le _⟩) hS (fun q _ h => hF q h) hF (fun r1 u t H1 locs1 ht hvm hw hB hz1 hk1 hS1 => ?_)
  subst hw
  obtain ⟨h1, h2⟩ := xnext hP hD isC isR pm hCs hRs hnd hdis hpm hpn hF ht hB hk1
  exact kk H1 locs1 h1 h2 hS1
theorem xVl {r : Int64} (S : CallFix p m c cc nL s args Ts own) (hC : KL l y wy rm D ca (.ref b :: As) wc wc' r) (cw : CallW R s args own C index y bytes maxL ret wy rm 0 0 n) (hK : va_K D vwCl (TY ca) s) (hA : ∀ q : Nat, s.heap.size ≤ q → A q) (hP : va_P D vwCl ws H) (hD : va_D A ws) (hS : va_S A s.heap H locs) (hdg : decode cc pc = .ok (.invokevirtual index, 3)) (hn : As.length = n) (hl : ls.size = nL)
    (isC isR pm : List Nat) (hnc : va_nd isC = true) (hCs : isC.map (fun i => ws[i]?) = wc.map some) (hRs : isR.map (fun i => ws[i]?) = wr.map some) (hnd : va_nd isR = true) (hdis : ∀ i ∈ isR, i ∉ isC) (hpm : pm.map (fun i => (wr ++ wc')[i]?) = wn.map some) (hpn : va_nd pm = true) {ci : Nat} {q : vw_C} {fs : List Value} (hci : vwCl[ci]? = some q) (hq : q.1 = C) (hb0 : wc[0]? = some (b, .inr (ci, fs))) (hst : st = As.reverse ++ .ref b :: rest) (hcat : (rest.map fun v => v.category).sum ≤ 8)
    (kk : ∀ (H1 : Heap) (locs1 : List Loc), va_P D vwCl wn H1 → va_D A wn → va_S A s.heap H1 locs1 → W p l e R s m args below meth c H1 locs1 0 0 Q (F0 m (pc + 3) ls (.long r :: rest))) : W p l e R s m args below meth c H locs 0 0 Q (F0 m pc ls st) := by
  have hPc := hP.sub isC (fm_of_map hCs)
  have hDc := hD.sub isC hnc hCs
  have hF := va_free (wc := wc) hD hS hA isC hCs
  subst hq
  refine va_calll (va_runV (As := As) (rest := rest) S (hC H.size) cw ⟨Cw.blind D ca wc H.size _, va_recv hK hPc hci hb0, fun U hU hW => xpre hK hPc hDc hU hW⟩ rfl hn hl hst (lv_room hcat) hdg ⟨Nat.zero_le _, Nat.zero_le _⟩) hS (fun q _ h => hF q h) hF (fun r1 u t H1 locs1 ht hvm hw hB hz1 hk1 hS1 => ?_)
  subst hw
  obtain ⟨h1, h2⟩ := xnext hP hD isC isR pm hCs hRs hnd hdis hpm hpn hF ht hB hk1
  exact kk H1 locs1 h1 h2 hS1
theorem xVv (S : CallFix p m c cc nL s args Ts own) (hC : KV l y wy rm D ca (.ref b :: As) wc wc') (cw : CallW R s args own C index y bytes maxL ret wy rm 0 0 n) (hK : va_K D vwCl (TY ca) s) (hA : ∀ q : Nat, s.heap.size ≤ q → A q) (hP : va_P D vwCl ws H) (hD : va_D A ws) (hS : va_S A s.heap H locs) (hdg : decode cc pc = .ok (.invokevirtual index, 3)) (hn : As.length = n) (hl : ls.size = nL)
    (isC isR pm : List Nat) (hnc : va_nd isC = true) (hCs : isC.map (fun i => ws[i]?) = wc.map some) (hRs : isR.map (fun i => ws[i]?) = wr.map some) (hnd : va_nd isR = true) (hdis : ∀ i ∈ isR, i ∉ isC) (hpm : pm.map (fun i => (wr ++ wc')[i]?) = wn.map some) (hpn : va_nd pm = true) {ci : Nat} {q : vw_C} {fs : List Value} (hci : vwCl[ci]? = some q) (hq : q.1 = C) (hb0 : wc[0]? = some (b, .inr (ci, fs))) (hst : st = As.reverse ++ .ref b :: rest) (hcat : (rest.map fun v => v.category).sum ≤ 8)
    (kk : ∀ (H1 : Heap) (locs1 : List Loc), va_P D vwCl wn H1 → va_D A wn → va_S A s.heap H1 locs1 → W p l e R s m args below meth c H1 locs1 0 0 Q (F0 m (pc + 3) ls rest)) : W p l e R s m args below meth c H locs 0 0 Q (F0 m pc ls st) := by
  have hPc := hP.sub isC (fm_of_map hCs)
  have hDc := hD.sub isC hnc hCs
  have hF := va_free (wc := wc) hD hS hA isC hCs
  subst hq
  refine va_callv (va_runV (As := As) (rest := rest) S (hC H.size) cw ⟨Cw.blind D ca wc H.size _, va_recv hK hPc hci hb0, fun U hU hW => xpre hK hPc hDc hU hW⟩ rfl hn hl hst (lv_room hcat) hdg ⟨Nat.zero_le _, Nat.zero_le _⟩) hS (fun q _ h => hF q h) hF (fun u t H1 locs1 ht hvm hw hB hz1 hk1 hS1 => ?_)
  obtain ⟨h1, h2⟩ := xnext hP hD isC isR pm hCs hRs hnd hdis hpm hpn hF ht hB hk1
  exact kk H1 locs1 h1 h2 hS1
theorem xVq {r : Option Nat} (S : CallFix p m c cc nL s args Ts own) (hC : KQ l y wy rm D ca (.ref b :: As) wc wc' r) (cw : CallW R s args own C index y bytes maxL ret wy rm 0 0 n) (hK : va_K D vwCl (TY ca) s) (hA : ∀ q : Nat, s.heap.size ≤ q → A q) (hP : va_P D vwCl ws H) (hD : va_D A ws) (hS : va_S A s.heap H locs) (hdg : decode cc pc = .ok (.invokevirtual index, 3)) (hn : As.length = n) (hl : ls.size = nL)
    (isC isR pm : List Nat) (hnc : va_nd isC = true) (hCs : isC.map (fun i => ws[i]?) = wc.map some) (hRs : isR.map (fun i => ws[i]?) = wr.map some) (hnd : va_nd isR = true) (hdis : ∀ i ∈ isR, i ∉ isC) (hpm : pm.map (fun i => (wr ++ wc')[i]?) = wn.map some) (hpn : va_nd pm = true) {ci : Nat} {q : vw_C} {fs : List Value} (hci : vwCl[ci]? = some q) (hq : q.1 = C) (hb0 : wc[0]? = some (b, .inr (ci, fs))) (hst : st = As.reverse ++ .ref b :: rest) (hcat : (rest.map fun v => v.category).sum ≤ 8)
    (kk : ∀ (H1 : Heap) (locs1 : List Loc), va_P D vwCl wn H1 → va_D A wn → va_S A s.heap H1 locs1 → W p l e R s m args below meth c H1 locs1 0 0 Q (F0 m (pc + 3) ls (va_rf r :: rest))) : W p l e R s m args below meth c H locs 0 0 Q (F0 m pc ls st) := by
  have hPc := hP.sub isC (fm_of_map hCs)
  have hDc := hD.sub isC hnc hCs
  have hF := va_free (wc := wc) hD hS hA isC hCs
  subst hq
  refine va_callq (va_runV (As := As) (rest := rest) S (hC H.size) cw ⟨Cw.blind D ca wc H.size _, va_recv hK hPc hci hb0, fun U hU hW => xpre hK hPc hDc hU hW⟩ rfl hn hl hst (lv_room hcat) hdg ⟨Nat.zero_le _, Nat.zero_le _⟩) hS (fun q _ h => hF q h) hF (fun r1 u t H1 locs1 ht hvm hw hB hz1 hk1 hS1 => ?_)
  subst hw
  obtain ⟨h1, h2⟩ := xnext hP hD isC isR pm hCs hRs hnd hdis hpm hpn hF ht hB hk1
  exact kk H1 locs1 h1 h2 hS1
theorem xSi {r : Int32} (S : CallFix p m c cc nL s args Ts own) (hC : KI l y wy rm D ca As wc wc' r) (cw : CallB R s args own index y bytes maxL ret wy rm 0 0 n ∧ (Cond.static y).before args s = true) (hK : va_K D vwCl (TY ca) s) (hA : ∀ q : Nat, s.heap.size ≤ q → A q) (hP : va_P D vwCl ws H) (hD : va_D A ws) (hS : va_S A s.heap H locs) (hdg : decode cc pc = .ok (.invokestatic index, 3)) (hn : As.length = n) (hl : ls.size = nL)
    (isC isR pm : List Nat) (hnc : va_nd isC = true) (hCs : isC.map (fun i => ws[i]?) = wc.map some) (hRs : isR.map (fun i => ws[i]?) = wr.map some) (hnd : va_nd isR = true) (hdis : ∀ i ∈ isR, i ∉ isC) (hpm : pm.map (fun i => (wr ++ wc')[i]?) = wn.map some) (hpn : va_nd pm = true) (hst : st = As.reverse ++ rest) (hcat : (rest.map fun v => v.category).sum ≤ 8)
    (kk : ∀ (H1 : Heap) (locs1 : List Loc), va_P D vwCl wn H1 → va_D A wn → va_S A s.heap H1 locs1 → W p l e R s m args below meth c H1 locs1 0 0 Q (F0 m (pc + 3) ls (.int r :: rest))) : W p l e R s m args below meth c H locs 0 0 Q (F0 m pc ls st) := by
  have hPc := hP.sub isC (fm_of_map hCs)
  have hDc := hD.sub isC hnc hCs
  have hF := va_free (wc := wc) hD hS hA isC hCs
  refine va_calli (va_runS (As := As) (rest := rest) S (hC H.size) cw ⟨Cw.blind D ca wc H.size _, fun U hU hW => xpre hK hPc hDc hU hW⟩ rfl hn hl hst (lv_room hcat) hdg ⟨Nat.zero_le _, Nat.zero_le _⟩) hS (fun q _ h => hF q h) hF (fun r1 u t H1 locs1 ht hvm hw hB hz1 hk1 hS1 => ?_)
  subst hw
  obtain ⟨h1, h2⟩ := xnext hP hD isC isR pm hCs hRs hnd hdis hpm hpn hF ht hB hk1
  exact kk H1 locs1 h1 h2 hS1
theorem xSl {r : Int64} (S : CallFix p m c cc nL s args Ts own) (hC : KL l y wy rm D ca As wc wc' r) (cw : CallB R s args own index y bytes maxL ret wy rm 0 0 n ∧ (Cond.static y).before args s = true) (hK : va_K D vwCl (TY ca) s) (hA : ∀ q : Nat, s.heap.size ≤ q → A q) (hP : va_P D vwCl ws H) (hD : va_D A ws) (hS : va_S A s.heap H locs) (hdg : decode cc pc = .ok (.invokestatic index, 3)) (hn : As.length = n) (hl : ls.size = nL)
    (isC isR pm : List Nat) (hnc : va_nd isC = true) (hCs : isC.map (fun i => ws[i]?) = wc.map some) (hRs : isR.map (fun i => ws[i]?) = wr.map some) (hnd : va_nd isR = true) (hdis : ∀ i ∈ isR, i ∉ isC) (hpm : pm.map (fun i => (wr ++ wc')[i]?) = wn.map some) (hpn : va_nd pm = true) (hst : st = As.reverse ++ rest) (hcat : (rest.map fun v => v.category).sum ≤ 8)
    (kk : ∀ (H1 : Heap) (locs1 : List Loc), va_P D vwCl wn H1 → va_D A wn → va_S A s.heap H1 locs1 → W p l e R s m args below meth c H1 locs1 0 0 Q (F0 m (pc + 3) ls (.long r :: rest))) : W p l e R s m args below meth c H locs 0 0 Q (F0 m pc ls st) := by
  have hPc := hP.sub isC (fm_of_map hCs)
  have hDc := hD.sub isC hnc hCs
  have hF := va_free (wc := wc) hD hS hA isC hCs
  refine va_calll (va_runS (As := As) (rest := rest) S (hC H.size) cw ⟨Cw.blind D ca wc H.size _, fun U hU hW => xpre hK hPc hDc hU hW⟩ rfl hn hl hst (lv_room hcat) hdg ⟨Nat.zero_le _, Nat.zero_le _⟩) hS (fun q _ h => hF q h) hF (fun r1 u t H1 locs1 ht hvm hw hB hz1 hk1 hS1 => ?_)
  subst hw
  obtain ⟨h1, h2⟩ := xnext hP hD isC isR pm hCs hRs hnd hdis hpm hpn hF ht hB hk1
  exact kk H1 locs1 h1 h2 hS1
theorem xSv (S : CallFix p m c cc nL s args Ts own) (hC : KV l y wy rm D ca As wc wc') (cw : CallB R s args own index y bytes maxL ret wy rm 0 0 n ∧ (Cond.static y).before args s = true) (hK : va_K D vwCl (TY ca) s) (hA : ∀ q : Nat, s.heap.size ≤ q → A q) (hP : va_P D vwCl ws H) (hD : va_D A ws) (hS : va_S A s.heap H locs) (hdg : decode cc pc = .ok (.invokestatic index, 3)) (hn : As.length = n) (hl : ls.size = nL)
    (isC isR pm : List Nat) (hnc : va_nd isC = true) (hCs : isC.map (fun i => ws[i]?) = wc.map some) (hRs : isR.map (fun i => ws[i]?) = wr.map some) (hnd : va_nd isR = true) (hdis : ∀ i ∈ isR, i ∉ isC) (hpm : pm.map (fun i => (wr ++ wc')[i]?) = wn.map some) (hpn : va_nd pm = true) (hst : st = As.reverse ++ rest) (hcat : (rest.map fun v => v.category).sum ≤ 8)
    (kk : ∀ (H1 : Heap) (locs1 : List Loc), va_P D vwCl wn H1 → va_D A wn → va_S A s.heap H1 locs1 → W p l e R s m args below meth c H1 locs1 0 0 Q (F0 m (pc + 3) ls rest)) : W p l e R s m args below meth c H locs 0 0 Q (F0 m pc ls st) := by
  have hPc := hP.sub isC (fm_of_map hCs)
  have hDc := hD.sub isC hnc hCs
  have hF := va_free (wc := wc) hD hS hA isC hCs
  refine va_callv (va_runS (As := As) (rest := rest) S (hC H.size) cw ⟨Cw.blind D ca wc H.size _, fun U hU hW => xpre hK hPc hDc hU hW⟩ rfl hn hl hst (lv_room hcat) hdg ⟨Nat.zero_le _, Nat.zero_le _⟩) hS (fun q _ h => hF q h) hF (fun u t H1 locs1 ht hvm hw hB hz1 hk1 hS1 => ?_)
  obtain ⟨h1, h2⟩ := xnext hP hD isC isR pm hCs hRs hnd hdis hpm hpn hF ht hB hk1
  exact kk H1 locs1 h1 h2 hS1
end XX
section XY
variable {p : Program} {l : Launch} {e : Env} {R : Room} {s : State} {m : MethodId} {args : Array Value} {below : List Frame} {meth : Method} {c : Code} {H : Heap} {locs : List Loc} {Q : State → Prop} {cc : ByteArray} {pc : Nat} {ls : Array Slot} {rest : List Value} {D : va_G} {ca : Nat → ClassId} {ws : va_W} {A : Nat → Prop}
theorem xcpy (hx : p.tables.exec = Jvm.exec) (hb : c.code = cc) (hml : c.maxLocals = ls.size) {own : String} {index : Nat} (hown : s.vm.findClass own = some m.cls) (hlink : (Cond.methodLink own index arraycopyName).before args s = true) (hnat : (Cond.native arraycopyName).before args s = true) (hstat : (Cond.static arraycopyName).before args s = true) (hini : (Cond.initialized "java/lang/System").before args s = true)
    (hK : va_K D vwCl (TY ca) s) (hP : va_P D vwCl ws H) (hD : va_D A ws) (hS : va_S A s.heap H locs) (q0 q1 : Nat) {a a0 : Nat} {n0 n1 : Nat} {f g : Nat → Int32} (ha0 : ws[q0]? = some (a0, .inl (ca 0, n0, .inl f))) (ha1 : ws[q1]? = some (a, .inl (ca 0, n1, .inl g)))
    {n : Int32} {k : Nat} (h3 : ¬ n < 0) (hk : n.toNatClampNeg = k) (h4 : k ≤ n0 ∧ k ≤ n1)
    (hframes : 1 ≤ R.frames) (hlocals : (rest.map fun v => v.category).sum + (nativeFrameWords "java/lang/System" "arraycopy" 5 + 11) ≤ R.locals) (hdg : decode cc pc = .ok (.invokestatic index, 3)) {wn : va_W} (hn : ws.set q1 (a, .inl (ca 0, n1, .inl (va_cpy f g 0 0 k))) = wn)
    (kk : ∀ (H1 : Heap) (locs1 : List Loc), va_P D vwCl wn H1 → va_D A wn → va_S A s.heap H1 locs1 → W p l e R s m args below meth c H1 locs1 0 0 Q (F0 m (pc + 3) ls rest)) : W p l e R s m args below meth c H locs 0 0 Q (F0 m pc ls (.int n :: .int 0 :: .ref a :: .int 0 :: .ref a0 :: rest)) := by
  subst hn
  have z0 : (0 : Int32).toNatClampNeg = 0 := by decide
  refine va_copyi (ty := .int) hx hb hml hown hlink hnat hstat hini hK hP hD hS q0 q1 0 0 ha0 ha1 rfl rfl rfl (by decide) (by decide) h3 (by rw [z0, hk]; omega) (by rw [z0, hk]; omega) (fun _ _ => rfl) hframes hlocals hdg ?_
  intro H1 locs1 h1 h2 h3
  rw [z0, hk] at h1 h2
  exact kk H1 locs1 h1 h2 h3
end XY
def esc {α β : Type} (v : α ⊕ β) (f : α → Option β) : Option β := match v with
  | .inl t => f t
  | .inr x => some x
theorem esc_l {α β : Type} (t : α) (f : α → Option β) : esc (.inl t) f = f t := rfl
theorem esc_r {α β : Type} (x : β) (f : α → Option β) : esc (.inr x) f = some x := rfl
theorem lk_out2 {x d o0 o1 : Int} (h0 : ¬ x = 0) (h1 : ¬ x = 1) : Op.lookupswitch.offset [(0, o0), (1, o1)] d x = d := by
  simp [Op.lookupswitch.offset, h0, h1, Ne.symm h0, Ne.symm h1]
theorem nar0 : narrow .boolean (.int 0) = .int 0 := rfl
theorem nar1 : narrow .boolean (.int 1) = .int 1 := rfl
