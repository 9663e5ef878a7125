theorem KQ.of {l : Launch} {y : MethodName} {wy wy' : List Cond} {rm : Room} {D : va_G} {ca : Nat → ClassId} {av : List Value} {ws ws' : va_W} {r : Option Nat} {cc : ByteArray} {n : Nat} {cn : String} (hy : plainFor y = true) (hw : wy = Cond.code y cc n (some (.object cn)) :: wy') (hlen : (lg_sl av).length ≤ n)
    (h : ∀ (p : Program) (e : Env) (s : State) (m : MethodId) (below : List Frame) (meth : Method) (c : Code) (A : Nat → Prop) (Z : State → Prop), p.tables.exec = Jvm.exec → c.code = cc → c.maxLocals = n → (∀ w ∈ wy, w.before av.toArray s = true) → s.vm.findClass y.cls = some m.cls → (∀ q : Nat, s.heap.size ≤ q → A q) → va_K D vwCl (TY ca) s → va_P D vwCl ws s.heap → va_D A ws → va_S A s.heap s.heap [] →
      (∀ (H : Heap) (locs : List Loc) (pc : Nat) (ls : Array Slot), va_P D vwCl ws' H → va_D A ws' → va_S A s.heap H locs → decode cc pc = .ok (.areturn, 1) → W p l e rm s m av.toArray below meth c H locs 0 0 Z (F0 m pc ls [va_rf r])) →
      ∀ ls : Array Slot, lv_has ls n (lv_args 0 av) → W p l e rm s m av.toArray below meth c s.heap [] 0 0 Z (F0 m 0 ls [])) : KQ l y wy rm D ca av ws ws' r := by
  intro sz
  refine Met.ofWF (cc := cc) (maxL := n) (ret := some (.object cn)) hy hw ?_
  intro p e s m args below meth c s₁ B hml hv
  obtain ⟨rfl, hsz, hP, hK, hD0⟩ := hv
  have hts := atoms_spec (ws := wy) B.pre
  have hown : s.vm.findClass y.cls = some m.cls := findClass_of_methodNamed B.named
  have hlocks := B.notSynchronized
  subst hsz
  have hD := hD0.self (sz := s.heap.size)
  rw [lg_entry_eq]
  refine h p e s m below meth c (va_A ws s.heap.size) _ B.exec B.bytes hml hts hown (fun q hq => Or.inr hq) hK hP hD va_S.rf ?_ _ (lv_entry av hlen)
  intro H locs pc ls hP' hD' hS' hd
  exact W.aret (v := va_rf r) B.exec B.bytes B.returns (Or.inl ⟨cn, rfl⟩) (by cases r with
    | none => exact Or.inl rfl
    | some a => exact Or.inr ⟨a, rfl⟩) (fun t ht hW => ⟨⟨r, (), rfl, rfl, by rw [ht]; exact hP', va_K.moved hW.alike hK, hD'⟩, hS'.F ht⟩) hS'.2.2 hd
def selO (n : Nat) (f : Nat → Option Nat) (k : Int32) : Option Nat := if k < 0 ∨ n ≤ k.toNatClampNeg then none else f k.toNatClampNeg
theorem sel_none {n : Nat} {f : Nat → Option Nat} {k : Int32} (c : k < 0 ∨ n ≤ k.toNatClampNeg) : selO n f k = none := if_pos c
theorem sel_some {n a : Nat} {f : Nat → Option Nat} {k : Int32} (c : ¬ (k < 0 ∨ n ≤ k.toNatClampNeg)) (h : f k.toNatClampNeg = some a) : selO n f k = some a := (if_neg c).trans h
theorem sel_ge {k : Int32} (n : Nat) (hn : n < 2 ^ 31) (h : ¬ k < 0) : nI n ≤ k ↔ n ≤ k.toNatClampNeg := by
  obtain ⟨j, hj, rfl⟩ := nI_of h
  rw [nI_clamp hj, nI_leI hn hj]
abbrev rmX7_imageOf : Room := { frames := 0, cells := 0, slots := 0, locals := 0 }
abbrev rmX7_rowOf : Room := { frames := 0, cells := 0, slots := 0, locals := 0 }
set_option maxHeartbeats 4000000 in
set_option maxRecDepth 100000 in
theorem k_X7_imageOf (l : Launch) (D : va_G) (ca : Nat → ClassId) (ffa : Nat) (r0 r1 r3 r4 r5 r6 r7 : Nat) (imsa : Nat) (ims : Nat → Option Nat) (ff : Int32) (k : Int32) (r : Option Nat) (hm : selO 2 ims k = r) : KQ l yX7_imageOf wsX7_imageOf rmX7_imageOf D ca [.ref ffa, .int k] ((cF ffa r0 r1 imsa r3 r4 r5 r6 r7 ff) ++ (cAI ca imsa ims)) ((cF ffa r0 r1 imsa r3 r4 r5 r6 r7 ff) ++ (cAI ca imsa ims)) r := by
  refine KQ.of (cc := cX7_imageOf) (n := 2) (plainFor_of_name (by decide)) rfl (Nat.le_of_ble_eq_true rfl) ?_
  intro p e s m below meth c A Z hx hb hml hts hown hA hK hP hD hS hret ls hl
  have hown : s.vm.findClass RX7 = some m.cls := hown
  have hl : lv_has ls 2 [(0, .ref ffa), (1, .int k)] := hl
  have inX7 : ∀ w ∈ wsX70, w ∈ wsX7_imageOf := by decide +kernel
  have k1 := hts (.fieldLink RX7 22 "FriezeFolk" "images" "[LFriezeFolk$Image;") (by decide +kernel)
  have hnull : selO 2 ims k = none → W p l e rmX7_imageOf s m ([.ref ffa, .int k] : List Value).toArray below meth c s.heap [] 0 0 Z (F0 m 22 ls []) := by
    intro h9
    rw [h9] at hm
    subst hm
    refine lv_null hx hb dX7_imageOf_22 ?_
    exact hret _ _ _ _ hP hD hS dX7_imageOf_23
  refine lv_iload_n hx hb dX7_imageOf_0 rfl (lv_at hl 1 rfl) ?_
  refine lv_if_lt (tgt := 22) hx hb dX7_imageOf_1 (by decide) (fun c1 => hnull (sel_none (Or.inl c1))) (fun c1 => ?_)
  refine lv_iload_n hx hb dX7_imageOf_4 rfl (lv_at hl 1 rfl) ?_
  refine lv_aload_n hx hb dX7_imageOf_5 rfl (lv_at hl 0 rfl) ?_
  refine xget (ref := "FriezeFolk") (C := RX7) (T := TX7) (N := 9) (ci := 7) (v := .ref imsa) hx hb hts inX7 hown hK hP 0 rfl rfl 2 (by decide) k1 rfl rfl dX7_imageOf_6 ?_
  refine va_alen (v := (2 : Int32)) hx hb hK hP 1 4 rfl rfl rfl dX7_imageOf_9 ?_
  refine lv_icmp_ge (tgt := 22) hx hb dX7_imageOf_10 (by decide) (fun c2 => hnull (sel_none (Or.inr ((sel_ge 2 (by decide) c1).mp c2)))) (fun c2 => ?_)
  have c3 : ¬ (k < 0 ∨ 2 ≤ k.toNatClampNeg) := fun z => z.elim c1 (fun z => c2 ((sel_ge 2 (by decide) c1).mpr z))
  rw [show selO 2 ims k = ims k.toNatClampNeg from if_neg c3] at hm
  subst hm
  refine lv_aload_n hx hb dX7_imageOf_13 rfl (lv_at hl 0 rfl) ?_
  refine xget (ref := "FriezeFolk") (C := RX7) (T := TX7) (N := 9) (ci := 7) (v := .ref imsa) hx hb hts inX7 hown hK hP 0 rfl rfl 2 (by decide) k1 rfl rfl dX7_imageOf_14 ?_
  refine lv_iload_n hx hb dX7_imageOf_17 rfl (lv_at hl 1 rfl) ?_
  refine va_aldq (C := "FriezeFolk$Image") hx hb hK hP 1 4 rfl rfl c3 dX7_imageOf_18 ?_
  refine lv_goto (tgt := 23) hx hb dX7_imageOf_19 (by decide) ?_
  exact hret _ _ _ _ hP hD hS dX7_imageOf_23
set_option maxHeartbeats 4000000 in
set_option maxRecDepth 100000 in
theorem k_X7_rowOf (l : Launch) (D : va_G) (ca : Nat → ClassId) (ffa : Nat) (r0 r1 r2 r3 r4 r5 r6 : Nat) (rosa : Nat) (ros : Nat → Option Nat) (ff : Int32) (k : Int32) (r : Option Nat) (hm : selO 4 ros k = r) : KQ l yX7_rowOf wsX7_rowOf rmX7_rowOf D ca [.ref ffa, .int k] ((cF ffa r0 r1 r2 r3 r4 r5 r6 rosa ff) ++ (cAR ca rosa ros)) ((cF ffa r0 r1 r2 r3 r4 r5 r6 rosa ff) ++ (cAR ca rosa ros)) r := by
  refine KQ.of (cc := cX7_rowOf) (n := 2) (plainFor_of_name (by decide)) rfl (Nat.le_of_ble_eq_true rfl) ?_
  intro p e s m below meth c A Z hx hb hml hts hown hA hK hP hD hS hret ls hl
  have hown : s.vm.findClass RX7 = some m.cls := hown
  have hl : lv_has ls 2 [(0, .ref ffa), (1, .int k)] := hl
  have inX7 : ∀ w ∈ wsX70, w ∈ wsX7_rowOf := by decide +kernel
  have k1 := hts (.fieldLink RX7 57 "FriezeFolk" "rows" "[LFriezeFolk$Row;") (by decide +kernel)
  have hnull : selO 4 ros k = none → W p l e rmX7_rowOf s m ([.ref ffa, .int k] : List Value).toArray below meth c s.heap [] 0 0 Z (F0 m 22 ls []) := by
    intro h9
    rw [h9] at hm
    subst hm
    refine lv_null hx hb dX7_rowOf_22 ?_
    exact hret _ _ _ _ hP hD hS dX7_rowOf_23
  refine lv_iload_n hx hb dX7_rowOf_0 rfl (lv_at hl 1 rfl) ?_
  refine lv_if_lt (tgt := 22) hx hb dX7_rowOf_1 (by decide) (fun c1 => hnull (sel_none (Or.inl c1))) (fun c1 => ?_)
  refine lv_iload_n hx hb dX7_rowOf_4 rfl (lv_at hl 1 rfl) ?_
  refine lv_aload_n hx hb dX7_rowOf_5 rfl (lv_at hl 0 rfl) ?_
  refine xget (ref := "FriezeFolk") (C := RX7) (T := TX7) (N := 9) (ci := 7) (v := .ref rosa) hx hb hts inX7 hown hK hP 0 rfl rfl 7 (by decide) k1 rfl rfl dX7_rowOf_6 ?_
  refine va_alen (v := (4 : Int32)) hx hb hK hP 1 5 rfl rfl rfl dX7_rowOf_9 ?_
  refine lv_icmp_ge (tgt := 22) hx hb dX7_rowOf_10 (by decide) (fun c2 => hnull (sel_none (Or.inr ((sel_ge 4 (by decide) c1).mp c2)))) (fun c2 => ?_)
  have c3 : ¬ (k < 0 ∨ 4 ≤ k.toNatClampNeg) := fun z => z.elim c1 (fun z => c2 ((sel_ge 4 (by decide) c1).mpr z))
  rw [show selO 4 ros k = ros k.toNatClampNeg from if_neg c3] at hm
  subst hm
  refine lv_aload_n hx hb dX7_rowOf_13 rfl (lv_at hl 0 rfl) ?_
  refine xget (ref := "FriezeFolk") (C := RX7) (T := TX7) (N := 9) (ci := 7) (v := .ref rosa) hx hb hts inX7 hown hK hP 0 rfl rfl 7 (by decide) k1 rfl rfl dX7_rowOf_14 ?_
  refine lv_iload_n hx hb dX7_rowOf_17 rfl (lv_at hl 1 rfl) ?_
  refine va_aldq (C := "FriezeFolk$Row") hx hb hK hP 1 5 rfl rfl c3 dX7_rowOf_18 ?_
  refine lv_goto (tgt := 23) hx hb dX7_rowOf_19 (by decide) ?_
  exact hret _ _ _ _ hP hD hS dX7_rowOf_23
