/-! an evaluator: conditions on numbers are decided by omega -/
theorem leT {a b : Nat} (h : a ≤ b) (hb : b < 2 ^ 31) : (nI a ≤ nI b) = True := eq_true (nI_le h hb)
theorem leF {a b : Nat} (h : b < a) (hb : a < 2 ^ 31) : (nI a ≤ nI b) = False := eq_false (nI_ge h hb)
theorem ltT {a b : Nat} (h : a < b) (hb : b < 2 ^ 31) : (nI a < nI b) = True := eq_true (nI_lt h hb)
theorem ltF {a b : Nat} (h : b ≤ a) (hb : a < 2 ^ 31) : (nI a < nI b) = False := eq_false (nI_nlt h hb)
theorem eqT {a b : Nat} (h : a = b) : (nI a = nI b) = True := eq_true (by rw [h])
theorem eqF {a b : Nat} (h : a ≠ b) (ha : a < 2 ^ 31) (hb : b < 2 ^ 31) : (nI a = nI b) = False := eq_false (fun z => h ((nI_eq ha hb).mp z))
theorem nleT {a b : Nat} (h : a ≤ b) : (a ≤ b) = True := eq_true h
theorem nleF {a b : Nat} (h : b < a) : (a ≤ b) = False := eq_false (by omega)
theorem nltT {a b : Nat} (h : a < b) : (a < b) = True := eq_true h
theorem nltF {a b : Nat} (h : b ≤ a) : (a < b) = False := eq_false (by omega)
theorem neqT {a b : Nat} (h : a = b) : (a = b) = True := eq_true h
theorem neqF {a b : Nat} (h : a ≠ b) : (a = b) = False := eq_false h
theorem ngLt {x : Int32} (h : x < 0) {k : Nat} (hk : k < 2 ^ 31) : (x < nI k) = True := eq_true (by
  rw [Int32.lt_iff_toInt_lt] at h ⊢
  have : (0 : Int32).toInt = 0 := by decide
  rw [nI_toInt hk]; omega)
theorem ngLe {x : Int32} (h : x < 0) {k : Nat} (hk : k < 2 ^ 31) : (x ≤ nI k) = True := eq_true (by
  rw [Int32.lt_iff_toInt_lt] at h
  rw [Int32.le_iff_toInt_le]
  have : (0 : Int32).toInt = 0 := by decide
  rw [nI_toInt hk]; omega)
theorem ngGe {x : Int32} (h : x < 0) {k : Nat} (hk : k < 2 ^ 31) : (nI k ≤ x) = False := eq_false (by
  rw [Int32.lt_iff_toInt_lt] at h
  rw [Int32.le_iff_toInt_le]
  have : (0 : Int32).toInt = 0 := by decide
  rw [nI_toInt hk]; omega)
theorem ngGt {x : Int32} (h : x < 0) {k : Nat} (hk : k < 2 ^ 31) : (nI k < x) = False := eq_false (by
  rw [Int32.lt_iff_toInt_lt] at h ⊢
  have : (0 : Int32).toInt = 0 := by decide
  rw [nI_toInt hk]; omega)
theorem ngEq {x : Int32} (h : x < 0) {k : Nat} (hk : k < 2 ^ 31) : (x = nI k) = False := eq_false (by
  intro e
  subst e
  exact nI_pos hk h)
theorem ngEq' {x : Int32} (h : x < 0) {k : Nat} (hk : k < 2 ^ 31) : (nI k = x) = False := eq_false (by
  intro e
  subst e
  exact nI_pos hk h)
theorem in_T {k a b : Nat} (h1 : a ≤ k) (h2 : k ≤ b) (hb : b < 2 ^ 31) : mX8_in (lN k) (lN a) (lN b) = some (nI 1) := by
  rw [in_e, lN_toInt (by omega), lN_toInt (by omega), lN_toInt (by omega), if_pos (by omega)]; rfl
theorem in_F1 {k a b : Nat} (h1 : k < a) (ha : a < 2 ^ 31) (hb : b < 2 ^ 31) : mX8_in (lN k) (lN a) (lN b) = some (nI 0) := by
  rw [in_e, lN_toInt (by omega), lN_toInt (by omega), lN_toInt (by omega), if_neg (by omega)]; rfl
theorem in_F2 {k a b : Nat} (h1 : b < k) (ha : a < 2 ^ 31) (hk : k < 2 ^ 31) : mX8_in (lN k) (lN a) (lN b) = some (nI 0) := by
  rw [in_e, lN_toInt (by omega), lN_toInt (by omega), lN_toInt (by omega), if_neg (by omega)]; rfl
theorem in_ng {x : Int32} (h : x < 0) {a : Nat} (ha : a < 2 ^ 31) (z : Int64) : mX8_in x.toInt64 (lN a) z = some (nI 0) := by
  rw [Int32.lt_iff_toInt_lt] at h
  have : (0 : Int32).toInt = 0 := by decide
  rw [in_e, i64, lN_toInt ha, if_neg (by omega)]; rfl
theorem LL_0 : (0 : Int64) = lN 0 := rfl
theorem LL_1 : (1 : Int64) = lN 1 := rfl
theorem LL_2 : (2 : Int64) = lN 2 := rfl
theorem LL_3 : (3 : Int64) = lN 3 := rfl
theorem LL_5 : (5 : Int64) = lN 5 := rfl
theorem LL_7 : (7 : Int64) = lN 7 := rfl
theorem LL_9 : (9 : Int64) = lN 9 := rfl
theorem LL_10 : (10 : Int64) = lN 10 := rfl
theorem LL_11 : (11 : Int64) = lN 11 := rfl
theorem LL_12 : (12 : Int64) = lN 12 := rfl
theorem LL_19 : (19 : Int64) = lN 19 := rfl
theorem LL_20 : (20 : Int64) = lN 20 := rfl
theorem LL_30 : (30 : Int64) = lN 30 := rfl
theorem LL_39 : (39 : Int64) = lN 39 := rfl
theorem LL_48 : (48 : Int64) = lN 48 := rfl
theorem LL_57 : (57 : Int64) = lN 57 := rfl
theorem LL_60 : (60 : Int64) = lN 60 := rfl
theorem LL_97 : (97 : Int64) = lN 97 := rfl
theorem LL_99 : (99 : Int64) = lN 99 := rfl
theorem LL_122 : (122 : Int64) = lN 122 := rfl
theorem LL_127 : (127 : Int64) = lN 127 := rfl
theorem LL_999 : (999 : Int64) = lN 999 := rfl

theorem zbT {k n : Nat} (h : k < n) (hk : k < 2 ^ 31) : zb (nI k) n = nI 1 := zb_y h hk
theorem zbF {k n : Nat} (h : n ≤ k) (hk : k < 2 ^ 31) : zb (nI k) n = nI 0 := zb_n (Or.inr (by rw [nI_clamp hk]; exact h))
theorem zb_ng {x : Int32} (h : x < 0) (n : Nat) : zb x n = nI 0 := zb_n (Or.inl h)
theorem esc_il {α β : Type} (t : α) (f : α → Option β) : esc (.inl t) f = f t := rfl
theorem esc_ir {α β : Type} (t : β) (f : α → Option β) : esc (.inr t) f = some t := rfl
theorem cs2 (x : Int32) : x < 0 ∨ ∃ k : Nat, k < 2 ^ 31 ∧ x = nI k := by
  by_cases h : x < 0
  · exact Or.inl h
  · exact Or.inr (nI_of h)
theorem subK {a b : Nat} (h : b ≤ a) : nI a - nI b = nI (a - b) := pk_sub h
theorem sub0 (x : Int32) : x - nI 0 = x := Int32.sub_zero x
theorem add0 (x : Int32) : x + nI 0 = x := Int32.add_zero x
theorem or0 (x : Int32) : x ||| nI 0 = x := Int32.or_zero
theorem or0b (x : Int32) : x ||| (0 : Int32) = x := Int32.or_zero
/-- ints of a Hall -/
abbrev aI (a : AH) (k v : Nat) : AH := (a.1, va_up a.2 k v)
abbrev aA (a : AH) (k j v : Nat) : AH := (va_up a.1 k (va_up (a.1 k) j v), a.2)
theorem HV.i6 {g : GS} {a : AH} (h : HV g a) (v : Nat) : HV (sI g 6 (nI v)) (aI a 6 v) := by
  refine ⟨fun q hq => ?_, fun q hq => ?_, fun q hq => ?_, fun q hq => ?_, fun q hq => ?_, ?_, ?_, ?_, ?_, ?_, ?_, ?_, ?_⟩
  · exact h.kd hq
  · exact h.wm hq
  · exact h.fd hq
  · exact h.ln hq
  · exact h.pr hq
  · exact h.b
  · exact rfl
  · exact h.s
  · exact h.wd
  · exact h.re
  · exact h.u
  · exact h.y
  · exact h.r
theorem PV.i6 {f : Nat → Int32} {p : Nat} {a : AH} (h : PV f p a) (hi : HI a) (v : Nat) : PV (upd f (p + 13) (nI v - nI 12)) p (aI a 6 v) := by
  have hb := hi.nb
  refine ⟨fun q hq => ?_, fun q hq => ?_, fun q hq => ?_, fun q hq => ?_, fun q hq => ?_, ?_, ?_, ?_, ?_, ?_, ?_, ?_, ?_⟩
  · have hq : q < a.2 5 := hq
    simp (disch := omega) only [upd_e, ↓reduceIte, neqF]; exact h.kd hq
  · have hq : q < a.2 5 := hq
    simp (disch := omega) only [upd_e, ↓reduceIte, neqF]; exact h.wm hq
  · have hq : q < 12 := hq
    simp (disch := omega) only [upd_e, ↓reduceIte, neqF]; exact h.fd hq
  · have hq : q < a.2 12 := hq
    simp (disch := omega) only [upd_e, ↓reduceIte, neqF]; exact h.ln hq
  · have hq : q < a.2 12 := hq
    simp (disch := omega) only [upd_e, ↓reduceIte, neqF]; exact h.pr hq
  · simp (disch := omega) only [upd_e, ↓reduceIte, neqF]; exact h.b
  · simp only [upd_e, ↓reduceIte]; rfl
  · simp (disch := omega) only [upd_e, ↓reduceIte, neqF]; exact h.s
  · simp (disch := omega) only [upd_e, ↓reduceIte, neqF]; exact h.wd
  · simp (disch := omega) only [upd_e, ↓reduceIte, neqF]; exact h.re
  · simp (disch := omega) only [upd_e, ↓reduceIte, neqF]; exact h.u
  · simp (disch := omega) only [upd_e, ↓reduceIte, neqF]; exact h.y
  · simp (disch := omega) only [upd_e, ↓reduceIte, neqF]; exact h.r
theorem HI.i6 {a : AH} (hi : HI a) (v : Nat) (h1 : 1 ≤ v) (hv : v ≤ 12) : HI (aI a 6 v) := by
  have hb := hi.nb
  refine ⟨?_, ?_, ?_, ?_, ?_, ?_, ?_, ?_, ?_, fun q hq => ?_, fun q hq => ?_, fun q hq => ?_⟩
  · exact hb.1
  · exact h1
  · exact hv
  · exact hb.2.2.2.1
  · exact hb.2.2.2.2.1
  · exact hb.2.2.2.2.2.1
  · exact hb.2.2.2.2.2.2.1
  · exact hb.2.2.2.2.2.2.2.1
  · exact hb.2.2.2.2.2.2.2.2
  · exact ⟨hi.kd hq, hi.wm hq⟩
  · exact hi.fd hq
  · exact hi.rl hq
theorem HV.i7 {g : GS} {a : AH} (h : HV g a) (v : Nat) : HV (sI g 7 (nI v)) (aI a 7 v) := by
  refine ⟨fun q hq => ?_, fun q hq => ?_, fun q hq => ?_, fun q hq => ?_, fun q hq => ?_, ?_, ?_, ?_, ?_, ?_, ?_, ?_, ?_⟩
  · exact h.kd hq
  · exact h.wm hq
  · exact h.fd hq
  · exact h.ln hq
  · exact h.pr hq
  · exact h.b
  · exact h.w
  · exact rfl
  · exact h.wd
  · exact h.re
  · exact h.u
  · exact h.y
  · exact h.r
theorem PV.i7 {f : Nat → Int32} {p : Nat} {a : AH} (h : PV f p a) (hi : HI a) (v : Nat) : PV (upd f (p + 14) (nI v)) p (aI a 7 v) := by
  have hb := hi.nb
  refine ⟨fun q hq => ?_, fun q hq => ?_, fun q hq => ?_, fun q hq => ?_, fun q hq => ?_, ?_, ?_, ?_, ?_, ?_, ?_, ?_, ?_⟩
  · have hq : q < a.2 5 := hq
    simp (disch := omega) only [upd_e, ↓reduceIte, neqF]; exact h.kd hq
  · have hq : q < a.2 5 := hq
    simp (disch := omega) only [upd_e, ↓reduceIte, neqF]; exact h.wm hq
  · have hq : q < 12 := hq
    simp (disch := omega) only [upd_e, ↓reduceIte, neqF]; exact h.fd hq
  · have hq : q < a.2 12 := hq
    simp (disch := omega) only [upd_e, ↓reduceIte, neqF]; exact h.ln hq
  · have hq : q < a.2 12 := hq
    simp (disch := omega) only [upd_e, ↓reduceIte, neqF]; exact h.pr hq
  · simp (disch := omega) only [upd_e, ↓reduceIte, neqF]; exact h.b
  · simp (disch := omega) only [upd_e, ↓reduceIte, neqF]; exact h.w
  · simp only [upd_e, ↓reduceIte]; rfl
  · simp (disch := omega) only [upd_e, ↓reduceIte, neqF]; exact h.wd
  · simp (disch := omega) only [upd_e, ↓reduceIte, neqF]; exact h.re
  · simp (disch := omega) only [upd_e, ↓reduceIte, neqF]; exact h.u
  · simp (disch := omega) only [upd_e, ↓reduceIte, neqF]; exact h.y
  · simp (disch := omega) only [upd_e, ↓reduceIte, neqF]; exact h.r
theorem HI.i7 {a : AH} (hi : HI a) (v : Nat) (hv : v ≤ 5) : HI (aI a 7 v) := by
  have hb := hi.nb
  refine ⟨?_, ?_, ?_, ?_, ?_, ?_, ?_, ?_, ?_, fun q hq => ?_, fun q hq => ?_, fun q hq => ?_⟩
  · exact hb.1
  · exact hb.2.1
  · exact hb.2.2.1
  · exact hv
  · exact hb.2.2.2.2.1
  · exact hb.2.2.2.2.2.1
  · exact hb.2.2.2.2.2.2.1
  · exact hb.2.2.2.2.2.2.2.1
  · exact hb.2.2.2.2.2.2.2.2
  · exact ⟨hi.kd hq, hi.wm hq⟩
  · exact hi.fd hq
  · exact hi.rl hq
theorem HV.i8 {g : GS} {a : AH} (h : HV g a) (v : Nat) : HV (sI g 8 (nI v)) (aI a 8 v) := by
  refine ⟨fun q hq => ?_, fun q hq => ?_, fun q hq => ?_, fun q hq => ?_, fun q hq => ?_, ?_, ?_, ?_, ?_, ?_, ?_, ?_, ?_⟩
  · exact h.kd hq
  · exact h.wm hq
  · exact h.fd hq
  · exact h.ln hq
  · exact h.pr hq
  · exact h.b
  · exact h.w
  · exact h.s
  · exact rfl
  · exact h.re
  · exact h.u
  · exact h.y
  · exact h.r
theorem PV.i8 {f : Nat → Int32} {p : Nat} {a : AH} (h : PV f p a) (hi : HI a) (v : Nat) : PV (upd f (p + 15) (nI v)) p (aI a 8 v) := by
  have hb := hi.nb
  refine ⟨fun q hq => ?_, fun q hq => ?_, fun q hq => ?_, fun q hq => ?_, fun q hq => ?_, ?_, ?_, ?_, ?_, ?_, ?_, ?_, ?_⟩
  · have hq : q < a.2 5 := hq
    simp (disch := omega) only [upd_e, ↓reduceIte, neqF]; exact h.kd hq
  · have hq : q < a.2 5 := hq
    simp (disch := omega) only [upd_e, ↓reduceIte, neqF]; exact h.wm hq
  · have hq : q < 12 := hq
    simp (disch := omega) only [upd_e, ↓reduceIte, neqF]; exact h.fd hq
  · have hq : q < a.2 12 := hq
    simp (disch := omega) only [upd_e, ↓reduceIte, neqF]; exact h.ln hq
  · have hq : q < a.2 12 := hq
    simp (disch := omega) only [upd_e, ↓reduceIte, neqF]; exact h.pr hq
  · simp (disch := omega) only [upd_e, ↓reduceIte, neqF]; exact h.b
  · simp (disch := omega) only [upd_e, ↓reduceIte, neqF]; exact h.w
  · simp (disch := omega) only [upd_e, ↓reduceIte, neqF]; exact h.s
  · simp only [upd_e, ↓reduceIte]; rfl
  · simp (disch := omega) only [upd_e, ↓reduceIte, neqF]; exact h.re
  · simp (disch := omega) only [upd_e, ↓reduceIte, neqF]; exact h.u
  · simp (disch := omega) only [upd_e, ↓reduceIte, neqF]; exact h.y
  · simp (disch := omega) only [upd_e, ↓reduceIte, neqF]; exact h.r
theorem HI.i8 {a : AH} (hi : HI a) (v : Nat) (hv : v ≤ 11) : HI (aI a 8 v) := by
  have hb := hi.nb
  refine ⟨?_, ?_, ?_, ?_, ?_, ?_, ?_, ?_, ?_, fun q hq => ?_, fun q hq => ?_, fun q hq => ?_⟩
  · exact hb.1
  · exact hb.2.1
  · exact hb.2.2.1
  · exact hb.2.2.2.1
  · exact hv
  · exact hb.2.2.2.2.2.1
  · exact hb.2.2.2.2.2.2.1
  · exact hb.2.2.2.2.2.2.2.1
  · exact hb.2.2.2.2.2.2.2.2
  · exact ⟨hi.kd hq, hi.wm hq⟩
  · exact hi.fd hq
  · exact hi.rl hq
theorem HV.i9 {g : GS} {a : AH} (h : HV g a) (v : Nat) : HV (sI g 9 (nI v)) (aI a 9 v) := by
  refine ⟨fun q hq => ?_, fun q hq => ?_, fun q hq => ?_, fun q hq => ?_, fun q hq => ?_, ?_, ?_, ?_, ?_, ?_, ?_, ?_, ?_⟩
  · exact h.kd hq
  · exact h.wm hq
  · exact h.fd hq
  · exact h.ln hq
  · exact h.pr hq
  · exact h.b
  · exact h.w
  · exact h.s
  · exact h.wd
  · exact rfl
  · exact h.u
  · exact h.y
  · exact h.r
theorem PV.i9 {f : Nat → Int32} {p : Nat} {a : AH} (h : PV f p a) (hi : HI a) (v : Nat) : PV (upd f (p + 16) (nI v - nI 2)) p (aI a 9 v) := by
  have hb := hi.nb
  refine ⟨fun q hq => ?_, fun q hq => ?_, fun q hq => ?_, fun q hq => ?_, fun q hq => ?_, ?_, ?_, ?_, ?_, ?_, ?_, ?_, ?_⟩
  · have hq : q < a.2 5 := hq
    simp (disch := omega) only [upd_e, ↓reduceIte, neqF]; exact h.kd hq
  · have hq : q < a.2 5 := hq
    simp (disch := omega) only [upd_e, ↓reduceIte, neqF]; exact h.wm hq
  · have hq : q < 12 := hq
    simp (disch := omega) only [upd_e, ↓reduceIte, neqF]; exact h.fd hq
  · have hq : q < a.2 12 := hq
    simp (disch := omega) only [upd_e, ↓reduceIte, neqF]; exact h.ln hq
  · have hq : q < a.2 12 := hq
    simp (disch := omega) only [upd_e, ↓reduceIte, neqF]; exact h.pr hq
  · simp (disch := omega) only [upd_e, ↓reduceIte, neqF]; exact h.b
  · simp (disch := omega) only [upd_e, ↓reduceIte, neqF]; exact h.w
  · simp (disch := omega) only [upd_e, ↓reduceIte, neqF]; exact h.s
  · simp (disch := omega) only [upd_e, ↓reduceIte, neqF]; exact h.wd
  · simp only [upd_e, ↓reduceIte]; rfl
  · simp (disch := omega) only [upd_e, ↓reduceIte, neqF]; exact h.u
  · simp (disch := omega) only [upd_e, ↓reduceIte, neqF]; exact h.y
  · simp (disch := omega) only [upd_e, ↓reduceIte, neqF]; exact h.r
theorem HI.i9 {a : AH} (hi : HI a) (v : Nat) (hv : v ≤ 11) : HI (aI a 9 v) := by
  have hb := hi.nb
  refine ⟨?_, ?_, ?_, ?_, ?_, ?_, ?_, ?_, ?_, fun q hq => ?_, fun q hq => ?_, fun q hq => ?_⟩
  · exact hb.1
  · exact hb.2.1
  · exact hb.2.2.1
  · exact hb.2.2.2.1
  · exact hb.2.2.2.2.1
  · exact hv
  · exact hb.2.2.2.2.2.2.1
  · exact hb.2.2.2.2.2.2.2.1
  · exact hb.2.2.2.2.2.2.2.2
  · exact ⟨hi.kd hq, hi.wm hq⟩
  · exact hi.fd hq
  · exact hi.rl hq
theorem HV.i10 {g : GS} {a : AH} (h : HV g a) (v : Nat) : HV (sI g 10 (upv v)) (aI a 10 v) := by
  refine ⟨fun q hq => ?_, fun q hq => ?_, fun q hq => ?_, fun q hq => ?_, fun q hq => ?_, ?_, ?_, ?_, ?_, ?_, ?_, ?_, ?_⟩
  · exact h.kd hq
  · exact h.wm hq
  · exact h.fd hq
  · exact h.ln hq
  · exact h.pr hq
  · exact h.b
  · exact h.w
  · exact h.s
  · exact h.wd
  · exact h.re
  · exact rfl
  · exact h.y
  · exact h.r
theorem PV.i10 {f : Nat → Int32} {p : Nat} {a : AH} (h : PV f p a) (hi : HI a) (v : Nat) : PV (upd f (p + 17) (nI v)) p (aI a 10 v) := by
  have hb := hi.nb
  refine ⟨fun q hq => ?_, fun q hq => ?_, fun q hq => ?_, fun q hq => ?_, fun q hq => ?_, ?_, ?_, ?_, ?_, ?_, ?_, ?_, ?_⟩
  · have hq : q < a.2 5 := hq
    simp (disch := omega) only [upd_e, ↓reduceIte, neqF]; exact h.kd hq
  · have hq : q < a.2 5 := hq
    simp (disch := omega) only [upd_e, ↓reduceIte, neqF]; exact h.wm hq
  · have hq : q < 12 := hq
    simp (disch := omega) only [upd_e, ↓reduceIte, neqF]; exact h.fd hq
  · have hq : q < a.2 12 := hq
    simp (disch := omega) only [upd_e, ↓reduceIte, neqF]; exact h.ln hq
  · have hq : q < a.2 12 := hq
    simp (disch := omega) only [upd_e, ↓reduceIte, neqF]; exact h.pr hq
  · simp (disch := omega) only [upd_e, ↓reduceIte, neqF]; exact h.b
  · simp (disch := omega) only [upd_e, ↓reduceIte, neqF]; exact h.w
  · simp (disch := omega) only [upd_e, ↓reduceIte, neqF]; exact h.s
  · simp (disch := omega) only [upd_e, ↓reduceIte, neqF]; exact h.wd
  · simp (disch := omega) only [upd_e, ↓reduceIte, neqF]; exact h.re
  · simp only [upd_e, ↓reduceIte]; rfl
  · simp (disch := omega) only [upd_e, ↓reduceIte, neqF]; exact h.y
  · simp (disch := omega) only [upd_e, ↓reduceIte, neqF]; exact h.r
theorem HI.i10 {a : AH} (hi : HI a) (v : Nat) (hv : v ≤ 12) : HI (aI a 10 v) := by
  have hb := hi.nb
  refine ⟨?_, ?_, ?_, ?_, ?_, ?_, ?_, ?_, ?_, fun q hq => ?_, fun q hq => ?_, fun q hq => ?_⟩
  · exact hb.1
  · exact hb.2.1
  · exact hb.2.2.1
  · exact hb.2.2.2.1
  · exact hb.2.2.2.2.1
  · exact hb.2.2.2.2.2.1
  · exact hv
  · exact hb.2.2.2.2.2.2.2.1
  · exact hb.2.2.2.2.2.2.2.2
  · exact ⟨hi.kd hq, hi.wm hq⟩
  · exact hi.fd hq
  · exact hi.rl hq
theorem HV.i12 {g : GS} {a : AH} (h : HV g a) (v : Nat) (hv : v ≤ a.2 12) : HV (sI g 12 (nI v)) (aI a 12 v) := by
  refine ⟨fun q hq => ?_, fun q hq => ?_, fun q hq => ?_, fun q hq => ?_, fun q hq => ?_, ?_, ?_, ?_, ?_, ?_, ?_, ?_, ?_⟩
  · exact h.kd hq
  · exact h.wm hq
  · exact h.fd hq
  · exact h.ln (Nat.lt_of_lt_of_le hq hv)
  · exact h.pr (Nat.lt_of_lt_of_le hq hv)
  · exact h.b
  · exact h.w
  · exact h.s
  · exact h.wd
  · exact h.re
  · exact h.u
  · exact h.y
  · exact rfl
theorem PV.i12 {f : Nat → Int32} {p : Nat} {a : AH} (h : PV f p a) (hi : HI a) (v : Nat) (hv : v ≤ a.2 12) : PV (upd f (p + 39) (nI v)) p (aI a 12 v) := by
  have hb := hi.nb
  refine ⟨fun q hq => ?_, fun q hq => ?_, fun q hq => ?_, fun q hq => ?_, fun q hq => ?_, ?_, ?_, ?_, ?_, ?_, ?_, ?_, ?_⟩
  · have hq : q < a.2 5 := hq
    simp (disch := omega) only [upd_e, ↓reduceIte, neqF]; exact h.kd hq
  · have hq : q < a.2 5 := hq
    simp (disch := omega) only [upd_e, ↓reduceIte, neqF]; exact h.wm hq
  · have hq : q < 12 := hq
    simp (disch := omega) only [upd_e, ↓reduceIte, neqF]; exact h.fd hq
  · have hq : q < a.2 12 := Nat.lt_of_lt_of_le hq hv
    simp (disch := omega) only [upd_e, ↓reduceIte, neqF]; exact h.ln hq
  · have hq : q < a.2 12 := Nat.lt_of_lt_of_le hq hv
    simp (disch := omega) only [upd_e, ↓reduceIte, neqF]; exact h.pr hq
  · simp (disch := omega) only [upd_e, ↓reduceIte, neqF]; exact h.b
  · simp (disch := omega) only [upd_e, ↓reduceIte, neqF]; exact h.w
  · simp (disch := omega) only [upd_e, ↓reduceIte, neqF]; exact h.s
  · simp (disch := omega) only [upd_e, ↓reduceIte, neqF]; exact h.wd
  · simp (disch := omega) only [upd_e, ↓reduceIte, neqF]; exact h.re
  · simp (disch := omega) only [upd_e, ↓reduceIte, neqF]; exact h.u
  · simp (disch := omega) only [upd_e, ↓reduceIte, neqF]; exact h.y
  · simp only [upd_e, ↓reduceIte]; rfl
theorem HI.i12 {a : AH} (hi : HI a) (v : Nat) (hv : v ≤ a.2 12) : HI (aI a 12 v) := by
  have hb := hi.nb
  refine ⟨?_, ?_, ?_, ?_, ?_, ?_, ?_, ?_, ?_, fun q hq => ?_, fun q hq => ?_, fun q hq => ?_⟩
  · exact hb.1
  · exact hb.2.1
  · exact hb.2.2.1
  · exact hb.2.2.2.1
  · exact hb.2.2.2.2.1
  · exact hb.2.2.2.2.2.1
  · exact hb.2.2.2.2.2.2.1
  · exact hb.2.2.2.2.2.2.2.1
  · exact Nat.le_trans hv hb.2.2.2.2.2.2.2.2
  · exact ⟨hi.kd hq, hi.wm hq⟩
  · exact hi.fd hq
  · exact hi.rl (Nat.lt_of_lt_of_le hq hv)
theorem HV.a0 {g : GS} {a : AH} (h : HV g a) (j v : Nat) : HV (sA g 0 (upd (g.1 0) j (nI v))) (aA a 0 j v) := by
  refine ⟨fun q hq => ?_, fun q hq => ?_, fun q hq => ?_, fun q hq => ?_, fun q hq => ?_, ?_, ?_, ?_, ?_, ?_, ?_, ?_, ?_⟩
  · show upd (g.1 0) j (nI v) q = nI (va_up (a.1 0) j v q)
    rw [upd_e, up_e]
    split
    · rfl
    · exact h.kd hq
  · exact h.wm hq
  · exact h.fd hq
  · exact h.ln hq
  · exact h.pr hq
  · exact h.b
  · exact h.w
  · exact h.s
  · exact h.wd
  · exact h.re
  · exact h.u
  · exact h.y
  · exact h.r
theorem PV.a0 {f : Nat → Int32} {p : Nat} {a : AH} (h : PV f p a) (hi : HI a) (j v : Nat) (hj : j < a.2 5) : PV (upd f (p + j) (nI v)) p (aA a 0 j v) := by
  have hb := hi.nb
  refine ⟨fun q hq => ?_, fun q hq => ?_, fun q hq => ?_, fun q hq => ?_, fun q hq => ?_, ?_, ?_, ?_, ?_, ?_, ?_, ?_, ?_⟩
  · have hq : q < a.2 5 := hq
    show _ = nI (va_up (a.1 0) j v q)
    rw [upd_e, up_e]
    by_cases e : q = j
    · rw [if_pos (by omega), if_pos e]
    · rw [if_neg (by omega), if_neg e]; exact h.kd hq
  · have hq : q < a.2 5 := hq
    simp (disch := omega) only [upd_e, ↓reduceIte, neqF]; exact h.wm hq
  · have hq : q < 12 := hq
    simp (disch := omega) only [upd_e, ↓reduceIte, neqF]; exact h.fd hq
  · have hq : q < a.2 12 := hq
    simp (disch := omega) only [upd_e, ↓reduceIte, neqF]; exact h.ln hq
  · have hq : q < a.2 12 := hq
    simp (disch := omega) only [upd_e, ↓reduceIte, neqF]; exact h.pr hq
  · simp (disch := omega) only [upd_e, ↓reduceIte, neqF]; exact h.b
  · simp (disch := omega) only [upd_e, ↓reduceIte, neqF]; exact h.w
  · simp (disch := omega) only [upd_e, ↓reduceIte, neqF]; exact h.s
  · simp (disch := omega) only [upd_e, ↓reduceIte, neqF]; exact h.wd
  · simp (disch := omega) only [upd_e, ↓reduceIte, neqF]; exact h.re
  · simp (disch := omega) only [upd_e, ↓reduceIte, neqF]; exact h.u
  · simp (disch := omega) only [upd_e, ↓reduceIte, neqF]; exact h.y
  · simp (disch := omega) only [upd_e, ↓reduceIte, neqF]; exact h.r
theorem HV.a1 {g : GS} {a : AH} (h : HV g a) (j v : Nat) : HV (sA g 1 (upd (g.1 1) j (nI v))) (aA a 1 j v) := by
  refine ⟨fun q hq => ?_, fun q hq => ?_, fun q hq => ?_, fun q hq => ?_, fun q hq => ?_, ?_, ?_, ?_, ?_, ?_, ?_, ?_, ?_⟩
  · exact h.kd hq
  · show upd (g.1 1) j (nI v) q = nI (va_up (a.1 1) j v q)
    rw [upd_e, up_e]
    split
    · rfl
    · exact h.wm hq
  · exact h.fd hq
  · exact h.ln hq
  · exact h.pr hq
  · exact h.b
  · exact h.w
  · exact h.s
  · exact h.wd
  · exact h.re
  · exact h.u
  · exact h.y
  · exact h.r
theorem PV.a1 {f : Nat → Int32} {p : Nat} {a : AH} (h : PV f p a) (hi : HI a) (j v : Nat) (hj : j < a.2 5) : PV (upd f (p + 6 + j) (nI v)) p (aA a 1 j v) := by
  have hb := hi.nb
  refine ⟨fun q hq => ?_, fun q hq => ?_, fun q hq => ?_, fun q hq => ?_, fun q hq => ?_, ?_, ?_, ?_, ?_, ?_, ?_, ?_, ?_⟩
  · have hq : q < a.2 5 := hq
    simp (disch := omega) only [upd_e, ↓reduceIte, neqF]; exact h.kd hq
  · have hq : q < a.2 5 := hq
    show _ = nI (va_up (a.1 1) j v q)
    rw [upd_e, up_e]
    by_cases e : q = j
    · rw [if_pos (by omega), if_pos e]
    · rw [if_neg (by omega), if_neg e]; exact h.wm hq
  · have hq : q < 12 := hq
    simp (disch := omega) only [upd_e, ↓reduceIte, neqF]; exact h.fd hq
  · have hq : q < a.2 12 := hq
    simp (disch := omega) only [upd_e, ↓reduceIte, neqF]; exact h.ln hq
  · have hq : q < a.2 12 := hq
    simp (disch := omega) only [upd_e, ↓reduceIte, neqF]; exact h.pr hq
  · simp (disch := omega) only [upd_e, ↓reduceIte, neqF]; exact h.b
  · simp (disch := omega) only [upd_e, ↓reduceIte, neqF]; exact h.w
  · simp (disch := omega) only [upd_e, ↓reduceIte, neqF]; exact h.s
  · simp (disch := omega) only [upd_e, ↓reduceIte, neqF]; exact h.wd
  · simp (disch := omega) only [upd_e, ↓reduceIte, neqF]; exact h.re
  · simp (disch := omega) only [upd_e, ↓reduceIte, neqF]; exact h.u
  · simp (disch := omega) only [upd_e, ↓reduceIte, neqF]; exact h.y
  · simp (disch := omega) only [upd_e, ↓reduceIte, neqF]; exact h.r
theorem HV.a2 {g : GS} {a : AH} (h : HV g a) (j v : Nat) : HV (sA g 2 (upd (g.1 2) j (nI v))) (aA a 2 j v) := by
  refine ⟨fun q hq => ?_, fun q hq => ?_, fun q hq => ?_, fun q hq => ?_, fun q hq => ?_, ?_, ?_, ?_, ?_, ?_, ?_, ?_, ?_⟩
  · exact h.kd hq
  · exact h.wm hq
  · show upd (g.1 2) j (nI v) q = nI (va_up (a.1 2) j v q)
    rw [upd_e, up_e]
    split
    · rfl
    · exact h.fd hq
  · exact h.ln hq
  · exact h.pr hq
  · exact h.b
  · exact h.w
  · exact h.s
  · exact h.wd
  · exact h.re
  · exact h.u
  · exact h.y
  · exact h.r
theorem PV.a2 {f : Nat → Int32} {p : Nat} {a : AH} (h : PV f p a) (hi : HI a) (j v : Nat) (hj : j < 12) : PV (upd f (p + 19 + j) (nI v)) p (aA a 2 j v) := by
  have hb := hi.nb
  refine ⟨fun q hq => ?_, fun q hq => ?_, fun q hq => ?_, fun q hq => ?_, fun q hq => ?_, ?_, ?_, ?_, ?_, ?_, ?_, ?_, ?_⟩
  · have hq : q < a.2 5 := hq
    simp (disch := omega) only [upd_e, ↓reduceIte, neqF]; exact h.kd hq
  · have hq : q < a.2 5 := hq
    simp (disch := omega) only [upd_e, ↓reduceIte, neqF]; exact h.wm hq
  · have hq : q < 12 := hq
    show _ = nI (va_up (a.1 2) j v q)
    rw [upd_e, up_e]
    by_cases e : q = j
    · rw [if_pos (by omega), if_pos e]
    · rw [if_neg (by omega), if_neg e]; exact h.fd hq
  · have hq : q < a.2 12 := hq
    simp (disch := omega) only [upd_e, ↓reduceIte, neqF]; exact h.ln hq
  · have hq : q < a.2 12 := hq
    simp (disch := omega) only [upd_e, ↓reduceIte, neqF]; exact h.pr hq
  · simp (disch := omega) only [upd_e, ↓reduceIte, neqF]; exact h.b
  · simp (disch := omega) only [upd_e, ↓reduceIte, neqF]; exact h.w
  · simp (disch := omega) only [upd_e, ↓reduceIte, neqF]; exact h.s
  · simp (disch := omega) only [upd_e, ↓reduceIte, neqF]; exact h.wd
  · simp (disch := omega) only [upd_e, ↓reduceIte, neqF]; exact h.re
  · simp (disch := omega) only [upd_e, ↓reduceIte, neqF]; exact h.u
  · simp (disch := omega) only [upd_e, ↓reduceIte, neqF]; exact h.y
  · simp (disch := omega) only [upd_e, ↓reduceIte, neqF]; exact h.r
theorem HI.a0 {a : AH} (hi : HI a) (j v : Nat) (hv : v < 4) : HI (aA a 0 j v) := by
  have hb := hi.nb
  refine ⟨?_, ?_, ?_, ?_, ?_, ?_, ?_, ?_, ?_, fun q hq => ?_, fun q hq => ?_, fun q hq => ?_⟩
  · exact hb.1
  · exact hb.2.1
  · exact hb.2.2.1
  · exact hb.2.2.2.1
  · exact hb.2.2.2.2.1
  · exact hb.2.2.2.2.2.1
  · exact hb.2.2.2.2.2.2.1
  · exact hb.2.2.2.2.2.2.2.1
  · exact hb.2.2.2.2.2.2.2.2
  · refine ⟨?_, hi.wm hq⟩
    show va_up (a.1 0) j v q < 4
    rw [up_e]
    split
    · exact hv
    · exact hi.kd hq
  · exact hi.fd hq
  · exact hi.rl hq
theorem HI.a1 {a : AH} (hi : HI a) (j v : Nat) (hv : v ≤ 9) : HI (aA a 1 j v) := by
  have hb := hi.nb
  refine ⟨?_, ?_, ?_, ?_, ?_, ?_, ?_, ?_, ?_, fun q hq => ?_, fun q hq => ?_, fun q hq => ?_⟩
  · exact hb.1
  · exact hb.2.1
  · exact hb.2.2.1
  · exact hb.2.2.2.1
  · exact hb.2.2.2.2.1
  · exact hb.2.2.2.2.2.1
  · exact hb.2.2.2.2.2.2.1
  · exact hb.2.2.2.2.2.2.2.1
  · exact hb.2.2.2.2.2.2.2.2
  · refine ⟨hi.kd hq, ?_⟩
    show va_up (a.1 1) j v q ≤ 9
    rw [up_e]
    split
    · exact hv
    · exact hi.wm hq
  · exact hi.fd hq
  · exact hi.rl hq
theorem HI.a2 {a : AH} (hi : HI a) (j v : Nat) (hv : v ≤ 99) : HI (aA a 2 j v) := by
  have hb := hi.nb
  refine ⟨?_, ?_, ?_, ?_, ?_, ?_, ?_, ?_, ?_, fun q hq => ?_, fun q hq => ?_, fun q hq => ?_⟩
  · exact hb.1
  · exact hb.2.1
  · exact hb.2.2.1
  · exact hb.2.2.2.1
  · exact hb.2.2.2.2.1
  · exact hb.2.2.2.2.2.1
  · exact hb.2.2.2.2.2.2.1
  · exact hb.2.2.2.2.2.2.2.1
  · exact hb.2.2.2.2.2.2.2.2
  · exact ⟨hi.kd hq, hi.wm hq⟩
  · show va_up (a.1 2) j v q ≤ 99
    rw [up_e]
    split
    · exact hv
    · exact hi.fd hq
  · exact hi.rl hq
def ap_bl (a : AH) (x y : Nat) : AH := (va_up (va_up a.1 0 (va_up (a.1 0) (a.2 5) x)) 1 (va_up (a.1 1) (a.2 5) y), va_up a.2 5 (a.2 5 + 1))
theorem HV.bl {g : GS} {a : AH} (h : HV g a) (x y : Nat) : HV (sI (sA (sA g 0 (upd (g.1 0) (a.2 5) (nI x))) 1 (upd (g.1 1) (a.2 5) (nI y))) 5 (nI (a.2 5 + 1))) (ap_bl a x y) := by
  refine ⟨fun q hq => ?_, fun q hq => ?_, fun q hq => ?_, fun q hq => ?_, fun q hq => ?_, ?_, ?_, ?_, ?_, ?_, ?_, ?_, ?_⟩
  · have hq : q < a.2 5 + 1 := hq
    show upd (g.1 0) (a.2 5) (nI x) q = nI (va_up (a.1 0) (a.2 5) x q)
    rw [upd_e, up_e]
    split
    · rfl
    · exact h.kd (by omega)
  · have hq : q < a.2 5 + 1 := hq
    show upd (g.1 1) (a.2 5) (nI y) q = nI (va_up (a.1 1) (a.2 5) y q)
    rw [upd_e, up_e]
    split
    · rfl
    · exact h.wm (by omega)
  · exact h.fd hq
  · exact h.ln hq
  · exact h.pr hq
  · exact rfl
  · exact h.w
  · exact h.s
  · exact h.wd
  · exact h.re
  · exact h.u
  · exact h.y
  · exact h.r
theorem PV.bl {f : Nat → Int32} {p : Nat} {a : AH} (h : PV f p a) (hi : HI a) (hl : a.2 5 < 6) (x y : Nat) : PV (upd (upd (upd f (p + a.2 5) (nI x)) (p + 6 + a.2 5) (nI y)) (p + 12) (nI (a.2 5 + 1))) p (ap_bl a x y) := by
  have hb := hi.nb
  refine ⟨fun q hq => ?_, fun q hq => ?_, fun q hq => ?_, fun q hq => ?_, fun q hq => ?_, ?_, ?_, ?_, ?_, ?_, ?_, ?_, ?_⟩
  · have hq : q < a.2 5 + 1 := hq
    show _ = nI (va_up (a.1 0) (a.2 5) x q)
    simp only [upd_e, up_e]
    by_cases e : q = a.2 5
    · subst e; simp (disch := omega) only [↓reduceIte, neqF, neqT]
    · simp (disch := omega) only [↓reduceIte, neqF]; exact h.kd (by omega)
  · have hq : q < a.2 5 + 1 := hq
    show _ = nI (va_up (a.1 1) (a.2 5) y q)
    simp only [upd_e, up_e]
    by_cases e : q = a.2 5
    · subst e; simp (disch := omega) only [↓reduceIte, neqF, neqT]
    · simp (disch := omega) only [↓reduceIte, neqF]; exact h.wm (by omega)
  · have hq : q < 12 := hq
    simp (disch := omega) only [upd_e, ↓reduceIte, neqF]; exact h.fd hq
  · have hq : q < a.2 12 := hq
    simp (disch := omega) only [upd_e, ↓reduceIte, neqF]; exact h.ln hq
  · have hq : q < a.2 12 := hq
    simp (disch := omega) only [upd_e, ↓reduceIte, neqF]; exact h.pr hq
  · simp only [upd_e, ↓reduceIte]; rfl
  · simp (disch := omega) only [upd_e, ↓reduceIte, neqF]; exact h.w
  · simp (disch := omega) only [upd_e, ↓reduceIte, neqF]; exact h.s
  · simp (disch := omega) only [upd_e, ↓reduceIte, neqF]; exact h.wd
  · simp (disch := omega) only [upd_e, ↓reduceIte, neqF]; exact h.re
  · simp (disch := omega) only [upd_e, ↓reduceIte, neqF]; exact h.u
  · simp (disch := omega) only [upd_e, ↓reduceIte, neqF]; exact h.y
  · simp (disch := omega) only [upd_e, ↓reduceIte, neqF]; exact h.r
theorem HI.bl {a : AH} (hi : HI a) (hl : a.2 5 < 6) (x y : Nat) (hx : x < 4) (hy : y ≤ 9) : HI (ap_bl a x y) := by
  have hb := hi.nb
  refine ⟨?_, ?_, ?_, ?_, ?_, ?_, ?_, ?_, ?_, fun q hq => ?_, fun q hq => ?_, fun q hq => ?_⟩
  · exact hl
  · exact hb.2.1
  · exact hb.2.2.1
  · exact hb.2.2.2.1
  · exact hb.2.2.2.2.1
  · exact hb.2.2.2.2.2.1
  · exact hb.2.2.2.2.2.2.1
  · exact hb.2.2.2.2.2.2.2.1
  · exact hb.2.2.2.2.2.2.2.2
  · have hq : q < a.2 5 + 1 := hq
    show va_up (a.1 0) (a.2 5) x q < 4 ∧ va_up (a.1 1) (a.2 5) y q ≤ 9
    rw [up_e, up_e]
    by_cases e : q = a.2 5
    · rw [if_pos e, if_pos e]; exact ⟨hx, hy⟩
    · rw [if_neg e, if_neg e]; exact ⟨hi.kd (by omega), hi.wm (by omega)⟩
  · exact hi.fd hq
  · exact hi.rl hq
def ap_ro (a : AH) (x y : Nat) : AH := (va_up (va_up a.1 3 (va_up (a.1 3) (a.2 12) x)) 4 (va_up (a.1 4) (a.2 12) y), va_up a.2 12 (a.2 12 + 1))
theorem HV.ro {g : GS} {a : AH} (h : HV g a) (x y : Nat) : HV (sI (sA (sA g 3 (upd (g.1 3) (a.2 12) (nI x))) 4 (upd (g.1 4) (a.2 12) (nI y))) 12 (nI (a.2 12 + 1))) (ap_ro a x y) := by
  refine ⟨fun q hq => ?_, fun q hq => ?_, fun q hq => ?_, fun q hq => ?_, fun q hq => ?_, ?_, ?_, ?_, ?_, ?_, ?_, ?_, ?_⟩
  · exact h.kd hq
  · exact h.wm hq
  · exact h.fd hq
  · have hq : q < a.2 12 + 1 := hq
    show upd (g.1 3) (a.2 12) (nI x) q = nI (va_up (a.1 3) (a.2 12) x q)
    rw [upd_e, up_e]
    split
    · rfl
    · exact h.ln (by omega)
  · have hq : q < a.2 12 + 1 := hq
    show upd (g.1 4) (a.2 12) (nI y) q = nI (va_up (a.1 4) (a.2 12) y q)
    rw [upd_e, up_e]
    split
    · rfl
    · exact h.pr (by omega)
  · exact h.b
  · exact h.w
  · exact h.s
  · exact h.wd
  · exact h.re
  · exact h.u
  · exact h.y
  · exact rfl
theorem PV.ro {f : Nat → Int32} {p : Nat} {a : AH} (h : PV f p a) (hi : HI a) (hl : a.2 12 < 4) (x y : Nat) : PV (upd (upd (upd f (p + 31 + a.2 12) (nI x)) (p + 35 + a.2 12) (nI y)) (p + 39) (nI (a.2 12 + 1))) p (ap_ro a x y) := by
  have hb := hi.nb
  refine ⟨fun q hq => ?_, fun q hq => ?_, fun q hq => ?_, fun q hq => ?_, fun q hq => ?_, ?_, ?_, ?_, ?_, ?_, ?_, ?_, ?_⟩
  · have hq : q < a.2 5 := hq
    simp (disch := omega) only [upd_e, ↓reduceIte, neqF]; exact h.kd hq
  · have hq : q < a.2 5 := hq
    simp (disch := omega) only [upd_e, ↓reduceIte, neqF]; exact h.wm hq
  · have hq : q < 12 := hq
    simp (disch := omega) only [upd_e, ↓reduceIte, neqF]; exact h.fd hq
  · have hq : q < a.2 12 + 1 := hq
    show _ = nI (va_up (a.1 3) (a.2 12) x q)
    simp only [upd_e, up_e]
    by_cases e : q = a.2 12
    · subst e; simp (disch := omega) only [↓reduceIte, neqF, neqT]
    · simp (disch := omega) only [↓reduceIte, neqF]; exact h.ln (by omega)
  · have hq : q < a.2 12 + 1 := hq
    show _ = nI (va_up (a.1 4) (a.2 12) y q)
    simp only [upd_e, up_e]
    by_cases e : q = a.2 12
    · subst e; simp (disch := omega) only [↓reduceIte, neqF, neqT]
    · simp (disch := omega) only [↓reduceIte, neqF]; exact h.pr (by omega)
  · simp (disch := omega) only [upd_e, ↓reduceIte, neqF]; exact h.b
  · simp (disch := omega) only [upd_e, ↓reduceIte, neqF]; exact h.w
  · simp (disch := omega) only [upd_e, ↓reduceIte, neqF]; exact h.s
  · simp (disch := omega) only [upd_e, ↓reduceIte, neqF]; exact h.wd
  · simp (disch := omega) only [upd_e, ↓reduceIte, neqF]; exact h.re
  · simp (disch := omega) only [upd_e, ↓reduceIte, neqF]; exact h.u
  · simp (disch := omega) only [upd_e, ↓reduceIte, neqF]; exact h.y
  · simp only [upd_e, ↓reduceIte]; rfl
theorem HI.ro {a : AH} (hi : HI a) (hl : a.2 12 < 4) (x y : Nat) (hx : 1 ≤ x ∧ x ≤ 9) (hy : 1 ≤ y ∧ y ≤ 9) : HI (ap_ro a x y) := by
  have hb := hi.nb
  refine ⟨?_, ?_, ?_, ?_, ?_, ?_, ?_, ?_, ?_, fun q hq => ?_, fun q hq => ?_, fun q hq => ?_⟩
  · exact hb.1
  · exact hb.2.1
  · exact hb.2.2.1
  · exact hb.2.2.2.1
  · exact hb.2.2.2.2.1
  · exact hb.2.2.2.2.2.1
  · exact hb.2.2.2.2.2.2.1
  · exact hb.2.2.2.2.2.2.2.1
  · exact hl
  · exact ⟨hi.kd hq, hi.wm hq⟩
  · exact hi.fd hq
  · have hq : q < a.2 12 + 1 := hq
    show 1 ≤ va_up (a.1 3) (a.2 12) x q ∧ va_up (a.1 3) (a.2 12) x q ≤ 9 ∧ 1 ≤ va_up (a.1 4) (a.2 12) y q ∧ va_up (a.1 4) (a.2 12) y q ≤ 9
    rw [up_e, up_e]
    by_cases e : q = a.2 12
    · rw [if_pos e, if_pos e]; exact ⟨hx.1, hx.2, hy.1, hy.2⟩
    · rw [if_neg e, if_neg e]; exact hi.rl (by omega)

theorem Rel.same {F : FS} {M : GS} (hR : Rel F M) (j : Nat) : Rel (va_up F.1 j (F.1 j), F.2.1, F.2.2) M := by
  have e : va_up F.1 j (F.1 j) = F.1 := by
    funext k; rw [up_e]; split
    · rename_i h; rw [h]
    · rfl
  rw [e]; exact hR
