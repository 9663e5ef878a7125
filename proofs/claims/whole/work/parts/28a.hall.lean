/-! the class's Hall, as numbers -/
theorem L_0 : (0 : Int32) = nI 0 := rfl
theorem L_1 : (1 : Int32) = nI 1 := rfl
theorem L_2 : (2 : Int32) = nI 2 := rfl
theorem L_3 : (3 : Int32) = nI 3 := rfl
theorem L_4 : (4 : Int32) = nI 4 := rfl
theorem L_5 : (5 : Int32) = nI 5 := rfl
theorem L_6 : (6 : Int32) = nI 6 := rfl
theorem L_7 : (7 : Int32) = nI 7 := rfl
theorem L_8 : (8 : Int32) = nI 8 := rfl
theorem L_9 : (9 : Int32) = nI 9 := rfl
theorem L_10 : (10 : Int32) = nI 10 := rfl
theorem L_11 : (11 : Int32) = nI 11 := rfl
theorem L_12 : (12 : Int32) = nI 12 := rfl
theorem L_13 : (13 : Int32) = nI 13 := rfl
theorem L_14 : (14 : Int32) = nI 14 := rfl
theorem L_15 : (15 : Int32) = nI 15 := rfl
theorem L_16 : (16 : Int32) = nI 16 := rfl
theorem L_17 : (17 : Int32) = nI 17 := rfl
theorem L_18 : (18 : Int32) = nI 18 := rfl
theorem L_19 : (19 : Int32) = nI 19 := rfl
theorem L_20 : (20 : Int32) = nI 20 := rfl
theorem L_30 : (30 : Int32) = nI 30 := rfl
theorem L_31 : (31 : Int32) = nI 31 := rfl
theorem L_32 : (32 : Int32) = nI 32 := rfl
theorem L_35 : (35 : Int32) = nI 35 := rfl
theorem L_37 : (37 : Int32) = nI 37 := rfl
theorem L_39 : (39 : Int32) = nI 39 := rfl
theorem L_40 : (40 : Int32) = nI 40 := rfl
theorem L_43 : (43 : Int32) = nI 43 := rfl
theorem L_48 : (48 : Int32) = nI 48 := rfl
theorem L_57 : (57 : Int32) = nI 57 := rfl
theorem L_59 : (59 : Int32) = nI 59 := rfl
theorem L_60 : (60 : Int32) = nI 60 := rfl
theorem L_97 : (97 : Int32) = nI 97 := rfl
theorem L_99 : (99 : Int32) = nI 99 := rfl
theorem L_100 : (100 : Int32) = nI 100 := rfl
theorem L_120 : (120 : Int32) = nI 120 := rfl
theorem L_122 : (122 : Int32) = nI 122 := rfl
theorem L_127 : (127 : Int32) = nI 127 := rfl
theorem L_160 : (160 : Int32) = nI 160 := rfl
theorem L_200 : (200 : Int32) = nI 200 := rfl
theorem L_255 : (255 : Int32) = nI 255 := rfl
theorem L_999 : (999 : Int32) = nI 999 := rfl
theorem L_1000 : (1000 : Int32) = nI 1000 := rfl
theorem L_100000 : (100000 : Int32) = nI 100000 := rfl
theorem L_1000000 : (1000000 : Int32) = nI 1000000 := rfl
theorem L_24 : (24 : Int32) = nI 24 := rfl
theorem L_33 : (33 : Int32) = nI 33 := rfl
theorem L_34 : (34 : Int32) = nI 34 := rfl
theorem L_36 : (36 : Int32) = nI 36 := rfl
theorem L_38 : (38 : Int32) = nI 38 := rfl
theorem L_69 : (69 : Int32) = nI 69 := rfl
theorem L_70 : (70 : Int32) = nI 70 := rfl
theorem L_72 : (72 : Int32) = nI 72 := rfl
theorem L_214 : (214 : Int32) = nI 214 := rfl
theorem L_215 : (215 : Int32) = nI 215 := rfl
theorem L_288 : (288 : Int32) = nI 288 := rfl
theorem L_174 : (174 : Int32) = nI 174 := rfl
theorem L_175 : (175 : Int32) = nI 175 := rfl
theorem L_206 : (206 : Int32) = nI 206 := rfl

theorem sI_1 (g : GS) (k : Nat) (v : Int32) : (sI g k v).1 = g.1 := rfl
theorem sI_2 (g : GS) (k : Nat) (v : Int32) (j : Nat) : (sI g k v).2 j = if j = k then v else g.2 j := rfl
theorem sA_1 (g : GS) (k : Nat) (f : Nat → Int32) (j : Nat) : (sA g k f).1 j = if j = k then f else g.1 j := rfl
theorem sA_2 (g : GS) (k : Nat) (f : Nat → Int32) : (sA g k f).2 = g.2 := rfl
theorem upd_e (f : Nat → Int32) (k : Nat) (x : Int32) (j : Nat) : upd f k x j = if j = k then x else f j := rfl
theorem up_e {α : Type} (f : Nat → α) (k : Nat) (x : α) (j : Nat) : va_up f k x j = if j = k then x else f j := rfl
theorem obs {α β : Type} (x : α) (f : α → Option β) : Option.bind (some x) f = f x := rfl
theorem ite_le {α : Type} {a b : Nat} (ha : a < 2 ^ 31) (hb : b < 2 ^ 31) {inst : Decidable (nI a ≤ nI b)} (x y : α) : @ite α (nI a ≤ nI b) inst x y = if a ≤ b then x else y := by
  by_cases h : a ≤ b
  · rw [if_pos h, if_pos ((nI_leI ha hb).mpr h)]
  · rw [if_neg h, if_neg (fun z => h ((nI_leI ha hb).mp z))]
theorem ite_lt {α : Type} {a b : Nat} (ha : a < 2 ^ 31) (hb : b < 2 ^ 31) {inst : Decidable (nI a < nI b)} (x y : α) : @ite α (nI a < nI b) inst x y = if a < b then x else y := by
  by_cases h : a < b
  · rw [if_pos h, if_pos ((nI_ltI ha hb).mpr h)]
  · rw [if_neg h, if_neg (fun z => h ((nI_ltI ha hb).mp z))]
theorem ite_eq {α : Type} {a b : Nat} (ha : a < 2 ^ 31) (hb : b < 2 ^ 31) {inst : Decidable (nI a = nI b)} (x y : α) : @ite α (nI a = nI b) inst x y = if a = b then x else y := by
  by_cases h : a = b
  · rw [if_pos h, if_pos ((nI_eq ha hb).mpr h)]
  · rw [if_neg h, if_neg (fun z => h ((nI_eq ha hb).mp z))]
theorem HV.kd {g : GS} {a : AH} (h : HV g a) {j : Nat} (hj : j < a.2 5) : g.1 0 j = nI (a.1 0 j) := h.1 j hj
theorem HV.wm {g : GS} {a : AH} (h : HV g a) {j : Nat} (hj : j < a.2 5) : g.1 1 j = nI (a.1 1 j) := h.2.1 j hj
theorem HV.fd {g : GS} {a : AH} (h : HV g a) {j : Nat} (hj : j < 12) : g.1 2 j = nI (a.1 2 j) := h.2.2.1 j hj
theorem HV.ln {g : GS} {a : AH} (h : HV g a) {j : Nat} (hj : j < a.2 12) : g.1 3 j = nI (a.1 3 j) := h.2.2.2.1 j hj
theorem HV.pr {g : GS} {a : AH} (h : HV g a) {j : Nat} (hj : j < a.2 12) : g.1 4 j = nI (a.1 4 j) := h.2.2.2.2.1 j hj
theorem HV.b {g : GS} {a : AH} (h : HV g a) : g.2 5 = nI (a.2 5) := h.2.2.2.2.2.1
theorem HV.w {g : GS} {a : AH} (h : HV g a) : g.2 6 = nI (a.2 6) := h.2.2.2.2.2.2.1
theorem HV.s {g : GS} {a : AH} (h : HV g a) : g.2 7 = nI (a.2 7) := h.2.2.2.2.2.2.2.1
theorem HV.wd {g : GS} {a : AH} (h : HV g a) : g.2 8 = nI (a.2 8) := h.2.2.2.2.2.2.2.2.1
theorem HV.re {g : GS} {a : AH} (h : HV g a) : g.2 9 = nI (a.2 9) := h.2.2.2.2.2.2.2.2.2.1
theorem HV.u {g : GS} {a : AH} (h : HV g a) : g.2 10 = upv (a.2 10) := h.2.2.2.2.2.2.2.2.2.2.1
theorem HV.y {g : GS} {a : AH} (h : HV g a) : g.2 11 = nI (a.2 11) := h.2.2.2.2.2.2.2.2.2.2.2.1
theorem HV.r {g : GS} {a : AH} (h : HV g a) : g.2 12 = nI (a.2 12) := h.2.2.2.2.2.2.2.2.2.2.2.2
theorem HI.kd {a : AH} (h : HI a) {j : Nat} (hj : j < a.2 5) : a.1 0 j < 4 := (h.2.2.2.2.2.2.2.2.2.1 j hj).1
theorem HI.wm {a : AH} (h : HI a) {j : Nat} (hj : j < a.2 5) : a.1 1 j ≤ 9 := (h.2.2.2.2.2.2.2.2.2.1 j hj).2
theorem HI.fd {a : AH} (h : HI a) {j : Nat} (hj : j < 12) : a.1 2 j ≤ 99 := h.2.2.2.2.2.2.2.2.2.2.1 j hj
theorem HI.rl {a : AH} (h : HI a) {j : Nat} (hj : j < a.2 12) : 1 ≤ a.1 3 j ∧ a.1 3 j ≤ 9 ∧ 1 ≤ a.1 4 j ∧ a.1 4 j ≤ 9 := h.2.2.2.2.2.2.2.2.2.2.2 j hj
/-- all plain bounds at once -/
theorem HI.nb {a : AH} (h : HI a) : a.2 5 ≤ 6 ∧ 1 ≤ a.2 6 ∧ a.2 6 ≤ 12 ∧ a.2 7 ≤ 5 ∧ a.2 8 ≤ 11 ∧ a.2 9 ≤ 11 ∧ a.2 10 ≤ 12 ∧ a.2 11 ≤ 2000 ∧ a.2 12 ≤ 4 := ⟨h.1, h.2.1, h.2.2.1, h.2.2.2.1, h.2.2.2.2.1, h.2.2.2.2.2.1, h.2.2.2.2.2.2.1, h.2.2.2.2.2.2.2.1, h.2.2.2.2.2.2.2.2.1⟩
/-- whether j is one of n numbers from 0 on -/
def zb (j : Int32) (n : Nat) : Int32 := if j < 0 ∨ n ≤ j.toNatClampNeg then 0 else 1
theorem zb_y {k n : Nat} (h : k < n) (hk : k < 2 ^ 31) : zb (nI k) n = 1 := by
  unfold zb
  rw [if_neg]
  rw [nI_clamp hk]
  intro z
  rcases z with z | z
  · exact nI_pos hk z
  · omega
theorem zb_n {j : Int32} {n : Nat} (h : j < 0 ∨ n ≤ j.toNatClampNeg) : zb j n = 0 := if_pos h
/-- an int is outside, or one of the n -/
theorem cs (j : Int32) (n : Nat) (hn : n < 2 ^ 31) : (j < 0 ∨ n ≤ j.toNatClampNeg) ∨ ∃ k : Nat, k < n ∧ j = nI k := by
  by_cases h : j < 0 ∨ n ≤ j.toNatClampNeg
  · exact Or.inl h
  · obtain ⟨k, hk, rfl⟩ := nI_of (fun z => h (Or.inl z))
    rw [nI_clamp hk] at h
    exact Or.inr ⟨k, by omega, rfl⟩
theorem has3 (x j : Int32) (n N : Nat) (hx : x = nI n) (hn : n ≤ N) (hN : N < 2 ^ 31) : (if j < 0 then some (0 : Int32) else if x ≤ j then some (0 : Int32) else if nI N ≤ j then some (0 : Int32) else some (1 : Int32)) = some (zb j n) := by
  subst hx
  unfold zb
  by_cases h0 : j < 0
  · simp [h0]
  · obtain ⟨k, hk, rfl⟩ := nI_of h0
    rw [nI_clamp hk]
    simp only [h0, if_false, false_or]
    simp (disch := omega) only [nI_leI]
    by_cases h1 : n ≤ k
    · simp [h1]
    · simp [h1, show ¬ N ≤ k by omega]
theorem hasBlock_e {g : GS} {a : AH} (hv : HV g a) (hi : HI a) (j : Int32) : mX0_hasBlock g j = some (zb j (a.2 5)) := has3 _ j _ 6 hv.b hi.nb.1 (by decide)
theorem hasPlace_e {g : GS} {a : AH} (hv : HV g a) (hi : HI a) (j : Int32) : mX0_hasPlace g j = some (zb j (a.2 6)) := has3 _ j _ 12 hv.w hi.nb.2.2.1 (by decide)
theorem hasRoll_e {g : GS} {a : AH} (hv : HV g a) (hi : HI a) (j : Int32) : mX0_hasRoll g j = some (zb j (a.2 12)) := has3 _ j _ 4 hv.r hi.nb.2.2.2.2.2.2.2.2 (by decide)
theorem msb_nI {n : Nat} (h : n < 2 ^ 31) : (nI n).toBitVec.msb = false := by
  rw [BitVec.msb_eq_toInt]
  have := nI_toInt h
  have e : (nI n).toBitVec.toInt = (n : Int) := this
  rw [e]
  simp
theorem xor_nn {x y : Nat} (hx : x < 2 ^ 31) (hy : y < 2 ^ 31) : (0 : Int32) ≤ nI x ^^^ nI y := by
  rw [Int32.le_iff_toInt_le]
  have h : (nI x ^^^ nI y).toBitVec.msb = false := by
    rw [Int32.toBitVec_xor, BitVec.msb_xor, msb_nI hx, msb_nI hy]
    rfl
  rw [BitVec.msb_eq_toInt] at h
  have h2 : ¬ (nI x ^^^ nI y).toInt < 0 := of_decide_eq_false h
  have : (0 : Int32).toInt = 0 := by decide
  omega
theorem irm_nI {x y : Nat} (hx : x < 2 ^ 31) (h0 : 0 < y) (hy : y < 2 ^ 31) : irm (nI x) (nI y) = some (nI (x % y)) := by
  unfold irm
  rw [if_neg (nI_ne0 h0 hy), pk_rem hx h0 hy]
theorem idv_nI {x y : Nat} (hx : x < 2 ^ 31) (h0 : 0 < y) (hy : y < 2 ^ 31) : idv (nI x) (nI y) = some (nI (x / y)) := by
  unfold idv
  rw [if_neg (nI_ne0 h0 hy), pk_div hx h0 hy]
theorem floorMod_nI {x y : Nat} (hx : x < 2 ^ 31) (h0 : 0 < y) (hy : y < 2 ^ 31) : mJ9_floorMod_7cf53 (nI x) (nI y) = some (nI (x % y)) := by
  unfold mJ9_floorMod_7cf53
  rw [irm_nI hx h0 hy, obs, if_pos (xor_nn hx hy)]
/-- WHO -/
def whoN (a : AH) (i : Nat) : Nat := (i + a.2 7) % a.2 5
theorem whoN_lt {a : AH} (h : 0 < a.2 5) (i : Nat) : whoN a i < a.2 5 := Nat.mod_lt _ h
def whoZ (a : AH) (i : Nat) : Int32 := if a.2 5 = 0 then -4 else nI (whoN a i)
theorem whoAt_e {g : GS} {a : AH} (hv : HV g a) (hi : HI a) {i : Nat} (hx : i < 1000) : mX0_whoAt g (nI i) = some (whoZ a i) := by
  have hb := hi.nb
  unfold mX0_whoAt whoZ
  rw [hv.b, hv.s, L_1, nI_add]
  by_cases h : a.2 5 = 0
  · rw [if_neg (by rw [nI_leI (by omega) (by omega)]; omega), if_pos h]
  · rw [if_pos (by rw [nI_leI (by omega) (by omega)]; omega), floorMod_nI (by omega) (by omega) (by omega), obs, if_neg h]
    rfl
/-- FRANK of a BLOCK j at a PLACE i, unfaded -/
def bsN (a : AH) (j i : Nat) : Nat := if a.1 0 j = 0 then a.1 1 j else if a.1 0 j = 1 then (if i % 3 = 2 then a.1 1 j + 3 else a.1 1 j) else if a.1 0 j = 2 then 2 * (if i % 3 = 2 then a.1 1 j + 3 else a.1 1 j) else a.1 1 j / 2
theorem bsN_le {a : AH} (hi : HI a) {j : Nat} (hj : j < a.2 5) (i : Nat) : bsN a j i ≤ 24 := by
  have := hi.wm hj
  unfold bsN
  split
  · omega
  · split
    · split <;> omega
    · split
      · split <;> omega
      · omega
theorem frankWhenNew_e {g : GS} {a : AH} (hv : HV g a) (hi : HI a) {j i : Nat} (hj : j < a.2 5) (hx : i < 1000) : mX0_frankWhenNew g (nI j) (nI i) = some (nI (bsN a j i)) := by
  have hb := hi.nb
  have hk := hi.kd hj
  have hw := hi.wm hj
  unfold mX0_frankWhenNew
  rw [hasBlock_e hv hi, obs, zb_y hj (by omega), if_neg (by decide), ald_nI (by omega) (by decide), obs, hv.wm hj, L_3, irm_nI (by omega) (by decide) (by decide), obs]
  simp only [L_0, L_1, L_2, L_3, L_4, L_5, L_6, L_7, L_8, L_9, L_10, L_11, L_12, L_13, L_14, L_15, L_16, L_17, L_18, L_19, L_20, L_30, L_31, L_32, L_35, L_37, L_39, L_40, L_43, L_48, L_57, L_59, L_60, L_97, L_99, L_100, L_120, L_122, L_127, L_160, L_200, L_255, L_999, L_1000, L_100000, L_1000000, L_24, L_33, L_34, L_36, L_38, L_69, L_70, L_72, L_214, L_215, L_288, L_174, L_175, L_206]
  simp (disch := omega) only [nI_eq, nI_add]
  rw [ald_nI (by omega) (by decide)]
  have e : (if i % 3 = 2 then some (nI (a.1 1 j + 3)) else some (nI (a.1 1 j))) = some (nI (if i % 3 = 2 then a.1 1 j + 3 else a.1 1 j)) := by split <;> rfl
  rw [e]
  simp only [obs]
  rw [hv.kd hj]
  simp (disch := omega) only [nI_eq, pk_mul]
  unfold bsN
  rcases (show a.1 0 j = 0 ∨ a.1 0 j = 1 ∨ a.1 0 j = 2 ∨ a.1 0 j = 3 by omega) with h | h | h | h
  · simp [h]
  · simp [h]
  · simp [h]
  · rw [idv_nI (by omega) (by decide) (by decide)]
    simp [h]
/-- FRANK at a PLACE -/
def frN (a : AH) (i : Nat) : Nat := if a.2 5 = 0 ∨ a.2 10 = i + 1 then 0 else bsN a (whoN a i) i - a.1 2 i
theorem frN_le {a : AH} (hi : HI a) (i : Nat) : frN a i ≤ 24 := by
  unfold frN
  split
  · omega
  · rename_i h
    have := bsN_le hi (whoN_lt (a := a) (by omega) i) i
    omega
theorem upv_ne {k i : Nat} (hk : k ≤ 12) (hi : i < 1000) : nI i = upv k ↔ k = i + 1 := by
  unfold upv
  by_cases h : k = 0
  · subst h
    rw [if_pos rfl]
    constructor
    · intro z
      have z2 := congrArg Int32.toInt z
      rw [nI_toInt (by omega)] at z2
      have : (-4 : Int32).toInt = -4 := by decide
      omega
    · intro z; omega
  · rw [if_neg h, nI_eq (by omega) (by omega)]
    omega
theorem frankAt_e {g : GS} {a : AH} (hv : HV g a) (hi : HI a) {i : Nat} (hx : i < a.2 6) : mX0_frankAt g (nI i) = some (nI (frN a i)) := by
  have hb := hi.nb
  unfold mX0_frankAt
  rw [hasPlace_e hv hi, obs, zb_y hx (by omega), if_neg (by decide), hv.u]
  unfold frN
  by_cases hu : a.2 10 = i + 1
  · rw [if_pos ((upv_ne (by omega) (by omega)).mpr hu), if_pos (Or.inr hu)]
    rfl
  · rw [if_neg (fun z => hu ((upv_ne (by omega) (by omega)).mp z)), whoAt_e hv hi (by omega), obs, hasBlock_e hv hi, obs]
    unfold whoZ
    by_cases h0 : a.2 5 = 0
    · rw [if_pos h0, zb_n (Or.inl (by decide)), if_pos rfl, if_pos (Or.inl h0)]
      rfl
    · have hw := whoN_lt (a := a) (by omega) i
      have h24 := bsN_le hi hw i
      have hf := hi.fd (show i < 12 by omega)
      have e : (if a.2 5 = 0 ∨ a.2 10 = i + 1 then 0 else bsN a (whoN a i) i - a.1 2 i) = bsN a (whoN a i) i - a.1 2 i := if_neg (by omega)
      rw [e, if_neg h0, zb_y hw (by omega), if_neg (by decide), frankWhenNew_e hv hi hw (by omega), obs, ald_nI (by omega) (by decide), obs, hv.fd (by omega)]
      congr 1
      have hlt : (0 : Int32) < nI (bsN a (whoN a i) i) - nI (a.1 2 i) ↔ a.1 2 i < bsN a (whoN a i) i := by
        rw [Int32.lt_iff_toInt_lt, pk_sub_toInt (by omega) (by omega), show (0 : Int32).toInt = 0 from by decide]
        omega
      by_cases h : a.1 2 i < bsN a (whoN a i) i
      · rw [if_pos (hlt.mpr h), pk_sub (by omega)]
      · rw [if_neg (fun z => h (hlt.mp z)), show bsN a (whoN a i) i - a.1 2 i = 0 by omega]
        rfl
theorem frankAt_o {g : GS} {a : AH} (hv : HV g a) (hi : HI a) {j : Int32} (hx : j < 0 ∨ a.2 6 ≤ j.toNatClampNeg) : mX0_frankAt g j = some 0 := by
  unfold mX0_frankAt
  rw [hasPlace_e hv hi, obs, zb_n hx, if_pos rfl]
/-- sums -/
def sumN (f : Nat → Nat) : Nat → Nat
  | 0 => 0
  | n + 1 => sumN f n + f n
theorem sumN_le {f : Nat → Nat} {B : Nat} (h : ∀ i, f i ≤ B) : ∀ n, sumN f n ≤ B * n
  | 0 => Nat.le_refl _
  | n + 1 => by
    have := sumN_le h n
    have := h n
    rw [sumN, Nat.mul_succ]
    omega
theorem sumN_congr {f g : Nat → Nat} : ∀ n, (∀ i, i < n → f i = g i) → sumN f n = sumN g n
  | 0, _ => rfl
  | n + 1, h => by rw [sumN, sumN, sumN_congr n (fun i hi => h i (by omega)), h n (by omega)]
/-- a window of a sum -/
theorem sumN_win (f : Nat → Nat) (s : Nat) : ∀ n m, sumN (fun j => if s ≤ j ∧ j < s + n then f j else 0) m = sumN (fun j => f (s + j)) (min n (m - s))
  | n, 0 => by simp [sumN]
  | n, m + 1 => by
    rw [sumN, sumN_win f s n m]
    by_cases h : s ≤ m ∧ m < s + n
    · rw [if_pos h, show min n (m + 1 - s) = (m - s) + 1 by omega, show min n (m - s) = m - s by omega, sumN, show s + (m - s) = m by omega]
    · rw [if_neg h, Nat.add_zero, show min n (m + 1 - s) = min n (m - s) by omega]
def sumW (f : Nat → Nat) (s n : Nat) : Nat := sumN (fun j => f (s + j)) n
theorem sumW_0 (f : Nat → Nat) (n : Nat) : sumW f 0 n = sumN f n := sumN_congr n (fun i _ => by rw [Nat.zero_add])
theorem frankFrom_e {g : GS} {a : AH} (hv : HV g a) (hi : HI a) {s n : Nat} (hx : s + n ≤ a.2 6) : mX0_frankFrom g (nI s) (nI n) = some (nI (sumW (frN a) s n)) := by
  have hb := hi.nb
  unfold mX0_frankFrom
  have hle : ∀ m, sumN (fun j => if s ≤ j ∧ j < s + n then frN a j else 0) m ≤ 24 * m := fun m => sumN_le (fun i => by
    split
    · exact frN_le hi i
    · omega) m
  rw [whO_for (fun i => (nI (sumN (fun j => if s ≤ j ∧ j < s + n then frN a j else 0) i), nI i)) 12 (nI (sumN (fun j => if s ≤ j ∧ j < s + n then frN a j else 0) 12), nI 12) (by rfl) ?_ ?_ (by decide)]
  · rw [obs, sumN_win]
    unfold sumW
    rw [show min n (12 - s) = n by omega]
  · intro i hx12
    unfold mX0_frankFrom_l5
    simp only [L_0, L_1, L_2, L_3, L_4, L_5, L_6, L_7, L_8, L_9, L_10, L_11, L_12, L_13, L_14, L_15, L_16, L_17, L_18, L_19, L_20, L_30, L_31, L_32, L_35, L_37, L_39, L_40, L_43, L_48, L_57, L_59, L_60, L_97, L_99, L_100, L_120, L_122, L_127, L_160, L_200, L_255, L_999, L_1000, L_100000, L_1000000, L_24, L_33, L_34, L_36, L_38, L_69, L_70, L_72, L_214, L_215, L_288, L_174, L_175, L_206, nI_add]
    simp (disch := omega) only [nI_leI, nI_ltI]
    rw [if_neg (by omega), sumN]
    by_cases h1 : i < s
    · rw [if_pos h1, obs, if_neg (by omega)]
      rfl
    · by_cases h2 : s + n ≤ i
      · rw [if_neg h1, if_pos h2, obs, if_neg (by omega)]
        rfl
      · rw [if_neg h1, if_neg h2, frankAt_e hv hi (by omega), obs, obs, if_pos (by omega), nI_add]
  · unfold mX0_frankFrom_l5
    simp only [L_0, L_1, L_2, L_3, L_4, L_5, L_6, L_7, L_8, L_9, L_10, L_11, L_12, L_13, L_14, L_15, L_16, L_17, L_18, L_19, L_20, L_30, L_31, L_32, L_35, L_37, L_39, L_40, L_43, L_48, L_57, L_59, L_60, L_97, L_99, L_100, L_120, L_122, L_127, L_160, L_200, L_255, L_999, L_1000, L_100000, L_1000000, L_24, L_33, L_34, L_36, L_38, L_69, L_70, L_72, L_214, L_215, L_288, L_174, L_175, L_206]
    rw [if_pos (nI_le (Nat.le_refl 12) (by decide))]
def frAll (a : AH) : Nat := sumN (frN a) (a.2 6)
theorem frAll_le {a : AH} (hi : HI a) : frAll a ≤ 288 := by
  have := sumN_le (frN_le hi) (a.2 6)
  have := hi.nb
  unfold frAll
  omega
theorem frankOfAll_e {g : GS} {a : AH} (hv : HV g a) (hi : HI a) : mX0_frankOfAll g = some (nI (frAll a)) := by
  unfold mX0_frankOfAll
  rw [hv.w, L_0, frankFrom_e hv hi (by omega), obs, sumW_0]
  rfl
