/-! the reference's pages, as numbers -/
theorem PV.kd {f : Nat → Int32} {p : Nat} {a : AH} (h : PV f p a) {j : Nat} (hj : j < a.2 5) : f (p + j) = nI (a.1 0 j) := h.1 j hj
theorem PV.wm {f : Nat → Int32} {p : Nat} {a : AH} (h : PV f p a) {j : Nat} (hj : j < a.2 5) : f (p + 6 + j) = nI (a.1 1 j) := h.2.1 j hj
theorem PV.fd {f : Nat → Int32} {p : Nat} {a : AH} (h : PV f p a) {j : Nat} (hj : j < 12) : f (p + 19 + j) = nI (a.1 2 j) := h.2.2.1 j hj
theorem PV.ln {f : Nat → Int32} {p : Nat} {a : AH} (h : PV f p a) {j : Nat} (hj : j < a.2 12) : f (p + 31 + j) = nI (a.1 3 j) := h.2.2.2.1 j hj
theorem PV.pr {f : Nat → Int32} {p : Nat} {a : AH} (h : PV f p a) {j : Nat} (hj : j < a.2 12) : f (p + 35 + j) = nI (a.1 4 j) := h.2.2.2.2.1 j hj
theorem PV.b {f : Nat → Int32} {p : Nat} {a : AH} (h : PV f p a) : f (p + 12) = nI (a.2 5) := h.2.2.2.2.2.1
theorem PV.w {f : Nat → Int32} {p : Nat} {a : AH} (h : PV f p a) : f (p + 13) = nI (a.2 6) - 12 := h.2.2.2.2.2.2.1
theorem PV.s {f : Nat → Int32} {p : Nat} {a : AH} (h : PV f p a) : f (p + 14) = nI (a.2 7) := h.2.2.2.2.2.2.2.1
theorem PV.wd {f : Nat → Int32} {p : Nat} {a : AH} (h : PV f p a) : f (p + 15) = nI (a.2 8) := h.2.2.2.2.2.2.2.2.1
theorem PV.re {f : Nat → Int32} {p : Nat} {a : AH} (h : PV f p a) : f (p + 16) = nI (a.2 9) - 2 := h.2.2.2.2.2.2.2.2.2.1
theorem PV.u {f : Nat → Int32} {p : Nat} {a : AH} (h : PV f p a) : f (p + 17) = nI (a.2 10) := h.2.2.2.2.2.2.2.2.2.2.1
theorem PV.y {f : Nat → Int32} {p : Nat} {a : AH} (h : PV f p a) : f (p + 18) = nI (a.2 11) := h.2.2.2.2.2.2.2.2.2.2.2.1
theorem PV.r {f : Nat → Int32} {p : Nat} {a : AH} (h : PV f p a) : f (p + 39) = nI (a.2 12) := h.2.2.2.2.2.2.2.2.2.2.2.2
theorem sA_sA (g : GS) (k : Nat) (f f' : Nat → Int32) : sA (sA g k f) k f' = sA g k f' := by
  unfold sA
  rw [bx_uu]
theorem sA_s (g : GS) (k : Nat) (f : Nat → Int32) : (sA g k f).1 k = f := by simp [sA_1]
theorem sA_n (g : GS) {k j : Nat} (f : Nat → Int32) (h : j ≠ k) : (sA g k f).1 j = g.1 j := by simp [sA_1, h]
theorem sA_id (g : GS) (k : Nat) : sA g k (g.1 k) = g := by
  unfold sA
  refine Prod.ext ?_ rfl
  funext j
  show va_up g.1 k (g.1 k) j = g.1 j
  rw [up_e]
  split
  · rename_i h; rw [h]
  · rfl
/-- in(v, low, high) -/
theorem in_e (x y z : Int64) : mX8_in x y z = some (if y.toInt ≤ x.toInt ∧ x.toInt ≤ z.toInt then 1 else 0) := by
  unfold mX8_in
  simp only [Int64.lt_iff_toInt_lt]
  by_cases h1 : x.toInt < y.toInt
  · rw [if_pos h1, if_neg (by omega)]
  · by_cases h2 : z.toInt < x.toInt
    · rw [if_neg h1, if_pos h2, if_neg (by omega)]
    · rw [if_neg h1, if_neg h2, if_pos (by omega)]
theorem i64 (x : Int32) : x.toInt64.toInt = x.toInt := Int32.toInt_toInt64 x
theorem nI_m1 {n : Nat} (h : n < 2 ^ 30) : (nI n - 1).toInt = (n : Int) - 1 := pk_sub_toInt (b := 1) h (by decide)
/-- 'is one of n' in the reference's words -/
theorem in_zb (x : Int32) {n : Nat} (hn : n < 2 ^ 30) {z : Int64} (hz : z.toInt = (n : Int) - 1) : mX8_in x.toInt64 0 z = some (zb x n) := by
  rw [in_e, i64, hz]
  congr 1
  unfold zb
  have h0 : (0 : Int64).toInt = 0 := by decide
  rw [h0]
  rcases cs x n (by omega) with h | ⟨k, hk, rfl⟩
  · rw [if_pos h, if_neg]
    intro z2
    rcases h with h | h
    · rw [Int32.lt_iff_toInt_lt] at h
      have : (0 : Int32).toInt = 0 := by decide
      omega
    · have : x.toNatClampNeg = x.toInt.toNat := rfl
      omega
  · rw [nI_toInt (by omega), if_pos (by omega), if_neg]
    rw [nI_clamp (by omega)]
    intro z2
    rcases z2 with z2 | z2
    · exact nI_pos (by omega) z2
    · omega
theorem rtZ_zb (x : Int32) (n : Nat) : rtZ (zb x n) = some (zb x n) := by
  unfold rtZ zb
  split <;> rfl
theorem longOn_e {g : GS} {p : Nat} {a : AH} (hv : PV (g.1 0) p a) (hp : p + 40 ≤ 240) : mX8_longOn g (nI p) = some (nI (a.2 6)) := by
  unfold mX8_longOn
  rw [L_13, nI_add, ald_nI (by omega) (by decide), obs, hv.w, Int32.sub_add_cancel]
theorem isPlace_e {g : GS} {a : AH} (hv : PV (g.1 0) 0 a) (hi : HI a) (i : Int32) : mX8_isPlace g i = some (zb i (a.2 6)) := by
  have hb := hi.nb
  unfold mX8_isPlace
  rw [L_0, longOn_e hv (by decide), obs, in_zb i (n := a.2 6) (by omega) (by rw [i64, nI_m1 (by omega)]), obs, rtZ_zb, obs]
theorem isBlock_e {g : GS} {a : AH} (hv : PV (g.1 0) 0 a) (hi : HI a) (i : Int32) : mX8_isBlock g i = some (zb i (a.2 5)) := by
  have hb := hi.nb
  have h := hv.b
  unfold mX8_isBlock
  rw [L_12, ald_nI (by decide) (by decide), obs, show (12 : Nat) = 0 + 12 from rfl, h, in_zb i (n := a.2 5) (by omega) (by rw [i64, nI_m1 (by omega)]), obs, rtZ_zb, obs]
theorem isRoll_e {g : GS} {a : AH} (hv : PV (g.1 0) 0 a) (hi : HI a) (i : Int32) : mX8_isRoll g i = some (zb i (a.2 12)) := by
  have hb := hi.nb
  have h := hv.r
  unfold mX8_isRoll
  rw [L_39, ald_nI (by decide) (by decide), obs, show (39 : Nat) = 0 + 39 from rfl, h, in_zb i (n := a.2 12) (by omega) (by rw [i64, nI_m1 (by omega)]), obs, rtZ_zb, obs]
theorem whoOn_e {g : GS} {p : Nat} {a : AH} (hv : PV (g.1 0) p a) (hp : p + 40 ≤ 240) (hi : HI a) {i : Nat} (hx : i < 1000) : mX8_whoOn g (nI p) (nI i) = some (whoZ a i) := by
  have hb := hi.nb
  unfold mX8_whoOn whoZ
  rw [L_12, L_14, nI_add, nI_add, ald_nI (by omega) (by decide), obs, hv.b]
  by_cases h : a.2 5 = 0
  · rw [h, if_pos (by rfl), if_pos rfl]
  · rw [if_neg (nI_ne0 (by omega) (by omega)), if_neg h, ald_nI (by omega) (by decide), obs, hv.s, nI_add, irm_nI (by omega) (by omega) (by omega), obs]
    rfl
theorem frankOn_e {g : GS} {p : Nat} {a : AH} (hv : PV (g.1 0) p a) (hp : p + 40 ≤ 240) (hi : HI a) {i : Nat} (hx : i < 12) : mX8_frankOn g (nI p) (nI i) = some (nI (frN a i)) := by
  have hb := hi.nb
  unfold mX8_frankOn
  rw [whoOn_e hv hp hi (by omega), obs]
  unfold whoZ frN
  by_cases h0 : a.2 5 = 0
  · rw [if_pos h0, if_pos rfl, if_pos (Or.inl h0)]
    rfl
  · have hw := whoN_lt (a := a) (by omega) i
    have h24 := bsN_le hi hw i
    have hf := hi.fd hx
    have hkd := hi.kd hw
    have hwm := hi.wm hw
    rw [if_neg h0, if_neg (by
      intro z
      have z2 := congrArg Int32.toInt z
      rw [nI_toInt (by omega)] at z2
      have : (-4 : Int32).toInt = -4 := by decide
      omega)]
    simp only [L_0, L_1, L_2, L_3, L_4, L_5, L_6, L_7, L_8, L_9, L_10, L_11, L_12, L_13, L_14, L_15, L_16, L_17, L_18, L_19, L_20, L_30, L_31, L_32, L_35, L_37, L_39, L_40, L_43, L_48, L_57, L_59, L_60, L_97, L_99, L_100, L_120, L_122, L_127, L_160, L_200, L_255, L_999, L_1000, L_100000, L_1000000, nI_add]
    rw [ald_nI (by omega) (by decide), obs, hv.u]
    by_cases hu : a.2 10 = i + 1
    · rw [if_pos (by rw [hu]), if_pos (Or.inr hu)]
    · rw [if_neg (by rw [nI_eq (by omega) (by omega)]; exact hu), ald_nI (by omega) (by decide), obs, hv.kd hw, ald_nI (by omega) (by decide), obs, hv.wm hw, irm_nI (by omega) (by decide) (by decide), obs, if_neg (by omega)]
      simp (disch := omega) only [nI_eq]
      have e : (if i % 3 = 2 then some (nI (a.1 1 (whoN a i)) + nI 3) else some (nI (a.1 1 (whoN a i)))) = some (nI (if i % 3 = 2 then a.1 1 (whoN a i) + 3 else a.1 1 (whoN a i))) := by split <;> simp [nI_add]
      simp only [nI_add] at e ⊢
      rw [e, obs]
      have e2 : (if a.1 0 (whoN a i) = 0 then some (nI (a.1 1 (whoN a i))) else if a.1 0 (whoN a i) = 1 then some (nI (if i % 3 = 2 then a.1 1 (whoN a i) + 3 else a.1 1 (whoN a i))) else if a.1 0 (whoN a i) = 2 then some (nI 2 * nI (if i % 3 = 2 then a.1 1 (whoN a i) + 3 else a.1 1 (whoN a i))) else Option.bind (idv (nI (a.1 1 (whoN a i))) (nI 2)) fun v13 => some v13) = some (nI (bsN a (whoN a i) i)) := by
        rw [idv_nI (by omega) (by decide) (by decide), obs, pk_mul]
        unfold bsN
        split
        · rfl
        · split
          · rfl
          · split <;> rfl
      rw [e2, obs, ald_nI (by omega) (by decide), obs, hv.fd hx]
      rw [ite_le (by omega) (by omega)]
      by_cases h : bsN a (whoN a i) i ≤ a.1 2 i
      · rw [if_pos h, show bsN a (whoN a i) i - a.1 2 i = 0 by omega]
      · rw [if_neg h, obs, pk_sub (by omega)]
theorem frankOfAll8_e {g : GS} {p : Nat} {a : AH} (hv : PV (g.1 0) p a) (hp : p + 40 ≤ 240) (hi : HI a) : mX8_frankOfAll g (nI p) = some (nI (frAll a)) := by
  have hb := hi.nb
  unfold mX8_frankOfAll
  rw [whO_for (fun i => (nI (sumN (frN a) i), nI i)) (a.2 6) (nI (sumN (frN a) (a.2 6)), nI (a.2 6)) (by rfl) ?_ ?_ (by omega)]
  · rfl
  · intro i hx
    unfold mX8_frankOfAll_l4
    simp only
    rw [longOn_e hv hp, obs, if_neg (nI_ge hx (by omega)), frankOn_e hv hp hi (by omega), obs, nI_add, L_1, nI_add]
    rfl
  · unfold mX8_frankOfAll_l4
    simp only
    rw [longOn_e hv hp, obs, if_pos (nI_le (Nat.le_refl _) (by omega))]
/-- nothing outside the page p has changed -/
def FrP (f f' : Nat → Int32) (p : Nat) : Prop := ∀ q, q < p ∨ p + 40 ≤ q → f' q = f q
theorem PV.frame {f f' : Nat → Int32} {p q : Nat} {a : AH} (h : PV f q a) (hi : HI a) (hf : FrP f f' p) (hd : q + 40 ≤ p ∨ p + 40 ≤ q) : PV f' q a := by
  have hb := hi.nb
  refine ⟨fun j hj => ?_, fun j hj => ?_, fun j hj => ?_, fun j hj => ?_, fun j hj => ?_, ?_, ?_, ?_, ?_, ?_, ?_, ?_, ?_⟩
  · rw [hf _ (by omega)]; exact h.kd hj
  · rw [hf _ (by omega)]; exact h.wm hj
  · rw [hf _ (by omega)]; exact h.fd hj
  · rw [hf _ (by omega)]; exact h.ln hj
  · rw [hf _ (by omega)]; exact h.pr hj
  · rw [hf _ (by omega)]; exact h.b
  · rw [hf _ (by omega)]; exact h.w
  · rw [hf _ (by omega)]; exact h.s
  · rw [hf _ (by omega)]; exact h.wd
  · rw [hf _ (by omega)]; exact h.re
  · rw [hf _ (by omega)]; exact h.u
  · rw [hf _ (by omega)]; exact h.y
  · rw [hf _ (by omega)]; exact h.r
/-- n years at once -/
def fdN (a : AH) (n i : Nat) : Nat := if i < a.2 6 ∧ i ≤ a.2 8 + a.2 9 ∧ a.2 8 ≤ i + a.2 9 then min 99 (a.1 2 i + n) else a.1 2 i
def passA (n : Nat) (a : AH) : AH := (va_up a.1 2 (fdN a n), va_up a.2 11 (a.2 11 + n))
