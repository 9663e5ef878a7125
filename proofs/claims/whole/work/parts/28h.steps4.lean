/-! years, what is ahead, what is best -/
/-- the greatest of f, the first of several: which, and how much, and 1 -/
def bsF (f : Nat → Nat) : Nat → Nat × Nat
  | 0 => (0, 0)
  | n + 1 => if (bsF f n).2 ≤ f n then (n, f n + 1) else bsF f n
theorem bsF_lt (f : Nat → Nat) : ∀ n, (bsF f n).1 ≤ n - 1
  | 0 => Nat.le_refl _
  | n + 1 => by
    have := bsF_lt f n
    rw [bsF]
    split
    · show n ≤ _; omega
    · omega
theorem bsF_2 (f : Nat → Nat) : ∀ n, 0 < n → (bsF f n).2 = f (bsF f n).1 + 1
  | 0, h => absurd h (by decide)
  | n + 1, _ => by
    rw [bsF]
    split
    · rfl
    · rename_i h
      rcases Nat.eq_zero_or_pos n with rfl | hn
      · exact absurd (Nat.zero_le _) h
      · exact bsF_2 f n hn
theorem bsF_le {f : Nat → Nat} {B : Nat} (hf : ∀ i, f i ≤ B) : ∀ n, (bsF f n).2 ≤ B + 1
  | 0 => Nat.zero_le _
  | n + 1 => by
    have := bsF_le hf n
    have := hf n
    rw [bsF]
    split
    · show f n + 1 ≤ _; omega
    · assumption
theorem bsF_y {f : Nat → Nat} {n : Nat} (h : (bsF f n).2 ≤ f n) : bsF f (n + 1) = (n, f n + 1) := if_pos h
theorem bsF_n {f : Nat → Nat} {n : Nat} (h : ¬ (bsF f n).2 ≤ f n) : bsF f (n + 1) = bsF f n := if_neg h
theorem le1T {v m : Nat} (h : v < m) (hm : m < 2 ^ 30) : (nI v ≤ nI m - nI 1) = True := eq_true (by
  rw [pk_sub (by omega)]; exact nI_le (by omega) (by omega))
theorem le1F {v m : Nat} (h : m ≤ v) (hv : v < 2 ^ 30) : (nI v ≤ nI m - nI 1) = False := eq_false (by
  rw [Int32.le_iff_toInt_le, pk_sub_toInt (by omega) (by decide), nI_toInt (by omega)]; omega)
theorem mi1 : (-nI 1 : Int32) = nI 0 - nI 1 := by decide
theorem mi1' : (-1 : Int32) = nI 0 - nI 1 := by decide
/-- bits of those that pass -/
def orZ (P : Nat → Bool) : Nat → Int32
  | 0 => nI 0
  | n + 1 => if P n then orZ P n ||| (nI 1 <<< (nI n &&& nI 31)) else orZ P n
theorem orZ_y {P : Nat → Bool} {n : Nat} (h : P n = true) : orZ P (n + 1) = orZ P n ||| (nI 1 <<< (nI n &&& nI 31)) := if_pos h
theorem orZ_n {P : Nat → Bool} {n : Nat} (h : P n = false) : orZ P (n + 1) = orZ P n := if_neg (by rw [h]; decide)
theorem pair_cs (w : Int32) : (mX7_isNoPair w = some (nI 1) ∧ mX8_in w.toInt64 (lN 0) (lN 1) = some (nI 0)) ∨ w = nI 0 ∨ w = nI 1 := by
  unfold mX7_isNoPair
  rcases cs2 w with h | ⟨k, hk, rfl⟩
  · left; simp (disch := omega) only [↓reduceIte, obs, esc_il, esc_ir, leT, leF, ltT, ltF, eqT, eqF, nleT, nleF, nltT, nltF, neqT, neqF, nI_add, pk_mul, ald_nI, ast_nI, irm_nI, idv_nI, zbT, zbF, in_T, in_F1, in_F2, nI_l, sI_1, sI_2, sA_1, sA_2, subK, add0, sub0, or0, lN_add, lN_mul, L_0, L_1, L_2, L_3, L_4, L_5, L_6, L_7, L_8, L_9, L_10, L_11, L_12, L_13, L_14, L_15, L_16, L_17, L_18, L_19, L_20, L_30, L_31, L_32, L_35, L_37, L_39, L_40, L_43, L_48, L_57, L_59, L_60, L_97, L_99, L_100, L_120, L_122, L_127, L_160, L_200, L_255, L_999, L_1000, L_100000, L_1000000, L_24, L_33, L_34, L_36, L_38, L_69, L_70, L_72, L_214, L_215, L_288, LL_0, LL_1, LL_2, LL_3, LL_5, LL_9, LL_10, LL_11, LL_12, LL_19, LL_20, LL_30, LL_39, LL_60, LL_99, LL_127, LL_999, ngLt h, ngLe h, ngGe h, ngGt h, ngEq h, ngEq' h, in_ng h, zb_ng h, and_self]
  by_cases h0 : k = 0
  · right; left; rw [h0]
  by_cases h1 : k = 1
  · right; right; rw [h1]
  · left; simp (disch := omega) only [↓reduceIte, obs, esc_il, esc_ir, leT, leF, ltT, ltF, eqT, eqF, nleT, nleF, nltT, nltF, neqT, neqF, nI_add, pk_mul, ald_nI, ast_nI, irm_nI, idv_nI, zbT, zbF, in_T, in_F1, in_F2, nI_l, sI_1, sI_2, sA_1, sA_2, subK, add0, sub0, or0, lN_add, lN_mul, L_0, L_1, L_2, L_3, L_4, L_5, L_6, L_7, L_8, L_9, L_10, L_11, L_12, L_13, L_14, L_15, L_16, L_17, L_18, L_19, L_20, L_30, L_31, L_32, L_35, L_37, L_39, L_40, L_43, L_48, L_57, L_59, L_60, L_97, L_99, L_100, L_120, L_122, L_127, L_160, L_200, L_255, L_999, L_1000, L_100000, L_1000000, L_24, L_33, L_34, L_36, L_38, L_69, L_70, L_72, L_214, L_215, L_288, LL_0, LL_1, LL_2, LL_3, LL_5, LL_9, LL_10, LL_11, LL_12, LL_19, LL_20, LL_30, LL_39, LL_60, LL_99, LL_127, LL_999, and_self]
theorem np0 : mX7_isNoPair (nI 0) = some (nI 0) := rfl
theorem np1 : mX7_isNoPair (nI 1) = some (nI 0) := rfl
theorem np0' : mX8_in (nI 0).toInt64 (lN 0) (lN 1) = some (nI 1) := by simp (disch := omega) only [↓reduceIte, obs, esc_il, esc_ir, leT, leF, ltT, ltF, eqT, eqF, nleT, nleF, nltT, nltF, neqT, neqF, nI_add, pk_mul, ald_nI, ast_nI, irm_nI, idv_nI, zbT, zbF, in_T, in_F1, in_F2, nI_l, sI_1, sI_2, sA_1, sA_2, subK, add0, sub0, or0, lN_add, lN_mul, L_0, L_1, L_2, L_3, L_4, L_5, L_6, L_7, L_8, L_9, L_10, L_11, L_12, L_13, L_14, L_15, L_16, L_17, L_18, L_19, L_20, L_30, L_31, L_32, L_35, L_37, L_39, L_40, L_43, L_48, L_57, L_59, L_60, L_97, L_99, L_100, L_120, L_122, L_127, L_160, L_200, L_255, L_999, L_1000, L_100000, L_1000000, L_24, L_33, L_34, L_36, L_38, L_69, L_70, L_72, L_214, L_215, L_288, LL_0, LL_1, LL_2, LL_3, LL_5, LL_9, LL_10, LL_11, LL_12, LL_19, LL_20, LL_30, LL_39, LL_60, LL_99, LL_127, LL_999]
theorem np1' : mX8_in (nI 1).toInt64 (lN 0) (lN 1) = some (nI 1) := by simp (disch := omega) only [↓reduceIte, obs, esc_il, esc_ir, leT, leF, ltT, ltF, eqT, eqF, nleT, nleF, nltT, nltF, neqT, neqF, nI_add, pk_mul, ald_nI, ast_nI, irm_nI, idv_nI, zbT, zbF, in_T, in_F1, in_F2, nI_l, sI_1, sI_2, sA_1, sA_2, subK, add0, sub0, or0, lN_add, lN_mul, L_0, L_1, L_2, L_3, L_4, L_5, L_6, L_7, L_8, L_9, L_10, L_11, L_12, L_13, L_14, L_15, L_16, L_17, L_18, L_19, L_20, L_30, L_31, L_32, L_35, L_37, L_39, L_40, L_43, L_48, L_57, L_59, L_60, L_97, L_99, L_100, L_120, L_122, L_127, L_160, L_200, L_255, L_999, L_1000, L_100000, L_1000000, L_24, L_33, L_34, L_36, L_38, L_69, L_70, L_72, L_214, L_215, L_288, LL_0, LL_1, LL_2, LL_3, LL_5, LL_9, LL_10, LL_11, LL_12, LL_19, LL_20, LL_30, LL_39, LL_60, LL_99, LL_127, LL_999]
def Low (f f' : Nat → Int32) : Prop := ∀ q, q < 120 → f' q = f q
theorem Low.tr {f f1 f2 : Nat → Int32} (h1 : Low f f1) (h2 : Low f1 f2) : Low f f2 := fun q hq => (h2 q hq).trans (h1 q hq)
theorem Low.rf (f : Nat → Int32) : Low f f := fun _ _ => rfl
theorem FrP.low {f f' : Nat → Int32} {p : Nat} (h : FrP f f' p) (hp : 120 ≤ p) : Low f f' := fun q hq => h q (by omega)
theorem Low.up {f f' : Nat → Int32} (h : Low f f') (k : Nat) (hk : 120 ≤ k) (v : Int32) : Low f (upd f' k v) := fun q hq => by rw [upd_e, if_neg (by omega)]; exact h q hq
theorem st_years {F : FS} {M : GS} (hR : Rel F M) (n : Int32) : ∃ (o : Int32 × GS) (o' : Int32 × GS), mX7_years (F.1 0) n = some o ∧ mX8_years M n = some o' ∧ o.1 = o'.1 ∧ Rel ((va_up F.1 0 o.2), F.2.1, F.2.2) o'.2 := by
  obtain ⟨⟨a, hv, hp, hi, hy⟩, -⟩ := id hR
  have hb := hi.nb
  unfold mX7_years mX8_years
  rcases cs2 n with h | ⟨m, hm, rfl⟩
  · simp (disch := omega) only [↓reduceIte, obs, esc_il, esc_ir, leT, leF, ltT, ltF, eqT, eqF, nleT, nleF, nltT, nltF, neqT, neqF, nI_add, pk_mul, ald_nI, ast_nI, irm_nI, idv_nI, zbT, zbF, in_T, in_F1, in_F2, nI_l, sI_1, sI_2, sA_1, sA_2, subK, add0, sub0, or0, lN_add, lN_mul, L_0, L_1, L_2, L_3, L_4, L_5, L_6, L_7, L_8, L_9, L_10, L_11, L_12, L_13, L_14, L_15, L_16, L_17, L_18, L_19, L_20, L_30, L_31, L_32, L_35, L_37, L_39, L_40, L_43, L_48, L_57, L_59, L_60, L_97, L_99, L_100, L_120, L_122, L_127, L_160, L_200, L_255, L_999, L_1000, L_100000, L_1000000, L_24, L_33, L_34, L_36, L_38, L_69, L_70, L_72, L_214, L_215, L_288, LL_0, LL_1, LL_2, LL_3, LL_5, LL_9, LL_10, LL_11, LL_12, LL_19, LL_20, LL_30, LL_39, LL_60, LL_99, LL_127, LL_999, ngLt h, ngLe h, ngGe h, ngGt h, ngEq h, ngEq' h, in_ng h, zb_ng h]
    exact ⟨_, _, rfl, rfl, rfl, hR.same 0⟩
  by_cases hm2 : m ≤ 30
  · by_cases hl : a.2 11 + m ≤ 999
    · obtain ⟨g', c1, c2⟩ := pass_e hv hi (n := m) (by omega)
      have hi' := passA_HI hi m (by omega)
      have hL : ∃ x, whO (mX8_years_l34 (nI m)) FU (nI 0, M) = some x ∧ ∃ f', x.2 = sA M 0 f' ∧ PV f' 0 (passA m a) ∧ FrP (M.1 0) f' 0 := by
        refine whO_inv (fun (i : Nat) (s : Int32 × GS) => ∃ f', s = (nI i, sA M 0 f') ∧ PV f' 0 (passA i a) ∧ FrP (M.1 0) f' 0) m (fun (x : Int32 × GS) => ∃ f', x.2 = sA M 0 f' ∧ PV f' 0 (passA m a) ∧ FrP (M.1 0) f' 0) ?_ ?_ _ ⟨M.1 0, by rw [sA_id], by rw [pass0 hi]; exact hp, fun q _ => rfl⟩ (by omega)
        · rintro i s hlt ⟨f', rfl, e3, e4⟩
          left
          obtain ⟨f2, k1, k2, k3⟩ := yearOn_e (g := sA M 0 f') (p := 0) (by rw [sA_s]; exact e3) (by decide) (passA_HI hi i (by omega))
          rw [passA_add] at k2
          rw [sA_s] at k3
          refine ⟨_, ?_, f2, rfl, k2, e4.trans k3⟩
          unfold mX8_years_l34
          simp (disch := omega) only [↓reduceIte, obs, esc_il, esc_ir, leT, leF, ltT, ltF, eqT, eqF, nleT, nleF, nltT, nltF, neqT, neqF, nI_add, pk_mul, ald_nI, ast_nI, irm_nI, idv_nI, zbT, zbF, in_T, in_F1, in_F2, nI_l, sI_1, sI_2, sA_1, sA_2, subK, add0, sub0, or0, lN_add, lN_mul, L_0, L_1, L_2, L_3, L_4, L_5, L_6, L_7, L_8, L_9, L_10, L_11, L_12, L_13, L_14, L_15, L_16, L_17, L_18, L_19, L_20, L_30, L_31, L_32, L_35, L_37, L_39, L_40, L_43, L_48, L_57, L_59, L_60, L_97, L_99, L_100, L_120, L_122, L_127, L_160, L_200, L_255, L_999, L_1000, L_100000, L_1000000, L_24, L_33, L_34, L_36, L_38, L_69, L_70, L_72, L_214, L_215, L_288, LL_0, LL_1, LL_2, LL_3, LL_5, LL_9, LL_10, LL_11, LL_12, LL_19, LL_20, LL_30, LL_39, LL_60, LL_99, LL_127, LL_999, k1, sA_sA]
        · rintro s ⟨f', rfl, e3, e4⟩
          refine ⟨(nI m, sA M 0 f'), ?_, f', rfl, e3, e4⟩
          unfold mX8_years_l34
          simp (disch := omega) only [↓reduceIte, obs, esc_il, esc_ir, leT, leF, ltT, ltF, eqT, eqF, nleT, nleF, nltT, nltF, neqT, neqF, nI_add, pk_mul, ald_nI, ast_nI, irm_nI, idv_nI, zbT, zbF, in_T, in_F1, in_F2, nI_l, sI_1, sI_2, sA_1, sA_2, subK, add0, sub0, or0, lN_add, lN_mul, L_0, L_1, L_2, L_3, L_4, L_5, L_6, L_7, L_8, L_9, L_10, L_11, L_12, L_13, L_14, L_15, L_16, L_17, L_18, L_19, L_20, L_30, L_31, L_32, L_35, L_37, L_39, L_40, L_43, L_48, L_57, L_59, L_60, L_97, L_99, L_100, L_120, L_122, L_127, L_160, L_200, L_255, L_999, L_1000, L_100000, L_1000000, L_24, L_33, L_34, L_36, L_38, L_69, L_70, L_72, L_214, L_215, L_288, LL_0, LL_1, LL_2, LL_3, LL_5, LL_9, LL_10, LL_11, LL_12, LL_19, LL_20, LL_30, LL_39, LL_60, LL_99, LL_127, LL_999]
      obtain ⟨x, l1, f', l2, l3, l4⟩ := hL
      have hfa := frankOfAll8_e (g := sA M 0 f') (by rw [sA_s]; exact l3) (by decide) hi'
      simp (disch := omega) only [↓reduceIte, obs, esc_il, esc_ir, leT, leF, ltT, ltF, eqT, eqF, nleT, nleF, nltT, nltF, neqT, neqF, nI_add, pk_mul, ald_nI, ast_nI, irm_nI, idv_nI, zbT, zbF, in_T, in_F1, in_F2, nI_l, sI_1, sI_2, sA_1, sA_2, subK, add0, sub0, or0, lN_add, lN_mul, L_0, L_1, L_2, L_3, L_4, L_5, L_6, L_7, L_8, L_9, L_10, L_11, L_12, L_13, L_14, L_15, L_16, L_17, L_18, L_19, L_20, L_30, L_31, L_32, L_35, L_37, L_39, L_40, L_43, L_48, L_57, L_59, L_60, L_97, L_99, L_100, L_120, L_122, L_127, L_160, L_200, L_255, L_999, L_1000, L_100000, L_1000000, L_24, L_33, L_34, L_36, L_38, L_69, L_70, L_72, L_214, L_215, L_288, LL_0, LL_1, LL_2, LL_3, LL_5, LL_9, LL_10, LL_11, LL_12, LL_19, LL_20, LL_30, LL_39, LL_60, LL_99, LL_127, LL_999, c1, hv.y, P0.y hp, l1, l2, frankOfAll_e c2 hi', hfa]
      exact ⟨_, _, rfl, rfl, rfl, hR.hall ⟨passA m a, c2, l3, hi', hl⟩ (fun q h1 h2 => l4 q (by omega))⟩
    · simp (disch := omega) only [↓reduceIte, obs, esc_il, esc_ir, leT, leF, ltT, ltF, eqT, eqF, nleT, nleF, nltT, nltF, neqT, neqF, nI_add, pk_mul, ald_nI, ast_nI, irm_nI, idv_nI, zbT, zbF, in_T, in_F1, in_F2, nI_l, sI_1, sI_2, sA_1, sA_2, subK, add0, sub0, or0, lN_add, lN_mul, L_0, L_1, L_2, L_3, L_4, L_5, L_6, L_7, L_8, L_9, L_10, L_11, L_12, L_13, L_14, L_15, L_16, L_17, L_18, L_19, L_20, L_30, L_31, L_32, L_35, L_37, L_39, L_40, L_43, L_48, L_57, L_59, L_60, L_97, L_99, L_100, L_120, L_122, L_127, L_160, L_200, L_255, L_999, L_1000, L_100000, L_1000000, L_24, L_33, L_34, L_36, L_38, L_69, L_70, L_72, L_214, L_215, L_288, LL_0, LL_1, LL_2, LL_3, LL_5, LL_9, LL_10, LL_11, LL_12, LL_19, LL_20, LL_30, LL_39, LL_60, LL_99, LL_127, LL_999, hv.y, P0.y hp]
      exact ⟨_, _, rfl, rfl, rfl, hR.same 0⟩
  · simp (disch := omega) only [↓reduceIte, obs, esc_il, esc_ir, leT, leF, ltT, ltF, eqT, eqF, nleT, nleF, nltT, nltF, neqT, neqF, nI_add, pk_mul, ald_nI, ast_nI, irm_nI, idv_nI, zbT, zbF, in_T, in_F1, in_F2, nI_l, sI_1, sI_2, sA_1, sA_2, subK, add0, sub0, or0, lN_add, lN_mul, L_0, L_1, L_2, L_3, L_4, L_5, L_6, L_7, L_8, L_9, L_10, L_11, L_12, L_13, L_14, L_15, L_16, L_17, L_18, L_19, L_20, L_30, L_31, L_32, L_35, L_37, L_39, L_40, L_43, L_48, L_57, L_59, L_60, L_97, L_99, L_100, L_120, L_122, L_127, L_160, L_200, L_255, L_999, L_1000, L_100000, L_1000000, L_24, L_33, L_34, L_36, L_38, L_69, L_70, L_72, L_214, L_215, L_288, LL_0, LL_1, LL_2, LL_3, LL_5, LL_9, LL_10, LL_11, LL_12, LL_19, LL_20, LL_30, LL_39, LL_60, LL_99, LL_127, LL_999]
    exact ⟨_, _, rfl, rfl, rfl, hR.same 0⟩
theorem placesWithout_e {g : GS} {a : AH} (hv : HV g a) (hi : HI a) : mX0_placesWithout g = some (orZ (fun i => frN a i == 0) (a.2 6)) := by
  have hb := hi.nb
  unfold mX0_placesWithout
  rw [whO_for (fun i => (orZ (fun i => frN a i == 0) i, nI i)) (a.2 6) (orZ (fun i => frN a i == 0) (a.2 6), nI (a.2 6)) (by rfl) ?_ ?_ (by omega)]
  · rfl
  · intro i h
    have h24 := frN_le hi i
    unfold mX0_placesWithout_l4
    by_cases hz : frN a i = 0
    · rw [orZ_y (by rw [hz]; rfl)]
      simp (disch := omega) only [↓reduceIte, obs, esc_il, esc_ir, leT, leF, ltT, ltF, eqT, eqF, nleT, nleF, nltT, nltF, neqT, neqF, nI_add, pk_mul, ald_nI, ast_nI, irm_nI, idv_nI, zbT, zbF, in_T, in_F1, in_F2, nI_l, sI_1, sI_2, sA_1, sA_2, subK, add0, sub0, or0, lN_add, lN_mul, L_0, L_1, L_2, L_3, L_4, L_5, L_6, L_7, L_8, L_9, L_10, L_11, L_12, L_13, L_14, L_15, L_16, L_17, L_18, L_19, L_20, L_30, L_31, L_32, L_35, L_37, L_39, L_40, L_43, L_48, L_57, L_59, L_60, L_97, L_99, L_100, L_120, L_122, L_127, L_160, L_200, L_255, L_999, L_1000, L_100000, L_1000000, L_24, L_33, L_34, L_36, L_38, L_69, L_70, L_72, L_214, L_215, L_288, LL_0, LL_1, LL_2, LL_3, LL_5, LL_9, LL_10, LL_11, LL_12, LL_19, LL_20, LL_30, LL_39, LL_60, LL_99, LL_127, LL_999, hv.b, hv.w, hv.s, hv.wd, hv.re, hv.u, hv.y, hv.r, hv.kd, hv.wm, hv.fd, hv.ln, hv.pr, hasPlace_e hv hi, hasBlock_e hv hi, hasRoll_e hv hi, whoAt_e hv hi, frankAt_e hv hi, frankOfAll_e hv hi, frankFrom_e hv hi]
    · rw [orZ_n (by rw [beq_eq_false_iff_ne]; exact hz)]
      simp (disch := omega) only [↓reduceIte, obs, esc_il, esc_ir, leT, leF, ltT, ltF, eqT, eqF, nleT, nleF, nltT, nltF, neqT, neqF, nI_add, pk_mul, ald_nI, ast_nI, irm_nI, idv_nI, zbT, zbF, in_T, in_F1, in_F2, nI_l, sI_1, sI_2, sA_1, sA_2, subK, add0, sub0, or0, lN_add, lN_mul, L_0, L_1, L_2, L_3, L_4, L_5, L_6, L_7, L_8, L_9, L_10, L_11, L_12, L_13, L_14, L_15, L_16, L_17, L_18, L_19, L_20, L_30, L_31, L_32, L_35, L_37, L_39, L_40, L_43, L_48, L_57, L_59, L_60, L_97, L_99, L_100, L_120, L_122, L_127, L_160, L_200, L_255, L_999, L_1000, L_100000, L_1000000, L_24, L_33, L_34, L_36, L_38, L_69, L_70, L_72, L_214, L_215, L_288, LL_0, LL_1, LL_2, LL_3, LL_5, LL_9, LL_10, LL_11, LL_12, LL_19, LL_20, LL_30, LL_39, LL_60, LL_99, LL_127, LL_999, hv.b, hv.w, hv.s, hv.wd, hv.re, hv.u, hv.y, hv.r, hv.kd, hv.wm, hv.fd, hv.ln, hv.pr, hasPlace_e hv hi, hasBlock_e hv hi, hasRoll_e hv hi, whoAt_e hv hi, frankAt_e hv hi, frankOfAll_e hv hi, frankFrom_e hv hi]
  · unfold mX0_placesWithout_l4
    simp (disch := omega) only [↓reduceIte, obs, esc_il, esc_ir, leT, leF, ltT, ltF, eqT, eqF, nleT, nleF, nltT, nltF, neqT, neqF, nI_add, pk_mul, ald_nI, ast_nI, irm_nI, idv_nI, zbT, zbF, in_T, in_F1, in_F2, nI_l, sI_1, sI_2, sA_1, sA_2, subK, add0, sub0, or0, lN_add, lN_mul, L_0, L_1, L_2, L_3, L_4, L_5, L_6, L_7, L_8, L_9, L_10, L_11, L_12, L_13, L_14, L_15, L_16, L_17, L_18, L_19, L_20, L_30, L_31, L_32, L_35, L_37, L_39, L_40, L_43, L_48, L_57, L_59, L_60, L_97, L_99, L_100, L_120, L_122, L_127, L_160, L_200, L_255, L_999, L_1000, L_100000, L_1000000, L_24, L_33, L_34, L_36, L_38, L_69, L_70, L_72, L_214, L_215, L_288, LL_0, LL_1, LL_2, LL_3, LL_5, LL_9, LL_10, LL_11, LL_12, LL_19, LL_20, LL_30, LL_39, LL_60, LL_99, LL_127, LL_999, hv.b, hv.w, hv.s, hv.wd, hv.re, hv.u, hv.y, hv.r, hv.kd, hv.wm, hv.fd, hv.ln, hv.pr, hasPlace_e hv hi, hasBlock_e hv hi, hasRoll_e hv hi, whoAt_e hv hi, frankAt_e hv hi, frankOfAll_e hv hi, frankFrom_e hv hi]
theorem sumW_le {a : AH} (hi : HI a) (s n : Nat) : sumW (frN a) s n ≤ 24 * n := sumN_le (fun i => frN_le hi (s + i)) n
theorem frankestFrom_e {g : GS} {a : AH} (hv : HV g a) (hi : HI a) {n : Nat} (h1 : 1 ≤ n) (hn : n ≤ a.2 6) : mX0_frankestFrom g (nI n) = some (nI (bsF (fun i => sumW (frN a) i n) (a.2 6 - n + 1)).1) := by
  have hb := hi.nb
  unfold mX0_frankestFrom
  rw [whO_for (fun i => (nI (bsF (fun i => sumW (frN a) i n) i).1, nI (bsF (fun i => sumW (frN a) i n) i).2 - nI 1, nI i)) (a.2 6 - n + 1) (nI (bsF (fun i => sumW (frN a) i n) (a.2 6 - n + 1)).1, nI (bsF (fun i => sumW (frN a) i n) (a.2 6 - n + 1)).2 - nI 1, nI (a.2 6 - n + 1)) (by rfl) ?_ ?_ (by omega)]
  · rfl
  · intro i h
    have hs := sumW_le hi i n
    unfold mX0_frankestFrom_l7
    by_cases hc : (bsF (fun i => sumW (frN a) i n) i).2 ≤ sumW (frN a) i n
    · rw [bsF_y hc]
      simp (disch := omega) only [↓reduceIte, obs, esc_il, esc_ir, leT, leF, ltT, ltF, eqT, eqF, nleT, nleF, nltT, nltF, neqT, neqF, nI_add, pk_mul, ald_nI, ast_nI, irm_nI, idv_nI, zbT, zbF, in_T, in_F1, in_F2, nI_l, sI_1, sI_2, sA_1, sA_2, subK, add0, sub0, or0, lN_add, lN_mul, L_0, L_1, L_2, L_3, L_4, L_5, L_6, L_7, L_8, L_9, L_10, L_11, L_12, L_13, L_14, L_15, L_16, L_17, L_18, L_19, L_20, L_30, L_31, L_32, L_35, L_37, L_39, L_40, L_43, L_48, L_57, L_59, L_60, L_97, L_99, L_100, L_120, L_122, L_127, L_160, L_200, L_255, L_999, L_1000, L_100000, L_1000000, L_24, L_33, L_34, L_36, L_38, L_69, L_70, L_72, L_214, L_215, L_288, LL_0, LL_1, LL_2, LL_3, LL_5, LL_9, LL_10, LL_11, LL_12, LL_19, LL_20, LL_30, LL_39, LL_60, LL_99, LL_127, LL_999, hv.b, hv.w, hv.s, hv.wd, hv.re, hv.u, hv.y, hv.r, hv.kd, hv.wm, hv.fd, hv.ln, hv.pr, hasPlace_e hv hi, hasBlock_e hv hi, hasRoll_e hv hi, whoAt_e hv hi, frankAt_e hv hi, frankOfAll_e hv hi, frankFrom_e hv hi, le1F, Nat.add_sub_cancel]
    · rw [bsF_n hc]
      have hl := bsF_le (f := fun i => sumW (frN a) i n) (B := 24 * n) (fun i => sumW_le hi i n) i
      simp (disch := omega) only [↓reduceIte, obs, esc_il, esc_ir, leT, leF, ltT, ltF, eqT, eqF, nleT, nleF, nltT, nltF, neqT, neqF, nI_add, pk_mul, ald_nI, ast_nI, irm_nI, idv_nI, zbT, zbF, in_T, in_F1, in_F2, nI_l, sI_1, sI_2, sA_1, sA_2, subK, add0, sub0, or0, lN_add, lN_mul, L_0, L_1, L_2, L_3, L_4, L_5, L_6, L_7, L_8, L_9, L_10, L_11, L_12, L_13, L_14, L_15, L_16, L_17, L_18, L_19, L_20, L_30, L_31, L_32, L_35, L_37, L_39, L_40, L_43, L_48, L_57, L_59, L_60, L_97, L_99, L_100, L_120, L_122, L_127, L_160, L_200, L_255, L_999, L_1000, L_100000, L_1000000, L_24, L_33, L_34, L_36, L_38, L_69, L_70, L_72, L_214, L_215, L_288, LL_0, LL_1, LL_2, LL_3, LL_5, LL_9, LL_10, LL_11, LL_12, LL_19, LL_20, LL_30, LL_39, LL_60, LL_99, LL_127, LL_999, hv.b, hv.w, hv.s, hv.wd, hv.re, hv.u, hv.y, hv.r, hv.kd, hv.wm, hv.fd, hv.ln, hv.pr, hasPlace_e hv hi, hasBlock_e hv hi, hasRoll_e hv hi, whoAt_e hv hi, frankAt_e hv hi, frankOfAll_e hv hi, frankFrom_e hv hi]
  · unfold mX0_frankestFrom_l7
    simp (disch := omega) only [↓reduceIte, obs, esc_il, esc_ir, leT, leF, ltT, ltF, eqT, eqF, nleT, nleF, nltT, nltF, neqT, neqF, nI_add, pk_mul, ald_nI, ast_nI, irm_nI, idv_nI, zbT, zbF, in_T, in_F1, in_F2, nI_l, sI_1, sI_2, sA_1, sA_2, subK, add0, sub0, or0, lN_add, lN_mul, L_0, L_1, L_2, L_3, L_4, L_5, L_6, L_7, L_8, L_9, L_10, L_11, L_12, L_13, L_14, L_15, L_16, L_17, L_18, L_19, L_20, L_30, L_31, L_32, L_35, L_37, L_39, L_40, L_43, L_48, L_57, L_59, L_60, L_97, L_99, L_100, L_120, L_122, L_127, L_160, L_200, L_255, L_999, L_1000, L_100000, L_1000000, L_24, L_33, L_34, L_36, L_38, L_69, L_70, L_72, L_214, L_215, L_288, LL_0, LL_1, LL_2, LL_3, LL_5, LL_9, LL_10, LL_11, LL_12, LL_19, LL_20, LL_30, LL_39, LL_60, LL_99, LL_127, LL_999, hv.b, hv.w, hv.s, hv.wd, hv.re, hv.u, hv.y, hv.r, hv.kd, hv.wm, hv.fd, hv.ln, hv.pr, hasPlace_e hv hi, hasBlock_e hv hi, hasRoll_e hv hi, whoAt_e hv hi, frankAt_e hv hi, frankOfAll_e hv hi, frankFrom_e hv hi]
theorem sumW_1 (f : Nat → Nat) (i : Nat) : sumW f i 1 = f i := by
  unfold sumW
  simp only [sumN, Nat.zero_add, Nat.add_zero]
theorem runs40_e {M : GS} {a : AH} (hp : PV (M.1 0) 160 a) (hi : HI a) : whO (mX8_runs_l40 M) FU (nI 0, nI 0, nI 0) = some (orZ (fun i => frN a i == 0) (a.2 6), nI (bsF (frN a) (a.2 6)).1, nI (a.2 6)) := by
  have hb := hi.nb
  refine whO_for (fun i => (orZ (fun i => frN a i == 0) i, nI (bsF (frN a) i).1, nI i)) (a.2 6) _ (by rfl) ?_ ?_ (by omega)
  · intro i h
    have h24 := frN_le hi i
    have hlt := bsF_lt (frN a) i
    have h24b := frN_le hi (bsF (frN a) i).1
    unfold mX8_runs_l40
    have hbs : (if nI (frN a i) ≤ nI (frN a (bsF (frN a) i).1) then some (nI (bsF (frN a) i).1) else some (nI i)) = some (nI (bsF (frN a) (i + 1)).1) := by
      by_cases hc : (bsF (frN a) i).2 ≤ frN a i
      · rw [bsF_y hc]
        rcases Nat.eq_zero_or_pos i with rfl | h0
        · split <;> rfl
        · rw [bsF_2 _ _ h0] at hc
          simp (disch := omega) only [↓reduceIte, leF]
      · rw [bsF_n hc]
        rcases Nat.eq_zero_or_pos i with rfl | h0
        · exact absurd (Nat.zero_le _) hc
        · rw [bsF_2 _ _ h0] at hc
          simp (disch := omega) only [↓reduceIte, leT]
    by_cases hz : frN a i = 0
    · rw [orZ_y (by rw [hz]; rfl)]
      simp (disch := omega) only [↓reduceIte, leT, Option.some.injEq] at hbs
      rw [← hbs]
      simp (disch := omega) only [↓reduceIte, obs, esc_il, esc_ir, leT, leF, ltT, ltF, eqT, eqF, nleT, nleF, nltT, nltF, neqT, neqF, nI_add, pk_mul, ald_nI, ast_nI, irm_nI, idv_nI, zbT, zbF, in_T, in_F1, in_F2, nI_l, sI_1, sI_2, sA_1, sA_2, subK, add0, sub0, or0, lN_add, lN_mul, L_0, L_1, L_2, L_3, L_4, L_5, L_6, L_7, L_8, L_9, L_10, L_11, L_12, L_13, L_14, L_15, L_16, L_17, L_18, L_19, L_20, L_30, L_31, L_32, L_35, L_37, L_39, L_40, L_43, L_48, L_57, L_59, L_60, L_97, L_99, L_100, L_120, L_122, L_127, L_160, L_200, L_255, L_999, L_1000, L_100000, L_1000000, L_24, L_33, L_34, L_36, L_38, L_69, L_70, L_72, L_214, L_215, L_288, LL_0, LL_1, LL_2, LL_3, LL_5, LL_9, LL_10, LL_11, LL_12, LL_19, LL_20, LL_30, LL_39, LL_60, LL_99, LL_127, LL_999, longOn_e hp (by decide), frankOn_e hp (by decide) hi]
    · rw [orZ_n (by rw [beq_eq_false_iff_ne]; exact hz)]
      simp (disch := omega) only [↓reduceIte, obs, esc_il, esc_ir, leT, leF, ltT, ltF, eqT, eqF, nleT, nleF, nltT, nltF, neqT, neqF, nI_add, pk_mul, ald_nI, ast_nI, irm_nI, idv_nI, zbT, zbF, in_T, in_F1, in_F2, nI_l, sI_1, sI_2, sA_1, sA_2, subK, add0, sub0, or0, lN_add, lN_mul, L_0, L_1, L_2, L_3, L_4, L_5, L_6, L_7, L_8, L_9, L_10, L_11, L_12, L_13, L_14, L_15, L_16, L_17, L_18, L_19, L_20, L_30, L_31, L_32, L_35, L_37, L_39, L_40, L_43, L_48, L_57, L_59, L_60, L_97, L_99, L_100, L_120, L_122, L_127, L_160, L_200, L_255, L_999, L_1000, L_100000, L_1000000, L_24, L_33, L_34, L_36, L_38, L_69, L_70, L_72, L_214, L_215, L_288, LL_0, LL_1, LL_2, LL_3, LL_5, LL_9, LL_10, LL_11, LL_12, LL_19, LL_20, LL_30, LL_39, LL_60, LL_99, LL_127, LL_999, longOn_e hp (by decide), frankOn_e hp (by decide) hi, hbs]
  · unfold mX8_runs_l40
    simp (disch := omega) only [↓reduceIte, obs, esc_il, esc_ir, leT, leF, ltT, ltF, eqT, eqF, nleT, nleF, nltT, nltF, neqT, neqF, nI_add, pk_mul, ald_nI, ast_nI, irm_nI, idv_nI, zbT, zbF, in_T, in_F1, in_F2, nI_l, sI_1, sI_2, sA_1, sA_2, subK, add0, sub0, or0, lN_add, lN_mul, L_0, L_1, L_2, L_3, L_4, L_5, L_6, L_7, L_8, L_9, L_10, L_11, L_12, L_13, L_14, L_15, L_16, L_17, L_18, L_19, L_20, L_30, L_31, L_32, L_35, L_37, L_39, L_40, L_43, L_48, L_57, L_59, L_60, L_97, L_99, L_100, L_120, L_122, L_127, L_160, L_200, L_255, L_999, L_1000, L_100000, L_1000000, L_24, L_33, L_34, L_36, L_38, L_69, L_70, L_72, L_214, L_215, L_288, LL_0, LL_1, LL_2, LL_3, LL_5, LL_9, LL_10, LL_11, LL_12, LL_19, LL_20, LL_30, LL_39, LL_60, LL_99, LL_127, LL_999, longOn_e hp (by decide)]
theorem st_runs {F : FS} {M : GS} (hR : Rel F M) (n : Int32) (w : Int32) : ∃ (o : Int32 × GS) (o' : Int32 × GS), mX7_runs (F.1 0) (F.1 1) n w = some o ∧ mX8_runs M n w = some o' ∧ o.1 = o'.1 ∧ Rel ((va_up F.1 1 o.2), F.2.1, F.2.2) o'.2 := by
  obtain ⟨⟨a, hv, hp, hi, hy⟩, -⟩ := id hR
  have hb := hi.nb
  unfold mX7_runs mX8_runs
  rcases cs2 n with h | ⟨m, hm, rfl⟩
  · simp (disch := omega) only [↓reduceIte, obs, esc_il, esc_ir, leT, leF, ltT, ltF, eqT, eqF, nleT, nleF, nltT, nltF, neqT, neqF, nI_add, pk_mul, ald_nI, ast_nI, irm_nI, idv_nI, zbT, zbF, in_T, in_F1, in_F2, nI_l, sI_1, sI_2, sA_1, sA_2, subK, add0, sub0, or0, lN_add, lN_mul, L_0, L_1, L_2, L_3, L_4, L_5, L_6, L_7, L_8, L_9, L_10, L_11, L_12, L_13, L_14, L_15, L_16, L_17, L_18, L_19, L_20, L_30, L_31, L_32, L_35, L_37, L_39, L_40, L_43, L_48, L_57, L_59, L_60, L_97, L_99, L_100, L_120, L_122, L_127, L_160, L_200, L_255, L_999, L_1000, L_100000, L_1000000, L_24, L_33, L_34, L_36, L_38, L_69, L_70, L_72, L_214, L_215, L_288, LL_0, LL_1, LL_2, LL_3, LL_5, LL_9, LL_10, LL_11, LL_12, LL_19, LL_20, LL_30, LL_39, LL_60, LL_99, LL_127, LL_999, ngLt h, ngLe h, ngGe h, ngGt h, ngEq h, ngEq' h, in_ng h, zb_ng h]
    exact ⟨_, _, rfl, rfl, rfl, hR.same 1⟩
  by_cases hm2 : m ≤ 60
  · rcases cs2 w with h | ⟨k, hk, rfl⟩
    · simp (disch := omega) only [↓reduceIte, obs, esc_il, esc_ir, leT, leF, ltT, ltF, eqT, eqF, nleT, nleF, nltT, nltF, neqT, neqF, nI_add, pk_mul, ald_nI, ast_nI, irm_nI, idv_nI, zbT, zbF, in_T, in_F1, in_F2, nI_l, sI_1, sI_2, sA_1, sA_2, subK, add0, sub0, or0, lN_add, lN_mul, L_0, L_1, L_2, L_3, L_4, L_5, L_6, L_7, L_8, L_9, L_10, L_11, L_12, L_13, L_14, L_15, L_16, L_17, L_18, L_19, L_20, L_30, L_31, L_32, L_35, L_37, L_39, L_40, L_43, L_48, L_57, L_59, L_60, L_97, L_99, L_100, L_120, L_122, L_127, L_160, L_200, L_255, L_999, L_1000, L_100000, L_1000000, L_24, L_33, L_34, L_36, L_38, L_69, L_70, L_72, L_214, L_215, L_288, LL_0, LL_1, LL_2, LL_3, LL_5, LL_9, LL_10, LL_11, LL_12, LL_19, LL_20, LL_30, LL_39, LL_60, LL_99, LL_127, LL_999, ngLt h, ngLe h, ngGe h, ngGt h, ngEq h, ngEq' h, in_ng h, zb_ng h]
      exact ⟨_, _, rfl, rfl, rfl, hR.same 1⟩
    by_cases hk2 : k ≤ 3
    · obtain ⟨g1, c1, c2⟩ := copy_e (g := F.1 1) hv hi
      obtain ⟨g2, d1, d2⟩ := pass_e c2 hi (n := m) (by omega)
      have hi' := passA_HI hi m (by omega)
      have hb' := hi'.nb
      obtain ⟨f', y1, y2, y3⟩ := yearsGo_e (n := m) hp hi (by omega) (by omega) hy
      have y2' : PV ((sA M 0 f').1 0) 160 (passA m a) := by rw [sA_s]; exact y2
      have hr := runs40_e y2' hi'
      have hff := frankestFrom_e d2 hi' (n := 1) (by decide) hb'.2.1
      have e1 : (fun i => sumW (frN (passA m a)) i 1) = frN (passA m a) := by funext i; exact sumW_1 _ i
      rw [e1, show (passA m a).2 6 - 1 + 1 = (passA m a).2 6 from by omega] at hff
      have hlt := bsF_lt (frN (passA m a)) ((passA m a).2 6)
      have hlo : ∀ q, q < 120 → f' q = M.1 0 q := fun q hq => y3 q (by omega)
      rcases (show k = 0 ∨ k = 1 ∨ k = 2 ∨ k = 3 by omega) with rfl | rfl | rfl | rfl
      all_goals
        simp (disch := omega) only [↓reduceIte, obs, esc_il, esc_ir, leT, leF, ltT, ltF, eqT, eqF, nleT, nleF, nltT, nltF, neqT, neqF, nI_add, pk_mul, ald_nI, ast_nI, irm_nI, idv_nI, zbT, zbF, in_T, in_F1, in_F2, nI_l, sI_1, sI_2, sA_1, sA_2, subK, add0, sub0, or0, lN_add, lN_mul, L_0, L_1, L_2, L_3, L_4, L_5, L_6, L_7, L_8, L_9, L_10, L_11, L_12, L_13, L_14, L_15, L_16, L_17, L_18, L_19, L_20, L_30, L_31, L_32, L_35, L_37, L_39, L_40, L_43, L_48, L_57, L_59, L_60, L_97, L_99, L_100, L_120, L_122, L_127, L_160, L_200, L_255, L_999, L_1000, L_100000, L_1000000, L_24, L_33, L_34, L_36, L_38, L_69, L_70, L_72, L_214, L_215, L_288, LL_0, LL_1, LL_2, LL_3, LL_5, LL_9, LL_10, LL_11, LL_12, LL_19, LL_20, LL_30, LL_39, LL_60, LL_99, LL_127, LL_999, c1, d1, y1, hr, hff, frankOfAll_e d2 hi', frankOfAll8_e y2' (by decide) hi', placesWithout_e d2 hi', frankAt_e d2 hi', frankOn_e y2' (by decide) hi']
        exact ⟨_, _, rfl, rfl, rfl, hR.scratch _ hlo⟩
    · simp (disch := omega) only [↓reduceIte, obs, esc_il, esc_ir, leT, leF, ltT, ltF, eqT, eqF, nleT, nleF, nltT, nltF, neqT, neqF, nI_add, pk_mul, ald_nI, ast_nI, irm_nI, idv_nI, zbT, zbF, in_T, in_F1, in_F2, nI_l, sI_1, sI_2, sA_1, sA_2, subK, add0, sub0, or0, lN_add, lN_mul, L_0, L_1, L_2, L_3, L_4, L_5, L_6, L_7, L_8, L_9, L_10, L_11, L_12, L_13, L_14, L_15, L_16, L_17, L_18, L_19, L_20, L_30, L_31, L_32, L_35, L_37, L_39, L_40, L_43, L_48, L_57, L_59, L_60, L_97, L_99, L_100, L_120, L_122, L_127, L_160, L_200, L_255, L_999, L_1000, L_100000, L_1000000, L_24, L_33, L_34, L_36, L_38, L_69, L_70, L_72, L_214, L_215, L_288, LL_0, LL_1, LL_2, LL_3, LL_5, LL_9, LL_10, LL_11, LL_12, LL_19, LL_20, LL_30, LL_39, LL_60, LL_99, LL_127, LL_999]
      exact ⟨_, _, rfl, rfl, rfl, hR.same 1⟩
  · simp (disch := omega) only [↓reduceIte, obs, esc_il, esc_ir, leT, leF, ltT, ltF, eqT, eqF, nleT, nleF, nltT, nltF, neqT, neqF, nI_add, pk_mul, ald_nI, ast_nI, irm_nI, idv_nI, zbT, zbF, in_T, in_F1, in_F2, nI_l, sI_1, sI_2, sA_1, sA_2, subK, add0, sub0, or0, lN_add, lN_mul, L_0, L_1, L_2, L_3, L_4, L_5, L_6, L_7, L_8, L_9, L_10, L_11, L_12, L_13, L_14, L_15, L_16, L_17, L_18, L_19, L_20, L_30, L_31, L_32, L_35, L_37, L_39, L_40, L_43, L_48, L_57, L_59, L_60, L_97, L_99, L_100, L_120, L_122, L_127, L_160, L_200, L_255, L_999, L_1000, L_100000, L_1000000, L_24, L_33, L_34, L_36, L_38, L_69, L_70, L_72, L_214, L_215, L_288, LL_0, LL_1, LL_2, LL_3, LL_5, LL_9, LL_10, LL_11, LL_12, LL_19, LL_20, LL_30, LL_39, LL_60, LL_99, LL_127, LL_999]
    exact ⟨_, _, rfl, rfl, rfl, hR.same 1⟩
theorem st_ahead {F : FS} {M : GS} (hR : Rel F M) (i : Int32) (n : Int32) : ∃ (o : Int32 × GS) (o' : Int32 × GS), mX7_ahead (F.1 0) (F.1 1) i n = some o ∧ mX8_ahead M i n = some o' ∧ o.1 = o'.1 ∧ Rel ((va_up F.1 1 o.2), F.2.1, F.2.2) o'.2 := by
  obtain ⟨⟨a, hv, hp, hi, hy⟩, -⟩ := id hR
  have hb := hi.nb
  unfold mX7_ahead mX8_ahead
  rcases cs2 i with h | ⟨k, hk, rfl⟩
  · simp (disch := omega) only [↓reduceIte, obs, esc_il, esc_ir, leT, leF, ltT, ltF, eqT, eqF, nleT, nleF, nltT, nltF, neqT, neqF, nI_add, pk_mul, ald_nI, ast_nI, irm_nI, idv_nI, zbT, zbF, in_T, in_F1, in_F2, nI_l, sI_1, sI_2, sA_1, sA_2, subK, add0, sub0, or0, lN_add, lN_mul, L_0, L_1, L_2, L_3, L_4, L_5, L_6, L_7, L_8, L_9, L_10, L_11, L_12, L_13, L_14, L_15, L_16, L_17, L_18, L_19, L_20, L_30, L_31, L_32, L_35, L_37, L_39, L_40, L_43, L_48, L_57, L_59, L_60, L_97, L_99, L_100, L_120, L_122, L_127, L_160, L_200, L_255, L_999, L_1000, L_100000, L_1000000, L_24, L_33, L_34, L_36, L_38, L_69, L_70, L_72, L_214, L_215, L_288, LL_0, LL_1, LL_2, LL_3, LL_5, LL_9, LL_10, LL_11, LL_12, LL_19, LL_20, LL_30, LL_39, LL_60, LL_99, LL_127, LL_999, hasPlace_e hv hi, isPlace_e hp hi, ngLt h, ngLe h, ngGe h, ngGt h, ngEq h, ngEq' h, in_ng h, zb_ng h]
    exact ⟨_, _, rfl, rfl, rfl, hR.same 1⟩
  by_cases hk2 : k < a.2 6
  · rcases cs2 n with h | ⟨m, hm, rfl⟩
    · simp (disch := omega) only [↓reduceIte, obs, esc_il, esc_ir, leT, leF, ltT, ltF, eqT, eqF, nleT, nleF, nltT, nltF, neqT, neqF, nI_add, pk_mul, ald_nI, ast_nI, irm_nI, idv_nI, zbT, zbF, in_T, in_F1, in_F2, nI_l, sI_1, sI_2, sA_1, sA_2, subK, add0, sub0, or0, lN_add, lN_mul, L_0, L_1, L_2, L_3, L_4, L_5, L_6, L_7, L_8, L_9, L_10, L_11, L_12, L_13, L_14, L_15, L_16, L_17, L_18, L_19, L_20, L_30, L_31, L_32, L_35, L_37, L_39, L_40, L_43, L_48, L_57, L_59, L_60, L_97, L_99, L_100, L_120, L_122, L_127, L_160, L_200, L_255, L_999, L_1000, L_100000, L_1000000, L_24, L_33, L_34, L_36, L_38, L_69, L_70, L_72, L_214, L_215, L_288, LL_0, LL_1, LL_2, LL_3, LL_5, LL_9, LL_10, LL_11, LL_12, LL_19, LL_20, LL_30, LL_39, LL_60, LL_99, LL_127, LL_999, hasPlace_e hv hi, isPlace_e hp hi, ngLt h, ngLe h, ngGe h, ngGt h, ngEq h, ngEq' h, in_ng h, zb_ng h]
      exact ⟨_, _, rfl, rfl, rfl, hR.same 1⟩
    by_cases hm2 : m ≤ 60
    · obtain ⟨g1, c1, c2⟩ := copy_e (g := F.1 1) hv hi
      obtain ⟨g2, d1, d2⟩ := pass_e c2 hi (n := m) (by omega)
      have hi' := passA_HI hi m (by omega)
      have hb' := hi'.nb
      have hk3 : k < (passA m a).2 6 := hk2
      obtain ⟨f', y1, y2, y3⟩ := yearsGo_e (n := m) hp hi (by omega) (by omega) hy
      have y2' : PV ((sA M 0 f').1 0) 160 (passA m a) := by rw [sA_s]; exact y2
      simp (disch := omega) only [↓reduceIte, obs, esc_il, esc_ir, leT, leF, ltT, ltF, eqT, eqF, nleT, nleF, nltT, nltF, neqT, neqF, nI_add, pk_mul, ald_nI, ast_nI, irm_nI, idv_nI, zbT, zbF, in_T, in_F1, in_F2, nI_l, sI_1, sI_2, sA_1, sA_2, subK, add0, sub0, or0, lN_add, lN_mul, L_0, L_1, L_2, L_3, L_4, L_5, L_6, L_7, L_8, L_9, L_10, L_11, L_12, L_13, L_14, L_15, L_16, L_17, L_18, L_19, L_20, L_30, L_31, L_32, L_35, L_37, L_39, L_40, L_43, L_48, L_57, L_59, L_60, L_97, L_99, L_100, L_120, L_122, L_127, L_160, L_200, L_255, L_999, L_1000, L_100000, L_1000000, L_24, L_33, L_34, L_36, L_38, L_69, L_70, L_72, L_214, L_215, L_288, LL_0, LL_1, LL_2, LL_3, LL_5, LL_9, LL_10, LL_11, LL_12, LL_19, LL_20, LL_30, LL_39, LL_60, LL_99, LL_127, LL_999, hasPlace_e hv hi, isPlace_e hp hi, c1, d1, y1, frankAt_e d2 hi', frankOn_e y2' (by decide) hi']
      exact ⟨_, _, rfl, rfl, rfl, hR.scratch _ (fun q hq => y3 q (by omega))⟩
    · simp (disch := omega) only [↓reduceIte, obs, esc_il, esc_ir, leT, leF, ltT, ltF, eqT, eqF, nleT, nleF, nltT, nltF, neqT, neqF, nI_add, pk_mul, ald_nI, ast_nI, irm_nI, idv_nI, zbT, zbF, in_T, in_F1, in_F2, nI_l, sI_1, sI_2, sA_1, sA_2, subK, add0, sub0, or0, lN_add, lN_mul, L_0, L_1, L_2, L_3, L_4, L_5, L_6, L_7, L_8, L_9, L_10, L_11, L_12, L_13, L_14, L_15, L_16, L_17, L_18, L_19, L_20, L_30, L_31, L_32, L_35, L_37, L_39, L_40, L_43, L_48, L_57, L_59, L_60, L_97, L_99, L_100, L_120, L_122, L_127, L_160, L_200, L_255, L_999, L_1000, L_100000, L_1000000, L_24, L_33, L_34, L_36, L_38, L_69, L_70, L_72, L_214, L_215, L_288, LL_0, LL_1, LL_2, LL_3, LL_5, LL_9, LL_10, LL_11, LL_12, LL_19, LL_20, LL_30, LL_39, LL_60, LL_99, LL_127, LL_999, hasPlace_e hv hi, isPlace_e hp hi]
      exact ⟨_, _, rfl, rfl, rfl, hR.same 1⟩
  · simp (disch := omega) only [↓reduceIte, obs, esc_il, esc_ir, leT, leF, ltT, ltF, eqT, eqF, nleT, nleF, nltT, nltF, neqT, neqF, nI_add, pk_mul, ald_nI, ast_nI, irm_nI, idv_nI, zbT, zbF, in_T, in_F1, in_F2, nI_l, sI_1, sI_2, sA_1, sA_2, subK, add0, sub0, or0, lN_add, lN_mul, L_0, L_1, L_2, L_3, L_4, L_5, L_6, L_7, L_8, L_9, L_10, L_11, L_12, L_13, L_14, L_15, L_16, L_17, L_18, L_19, L_20, L_30, L_31, L_32, L_35, L_37, L_39, L_40, L_43, L_48, L_57, L_59, L_60, L_97, L_99, L_100, L_120, L_122, L_127, L_160, L_200, L_255, L_999, L_1000, L_100000, L_1000000, L_24, L_33, L_34, L_36, L_38, L_69, L_70, L_72, L_214, L_215, L_288, LL_0, LL_1, LL_2, LL_3, LL_5, LL_9, LL_10, LL_11, LL_12, LL_19, LL_20, LL_30, LL_39, LL_60, LL_99, LL_127, LL_999, hasPlace_e hv hi, isPlace_e hp hi]
    exact ⟨_, _, rfl, rfl, rfl, hR.same 1⟩
/-- how a search for the first ends -/
def Fst (f : Nat → Nat) (N : Nat) (x : (Int32 × GS) ⊕ (Int32 × GS)) : Prop := ((∃ z, x = .inl z) ∧ ∀ n, n < N → f n ≠ 0) ∨ ∃ n g, x = .inr (nI n, g) ∧ n < N ∧ f n = 0 ∧ ∀ m, m < n → f m ≠ 0
theorem fades7_e {g : GS} {a : AH} (hv : HV g a) (hi : HI a) (hy : a.2 11 ≤ 999) {k : Nat} (hk : k < a.2 6) : ∃ x, whO (mX7_fades_l26 (nI k)) FU (nI 0, g) = some x ∧ Fst (fun n => frN (passA n a) k) 61 x := by
  have hb := hi.nb
  refine whO_inv (fun (i : Nat) (s : Int32 × GS) => ∃ g, s = (nI i, g) ∧ HV g (passA i a) ∧ ∀ m, m < i → frN (passA m a) k ≠ 0) 61 _ ?_ ?_ _ ⟨g, rfl, by rw [pass0 hi]; exact hv, fun m hm => absurd hm (Nat.not_lt_zero _)⟩ (by decide)
  · rintro i s hlt ⟨g, rfl, e1, e2⟩
    have hi' := passA_HI hi i (by omega)
    have hk' : k < (passA i a).2 6 := hk
    have h24 := frN_le hi' k
    unfold mX7_fades_l26
    by_cases hz : frN (passA i a) k = 0
    · right
      refine ⟨_, ?_, Or.inr ⟨i, g, rfl, hlt, hz, e2⟩⟩
      simp (disch := omega) only [↓reduceIte, obs, esc_il, esc_ir, leT, leF, ltT, ltF, eqT, eqF, nleT, nleF, nltT, nltF, neqT, neqF, nI_add, pk_mul, ald_nI, ast_nI, irm_nI, idv_nI, zbT, zbF, in_T, in_F1, in_F2, nI_l, sI_1, sI_2, sA_1, sA_2, subK, add0, sub0, or0, lN_add, lN_mul, L_0, L_1, L_2, L_3, L_4, L_5, L_6, L_7, L_8, L_9, L_10, L_11, L_12, L_13, L_14, L_15, L_16, L_17, L_18, L_19, L_20, L_30, L_31, L_32, L_35, L_37, L_39, L_40, L_43, L_48, L_57, L_59, L_60, L_97, L_99, L_100, L_120, L_122, L_127, L_160, L_200, L_255, L_999, L_1000, L_100000, L_1000000, L_24, L_33, L_34, L_36, L_38, L_69, L_70, L_72, L_214, L_215, L_288, LL_0, LL_1, LL_2, LL_3, LL_5, LL_9, LL_10, LL_11, LL_12, LL_19, LL_20, LL_30, LL_39, LL_60, LL_99, LL_127, LL_999, frankAt_e e1 hi']
    · left
      obtain ⟨g2, d1, d2⟩ := pass_e e1 hi' (n := 1) (by omega)
      rw [passA_add] at d2
      refine ⟨_, ?_, g2, rfl, d2, fun m hm => ?_⟩
      · simp (disch := omega) only [↓reduceIte, obs, esc_il, esc_ir, leT, leF, ltT, ltF, eqT, eqF, nleT, nleF, nltT, nltF, neqT, neqF, nI_add, pk_mul, ald_nI, ast_nI, irm_nI, idv_nI, zbT, zbF, in_T, in_F1, in_F2, nI_l, sI_1, sI_2, sA_1, sA_2, subK, add0, sub0, or0, lN_add, lN_mul, L_0, L_1, L_2, L_3, L_4, L_5, L_6, L_7, L_8, L_9, L_10, L_11, L_12, L_13, L_14, L_15, L_16, L_17, L_18, L_19, L_20, L_30, L_31, L_32, L_35, L_37, L_39, L_40, L_43, L_48, L_57, L_59, L_60, L_97, L_99, L_100, L_120, L_122, L_127, L_160, L_200, L_255, L_999, L_1000, L_100000, L_1000000, L_24, L_33, L_34, L_36, L_38, L_69, L_70, L_72, L_214, L_215, L_288, LL_0, LL_1, LL_2, LL_3, LL_5, LL_9, LL_10, LL_11, LL_12, LL_19, LL_20, LL_30, LL_39, LL_60, LL_99, LL_127, LL_999, frankAt_e e1 hi', d1]
      · by_cases h : m = i
        · rw [h]; exact hz
        · exact e2 m (by omega)
  · rintro s ⟨g, rfl, e1, e2⟩
    refine ⟨_, ?_, Or.inl ⟨⟨(nI 61, g), rfl⟩, e2⟩⟩
    unfold mX7_fades_l26
    simp (disch := omega) only [↓reduceIte, obs, esc_il, esc_ir, leT, leF, ltT, ltF, eqT, eqF, nleT, nleF, nltT, nltF, neqT, neqF, nI_add, pk_mul, ald_nI, ast_nI, irm_nI, idv_nI, zbT, zbF, in_T, in_F1, in_F2, nI_l, sI_1, sI_2, sA_1, sA_2, subK, add0, sub0, or0, lN_add, lN_mul, L_0, L_1, L_2, L_3, L_4, L_5, L_6, L_7, L_8, L_9, L_10, L_11, L_12, L_13, L_14, L_15, L_16, L_17, L_18, L_19, L_20, L_30, L_31, L_32, L_35, L_37, L_39, L_40, L_43, L_48, L_57, L_59, L_60, L_97, L_99, L_100, L_120, L_122, L_127, L_160, L_200, L_255, L_999, L_1000, L_100000, L_1000000, L_24, L_33, L_34, L_36, L_38, L_69, L_70, L_72, L_214, L_215, L_288, LL_0, LL_1, LL_2, LL_3, LL_5, LL_9, LL_10, LL_11, LL_12, LL_19, LL_20, LL_30, LL_39, LL_60, LL_99, LL_127, LL_999]
theorem fades8_e {M : GS} {f : Nat → Int32} {a : AH} (hp : PV f 160 a) (hi : HI a) (hy : a.2 11 ≤ 999) {k : Nat} (hk : k < a.2 6) (hf : Low (M.1 0) f) : ∃ x, whO (mX8_fades_l20 (nI k)) FU (nI 0, sA M 0 f) = some x ∧ Fst (fun n => frN (passA n a) k) 61 x ∧ ∃ n f', Low (M.1 0) f' ∧ (x = .inl (n, sA M 0 f') ∨ x = .inr (n, sA M 0 f')) := by
  have hb := hi.nb
  refine whO_inv (fun (i : Nat) (s : Int32 × GS) => ∃ f, s = (nI i, sA M 0 f) ∧ Low (M.1 0) f ∧ PV f 160 (passA i a) ∧ ∀ m, m < i → frN (passA m a) k ≠ 0) 61 _ ?_ ?_ _ ⟨f, rfl, hf, by rw [pass0 hi]; exact hp, fun m hm => absurd hm (Nat.not_lt_zero _)⟩ (by decide)
  · rintro i s hlt ⟨f, rfl, el, e1, e2⟩
    have hi' := passA_HI hi i (by omega)
    have hk' : k < (passA i a).2 6 := hk
    have h24 := frN_le hi' k
    have e1' : PV ((sA M 0 f).1 0) 160 (passA i a) := by rw [sA_s]; exact e1
    unfold mX8_fades_l20
    by_cases hz : frN (passA i a) k = 0
    · right
      refine ⟨_, ?_, Or.inr ⟨i, sA M 0 f, rfl, hlt, hz, e2⟩, nI i, f, el, Or.inr rfl⟩
      simp (disch := omega) only [↓reduceIte, obs, esc_il, esc_ir, leT, leF, ltT, ltF, eqT, eqF, nleT, nleF, nltT, nltF, neqT, neqF, nI_add, pk_mul, ald_nI, ast_nI, irm_nI, idv_nI, zbT, zbF, in_T, in_F1, in_F2, nI_l, sI_1, sI_2, sA_1, sA_2, subK, add0, sub0, or0, lN_add, lN_mul, L_0, L_1, L_2, L_3, L_4, L_5, L_6, L_7, L_8, L_9, L_10, L_11, L_12, L_13, L_14, L_15, L_16, L_17, L_18, L_19, L_20, L_30, L_31, L_32, L_35, L_37, L_39, L_40, L_43, L_48, L_57, L_59, L_60, L_97, L_99, L_100, L_120, L_122, L_127, L_160, L_200, L_255, L_999, L_1000, L_100000, L_1000000, L_24, L_33, L_34, L_36, L_38, L_69, L_70, L_72, L_214, L_215, L_288, LL_0, LL_1, LL_2, LL_3, LL_5, LL_9, LL_10, LL_11, LL_12, LL_19, LL_20, LL_30, LL_39, LL_60, LL_99, LL_127, LL_999, frankOn_e e1' (by decide) hi']
    · left
      obtain ⟨f2, d1, d2, d3⟩ := yearOn_e e1' (by decide) hi'
      rw [passA_add] at d2
      rw [sA_s] at d3
      refine ⟨_, ?_, f2, rfl, el.tr (d3.low (by decide)), d2, fun m hm => ?_⟩
      · simp (disch := omega) only [↓reduceIte, obs, esc_il, esc_ir, leT, leF, ltT, ltF, eqT, eqF, nleT, nleF, nltT, nltF, neqT, neqF, nI_add, pk_mul, ald_nI, ast_nI, irm_nI, idv_nI, zbT, zbF, in_T, in_F1, in_F2, nI_l, sI_1, sI_2, sA_1, sA_2, subK, add0, sub0, or0, lN_add, lN_mul, L_0, L_1, L_2, L_3, L_4, L_5, L_6, L_7, L_8, L_9, L_10, L_11, L_12, L_13, L_14, L_15, L_16, L_17, L_18, L_19, L_20, L_30, L_31, L_32, L_35, L_37, L_39, L_40, L_43, L_48, L_57, L_59, L_60, L_97, L_99, L_100, L_120, L_122, L_127, L_160, L_200, L_255, L_999, L_1000, L_100000, L_1000000, L_24, L_33, L_34, L_36, L_38, L_69, L_70, L_72, L_214, L_215, L_288, LL_0, LL_1, LL_2, LL_3, LL_5, LL_9, LL_10, LL_11, LL_12, LL_19, LL_20, LL_30, LL_39, LL_60, LL_99, LL_127, LL_999, frankOn_e e1' (by decide) hi', d1, sA_sA]
      · by_cases h : m = i
        · rw [h]; exact hz
        · exact e2 m (by omega)
  · rintro s ⟨f, rfl, el, e1, e2⟩
    refine ⟨_, ?_, Or.inl ⟨⟨(nI 61, sA M 0 f), rfl⟩, e2⟩, nI 61, f, el, Or.inl rfl⟩
    unfold mX8_fades_l20
    simp (disch := omega) only [↓reduceIte, obs, esc_il, esc_ir, leT, leF, ltT, ltF, eqT, eqF, nleT, nleF, nltT, nltF, neqT, neqF, nI_add, pk_mul, ald_nI, ast_nI, irm_nI, idv_nI, zbT, zbF, in_T, in_F1, in_F2, nI_l, sI_1, sI_2, sA_1, sA_2, subK, add0, sub0, or0, lN_add, lN_mul, L_0, L_1, L_2, L_3, L_4, L_5, L_6, L_7, L_8, L_9, L_10, L_11, L_12, L_13, L_14, L_15, L_16, L_17, L_18, L_19, L_20, L_30, L_31, L_32, L_35, L_37, L_39, L_40, L_43, L_48, L_57, L_59, L_60, L_97, L_99, L_100, L_120, L_122, L_127, L_160, L_200, L_255, L_999, L_1000, L_100000, L_1000000, L_24, L_33, L_34, L_36, L_38, L_69, L_70, L_72, L_214, L_215, L_288, LL_0, LL_1, LL_2, LL_3, LL_5, LL_9, LL_10, LL_11, LL_12, LL_19, LL_20, LL_30, LL_39, LL_60, LL_99, LL_127, LL_999]
theorem st_fades {F : FS} {M : GS} (hR : Rel F M) (i : Int32) : ∃ (o : Int32 × GS) (o' : Int32 × GS), mX7_fades (F.1 0) (F.1 1) i = some o ∧ mX8_fades M i = some o' ∧ o.1 = o'.1 ∧ Rel ((va_up F.1 1 o.2), F.2.1, F.2.2) o'.2 := by
  obtain ⟨⟨a, hv, hp, hi, hy⟩, -⟩ := id hR
  have hb := hi.nb
  unfold mX7_fades mX8_fades
  rcases cs2 i with h | ⟨k, hk, rfl⟩
  · simp (disch := omega) only [↓reduceIte, obs, esc_il, esc_ir, leT, leF, ltT, ltF, eqT, eqF, nleT, nleF, nltT, nltF, neqT, neqF, nI_add, pk_mul, ald_nI, ast_nI, irm_nI, idv_nI, zbT, zbF, in_T, in_F1, in_F2, nI_l, sI_1, sI_2, sA_1, sA_2, subK, add0, sub0, or0, lN_add, lN_mul, L_0, L_1, L_2, L_3, L_4, L_5, L_6, L_7, L_8, L_9, L_10, L_11, L_12, L_13, L_14, L_15, L_16, L_17, L_18, L_19, L_20, L_30, L_31, L_32, L_35, L_37, L_39, L_40, L_43, L_48, L_57, L_59, L_60, L_97, L_99, L_100, L_120, L_122, L_127, L_160, L_200, L_255, L_999, L_1000, L_100000, L_1000000, L_24, L_33, L_34, L_36, L_38, L_69, L_70, L_72, L_214, L_215, L_288, LL_0, LL_1, LL_2, LL_3, LL_5, LL_9, LL_10, LL_11, LL_12, LL_19, LL_20, LL_30, LL_39, LL_60, LL_99, LL_127, LL_999, hasPlace_e hv hi, isPlace_e hp hi, ngLt h, ngLe h, ngGe h, ngGt h, ngEq h, ngEq' h, in_ng h, zb_ng h]
    exact ⟨_, _, rfl, rfl, rfl, hR.same 1⟩
  by_cases hk2 : k < a.2 6
  · obtain ⟨g1, c1, c2⟩ := copy_e (g := F.1 1) hv hi
    obtain ⟨f1, d1, d2, d3⟩ := copies_p (j := 160) hp hi (by omega) (by omega) (by omega)
    obtain ⟨x, x1, x2⟩ := fades7_e c2 hi hy hk2
    obtain ⟨y, y1, y2, n0, f', y3, y4⟩ := fades8_e (M := M) d2 hi hy hk2 (d3.low (by decide))
    simp (disch := omega) only [↓reduceIte, obs, esc_il, esc_ir, leT, leF, ltT, ltF, eqT, eqF, nleT, nleF, nltT, nltF, neqT, neqF, nI_add, pk_mul, ald_nI, ast_nI, irm_nI, idv_nI, zbT, zbF, in_T, in_F1, in_F2, nI_l, sI_1, sI_2, sA_1, sA_2, subK, add0, sub0, or0, lN_add, lN_mul, L_0, L_1, L_2, L_3, L_4, L_5, L_6, L_7, L_8, L_9, L_10, L_11, L_12, L_13, L_14, L_15, L_16, L_17, L_18, L_19, L_20, L_30, L_31, L_32, L_35, L_37, L_39, L_40, L_43, L_48, L_57, L_59, L_60, L_97, L_99, L_100, L_120, L_122, L_127, L_160, L_200, L_255, L_999, L_1000, L_100000, L_1000000, L_24, L_33, L_34, L_36, L_38, L_69, L_70, L_72, L_214, L_215, L_288, LL_0, LL_1, LL_2, LL_3, LL_5, LL_9, LL_10, LL_11, LL_12, LL_19, LL_20, LL_30, LL_39, LL_60, LL_99, LL_127, LL_999, hasPlace_e hv hi, isPlace_e hp hi, c1, d1, x1, y1]
    have hsc : ∀ g v, Rel (va_up F.1 1 g, F.2.1, F.2.2) ((v : Int32), sA M 0 f').2 := fun g v => hR.scratch g y3
    rcases x2 with ⟨⟨z, rfl⟩, xe⟩ | ⟨n, g, rfl, xe1, xe2, xe3⟩
    · rcases y2 with ⟨⟨z', rfl⟩, ye⟩ | ⟨n', g', rfl, ye1, ye2, ye3⟩
      · rcases y4 with y4 | y4
        · obtain rfl := Sum.inl.inj y4
          exact ⟨_, _, rfl, rfl, rfl, hsc _ 0⟩
        · cases y4
      · exact absurd ye2 (xe n' ye1)
    · rcases y2 with ⟨⟨z', rfl⟩, ye⟩ | ⟨n', g', rfl, ye1, ye2, ye3⟩
      · exact absurd xe2 (ye n xe1)
      · have e : n = n' := by
          rcases Nat.lt_trichotomy n n' with h | h | h
          · exact absurd xe2 (ye3 n h)
          · exact h
          · exact absurd ye2 (xe3 n' h)
        subst e
        rcases y4 with y4 | y4
        · cases y4
        · have e2 := Sum.inr.inj y4
          rw [e2]
          have e3 : nI n = n0 := congrArg Prod.fst e2
          refine ⟨_, _, rfl, rfl, e3, hsc _ 0⟩
  · simp (disch := omega) only [↓reduceIte, obs, esc_il, esc_ir, leT, leF, ltT, ltF, eqT, eqF, nleT, nleF, nltT, nltF, neqT, neqF, nI_add, pk_mul, ald_nI, ast_nI, irm_nI, idv_nI, zbT, zbF, in_T, in_F1, in_F2, nI_l, sI_1, sI_2, sA_1, sA_2, subK, add0, sub0, or0, lN_add, lN_mul, L_0, L_1, L_2, L_3, L_4, L_5, L_6, L_7, L_8, L_9, L_10, L_11, L_12, L_13, L_14, L_15, L_16, L_17, L_18, L_19, L_20, L_30, L_31, L_32, L_35, L_37, L_39, L_40, L_43, L_48, L_57, L_59, L_60, L_97, L_99, L_100, L_120, L_122, L_127, L_160, L_200, L_255, L_999, L_1000, L_100000, L_1000000, L_24, L_33, L_34, L_36, L_38, L_69, L_70, L_72, L_214, L_215, L_288, LL_0, LL_1, LL_2, LL_3, LL_5, LL_9, LL_10, LL_11, LL_12, LL_19, LL_20, LL_30, LL_39, LL_60, LL_99, LL_127, LL_999, hasPlace_e hv hi, isPlace_e hp hi]
    exact ⟨_, _, rfl, rfl, rfl, hR.same 1⟩
