/-! bits; blocks; what is alike; what is changed -/
def btN (P : Nat → Bool) : Nat → Nat
  | 0 => 0
  | n + 1 => btN P n + (if P n then 2 ^ n else 0)
theorem btN_lt (P : Nat → Bool) : ∀ n, btN P n < 2 ^ n
  | 0 => by show 0 < 1; decide
  | n + 1 => by
    have := btN_lt P n
    rw [btN, Nat.pow_succ]
    split <;> omega
theorem p2_le {n : Nat} (h : n ≤ 30) : 2 ^ n ≤ 2 ^ 30 := Nat.pow_le_pow_right (by decide) h
theorem or_nI {b n : Nat} (hb : b < 2 ^ n) (hn : n ≤ 30) : nI b ||| nI (2 ^ n) = nI (b + 2 ^ n) := by
  have := p2_le hn
  apply Int32.toBitVec_inj.mp
  apply BitVec.eq_of_toNat_eq
  rw [Int32.toBitVec_or, BitVec.toNat_or, pk_tn (by omega), pk_tn (by omega), pk_tn (by omega)]
  have h := Nat.two_pow_add_eq_or_of_lt hb 1
  rw [Nat.mul_one] at h
  rw [Nat.or_comm, ← h, Nat.add_comm]
theorem smod31 : ∀ n : Nat, n < 31 → ((nI n &&& nI 31).toBitVec.smod 32).toNat = n := by decide +kernel
theorem one_shl {n : Nat} (hn : n ≤ 30) : nI 1 <<< (nI n &&& nI 31) = nI (2 ^ n) := by
  have := p2_le hn
  rw [pk_shlN _ n (smod31 n (by omega)) (by omega), Nat.one_mul]
theorem orZ_bt (P : Nat → Bool) : ∀ n, n ≤ 31 → orZ P n = nI (btN P n)
  | 0, _ => rfl
  | n + 1, h => by
    rw [orZ, btN, orZ_bt P n (by omega)]
    split
    · rw [one_shl (by omega), or_nI (btN_lt P n) (by omega)]
    · rw [Nat.add_zero]
theorem btN_bit (P : Nat → Bool) : ∀ m i, i < m → btN P m / 2 ^ i % 2 = if P i then 1 else 0
  | 0, _, h => absurd h (Nat.not_lt_zero _)
  | m + 1, i, h => by
    rw [btN]
    by_cases hi : i < m
    · rw [← btN_bit P m i hi]
      split
      · obtain ⟨d, rfl⟩ : ∃ d, m = i + (d + 1) := ⟨m - i - 1, by omega⟩
        rw [Nat.pow_add, Nat.add_mul_div_left _ _ (Nat.two_pow_pos i), Nat.pow_succ, Nat.mul_comm (2 ^ d) 2, Nat.add_mul_mod_self_left]
      · rw [Nat.add_zero]
    · obtain rfl : i = m := by omega
      have := btN_lt P i
      split
      · rw [Nat.add_div_right _ (Nat.two_pow_pos i), Nat.div_eq_of_lt this]
      · rw [Nat.add_zero, Nat.div_eq_of_lt this]
theorem bit_nI {b i : Nat} (hb : b < 2 ^ 31) (hi : i ≤ 30) : (nI b >>> (nI i &&& nI 31)) &&& nI 1 = nI (b / 2 ^ i % 2) := by
  rw [pk_shrN hb _ i (smod31 i (by omega)), pk_andN (k := 1) (Nat.lt_of_le_of_lt (Nat.div_le_self _ _) (by omega)) (by decide), Nat.pow_one]
theorem orZ_bit (P : Nat → Bool) {m i : Nat} (hm : m ≤ 30) (hi : i < m) : (orZ P m >>> (nI i &&& nI 31)) &&& nI 1 = nI (if P i then 1 else 0) := by
  have h1 := btN_lt P m
  have h2 := p2_le hm
  rw [orZ_bt P m (by omega), bit_nI (by omega) (by omega), btN_bit P m i hi]
theorem orZ_out (P : Nat → Bool) {m i : Nat} (hm : m ≤ i) (hi : i ≤ 30) : (orZ P m >>> (nI i &&& nI 31)) &&& nI 1 = nI 0 := by
  have h1 := btN_lt P m
  have h2 := p2_le hi
  have h3 : 2 ^ m ≤ 2 ^ i := Nat.pow_le_pow_right (by decide) hm
  rw [orZ_bt P m (by omega), bit_nI (by omega) (by omega), Nat.div_eq_of_lt (by omega)]
theorem whoZ_e {a : AH} (h : 0 < a.2 5) (i : Nat) : whoZ a i = nI (whoN a i) := if_neg (by omega)
theorem placesOf_e {g : GS} {a : AH} (hv : HV g a) (hi : HI a) {j : Nat} (hj : j < a.2 5) : mX0_placesOf g (nI j) = some (orZ (fun i => whoN a i == j) (a.2 6)) := by
  have hb := hi.nb
  unfold mX0_placesOf
  rw [whO_for (fun i => (orZ (fun i => whoN a i == j) i, nI i)) (a.2 6) (orZ (fun i => whoN a i == j) (a.2 6), nI (a.2 6)) (by rfl) ?_ ?_ (by omega)]
  · rfl
  · intro i h
    have hw := whoN_lt (a := a) (by omega) i
    have he := whoZ_e (a := a) (by omega) i
    unfold mX0_placesOf_l4
    by_cases hz : whoN a i = j
    · rw [orZ_y (by rw [hz]; exact beq_self_eq_true j)]
      simp (disch := omega) only [↓reduceIte, obs, esc_il, esc_ir, leT, leF, ltT, ltF, eqT, eqF, nleT, nleF, nltT, nltF, neqT, neqF, nI_add, pk_mul, ald_nI, ast_nI, irm_nI, idv_nI, zbT, zbF, in_T, in_F1, in_F2, nI_l, sI_1, sI_2, sA_1, sA_2, subK, add0, sub0, or0, lN_add, lN_mul, L_0, L_1, L_2, L_3, L_4, L_5, L_6, L_7, L_8, L_9, L_10, L_11, L_12, L_13, L_14, L_15, L_16, L_17, L_18, L_19, L_20, L_30, L_31, L_32, L_35, L_37, L_39, L_40, L_43, L_48, L_57, L_59, L_60, L_97, L_99, L_100, L_120, L_122, L_127, L_160, L_200, L_255, L_999, L_1000, L_100000, L_1000000, L_24, L_33, L_34, L_36, L_38, L_69, L_70, L_72, L_214, L_215, L_288, L_174, L_175, LL_0, LL_1, LL_2, LL_3, LL_5, LL_9, LL_10, LL_11, LL_12, LL_19, LL_20, LL_30, LL_39, LL_60, LL_99, LL_127, LL_999, hv.b, hv.w, hv.s, hv.wd, hv.re, hv.u, hv.y, hv.r, hv.kd, hv.wm, hv.fd, hv.ln, hv.pr, hasPlace_e hv hi, hasBlock_e hv hi, hasRoll_e hv hi, whoAt_e hv hi, frankAt_e hv hi, frankOfAll_e hv hi, frankFrom_e hv hi, he]
    · rw [orZ_n (by rw [beq_eq_false_iff_ne]; exact hz)]
      simp (disch := omega) only [↓reduceIte, obs, esc_il, esc_ir, leT, leF, ltT, ltF, eqT, eqF, nleT, nleF, nltT, nltF, neqT, neqF, nI_add, pk_mul, ald_nI, ast_nI, irm_nI, idv_nI, zbT, zbF, in_T, in_F1, in_F2, nI_l, sI_1, sI_2, sA_1, sA_2, subK, add0, sub0, or0, lN_add, lN_mul, L_0, L_1, L_2, L_3, L_4, L_5, L_6, L_7, L_8, L_9, L_10, L_11, L_12, L_13, L_14, L_15, L_16, L_17, L_18, L_19, L_20, L_30, L_31, L_32, L_35, L_37, L_39, L_40, L_43, L_48, L_57, L_59, L_60, L_97, L_99, L_100, L_120, L_122, L_127, L_160, L_200, L_255, L_999, L_1000, L_100000, L_1000000, L_24, L_33, L_34, L_36, L_38, L_69, L_70, L_72, L_214, L_215, L_288, L_174, L_175, LL_0, LL_1, LL_2, LL_3, LL_5, LL_9, LL_10, LL_11, LL_12, LL_19, LL_20, LL_30, LL_39, LL_60, LL_99, LL_127, LL_999, hv.b, hv.w, hv.s, hv.wd, hv.re, hv.u, hv.y, hv.r, hv.kd, hv.wm, hv.fd, hv.ln, hv.pr, hasPlace_e hv hi, hasBlock_e hv hi, hasRoll_e hv hi, whoAt_e hv hi, frankAt_e hv hi, frankOfAll_e hv hi, frankFrom_e hv hi, he]
  · unfold mX0_placesOf_l4
    simp (disch := omega) only [↓reduceIte, obs, esc_il, esc_ir, leT, leF, ltT, ltF, eqT, eqF, nleT, nleF, nltT, nltF, neqT, neqF, nI_add, pk_mul, ald_nI, ast_nI, irm_nI, idv_nI, zbT, zbF, in_T, in_F1, in_F2, nI_l, sI_1, sI_2, sA_1, sA_2, subK, add0, sub0, or0, lN_add, lN_mul, L_0, L_1, L_2, L_3, L_4, L_5, L_6, L_7, L_8, L_9, L_10, L_11, L_12, L_13, L_14, L_15, L_16, L_17, L_18, L_19, L_20, L_30, L_31, L_32, L_35, L_37, L_39, L_40, L_43, L_48, L_57, L_59, L_60, L_97, L_99, L_100, L_120, L_122, L_127, L_160, L_200, L_255, L_999, L_1000, L_100000, L_1000000, L_24, L_33, L_34, L_36, L_38, L_69, L_70, L_72, L_214, L_215, L_288, L_174, L_175, LL_0, LL_1, LL_2, LL_3, LL_5, LL_9, LL_10, LL_11, LL_12, LL_19, LL_20, LL_30, LL_39, LL_60, LL_99, LL_127, LL_999, hv.b, hv.w, hv.s, hv.wd, hv.re, hv.u, hv.y, hv.r, hv.kd, hv.wm, hv.fd, hv.ln, hv.pr, hasPlace_e hv hi, hasBlock_e hv hi, hasRoll_e hv hi, whoAt_e hv hi, frankAt_e hv hi, frankOfAll_e hv hi, frankFrom_e hv hi]
def blF (a : AH) (j : Nat) (i : Nat) : Nat := if whoN a i == j then frN a i else 0
theorem blF_le {a : AH} (hi : HI a) (j i : Nat) : blF a j i ≤ 24 := by
  unfold blF
  split
  · exact frN_le hi i
  · omega
theorem frankOf_e {g : GS} {a : AH} (hv : HV g a) (hi : HI a) (j : Nat) : mX0_frankOf g (orZ (fun i => whoN a i == j) (a.2 6)) = some (nI (sumN (blF a j) (a.2 6))) := by
  have hb := hi.nb
  unfold mX0_frankOf
  rw [whO_for (fun i => (nI (sumN (fun q => if 0 ≤ q ∧ q < 0 + a.2 6 then blF a j q else 0) i), nI i)) 12 (nI (sumN (fun q => if 0 ≤ q ∧ q < 0 + a.2 6 then blF a j q else 0) 12), nI 12) (by rfl) ?_ ?_ (by omega)]
  · rw [obs, sumN_win, show min (a.2 6) (12 - 0) = a.2 6 by omega]
    show some (nI (sumN (fun q => blF a j (0 + q)) (a.2 6))) = _
    rw [sumN_congr (g := blF a j) _ (fun q _ => by rw [Nat.zero_add])]
  · intro i h
    unfold mX0_frankOf_l4
    have e31 : (31 : Int32) = nI 31 := rfl
    simp only [sumN, e31, L_1]
    by_cases hw : i < a.2 6
    · rw [orZ_bit _ (by omega) hw, if_pos (show 0 ≤ i ∧ i < 0 + a.2 6 by omega)]
      unfold blF
      by_cases hz : (whoN a i == j) = true
      · rw [if_pos hz, if_pos hz]
        simp (disch := omega) only [↓reduceIte, obs, esc_il, esc_ir, leT, leF, ltT, ltF, eqT, eqF, nleT, nleF, nltT, nltF, neqT, neqF, nI_add, pk_mul, ald_nI, ast_nI, irm_nI, idv_nI, zbT, zbF, in_T, in_F1, in_F2, nI_l, sI_1, sI_2, sA_1, sA_2, subK, add0, sub0, or0, lN_add, lN_mul, L_0, L_1, L_2, L_3, L_4, L_5, L_6, L_7, L_8, L_9, L_10, L_11, L_12, L_13, L_14, L_15, L_16, L_17, L_18, L_19, L_20, L_30, L_31, L_32, L_35, L_37, L_39, L_40, L_43, L_48, L_57, L_59, L_60, L_97, L_99, L_100, L_120, L_122, L_127, L_160, L_200, L_255, L_999, L_1000, L_100000, L_1000000, L_24, L_33, L_34, L_36, L_38, L_69, L_70, L_72, L_214, L_215, L_288, L_174, L_175, LL_0, LL_1, LL_2, LL_3, LL_5, LL_9, LL_10, LL_11, LL_12, LL_19, LL_20, LL_30, LL_39, LL_60, LL_99, LL_127, LL_999, hv.b, hv.w, hv.s, hv.wd, hv.re, hv.u, hv.y, hv.r, hv.kd, hv.wm, hv.fd, hv.ln, hv.pr, hasPlace_e hv hi, hasBlock_e hv hi, hasRoll_e hv hi, whoAt_e hv hi, frankAt_e hv hi, frankOfAll_e hv hi, frankFrom_e hv hi]
      · rw [if_neg hz, if_neg hz]
        simp (disch := omega) only [↓reduceIte, obs, esc_il, esc_ir, leT, leF, ltT, ltF, eqT, eqF, nleT, nleF, nltT, nltF, neqT, neqF, nI_add, pk_mul, ald_nI, ast_nI, irm_nI, idv_nI, zbT, zbF, in_T, in_F1, in_F2, nI_l, sI_1, sI_2, sA_1, sA_2, subK, add0, sub0, or0, lN_add, lN_mul, L_0, L_1, L_2, L_3, L_4, L_5, L_6, L_7, L_8, L_9, L_10, L_11, L_12, L_13, L_14, L_15, L_16, L_17, L_18, L_19, L_20, L_30, L_31, L_32, L_35, L_37, L_39, L_40, L_43, L_48, L_57, L_59, L_60, L_97, L_99, L_100, L_120, L_122, L_127, L_160, L_200, L_255, L_999, L_1000, L_100000, L_1000000, L_24, L_33, L_34, L_36, L_38, L_69, L_70, L_72, L_214, L_215, L_288, L_174, L_175, LL_0, LL_1, LL_2, LL_3, LL_5, LL_9, LL_10, LL_11, LL_12, LL_19, LL_20, LL_30, LL_39, LL_60, LL_99, LL_127, LL_999, hv.b, hv.w, hv.s, hv.wd, hv.re, hv.u, hv.y, hv.r, hv.kd, hv.wm, hv.fd, hv.ln, hv.pr, hasPlace_e hv hi, hasBlock_e hv hi, hasRoll_e hv hi, whoAt_e hv hi, frankAt_e hv hi, frankOfAll_e hv hi, frankFrom_e hv hi, Nat.add_zero]
    · rw [orZ_out _ (by omega) (by omega), if_neg (show ¬ (0 ≤ i ∧ i < 0 + a.2 6) by omega)]
      simp (disch := omega) only [↓reduceIte, obs, esc_il, esc_ir, leT, leF, ltT, ltF, eqT, eqF, nleT, nleF, nltT, nltF, neqT, neqF, nI_add, pk_mul, ald_nI, ast_nI, irm_nI, idv_nI, zbT, zbF, in_T, in_F1, in_F2, nI_l, sI_1, sI_2, sA_1, sA_2, subK, add0, sub0, or0, lN_add, lN_mul, L_0, L_1, L_2, L_3, L_4, L_5, L_6, L_7, L_8, L_9, L_10, L_11, L_12, L_13, L_14, L_15, L_16, L_17, L_18, L_19, L_20, L_30, L_31, L_32, L_35, L_37, L_39, L_40, L_43, L_48, L_57, L_59, L_60, L_97, L_99, L_100, L_120, L_122, L_127, L_160, L_200, L_255, L_999, L_1000, L_100000, L_1000000, L_24, L_33, L_34, L_36, L_38, L_69, L_70, L_72, L_214, L_215, L_288, L_174, L_175, LL_0, LL_1, LL_2, LL_3, LL_5, LL_9, LL_10, LL_11, LL_12, LL_19, LL_20, LL_30, LL_39, LL_60, LL_99, LL_127, LL_999, hv.b, hv.w, hv.s, hv.wd, hv.re, hv.u, hv.y, hv.r, hv.kd, hv.wm, hv.fd, hv.ln, hv.pr, hasPlace_e hv hi, hasBlock_e hv hi, hasRoll_e hv hi, whoAt_e hv hi, frankAt_e hv hi, frankOfAll_e hv hi, frankFrom_e hv hi, Nat.add_zero]
  · unfold mX0_frankOf_l4
    simp (disch := omega) only [↓reduceIte, obs, esc_il, esc_ir, leT, leF, ltT, ltF, eqT, eqF, nleT, nleF, nltT, nltF, neqT, neqF, nI_add, pk_mul, ald_nI, ast_nI, irm_nI, idv_nI, zbT, zbF, in_T, in_F1, in_F2, nI_l, sI_1, sI_2, sA_1, sA_2, subK, add0, sub0, or0, lN_add, lN_mul, L_0, L_1, L_2, L_3, L_4, L_5, L_6, L_7, L_8, L_9, L_10, L_11, L_12, L_13, L_14, L_15, L_16, L_17, L_18, L_19, L_20, L_30, L_31, L_32, L_35, L_37, L_39, L_40, L_43, L_48, L_57, L_59, L_60, L_97, L_99, L_100, L_120, L_122, L_127, L_160, L_200, L_255, L_999, L_1000, L_100000, L_1000000, L_24, L_33, L_34, L_36, L_38, L_69, L_70, L_72, L_214, L_215, L_288, L_174, L_175, LL_0, LL_1, LL_2, LL_3, LL_5, LL_9, LL_10, LL_11, LL_12, LL_19, LL_20, LL_30, LL_39, LL_60, LL_99, LL_127, LL_999]
theorem block30_e {M : GS} {a : AH} (hp : PV (M.1 0) 0 a) (hi : HI a) {j : Nat} (hj : j < a.2 5) : whO (mX8_block_l30 M (nI j)) FU (nI 0, nI 0, nI 0) = some (orZ (fun i => whoN a i == j) (a.2 6), nI (sumN (blF a j) (a.2 6)), nI (a.2 6)) := by
  have hb := hi.nb
  refine whO_for (fun i => (orZ (fun i => whoN a i == j) i, nI (sumN (blF a j) i), nI i)) (a.2 6) _ (by rfl) ?_ ?_ (by omega)
  · intro i h
    have hw := whoN_lt (a := a) (by omega) i
    have he := whoZ_e (a := a) (by omega) i
    unfold mX8_block_l30
    rw [sumN]
    by_cases hz : whoN a i = j
    · rw [orZ_y (by rw [hz]; exact beq_self_eq_true j), show blF a j i = frN a i from if_pos (by rw [hz]; exact beq_self_eq_true j)]
      simp (disch := omega) only [↓reduceIte, obs, esc_il, esc_ir, leT, leF, ltT, ltF, eqT, eqF, nleT, nleF, nltT, nltF, neqT, neqF, nI_add, pk_mul, ald_nI, ast_nI, irm_nI, idv_nI, zbT, zbF, in_T, in_F1, in_F2, nI_l, sI_1, sI_2, sA_1, sA_2, subK, add0, sub0, or0, lN_add, lN_mul, L_0, L_1, L_2, L_3, L_4, L_5, L_6, L_7, L_8, L_9, L_10, L_11, L_12, L_13, L_14, L_15, L_16, L_17, L_18, L_19, L_20, L_30, L_31, L_32, L_35, L_37, L_39, L_40, L_43, L_48, L_57, L_59, L_60, L_97, L_99, L_100, L_120, L_122, L_127, L_160, L_200, L_255, L_999, L_1000, L_100000, L_1000000, L_24, L_33, L_34, L_36, L_38, L_69, L_70, L_72, L_214, L_215, L_288, L_174, L_175, LL_0, LL_1, LL_2, LL_3, LL_5, LL_9, LL_10, LL_11, LL_12, LL_19, LL_20, LL_30, LL_39, LL_60, LL_99, LL_127, LL_999, longOn_e hp (by decide), whoOn_e hp (by decide) hi, frankOn_e hp (by decide) hi, he]
    · rw [orZ_n (by rw [beq_eq_false_iff_ne]; exact hz), show blF a j i = 0 from if_neg (by simpa using hz)]
      simp (disch := omega) only [↓reduceIte, obs, esc_il, esc_ir, leT, leF, ltT, ltF, eqT, eqF, nleT, nleF, nltT, nltF, neqT, neqF, nI_add, pk_mul, ald_nI, ast_nI, irm_nI, idv_nI, zbT, zbF, in_T, in_F1, in_F2, nI_l, sI_1, sI_2, sA_1, sA_2, subK, add0, sub0, or0, lN_add, lN_mul, L_0, L_1, L_2, L_3, L_4, L_5, L_6, L_7, L_8, L_9, L_10, L_11, L_12, L_13, L_14, L_15, L_16, L_17, L_18, L_19, L_20, L_30, L_31, L_32, L_35, L_37, L_39, L_40, L_43, L_48, L_57, L_59, L_60, L_97, L_99, L_100, L_120, L_122, L_127, L_160, L_200, L_255, L_999, L_1000, L_100000, L_1000000, L_24, L_33, L_34, L_36, L_38, L_69, L_70, L_72, L_214, L_215, L_288, L_174, L_175, LL_0, LL_1, LL_2, LL_3, LL_5, LL_9, LL_10, LL_11, LL_12, LL_19, LL_20, LL_30, LL_39, LL_60, LL_99, LL_127, LL_999, Nat.add_zero, longOn_e hp (by decide), whoOn_e hp (by decide) hi, frankOn_e hp (by decide) hi, he]
  · unfold mX8_block_l30
    simp (disch := omega) only [↓reduceIte, obs, esc_il, esc_ir, leT, leF, ltT, ltF, eqT, eqF, nleT, nleF, nltT, nltF, neqT, neqF, nI_add, pk_mul, ald_nI, ast_nI, irm_nI, idv_nI, zbT, zbF, in_T, in_F1, in_F2, nI_l, sI_1, sI_2, sA_1, sA_2, subK, add0, sub0, or0, lN_add, lN_mul, L_0, L_1, L_2, L_3, L_4, L_5, L_6, L_7, L_8, L_9, L_10, L_11, L_12, L_13, L_14, L_15, L_16, L_17, L_18, L_19, L_20, L_30, L_31, L_32, L_35, L_37, L_39, L_40, L_43, L_48, L_57, L_59, L_60, L_97, L_99, L_100, L_120, L_122, L_127, L_160, L_200, L_255, L_999, L_1000, L_100000, L_1000000, L_24, L_33, L_34, L_36, L_38, L_69, L_70, L_72, L_214, L_215, L_288, L_174, L_175, LL_0, LL_1, LL_2, LL_3, LL_5, LL_9, LL_10, LL_11, LL_12, LL_19, LL_20, LL_30, LL_39, LL_60, LL_99, LL_127, LL_999, longOn_e hp (by decide)]
theorem st_block {F : FS} {M : GS} (hR : Rel F M) (j : Int32) (n : Int32) : ∃ (o : Int32) (o' : Int32), mX7_block (F.1 0) j n = some o ∧ mX8_block M j n = some o' ∧ o = o' ∧ Rel F M := by
  obtain ⟨⟨a, hv, hp, hi, hy⟩, -⟩ := id hR
  have hb := hi.nb
  unfold mX7_block mX8_block
  rcases cs2 j with h | ⟨k, hk, rfl⟩
  · simp (disch := omega) only [↓reduceIte, obs, esc_il, esc_ir, leT, leF, ltT, ltF, eqT, eqF, nleT, nleF, nltT, nltF, neqT, neqF, nI_add, pk_mul, ald_nI, ast_nI, irm_nI, idv_nI, zbT, zbF, in_T, in_F1, in_F2, nI_l, sI_1, sI_2, sA_1, sA_2, subK, add0, sub0, or0, lN_add, lN_mul, L_0, L_1, L_2, L_3, L_4, L_5, L_6, L_7, L_8, L_9, L_10, L_11, L_12, L_13, L_14, L_15, L_16, L_17, L_18, L_19, L_20, L_30, L_31, L_32, L_35, L_37, L_39, L_40, L_43, L_48, L_57, L_59, L_60, L_97, L_99, L_100, L_120, L_122, L_127, L_160, L_200, L_255, L_999, L_1000, L_100000, L_1000000, L_24, L_33, L_34, L_36, L_38, L_69, L_70, L_72, L_214, L_215, L_288, L_174, L_175, LL_0, LL_1, LL_2, LL_3, LL_5, LL_9, LL_10, LL_11, LL_12, LL_19, LL_20, LL_30, LL_39, LL_60, LL_99, LL_127, LL_999, hasBlock_e hv hi, isBlock_e hp hi, ngLt h, ngLe h, ngGe h, ngGt h, ngEq h, ngEq' h, in_ng h, zb_ng h]
    exact ⟨_, _, rfl, rfl, rfl, hR⟩
  by_cases hk2 : k < a.2 5
  · rcases cs2 n with h | ⟨m, hm, rfl⟩
    · simp (disch := omega) only [↓reduceIte, obs, esc_il, esc_ir, leT, leF, ltT, ltF, eqT, eqF, nleT, nleF, nltT, nltF, neqT, neqF, nI_add, pk_mul, ald_nI, ast_nI, irm_nI, idv_nI, zbT, zbF, in_T, in_F1, in_F2, nI_l, sI_1, sI_2, sA_1, sA_2, subK, add0, sub0, or0, lN_add, lN_mul, L_0, L_1, L_2, L_3, L_4, L_5, L_6, L_7, L_8, L_9, L_10, L_11, L_12, L_13, L_14, L_15, L_16, L_17, L_18, L_19, L_20, L_30, L_31, L_32, L_35, L_37, L_39, L_40, L_43, L_48, L_57, L_59, L_60, L_97, L_99, L_100, L_120, L_122, L_127, L_160, L_200, L_255, L_999, L_1000, L_100000, L_1000000, L_24, L_33, L_34, L_36, L_38, L_69, L_70, L_72, L_214, L_215, L_288, L_174, L_175, LL_0, LL_1, LL_2, LL_3, LL_5, LL_9, LL_10, LL_11, LL_12, LL_19, LL_20, LL_30, LL_39, LL_60, LL_99, LL_127, LL_999, hasBlock_e hv hi, isBlock_e hp hi, ngLt h, ngLe h, ngGe h, ngGt h, ngEq h, ngEq' h, in_ng h, zb_ng h]
      exact ⟨_, _, rfl, rfl, rfl, hR⟩
    have hl := block30_e hp hi hk2
    rcases (show m = 0 ∨ m = 1 ∨ m = 2 ∨ m = 3 ∨ 4 ≤ m by omega) with rfl | rfl | rfl | rfl | h4
    all_goals
      simp (disch := omega) only [↓reduceIte, obs, esc_il, esc_ir, leT, leF, ltT, ltF, eqT, eqF, nleT, nleF, nltT, nltF, neqT, neqF, nI_add, pk_mul, ald_nI, ast_nI, irm_nI, idv_nI, zbT, zbF, in_T, in_F1, in_F2, nI_l, sI_1, sI_2, sA_1, sA_2, subK, add0, sub0, or0, lN_add, lN_mul, L_0, L_1, L_2, L_3, L_4, L_5, L_6, L_7, L_8, L_9, L_10, L_11, L_12, L_13, L_14, L_15, L_16, L_17, L_18, L_19, L_20, L_30, L_31, L_32, L_35, L_37, L_39, L_40, L_43, L_48, L_57, L_59, L_60, L_97, L_99, L_100, L_120, L_122, L_127, L_160, L_200, L_255, L_999, L_1000, L_100000, L_1000000, L_24, L_33, L_34, L_36, L_38, L_69, L_70, L_72, L_214, L_215, L_288, L_174, L_175, LL_0, LL_1, LL_2, LL_3, LL_5, LL_9, LL_10, LL_11, LL_12, LL_19, LL_20, LL_30, LL_39, LL_60, LL_99, LL_127, LL_999, hasBlock_e hv hi, isBlock_e hp hi, hl, placesOf_e hv hi, frankOf_e hv hi, hv.kd, hv.wm, P0.kd hp, P0.wm hp, Nat.mul_zero, Nat.mul_one, Nat.zero_add]
      exact ⟨_, _, rfl, rfl, rfl, hR⟩
  · simp (disch := omega) only [↓reduceIte, obs, esc_il, esc_ir, leT, leF, ltT, ltF, eqT, eqF, nleT, nleF, nltT, nltF, neqT, neqF, nI_add, pk_mul, ald_nI, ast_nI, irm_nI, idv_nI, zbT, zbF, in_T, in_F1, in_F2, nI_l, sI_1, sI_2, sA_1, sA_2, subK, add0, sub0, or0, lN_add, lN_mul, L_0, L_1, L_2, L_3, L_4, L_5, L_6, L_7, L_8, L_9, L_10, L_11, L_12, L_13, L_14, L_15, L_16, L_17, L_18, L_19, L_20, L_30, L_31, L_32, L_35, L_37, L_39, L_40, L_43, L_48, L_57, L_59, L_60, L_97, L_99, L_100, L_120, L_122, L_127, L_160, L_200, L_255, L_999, L_1000, L_100000, L_1000000, L_24, L_33, L_34, L_36, L_38, L_69, L_70, L_72, L_214, L_215, L_288, L_174, L_175, LL_0, LL_1, LL_2, LL_3, LL_5, LL_9, LL_10, LL_11, LL_12, LL_19, LL_20, LL_30, LL_39, LL_60, LL_99, LL_127, LL_999, hasBlock_e hv hi, isBlock_e hp hi]
    exact ⟨_, _, rfl, rfl, rfl, hR⟩
/-- how a PLACE looks -/
def lkN (a : AH) (i : Nat) : Nat := a.1 0 (whoN a i) * 10 + a.1 1 (whoN a i)
theorem looksAt_e {g : GS} {a : AH} (hv : HV g a) (hi : HI a) (h0 : 0 < a.2 5) {i : Nat} (hx : i < 1000) : mX0_looksAt g (nI i) = some (nI (lkN a i)) := by
  have hb := hi.nb
  have hw := whoN_lt h0 i
  have he := whoZ_e h0 i
  unfold mX0_looksAt
  simp (disch := omega) only [↓reduceIte, obs, esc_il, esc_ir, leT, leF, ltT, ltF, eqT, eqF, nleT, nleF, nltT, nltF, neqT, neqF, nI_add, pk_mul, ald_nI, ast_nI, irm_nI, idv_nI, zbT, zbF, in_T, in_F1, in_F2, nI_l, sI_1, sI_2, sA_1, sA_2, subK, add0, sub0, or0, lN_add, lN_mul, L_0, L_1, L_2, L_3, L_4, L_5, L_6, L_7, L_8, L_9, L_10, L_11, L_12, L_13, L_14, L_15, L_16, L_17, L_18, L_19, L_20, L_30, L_31, L_32, L_35, L_37, L_39, L_40, L_43, L_48, L_57, L_59, L_60, L_97, L_99, L_100, L_120, L_122, L_127, L_160, L_200, L_255, L_999, L_1000, L_100000, L_1000000, L_24, L_33, L_34, L_36, L_38, L_69, L_70, L_72, L_214, L_215, L_288, L_174, L_175, LL_0, LL_1, LL_2, LL_3, LL_5, LL_9, LL_10, LL_11, LL_12, LL_19, LL_20, LL_30, LL_39, LL_60, LL_99, LL_127, LL_999, hasBlock_e hv hi, whoAt_e hv hi, hv.kd, hv.wm, he, lkN]
theorem lk_eq {a b : AH} (ha : HI a) (hb : HI b) (h1 : 0 < a.2 5) (h2 : 0 < b.2 5) (i k : Nat) : lkN a i = lkN b k ↔ a.1 0 (whoN a i) = b.1 0 (whoN b k) ∧ a.1 1 (whoN a i) = b.1 1 (whoN b k) := by
  have e1 := ha.wm (whoN_lt h1 i)
  have e2 := hb.wm (whoN_lt h2 k)
  unfold lkN
  omega
theorem isSame_e {M : GS} {a b : AH} {p q : Nat} (hp : PV (M.1 0) p a) (hq : PV (M.1 0) q b) (hp2 : p + 40 ≤ 240) (hq2 : q + 40 ≤ 240) (ha : HI a) (hb : HI b) (h1 : 0 < a.2 5) (h2 : 0 < b.2 5) {i k : Nat} (hx : i < 1000) (hk : k < 1000) : mX8_isSame M (nI p) (nI i) (nI q) (nI k) = some (nI (if lkN a i == lkN b k then 1 else 0)) := by
  have hba := ha.nb
  have hbb := hb.nb
  have w1 := whoN_lt h1 i
  have w2 := whoN_lt h2 k
  have k1 := ha.kd w1
  have k2 := hb.kd w2
  have k3 := ha.wm w1
  have k4 := hb.wm w2
  unfold mX8_isSame
  simp (disch := omega) only [obs, whoOn_e hp hp2 ha, whoOn_e hq hq2 hb, whoZ_e h1, whoZ_e h2, nI_add, ald_nI, L_6, hp.kd, hq.kd, hp.wm, hq.wm, L_0, L_1]
  by_cases c1 : a.1 0 (whoN a i) = b.1 0 (whoN b k)
  · by_cases c2 : a.1 1 (whoN a i) = b.1 1 (whoN b k)
    · have e : (lkN a i == lkN b k) = true := by rw [beq_iff_eq, lk_eq ha hb h1 h2]; exact ⟨c1, c2⟩
      simp (disch := omega) only [eqT, ↓reduceIte, e]
    · have e : (lkN a i == lkN b k) = false := by rw [beq_eq_false_iff_ne]; intro z; exact c2 ((lk_eq ha hb h1 h2 i k).mp z).2
      simp (disch := omega) only [eqT, eqF, ↓reduceIte, e, Bool.false_eq_true]
  · have e : (lkN a i == lkN b k) = false := by rw [beq_eq_false_iff_ne]; intro z; exact c1 ((lk_eq ha hb h1 h2 i k).mp z).1
    simp (disch := omega) only [eqF, ↓reduceIte, e, Bool.false_eq_true]
/-- all of them -/
def alB (P : Nat → Bool) : Nat → Bool
  | 0 => true
  | n + 1 => alB P n && P n
theorem alB_y {P : Nat → Bool} {n : Nat} (h : P n = true) : alB P (n + 1) = alB P n := by rw [alB, h, Bool.and_true]
theorem alB_n {P : Nat → Bool} {n : Nat} (h : P n = false) : alB P (n + 1) = false := by rw [alB, h, Bool.and_false]
theorem alB_z {P : Nat → Bool} {i : Nat} (h : alB P i = false) : ∀ d, alB P (i + d) = false
  | 0 => h
  | d + 1 => by rw [← Nat.add_assoc, alB, alB_z h d, Bool.false_and]
def bN (b : Bool) : Nat := if b then 1 else 0
theorem bN_le (b : Bool) : bN b ≤ 1 := by cases b <;> decide
theorem esc_all {x : Int32 ⊕ Int32} {P : Nat → Bool} {N : Nat} (h : ((∃ z, x = .inl z) ∧ alB P N = true) ∨ (x = .inr (nI 0) ∧ alB P N = false)) : esc x (fun _ => some (nI 1)) = some (nI (bN (alB P N))) := by
  rcases h with ⟨⟨z, rfl⟩, h⟩ | ⟨rfl, h⟩
  · rw [h]; rfl
  · rw [h]; rfl
theorem repeatsBy_e {g : GS} {a : AH} (hv : HV g a) (hi : HI a) (h0 : 0 < a.2 5) {p : Nat} (h1 : 1 ≤ p) (hp : p < a.2 6) : mX0_repeatsBy g (nI p) = some (nI (bN (alB (fun i => lkN a i == lkN a (i + p)) (a.2 6 - p)))) := by
  have hb := hi.nb
  unfold mX0_repeatsBy
  have hL : ∃ x, whO (mX0_repeatsBy_l2 g (nI p)) FU (0 : Int32) = some x ∧ (((∃ z, x = .inl z) ∧ alB (fun i => lkN a i == lkN a (i + p)) (a.2 6 - p) = true) ∨ (x = .inr (nI 0) ∧ alB (fun i => lkN a i == lkN a (i + p)) (a.2 6 - p) = false)) := by
    refine whO_inv (fun (i : Nat) (s : Int32) => s = nI i ∧ alB (fun i => lkN a i == lkN a (i + p)) i = true) (a.2 6 - p) _ ?_ ?_ _ ⟨rfl, rfl⟩ (by omega)
    · rintro i s hlt ⟨rfl, e⟩
      unfold mX0_repeatsBy_l2
      have l1 : lkN a i < 2 ^ 31 := by
        have := hi.kd (whoN_lt h0 i); have := hi.wm (whoN_lt h0 i); unfold lkN; omega
      have l2 : lkN a (i + p) < 2 ^ 31 := by
        have := hi.kd (whoN_lt h0 (i + p)); have := hi.wm (whoN_lt h0 (i + p)); unfold lkN; omega
      by_cases hc : lkN a i = lkN a (i + p)
      · left
        refine ⟨nI (i + 1), ?_, rfl, ?_⟩
        · simp (disch := omega) only [↓reduceIte, obs, esc_il, esc_ir, leT, leF, ltT, ltF, eqT, eqF, nleT, nleF, nltT, nltF, neqT, neqF, nI_add, pk_mul, ald_nI, ast_nI, irm_nI, idv_nI, zbT, zbF, in_T, in_F1, in_F2, nI_l, sI_1, sI_2, sA_1, sA_2, subK, add0, sub0, or0, lN_add, lN_mul, L_0, L_1, L_2, L_3, L_4, L_5, L_6, L_7, L_8, L_9, L_10, L_11, L_12, L_13, L_14, L_15, L_16, L_17, L_18, L_19, L_20, L_30, L_31, L_32, L_35, L_37, L_39, L_40, L_43, L_48, L_57, L_59, L_60, L_97, L_99, L_100, L_120, L_122, L_127, L_160, L_200, L_255, L_999, L_1000, L_100000, L_1000000, L_24, L_33, L_34, L_36, L_38, L_69, L_70, L_72, L_214, L_215, L_288, L_174, L_175, LL_0, LL_1, LL_2, LL_3, LL_5, LL_9, LL_10, LL_11, LL_12, LL_19, LL_20, LL_30, LL_39, LL_60, LL_99, LL_127, LL_999, hv.w, looksAt_e hv hi h0]
        · rw [alB_y (by rw [hc]; exact beq_self_eq_true _)]; exact e
      · right
        refine ⟨_, ?_, Or.inr ⟨rfl, ?_⟩⟩
        · simp (disch := omega) only [↓reduceIte, obs, esc_il, esc_ir, leT, leF, ltT, ltF, eqT, eqF, nleT, nleF, nltT, nltF, neqT, neqF, nI_add, pk_mul, ald_nI, ast_nI, irm_nI, idv_nI, zbT, zbF, in_T, in_F1, in_F2, nI_l, sI_1, sI_2, sA_1, sA_2, subK, add0, sub0, or0, lN_add, lN_mul, L_0, L_1, L_2, L_3, L_4, L_5, L_6, L_7, L_8, L_9, L_10, L_11, L_12, L_13, L_14, L_15, L_16, L_17, L_18, L_19, L_20, L_30, L_31, L_32, L_35, L_37, L_39, L_40, L_43, L_48, L_57, L_59, L_60, L_97, L_99, L_100, L_120, L_122, L_127, L_160, L_200, L_255, L_999, L_1000, L_100000, L_1000000, L_24, L_33, L_34, L_36, L_38, L_69, L_70, L_72, L_214, L_215, L_288, L_174, L_175, LL_0, LL_1, LL_2, LL_3, LL_5, LL_9, LL_10, LL_11, LL_12, LL_19, LL_20, LL_30, LL_39, LL_60, LL_99, LL_127, LL_999, hv.w, looksAt_e hv hi h0]
        · have := alB_z (alB_n (P := fun i => lkN a i == lkN a (i + p)) (n := i) (by rw [beq_eq_false_iff_ne]; exact hc)) (a.2 6 - p - (i + 1))
          rwa [show i + 1 + (a.2 6 - p - (i + 1)) = a.2 6 - p by omega] at this
    · rintro s ⟨rfl, e⟩
      refine ⟨_, ?_, Or.inl ⟨⟨nI (a.2 6 - p), rfl⟩, e⟩⟩
      unfold mX0_repeatsBy_l2
      simp (disch := omega) only [↓reduceIte, obs, esc_il, esc_ir, leT, leF, ltT, ltF, eqT, eqF, nleT, nleF, nltT, nltF, neqT, neqF, nI_add, pk_mul, ald_nI, ast_nI, irm_nI, idv_nI, zbT, zbF, in_T, in_F1, in_F2, nI_l, sI_1, sI_2, sA_1, sA_2, subK, add0, sub0, or0, lN_add, lN_mul, L_0, L_1, L_2, L_3, L_4, L_5, L_6, L_7, L_8, L_9, L_10, L_11, L_12, L_13, L_14, L_15, L_16, L_17, L_18, L_19, L_20, L_30, L_31, L_32, L_35, L_37, L_39, L_40, L_43, L_48, L_57, L_59, L_60, L_97, L_99, L_100, L_120, L_122, L_127, L_160, L_200, L_255, L_999, L_1000, L_100000, L_1000000, L_24, L_33, L_34, L_36, L_38, L_69, L_70, L_72, L_214, L_215, L_288, L_174, L_175, LL_0, LL_1, LL_2, LL_3, LL_5, LL_9, LL_10, LL_11, LL_12, LL_19, LL_20, LL_30, LL_39, LL_60, LL_99, LL_127, LL_999, hv.w]
  obtain ⟨x, x1, x2⟩ := hL
  rw [x1, obs]
  exact esc_all x2
theorem period31_e {M : GS} {a : AH} (hp : PV (M.1 0) 0 a) (hi : HI a) (h0 : 0 < a.2 5) {p : Nat} (h1 : 1 ≤ p) (hp1 : p < a.2 6) : whO (mX8_period_l31 M (nI (a.2 6)) (nI p)) FU (nI 1, nI 0) = some (nI (bN (alB (fun i => lkN a i == lkN a (i + p)) (a.2 6 - p))), nI (a.2 6 - p)) := by
  have hb := hi.nb
  refine whO_for (fun i => (nI (bN (alB (fun i => lkN a i == lkN a (i + p)) i)), nI i)) (a.2 6 - p) _ (by rfl) ?_ ?_ (by omega)
  · intro i h
    unfold mX8_period_l31
    have hs := isSame_e hp hp (by decide) (by decide) hi hi h0 h0 (i := i) (k := i + p) (by omega) (by omega)
    cases he : alB (fun i => lkN a i == lkN a (i + p)) i
    · have e2 := alB_z he 1
      simp (disch := omega) only [↓reduceIte, obs, esc_il, esc_ir, leT, leF, ltT, ltF, eqT, eqF, nleT, nleF, nltT, nltF, neqT, neqF, nI_add, pk_mul, ald_nI, ast_nI, irm_nI, idv_nI, zbT, zbF, in_T, in_F1, in_F2, nI_l, sI_1, sI_2, sA_1, sA_2, subK, add0, sub0, or0, lN_add, lN_mul, L_0, L_1, L_2, L_3, L_4, L_5, L_6, L_7, L_8, L_9, L_10, L_11, L_12, L_13, L_14, L_15, L_16, L_17, L_18, L_19, L_20, L_30, L_31, L_32, L_35, L_37, L_39, L_40, L_43, L_48, L_57, L_59, L_60, L_97, L_99, L_100, L_120, L_122, L_127, L_160, L_200, L_255, L_999, L_1000, L_100000, L_1000000, L_24, L_33, L_34, L_36, L_38, L_69, L_70, L_72, L_214, L_215, L_288, L_174, L_175, LL_0, LL_1, LL_2, LL_3, LL_5, LL_9, LL_10, LL_11, LL_12, LL_19, LL_20, LL_30, LL_39, LL_60, LL_99, LL_127, LL_999, hs, he, e2, bN, Bool.false_eq_true]
    · rw [alB, he, Bool.true_and]
      cases hc : (lkN a i == lkN a (i + p))
      · simp (disch := omega) only [↓reduceIte, obs, esc_il, esc_ir, leT, leF, ltT, ltF, eqT, eqF, nleT, nleF, nltT, nltF, neqT, neqF, nI_add, pk_mul, ald_nI, ast_nI, irm_nI, idv_nI, zbT, zbF, in_T, in_F1, in_F2, nI_l, sI_1, sI_2, sA_1, sA_2, subK, add0, sub0, or0, lN_add, lN_mul, L_0, L_1, L_2, L_3, L_4, L_5, L_6, L_7, L_8, L_9, L_10, L_11, L_12, L_13, L_14, L_15, L_16, L_17, L_18, L_19, L_20, L_30, L_31, L_32, L_35, L_37, L_39, L_40, L_43, L_48, L_57, L_59, L_60, L_97, L_99, L_100, L_120, L_122, L_127, L_160, L_200, L_255, L_999, L_1000, L_100000, L_1000000, L_24, L_33, L_34, L_36, L_38, L_69, L_70, L_72, L_214, L_215, L_288, L_174, L_175, LL_0, LL_1, LL_2, LL_3, LL_5, LL_9, LL_10, LL_11, LL_12, LL_19, LL_20, LL_30, LL_39, LL_60, LL_99, LL_127, LL_999, hs, hc, bN, Bool.false_eq_true]
      · simp (disch := omega) only [↓reduceIte, obs, esc_il, esc_ir, leT, leF, ltT, ltF, eqT, eqF, nleT, nleF, nltT, nltF, neqT, neqF, nI_add, pk_mul, ald_nI, ast_nI, irm_nI, idv_nI, zbT, zbF, in_T, in_F1, in_F2, nI_l, sI_1, sI_2, sA_1, sA_2, subK, add0, sub0, or0, lN_add, lN_mul, L_0, L_1, L_2, L_3, L_4, L_5, L_6, L_7, L_8, L_9, L_10, L_11, L_12, L_13, L_14, L_15, L_16, L_17, L_18, L_19, L_20, L_30, L_31, L_32, L_35, L_37, L_39, L_40, L_43, L_48, L_57, L_59, L_60, L_97, L_99, L_100, L_120, L_122, L_127, L_160, L_200, L_255, L_999, L_1000, L_100000, L_1000000, L_24, L_33, L_34, L_36, L_38, L_69, L_70, L_72, L_214, L_215, L_288, L_174, L_175, LL_0, LL_1, LL_2, LL_3, LL_5, LL_9, LL_10, LL_11, LL_12, LL_19, LL_20, LL_30, LL_39, LL_60, LL_99, LL_127, LL_999, hs, hc, bN]
  · unfold mX8_period_l31
    simp (disch := omega) only [↓reduceIte, obs, esc_il, esc_ir, leT, leF, ltT, ltF, eqT, eqF, nleT, nleF, nltT, nltF, neqT, neqF, nI_add, pk_mul, ald_nI, ast_nI, irm_nI, idv_nI, zbT, zbF, in_T, in_F1, in_F2, nI_l, sI_1, sI_2, sA_1, sA_2, subK, add0, sub0, or0, lN_add, lN_mul, L_0, L_1, L_2, L_3, L_4, L_5, L_6, L_7, L_8, L_9, L_10, L_11, L_12, L_13, L_14, L_15, L_16, L_17, L_18, L_19, L_20, L_30, L_31, L_32, L_35, L_37, L_39, L_40, L_43, L_48, L_57, L_59, L_60, L_97, L_99, L_100, L_120, L_122, L_127, L_160, L_200, L_255, L_999, L_1000, L_100000, L_1000000, L_24, L_33, L_34, L_36, L_38, L_69, L_70, L_72, L_214, L_215, L_288, L_174, L_175, LL_0, LL_1, LL_2, LL_3, LL_5, LL_9, LL_10, LL_11, LL_12, LL_19, LL_20, LL_30, LL_39, LL_60, LL_99, LL_127, LL_999]
theorem whO_congr {σ ε : Type} {f g : σ → Option (σ ⊕ ε)} (I : σ → Prop) (h : ∀ s, I s → f s = g s ∧ ∀ s', f s = some (.inl s') → I s') : ∀ n s, I s → whO f n s = whO g n s
  | 0, _, _ => rfl
  | n + 1, s, hs => by
    obtain ⟨h1, h2⟩ := h s hs
    simp only [whO, ← h1]
    cases hf : f s with
    | none => rfl
    | some o =>
      cases o with
      | inl s' => exact whO_congr I h n s' (h2 s' hf)
      | inr x => rfl
theorem st_period {F : FS} {M : GS} (hR : Rel F M) : ∃ (o : Int32) (o' : Int32), mX7_period (F.1 0) = some o ∧ mX8_period M = some o' ∧ o = o' ∧ Rel F M := by
  obtain ⟨⟨a, hv, hp, hi, hy⟩, -⟩ := id hR
  have hb := hi.nb
  unfold mX7_period mX8_period
  rw [hv.b, L_12, aldk 12 (by decide), obs, P0.b hp]
  by_cases h0 : a.2 5 = 0
  · rw [h0]
    exact ⟨_, _, rfl, rfl, rfl, hR⟩
  rw [if_neg (nI_ne0 (by omega) (by omega)), if_neg (nI_ne0 (by omega) (by omega)), L_0, longOn_e hp (by decide), obs, hv.w, L_1]
  have e : ∀ p, 1 ≤ p → p < a.2 6 → mX8_period_l21 M (nI (a.2 6)) (nI p) = mX7_period_l15 (F.1 0) (nI p) := fun p h1 h2 => by
    unfold mX8_period_l21 mX7_period_l15
    simp (disch := omega) only [↓reduceIte, obs, esc_il, esc_ir, leT, leF, ltT, ltF, eqT, eqF, nleT, nleF, nltT, nltF, neqT, neqF, nI_add, pk_mul, ald_nI, ast_nI, irm_nI, idv_nI, zbT, zbF, in_T, in_F1, in_F2, nI_l, sI_1, sI_2, sA_1, sA_2, subK, add0, sub0, or0, lN_add, lN_mul, L_0, L_1, L_2, L_3, L_4, L_5, L_6, L_7, L_8, L_9, L_10, L_11, L_12, L_13, L_14, L_15, L_16, L_17, L_18, L_19, L_20, L_30, L_31, L_32, L_35, L_37, L_39, L_40, L_43, L_48, L_57, L_59, L_60, L_97, L_99, L_100, L_120, L_122, L_127, L_160, L_200, L_255, L_999, L_1000, L_100000, L_1000000, L_24, L_33, L_34, L_36, L_38, L_69, L_70, L_72, L_214, L_215, L_288, L_174, L_175, LL_0, LL_1, LL_2, LL_3, LL_5, LL_9, LL_10, LL_11, LL_12, LL_19, LL_20, LL_30, LL_39, LL_60, LL_99, LL_127, LL_999, hv.w, period31_e hp hi (by omega) h1 h2, repeatsBy_e hv hi (by omega) h1 h2]
  have e0 : mX8_period_l21 M (nI (a.2 6)) (nI (a.2 6)) = mX7_period_l15 (F.1 0) (nI (a.2 6)) := by
    unfold mX8_period_l21 mX7_period_l15
    simp (disch := omega) only [↓reduceIte, obs, esc_il, esc_ir, leT, leF, ltT, ltF, eqT, eqF, nleT, nleF, nltT, nltF, neqT, neqF, nI_add, pk_mul, ald_nI, ast_nI, irm_nI, idv_nI, zbT, zbF, in_T, in_F1, in_F2, nI_l, sI_1, sI_2, sA_1, sA_2, subK, add0, sub0, or0, lN_add, lN_mul, L_0, L_1, L_2, L_3, L_4, L_5, L_6, L_7, L_8, L_9, L_10, L_11, L_12, L_13, L_14, L_15, L_16, L_17, L_18, L_19, L_20, L_30, L_31, L_32, L_35, L_37, L_39, L_40, L_43, L_48, L_57, L_59, L_60, L_97, L_99, L_100, L_120, L_122, L_127, L_160, L_200, L_255, L_999, L_1000, L_100000, L_1000000, L_24, L_33, L_34, L_36, L_38, L_69, L_70, L_72, L_214, L_215, L_288, L_174, L_175, LL_0, LL_1, LL_2, LL_3, LL_5, LL_9, LL_10, LL_11, LL_12, LL_19, LL_20, LL_30, LL_39, LL_60, LL_99, LL_127, LL_999, hv.w]
  have stp : ∀ p, 1 ≤ p → p < a.2 6 → (mX7_period_l15 (F.1 0) (nI p) = some (.inl (nI (p + 1)))) ∨ mX7_period_l15 (F.1 0) (nI p) = some (.inr (.inr (nI p))) := fun p h1 h2 => by
    unfold mX7_period_l15
    have hr := repeatsBy_e hv hi (by omega) h1 h2
    cases hc : alB (fun i => lkN a i == lkN a (i + p)) (a.2 6 - p)
    · left
      rw [hc] at hr
      simp (disch := omega) only [↓reduceIte, obs, esc_il, esc_ir, leT, leF, ltT, ltF, eqT, eqF, nleT, nleF, nltT, nltF, neqT, neqF, nI_add, pk_mul, ald_nI, ast_nI, irm_nI, idv_nI, zbT, zbF, in_T, in_F1, in_F2, nI_l, sI_1, sI_2, sA_1, sA_2, subK, add0, sub0, or0, lN_add, lN_mul, L_0, L_1, L_2, L_3, L_4, L_5, L_6, L_7, L_8, L_9, L_10, L_11, L_12, L_13, L_14, L_15, L_16, L_17, L_18, L_19, L_20, L_30, L_31, L_32, L_35, L_37, L_39, L_40, L_43, L_48, L_57, L_59, L_60, L_97, L_99, L_100, L_120, L_122, L_127, L_160, L_200, L_255, L_999, L_1000, L_100000, L_1000000, L_24, L_33, L_34, L_36, L_38, L_69, L_70, L_72, L_214, L_215, L_288, L_174, L_175, LL_0, LL_1, LL_2, LL_3, LL_5, LL_9, LL_10, LL_11, LL_12, LL_19, LL_20, LL_30, LL_39, LL_60, LL_99, LL_127, LL_999, hv.w, hr, bN, Bool.false_eq_true]
    · right
      rw [hc] at hr
      simp (disch := omega) only [↓reduceIte, obs, esc_il, esc_ir, leT, leF, ltT, ltF, eqT, eqF, nleT, nleF, nltT, nltF, neqT, neqF, nI_add, pk_mul, ald_nI, ast_nI, irm_nI, idv_nI, zbT, zbF, in_T, in_F1, in_F2, nI_l, sI_1, sI_2, sA_1, sA_2, subK, add0, sub0, or0, lN_add, lN_mul, L_0, L_1, L_2, L_3, L_4, L_5, L_6, L_7, L_8, L_9, L_10, L_11, L_12, L_13, L_14, L_15, L_16, L_17, L_18, L_19, L_20, L_30, L_31, L_32, L_35, L_37, L_39, L_40, L_43, L_48, L_57, L_59, L_60, L_97, L_99, L_100, L_120, L_122, L_127, L_160, L_200, L_255, L_999, L_1000, L_100000, L_1000000, L_24, L_33, L_34, L_36, L_38, L_69, L_70, L_72, L_214, L_215, L_288, L_174, L_175, LL_0, LL_1, LL_2, LL_3, LL_5, LL_9, LL_10, LL_11, LL_12, LL_19, LL_20, LL_30, LL_39, LL_60, LL_99, LL_127, LL_999, hv.w, hr, bN]
  have lst : mX7_period_l15 (F.1 0) (nI (a.2 6)) = some (.inr (.inl (nI (a.2 6)))) := by
    unfold mX7_period_l15
    simp (disch := omega) only [↓reduceIte, obs, esc_il, esc_ir, leT, leF, ltT, ltF, eqT, eqF, nleT, nleF, nltT, nltF, neqT, neqF, nI_add, pk_mul, ald_nI, ast_nI, irm_nI, idv_nI, zbT, zbF, in_T, in_F1, in_F2, nI_l, sI_1, sI_2, sA_1, sA_2, subK, add0, sub0, or0, lN_add, lN_mul, L_0, L_1, L_2, L_3, L_4, L_5, L_6, L_7, L_8, L_9, L_10, L_11, L_12, L_13, L_14, L_15, L_16, L_17, L_18, L_19, L_20, L_30, L_31, L_32, L_35, L_37, L_39, L_40, L_43, L_48, L_57, L_59, L_60, L_97, L_99, L_100, L_120, L_122, L_127, L_160, L_200, L_255, L_999, L_1000, L_100000, L_1000000, L_24, L_33, L_34, L_36, L_38, L_69, L_70, L_72, L_214, L_215, L_288, L_174, L_175, LL_0, LL_1, LL_2, LL_3, LL_5, LL_9, LL_10, LL_11, LL_12, LL_19, LL_20, LL_30, LL_39, LL_60, LL_99, LL_127, LL_999, hv.w]
  have hcg := whO_congr (f := mX7_period_l15 (F.1 0)) (g := mX8_period_l21 M (nI (a.2 6))) (fun s => ∃ p, 1 ≤ p ∧ p ≤ a.2 6 ∧ s = nI p) (by
    rintro s ⟨p, p1, p2, rfl⟩
    by_cases hp3 : p < a.2 6
    · refine ⟨(e p p1 hp3).symm, fun s' hs => ?_⟩
      rcases stp p p1 hp3 with h | h
      · rw [h] at hs
        exact ⟨p + 1, by omega, by omega, (Sum.inl.inj (Option.some.inj hs)).symm⟩
      · rw [h] at hs
        cases hs
    · obtain rfl : p = a.2 6 := by omega
      refine ⟨e0.symm, fun s' hs => ?_⟩
      rw [lst] at hs
      cases hs) FU (nI 1) ⟨1, by decide, by omega, rfl⟩
  rw [← hcg]
  have hL : ∃ x, whO (mX7_period_l15 (F.1 0)) FU (nI 1) = some x ∧ True := by
    refine whO_inv (fun (i : Nat) (s : Int32) => s = nI (i + 1)) (a.2 6 - 1) _ ?_ ?_ _ rfl (by omega)
    · rintro i s hlt rfl
      rcases stp (i + 1) (by omega) (by omega) with h | h
      · exact Or.inl ⟨_, h, rfl⟩
      · exact Or.inr ⟨_, h, trivial⟩
    · rintro s rfl
      rw [show a.2 6 - 1 + 1 = a.2 6 by omega]
      exact ⟨_, lst, trivial⟩
  obtain ⟨x, x1, -⟩ := hL
  rw [x1, obs]
  cases x with
  | inl z => exact ⟨_, _, rfl, rfl, rfl, hR⟩
  | inr z => exact ⟨_, _, rfl, rfl, rfl, hR⟩
theorem looksLike_e {g k : GS} {a b : AH} (hv : HV g a) (hk : HV k b) (ha : HI a) (hb2 : HI b) (h0 : 0 < a.2 5) (h02 : 0 < b.2 5) : mX0_looksLike g k = some (nI (bN (alB (fun i => lkN a i == lkN b i) (a.2 6)))) := by
  have hb := ha.nb
  unfold mX0_looksLike
  have hL : ∃ x, whO (mX0_looksLike_l8 g k) FU (0 : Int32) = some x ∧ (((∃ z, x = .inl z) ∧ alB (fun i => lkN a i == lkN b i) (a.2 6) = true) ∨ (x = .inr (nI 0) ∧ alB (fun i => lkN a i == lkN b i) (a.2 6) = false)) := by
    refine whO_inv (fun (i : Nat) (s : Int32) => s = nI i ∧ alB (fun i => lkN a i == lkN b i) i = true) (a.2 6) _ ?_ ?_ _ ⟨rfl, rfl⟩ (by omega)
    · rintro i s hlt ⟨rfl, e⟩
      unfold mX0_looksLike_l8
      have l1 : lkN a i < 2 ^ 31 := by
        have := ha.kd (whoN_lt h0 i); have := ha.wm (whoN_lt h0 i); unfold lkN; omega
      have l2 : lkN b i < 2 ^ 31 := by
        have := hb2.kd (whoN_lt h02 i); have := hb2.wm (whoN_lt h02 i); unfold lkN; omega
      by_cases hc : lkN a i = lkN b i
      · left
        refine ⟨nI (i + 1), ?_, rfl, ?_⟩
        · simp (disch := omega) only [↓reduceIte, obs, esc_il, esc_ir, leT, leF, ltT, ltF, eqT, eqF, nleT, nleF, nltT, nltF, neqT, neqF, nI_add, pk_mul, ald_nI, ast_nI, irm_nI, idv_nI, zbT, zbF, in_T, in_F1, in_F2, nI_l, sI_1, sI_2, sA_1, sA_2, subK, add0, sub0, or0, lN_add, lN_mul, L_0, L_1, L_2, L_3, L_4, L_5, L_6, L_7, L_8, L_9, L_10, L_11, L_12, L_13, L_14, L_15, L_16, L_17, L_18, L_19, L_20, L_30, L_31, L_32, L_35, L_37, L_39, L_40, L_43, L_48, L_57, L_59, L_60, L_97, L_99, L_100, L_120, L_122, L_127, L_160, L_200, L_255, L_999, L_1000, L_100000, L_1000000, L_24, L_33, L_34, L_36, L_38, L_69, L_70, L_72, L_214, L_215, L_288, L_174, L_175, LL_0, LL_1, LL_2, LL_3, LL_5, LL_9, LL_10, LL_11, LL_12, LL_19, LL_20, LL_30, LL_39, LL_60, LL_99, LL_127, LL_999, hv.w, looksAt_e hv ha h0, looksAt_e hk hb2 h02]
        · rw [alB_y (by rw [hc]; exact beq_self_eq_true _)]; exact e
      · right
        refine ⟨_, ?_, Or.inr ⟨rfl, ?_⟩⟩
        · simp (disch := omega) only [↓reduceIte, obs, esc_il, esc_ir, leT, leF, ltT, ltF, eqT, eqF, nleT, nleF, nltT, nltF, neqT, neqF, nI_add, pk_mul, ald_nI, ast_nI, irm_nI, idv_nI, zbT, zbF, in_T, in_F1, in_F2, nI_l, sI_1, sI_2, sA_1, sA_2, subK, add0, sub0, or0, lN_add, lN_mul, L_0, L_1, L_2, L_3, L_4, L_5, L_6, L_7, L_8, L_9, L_10, L_11, L_12, L_13, L_14, L_15, L_16, L_17, L_18, L_19, L_20, L_30, L_31, L_32, L_35, L_37, L_39, L_40, L_43, L_48, L_57, L_59, L_60, L_97, L_99, L_100, L_120, L_122, L_127, L_160, L_200, L_255, L_999, L_1000, L_100000, L_1000000, L_24, L_33, L_34, L_36, L_38, L_69, L_70, L_72, L_214, L_215, L_288, L_174, L_175, LL_0, LL_1, LL_2, LL_3, LL_5, LL_9, LL_10, LL_11, LL_12, LL_19, LL_20, LL_30, LL_39, LL_60, LL_99, LL_127, LL_999, hv.w, looksAt_e hv ha h0, looksAt_e hk hb2 h02]
        · have := alB_z (alB_n (P := fun i => lkN a i == lkN b i) (n := i) (by rw [beq_eq_false_iff_ne]; exact hc)) (a.2 6 - (i + 1))
          rwa [show i + 1 + (a.2 6 - (i + 1)) = a.2 6 by omega] at this
    · rintro s ⟨rfl, e⟩
      refine ⟨_, ?_, Or.inl ⟨⟨nI (a.2 6), rfl⟩, e⟩⟩
      unfold mX0_looksLike_l8
      simp (disch := omega) only [↓reduceIte, obs, esc_il, esc_ir, leT, leF, ltT, ltF, eqT, eqF, nleT, nleF, nltT, nltF, neqT, neqF, nI_add, pk_mul, ald_nI, ast_nI, irm_nI, idv_nI, zbT, zbF, in_T, in_F1, in_F2, nI_l, sI_1, sI_2, sA_1, sA_2, subK, add0, sub0, or0, lN_add, lN_mul, L_0, L_1, L_2, L_3, L_4, L_5, L_6, L_7, L_8, L_9, L_10, L_11, L_12, L_13, L_14, L_15, L_16, L_17, L_18, L_19, L_20, L_30, L_31, L_32, L_35, L_37, L_39, L_40, L_43, L_48, L_57, L_59, L_60, L_97, L_99, L_100, L_120, L_122, L_127, L_160, L_200, L_255, L_999, L_1000, L_100000, L_1000000, L_24, L_33, L_34, L_36, L_38, L_69, L_70, L_72, L_214, L_215, L_288, L_174, L_175, LL_0, LL_1, LL_2, LL_3, LL_5, LL_9, LL_10, LL_11, LL_12, LL_19, LL_20, LL_30, LL_39, LL_60, LL_99, LL_127, LL_999, hv.w]
  obtain ⟨x, x1, x2⟩ := hL
  rw [x1, obs]
  exact esc_all x2
theorem alike45_e {M : GS} {f : Nat → Int32} {a b : AH} (hp : PV f 0 a) (hq : PV f 200 b) (hi : HI a) (hib : HI b) (h0 : 0 < a.2 5) (h02 : 0 < b.2 5) (x y : Int32) (f0 : Nat → Int32) : whO (mX8_alike_l45 (x, y, sA M 0 f0) f) FU (nI 1, nI 0) = some (nI (bN (alB (fun i => lkN a i == lkN b i) (a.2 6))), nI (a.2 6)) := by
  have hb := hi.nb
  have hp' : PV ((sA M 0 f).1 0) 0 a := by rw [sA_s]; exact hp
  have hq' : PV ((sA M 0 f).1 0) 200 b := by rw [sA_s]; exact hq
  refine whO_for (fun i => (nI (bN (alB (fun i => lkN a i == lkN b i) i)), nI i)) (a.2 6) _ (by rfl) ?_ ?_ (by omega)
  · intro i h
    unfold mX8_alike_l45
    have hs := isSame_e hp' hq' (by decide) (by decide) hi hib h0 h02 (i := i) (k := i) (by omega) (by omega)
    cases he : alB (fun i => lkN a i == lkN b i) i
    · have e2 := alB_z he 1
      simp (disch := omega) only [↓reduceIte, obs, esc_il, esc_ir, leT, leF, ltT, ltF, eqT, eqF, nleT, nleF, nltT, nltF, neqT, neqF, nI_add, pk_mul, ald_nI, ast_nI, irm_nI, idv_nI, zbT, zbF, in_T, in_F1, in_F2, nI_l, sI_1, sI_2, sA_1, sA_2, subK, add0, sub0, or0, lN_add, lN_mul, L_0, L_1, L_2, L_3, L_4, L_5, L_6, L_7, L_8, L_9, L_10, L_11, L_12, L_13, L_14, L_15, L_16, L_17, L_18, L_19, L_20, L_30, L_31, L_32, L_35, L_37, L_39, L_40, L_43, L_48, L_57, L_59, L_60, L_97, L_99, L_100, L_120, L_122, L_127, L_160, L_200, L_255, L_999, L_1000, L_100000, L_1000000, L_24, L_33, L_34, L_36, L_38, L_69, L_70, L_72, L_214, L_215, L_288, L_174, L_175, LL_0, LL_1, LL_2, LL_3, LL_5, LL_9, LL_10, LL_11, LL_12, LL_19, LL_20, LL_30, LL_39, LL_60, LL_99, LL_127, LL_999, sA_sA, longOn_e hp' (by decide), hs, he, e2, bN, Bool.false_eq_true]
    · rw [alB, he, Bool.true_and]
      cases hc : (lkN a i == lkN b i)
      · simp (disch := omega) only [↓reduceIte, obs, esc_il, esc_ir, leT, leF, ltT, ltF, eqT, eqF, nleT, nleF, nltT, nltF, neqT, neqF, nI_add, pk_mul, ald_nI, ast_nI, irm_nI, idv_nI, zbT, zbF, in_T, in_F1, in_F2, nI_l, sI_1, sI_2, sA_1, sA_2, subK, add0, sub0, or0, lN_add, lN_mul, L_0, L_1, L_2, L_3, L_4, L_5, L_6, L_7, L_8, L_9, L_10, L_11, L_12, L_13, L_14, L_15, L_16, L_17, L_18, L_19, L_20, L_30, L_31, L_32, L_35, L_37, L_39, L_40, L_43, L_48, L_57, L_59, L_60, L_97, L_99, L_100, L_120, L_122, L_127, L_160, L_200, L_255, L_999, L_1000, L_100000, L_1000000, L_24, L_33, L_34, L_36, L_38, L_69, L_70, L_72, L_214, L_215, L_288, L_174, L_175, LL_0, LL_1, LL_2, LL_3, LL_5, LL_9, LL_10, LL_11, LL_12, LL_19, LL_20, LL_30, LL_39, LL_60, LL_99, LL_127, LL_999, sA_sA, longOn_e hp' (by decide), hs, hc, bN, Bool.false_eq_true]
      · simp (disch := omega) only [↓reduceIte, obs, esc_il, esc_ir, leT, leF, ltT, ltF, eqT, eqF, nleT, nleF, nltT, nltF, neqT, neqF, nI_add, pk_mul, ald_nI, ast_nI, irm_nI, idv_nI, zbT, zbF, in_T, in_F1, in_F2, nI_l, sI_1, sI_2, sA_1, sA_2, subK, add0, sub0, or0, lN_add, lN_mul, L_0, L_1, L_2, L_3, L_4, L_5, L_6, L_7, L_8, L_9, L_10, L_11, L_12, L_13, L_14, L_15, L_16, L_17, L_18, L_19, L_20, L_30, L_31, L_32, L_35, L_37, L_39, L_40, L_43, L_48, L_57, L_59, L_60, L_97, L_99, L_100, L_120, L_122, L_127, L_160, L_200, L_255, L_999, L_1000, L_100000, L_1000000, L_24, L_33, L_34, L_36, L_38, L_69, L_70, L_72, L_214, L_215, L_288, L_174, L_175, LL_0, LL_1, LL_2, LL_3, LL_5, LL_9, LL_10, LL_11, LL_12, LL_19, LL_20, LL_30, LL_39, LL_60, LL_99, LL_127, LL_999, sA_sA, longOn_e hp' (by decide), hs, hc, bN]
  · unfold mX8_alike_l45
    simp (disch := omega) only [↓reduceIte, obs, esc_il, esc_ir, leT, leF, ltT, ltF, eqT, eqF, nleT, nleF, nltT, nltF, neqT, neqF, nI_add, pk_mul, ald_nI, ast_nI, irm_nI, idv_nI, zbT, zbF, in_T, in_F1, in_F2, nI_l, sI_1, sI_2, sA_1, sA_2, subK, add0, sub0, or0, lN_add, lN_mul, L_0, L_1, L_2, L_3, L_4, L_5, L_6, L_7, L_8, L_9, L_10, L_11, L_12, L_13, L_14, L_15, L_16, L_17, L_18, L_19, L_20, L_30, L_31, L_32, L_35, L_37, L_39, L_40, L_43, L_48, L_57, L_59, L_60, L_97, L_99, L_100, L_120, L_122, L_127, L_160, L_200, L_255, L_999, L_1000, L_100000, L_1000000, L_24, L_33, L_34, L_36, L_38, L_69, L_70, L_72, L_214, L_215, L_288, L_174, L_175, LL_0, LL_1, LL_2, LL_3, LL_5, LL_9, LL_10, LL_11, LL_12, LL_19, LL_20, LL_30, LL_39, LL_60, LL_99, LL_127, LL_999, sA_sA, longOn_e hp' (by decide)]
def alkN (a : AH) (s : Nat) : Nat := bN (alB (fun i => lkN a i == lkN (aI a 7 s) i) (a.2 6))
theorem alB_congr {P Q : Nat → Bool} : ∀ n, (∀ i, i < n → P i = Q i) → alB P n = alB Q n
  | 0, _ => rfl
  | n + 1, h => by rw [alB, alB, alB_congr n (fun i hi => h i (by omega)), h n (by omega)]
theorem alike7_e {h g : GS} {a : AH} (hh : HV h a) (hv : HV g a) (hi : HI a) (h0 : 0 < a.2 5) : ∃ x, whO (mX7_alike_l28 h) FU (nI 0, nI 0, g) = some x ∧ ∃ g', x = (nI (sumN (alkN a) 6), nI 6, g') := by
  have hb := hi.nb
  refine whO_inv (fun (i : Nat) (s : Int32 × Int32 × GS) => ∃ g v, s = (nI (sumN (alkN a) i), nI i, g) ∧ HV g (aI a 7 v)) 6 _ ?_ ?_ _ ⟨g, a.2 7, rfl, by rw [aI_id]; exact hv⟩ (by decide)
  · rintro i s hlt ⟨g, v, rfl, e1⟩
    left
    have e2 := e1.i7 i
    rw [aI_aI] at e2
    have hi' := hi.i7 i (by omega)
    refine ⟨_, ?_, sI g 7 (nI i), i, rfl, e2⟩
    unfold mX7_alike_l28
    have hL := looksLike_e e2 hh hi' hi h0 h0
    have hc : alB (fun q => lkN (aI a 7 i) q == lkN a q) ((aI a 7 i).2 6) = alB (fun q => lkN a q == lkN (aI a 7 i) q) (a.2 6) := alB_congr (a.2 6) (fun q _ => Bool.beq_comm)
    rw [hc] at hL
    rw [sumN]
    unfold alkN
    cases hx : alB (fun q => lkN a q == lkN (aI a 7 i) q) (a.2 6)
    · rw [hx] at hL
      simp (disch := omega) only [↓reduceIte, obs, esc_il, esc_ir, leT, leF, ltT, ltF, eqT, eqF, nleT, nleF, nltT, nltF, neqT, neqF, nI_add, pk_mul, ald_nI, ast_nI, irm_nI, idv_nI, zbT, zbF, in_T, in_F1, in_F2, nI_l, sI_1, sI_2, sA_1, sA_2, subK, add0, sub0, or0, lN_add, lN_mul, L_0, L_1, L_2, L_3, L_4, L_5, L_6, L_7, L_8, L_9, L_10, L_11, L_12, L_13, L_14, L_15, L_16, L_17, L_18, L_19, L_20, L_30, L_31, L_32, L_35, L_37, L_39, L_40, L_43, L_48, L_57, L_59, L_60, L_97, L_99, L_100, L_120, L_122, L_127, L_160, L_200, L_255, L_999, L_1000, L_100000, L_1000000, L_24, L_33, L_34, L_36, L_38, L_69, L_70, L_72, L_214, L_215, L_288, L_174, L_175, LL_0, LL_1, LL_2, LL_3, LL_5, LL_9, LL_10, LL_11, LL_12, LL_19, LL_20, LL_30, LL_39, LL_60, LL_99, LL_127, LL_999, hL, bN, Bool.false_eq_true, Nat.add_zero]
    · rw [hx] at hL
      simp (disch := omega) only [↓reduceIte, obs, esc_il, esc_ir, leT, leF, ltT, ltF, eqT, eqF, nleT, nleF, nltT, nltF, neqT, neqF, nI_add, pk_mul, ald_nI, ast_nI, irm_nI, idv_nI, zbT, zbF, in_T, in_F1, in_F2, nI_l, sI_1, sI_2, sA_1, sA_2, subK, add0, sub0, or0, lN_add, lN_mul, L_0, L_1, L_2, L_3, L_4, L_5, L_6, L_7, L_8, L_9, L_10, L_11, L_12, L_13, L_14, L_15, L_16, L_17, L_18, L_19, L_20, L_30, L_31, L_32, L_35, L_37, L_39, L_40, L_43, L_48, L_57, L_59, L_60, L_97, L_99, L_100, L_120, L_122, L_127, L_160, L_200, L_255, L_999, L_1000, L_100000, L_1000000, L_24, L_33, L_34, L_36, L_38, L_69, L_70, L_72, L_214, L_215, L_288, L_174, L_175, LL_0, LL_1, LL_2, LL_3, LL_5, LL_9, LL_10, LL_11, LL_12, LL_19, LL_20, LL_30, LL_39, LL_60, LL_99, LL_127, LL_999, hL, bN]
  · rintro s ⟨g, v, rfl, e1⟩
    refine ⟨_, ?_, g, rfl⟩
    unfold mX7_alike_l28
    simp (disch := omega) only [↓reduceIte, obs, esc_il, esc_ir, leT, leF, ltT, ltF, eqT, eqF, nleT, nleF, nltT, nltF, neqT, neqF, nI_add, pk_mul, ald_nI, ast_nI, irm_nI, idv_nI, zbT, zbF, in_T, in_F1, in_F2, nI_l, sI_1, sI_2, sA_1, sA_2, subK, add0, sub0, or0, lN_add, lN_mul, L_0, L_1, L_2, L_3, L_4, L_5, L_6, L_7, L_8, L_9, L_10, L_11, L_12, L_13, L_14, L_15, L_16, L_17, L_18, L_19, L_20, L_30, L_31, L_32, L_35, L_37, L_39, L_40, L_43, L_48, L_57, L_59, L_60, L_97, L_99, L_100, L_120, L_122, L_127, L_160, L_200, L_255, L_999, L_1000, L_100000, L_1000000, L_24, L_33, L_34, L_36, L_38, L_69, L_70, L_72, L_214, L_215, L_288, L_174, L_175, LL_0, LL_1, LL_2, LL_3, LL_5, LL_9, LL_10, LL_11, LL_12, LL_19, LL_20, LL_30, LL_39, LL_60, LL_99, LL_127, LL_999]
theorem alike8_e {M : GS} {f : Nat → Int32} {a : AH} (hp0 : PV f 0 a) (hp : PV f 200 a) (hi : HI a) (h0 : 0 < a.2 5) (hf : Low (M.1 0) f) : ∃ x, whO (mX8_alike_l25) FU (nI 0, nI 0, sA M 0 f) = some x ∧ ∃ f', Low (M.1 0) f' ∧ x = (nI (sumN (alkN a) 6), nI 6, sA M 0 f') := by
  have hb := hi.nb
  refine whO_inv (fun (i : Nat) (s : Int32 × Int32 × GS) => ∃ f v, s = (nI (sumN (alkN a) i), nI i, sA M 0 f) ∧ Low (M.1 0) f ∧ v ≤ 5 ∧ PV f 0 a ∧ PV f 200 (aI a 7 v)) 6 _ ?_ ?_ _ ⟨f, a.2 7, rfl, hf, by omega, hp0, by rw [aI_id]; exact hp⟩ (by decide)
  · rintro i s hlt ⟨f, v, rfl, el, ev, e0, e1⟩
    left
    have e2 := e1.i7 (hi.i7 v ev) i
    rw [aI_aI] at e2
    have hi' := hi.i7 i (by omega)
    have e0' : PV (upd f 214 (nI i)) 0 a := e0.agree hi (fun q h1 h2 => by rw [upd_e, if_neg (by omega)])
    refine ⟨_, ?_, upd f 214 (nI i), i, rfl, el.up _ (by decide) _, by omega, e0', e2⟩
    unfold mX8_alike_l25
    have hL := alike45_e (M := M) e0' e2 hi hi' h0 h0 (nI (sumN (alkN a) i)) (nI i) f
    rw [sumN]
    have hx2 : alkN a i ≤ 1 := bN_le _
    have hx3 : bN (alB (fun q => lkN a q == lkN (aI a 7 i) q) (a.2 6)) = alkN a i := rfl
    rw [hx3] at hL
    rcases (show alkN a i = 0 ∨ alkN a i = 1 by omega) with hx | hx
    · rw [hx] at hL ⊢
      simp (disch := omega) only [↓reduceIte, obs, esc_il, esc_ir, leT, leF, ltT, ltF, eqT, eqF, nleT, nleF, nltT, nltF, neqT, neqF, nI_add, pk_mul, ald_nI, ast_nI, irm_nI, idv_nI, zbT, zbF, in_T, in_F1, in_F2, nI_l, sI_1, sI_2, sA_1, sA_2, subK, add0, sub0, or0, lN_add, lN_mul, L_0, L_1, L_2, L_3, L_4, L_5, L_6, L_7, L_8, L_9, L_10, L_11, L_12, L_13, L_14, L_15, L_16, L_17, L_18, L_19, L_20, L_30, L_31, L_32, L_35, L_37, L_39, L_40, L_43, L_48, L_57, L_59, L_60, L_97, L_99, L_100, L_120, L_122, L_127, L_160, L_200, L_255, L_999, L_1000, L_100000, L_1000000, L_24, L_33, L_34, L_36, L_38, L_69, L_70, L_72, L_214, L_215, L_288, L_174, L_175, LL_0, LL_1, LL_2, LL_3, LL_5, LL_9, LL_10, LL_11, LL_12, LL_19, LL_20, LL_30, LL_39, LL_60, LL_99, LL_127, LL_999, sA_s, sA_sA, hL, Nat.add_zero]
    · rw [hx] at hL ⊢
      simp (disch := omega) only [↓reduceIte, obs, esc_il, esc_ir, leT, leF, ltT, ltF, eqT, eqF, nleT, nleF, nltT, nltF, neqT, neqF, nI_add, pk_mul, ald_nI, ast_nI, irm_nI, idv_nI, zbT, zbF, in_T, in_F1, in_F2, nI_l, sI_1, sI_2, sA_1, sA_2, subK, add0, sub0, or0, lN_add, lN_mul, L_0, L_1, L_2, L_3, L_4, L_5, L_6, L_7, L_8, L_9, L_10, L_11, L_12, L_13, L_14, L_15, L_16, L_17, L_18, L_19, L_20, L_30, L_31, L_32, L_35, L_37, L_39, L_40, L_43, L_48, L_57, L_59, L_60, L_97, L_99, L_100, L_120, L_122, L_127, L_160, L_200, L_255, L_999, L_1000, L_100000, L_1000000, L_24, L_33, L_34, L_36, L_38, L_69, L_70, L_72, L_214, L_215, L_288, L_174, L_175, LL_0, LL_1, LL_2, LL_3, LL_5, LL_9, LL_10, LL_11, LL_12, LL_19, LL_20, LL_30, LL_39, LL_60, LL_99, LL_127, LL_999, sA_s, sA_sA, hL]
  · rintro s ⟨f, v, rfl, el, ev, e0, e1⟩
    refine ⟨_, ?_, f, el, rfl⟩
    unfold mX8_alike_l25
    simp (disch := omega) only [↓reduceIte, obs, esc_il, esc_ir, leT, leF, ltT, ltF, eqT, eqF, nleT, nleF, nltT, nltF, neqT, neqF, nI_add, pk_mul, ald_nI, ast_nI, irm_nI, idv_nI, zbT, zbF, in_T, in_F1, in_F2, nI_l, sI_1, sI_2, sA_1, sA_2, subK, add0, sub0, or0, lN_add, lN_mul, L_0, L_1, L_2, L_3, L_4, L_5, L_6, L_7, L_8, L_9, L_10, L_11, L_12, L_13, L_14, L_15, L_16, L_17, L_18, L_19, L_20, L_30, L_31, L_32, L_35, L_37, L_39, L_40, L_43, L_48, L_57, L_59, L_60, L_97, L_99, L_100, L_120, L_122, L_127, L_160, L_200, L_255, L_999, L_1000, L_100000, L_1000000, L_24, L_33, L_34, L_36, L_38, L_69, L_70, L_72, L_214, L_215, L_288, L_174, L_175, LL_0, LL_1, LL_2, LL_3, LL_5, LL_9, LL_10, LL_11, LL_12, LL_19, LL_20, LL_30, LL_39, LL_60, LL_99, LL_127, LL_999]
theorem st_alike {F : FS} {M : GS} (hR : Rel F M) : ∃ (o : Int32 × GS) (o' : Int32 × GS), mX7_alike (F.1 0) (F.1 1) = some o ∧ mX8_alike M = some o' ∧ o.1 = o'.1 ∧ Rel ((va_up F.1 1 o.2), F.2.1, F.2.2) o'.2 := by
  obtain ⟨⟨a, hv, hp, hi, hy⟩, -⟩ := id hR
  have hb := hi.nb
  unfold mX7_alike mX8_alike
  by_cases h0 : a.2 5 = 0
  · simp (disch := omega) only [↓reduceIte, obs, esc_il, esc_ir, leT, leF, ltT, ltF, eqT, eqF, nleT, nleF, nltT, nltF, neqT, neqF, nI_add, pk_mul, ald_nI, ast_nI, irm_nI, idv_nI, zbT, zbF, in_T, in_F1, in_F2, nI_l, sI_1, sI_2, sA_1, sA_2, subK, add0, sub0, or0, lN_add, lN_mul, L_0, L_1, L_2, L_3, L_4, L_5, L_6, L_7, L_8, L_9, L_10, L_11, L_12, L_13, L_14, L_15, L_16, L_17, L_18, L_19, L_20, L_30, L_31, L_32, L_35, L_37, L_39, L_40, L_43, L_48, L_57, L_59, L_60, L_97, L_99, L_100, L_120, L_122, L_127, L_160, L_200, L_255, L_999, L_1000, L_100000, L_1000000, L_24, L_33, L_34, L_36, L_38, L_69, L_70, L_72, L_214, L_215, L_288, L_174, L_175, LL_0, LL_1, LL_2, LL_3, LL_5, LL_9, LL_10, LL_11, LL_12, LL_19, LL_20, LL_30, LL_39, LL_60, LL_99, LL_127, LL_999, hv.b, P0.b hp]
    exact ⟨_, _, rfl, rfl, rfl, hR.same 1⟩
  obtain ⟨g1, c1, c2⟩ := copy_e (g := F.1 1) hv hi
  obtain ⟨f1, d1, d2, d3⟩ := copies_p (j := 200) hp hi (by omega) (by omega) (by omega)
  obtain ⟨_, k1, g2, rfl⟩ := alike7_e hv c2 hi (by omega)
  obtain ⟨_, k3, f2, k2, rfl⟩ := alike8_e (M := M) (hp.frame hi d3 (by omega)) d2 hi (by omega) (d3.low (by decide))
  simp (disch := omega) only [↓reduceIte, obs, esc_il, esc_ir, leT, leF, ltT, ltF, eqT, eqF, nleT, nleF, nltT, nltF, neqT, neqF, nI_add, pk_mul, ald_nI, ast_nI, irm_nI, idv_nI, zbT, zbF, in_T, in_F1, in_F2, nI_l, sI_1, sI_2, sA_1, sA_2, subK, add0, sub0, or0, lN_add, lN_mul, L_0, L_1, L_2, L_3, L_4, L_5, L_6, L_7, L_8, L_9, L_10, L_11, L_12, L_13, L_14, L_15, L_16, L_17, L_18, L_19, L_20, L_30, L_31, L_32, L_35, L_37, L_39, L_40, L_43, L_48, L_57, L_59, L_60, L_97, L_99, L_100, L_120, L_122, L_127, L_160, L_200, L_255, L_999, L_1000, L_100000, L_1000000, L_24, L_33, L_34, L_36, L_38, L_69, L_70, L_72, L_214, L_215, L_288, L_174, L_175, LL_0, LL_1, LL_2, LL_3, LL_5, LL_9, LL_10, LL_11, LL_12, LL_19, LL_20, LL_30, LL_39, LL_60, LL_99, LL_127, LL_999, hv.b, P0.b hp, c1, d1, k1, k3]
  exact ⟨_, _, rfl, rfl, rfl, hR.scratch _ k2⟩
