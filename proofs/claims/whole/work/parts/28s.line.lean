/-! numbers and signs of a line -/
def nEr (n : Nat) (c : Nat → Nat) (p l m : Nat) : Nat := if lxT n c p = 4 then 1 else if lxT n c p = 2 then (if l ≤ lxV n c p ∧ lxV n c p ≤ m then 0 else 3) else 2
def sEr (n : Nat) (c : Nat → Nat) (p : Nat) : Nat := if lxT n c p = 4 then 1 else if lxT n c p = 3 then 0 else 2
theorem nEr_le (n : Nat) (c : Nat → Nat) (p l m : Nat) : nEr n c p l m ≤ 3 := by
  unfold nEr; split
  · omega
  · split
    · split <;> omega
    · omega
theorem sEr_le (n : Nat) (c : Nat → Nat) (p : Nat) : sEr n c p ≤ 3 := by
  unfold sEr; split
  · omega
  · split <;> omega
theorem nEr_0 {n : Nat} {c : Nat → Nat} {p l m : Nat} (h : nEr n c p l m = 0) : lxT n c p = 2 ∧ l ≤ lxV n c p ∧ lxV n c p ≤ m := by
  unfold nEr at h
  split at h
  · omega
  · split at h
    · split at h
      · rename_i h2 h3; exact ⟨h2, h3⟩
      · omega
    · omega
theorem sEr_0 {n : Nat} {c : Nat → Nat} {p : Nat} (h : sEr n c p = 0) : lxT n c p = 3 := by
  unfold sEr at h
  split at h
  · omega
  · split at h
    · assumption
    · omega
def TL7 (g t : GS) (v3 : Int32) : Option (Int32 × GS × GS) :=
          Option.bind (ald 8 (tabF 0) v3) fun v11 =>
          Option.bind (ald 8 (tabF 1) v3) fun v12 =>
          Option.bind (mX5_takeNumber g v11 v12) fun v13 =>
          if v13.1 = 0 then
            some ((0 : Int32), v13.2, t)
          else
            Option.bind (mX5_hasTwo v3) fun v15 =>
            Option.bind (
              if v15 = 0 then
                some (.inl v13.2)
              else
                Option.bind (ald 8 (tabF 2) v3) fun v17 =>
                Option.bind (ald 8 (tabF 3) v3) fun v18 =>
                Option.bind (mX5_takeNumber v13.2 v17 v18) fun v19 =>
                if v19.1 = 0 then
                  some (.inr ((0 : Int32), v19.2, t))
                else
                  some (.inl v19.2)) fun (v21 : (GS) ⊕ (Int32 × GS × GS)) => esc v21 fun t22 =>
            Option.bind (mX5_nextToken t22) fun v23 =>
            if (v23.2 5) = (3 : Int32) then
              Option.bind (mX5_tell v23 t v3 (v13.2.2 8) (t22.2 8)) fun v25 =>
              some ((1 : Int32), v25.1, v25.2)
            else
              Option.bind (mX5_refuse v23 (2 : Int32)) fun v26 =>
              Option.bind (rtZ v26.1) fun z7 =>
              some (z7, v26.2, t)
def FIN8 (v23 : GS) : Option GS :=
      Option.bind (
        if (v23.2 6) = 0 then
          if (v23.2 10) = (3 : Int32) then
            some v23
          else
            Option.bind (mX8_fails v23 (2 : Int32)) fun v26 =>
            some v26
        else
          some v23) fun (v27 : GS) =>
      Option.bind (mX8_step v27) fun v28 =>
      some v28
def TN (k i : Nat) : Nat := (([[0, 0, 0, 0, 1, 0, 0, 1], [9, 9, 9, 9, 12, 11, 11, 9], [0, 0, 0, 0, 0, 0, 0, 1], [0, 0, 0, 0, 5, 11, 0, 9]] : List (List Nat)).getD k []).getD i 0
theorem tab_e : ∀ k, k < 4 → ∀ i, i < 8 → ald 8 (tabF k) (nI i) = some (nI (TN k i)) := by decide +kernel
theorem TN_b : ∀ k, k < 4 → ∀ i, i < 8 → TN k i ≤ 12 := by decide
theorem two_e : ∀ i, i < 8 → mX5_hasTwo (nI i) = some (nI (if i = 4 ∨ i = 5 ∨ i = 7 then 1 else 0)) := by decide +kernel
theorem rtZ0 : rtZ (nI 0) = some (nI 0) := rfl
/-- the reference has found a fault -/
def BK (M : GS) (rp : Nat → Int32) (td : Int32) (e at_ : Nat) (G : GS) : Prop := ∃ sp he tk va, G = mdS M rp td (nI e) (nI at_) sp he tk va
section
variable {rd M : GS} {n : Nat} {c : Nat → Nat}
theorem lxV_lt (hn : n ≤ 160) {p : Nat} (hp : p ≤ n) (h : lxT n c p = 2) : lxV n c p ≤ 99 := by
  obtain ⟨f1, f2, f3, f4⟩ := lxS_f (c := c) hp hn
  obtain ⟨k1, k2, k3, k4, k5⟩ := lxE_f (c := c) hn hp
  have hs := k5 (by omega)
  cases h1 : inB n c 97 122 (lxS n c p)
  · cases h2 : inB n c 48 57 (lxS n c p)
    · have := (lx_3 hs h1 h2).2
      rw [h] at this
      split at this <;> omega
    · obtain ⟨e1, e2⟩ := lx_2 hs h1 h2
      obtain ⟨g1, g2, g3, g4⟩ := st_f (c := c) (lo := 48) (hi := 57) (Nat.le_of_lt hs) hn
      rw [h] at e2
      have hw : lxE n c p - lxS n c p ≤ 2 := by
        split at e2
        · assumption
        · omega
      unfold lxV
      generalize hd : lxE n c p - lxS n c p = d at hw
      have hc : ∀ k, k < d → 48 ≤ c (lxS n c p + k) ∧ c (lxS n c p + k) ≤ 57 := fun k hk => by
        have := inB_t.mp (g4 (lxS n c p + k) (by omega) (by omega))
        omega
      rcases (show d = 0 ∨ d = 1 ∨ d = 2 by omega) with rfl | rfl | rfl
      · exact Nat.zero_le _
      · have h0 := hc 0 (by decide)
        simp only [vz, Nat.mul_zero, Nat.zero_add]
        rw [if_pos (by decide)]
        omega
      · have h0 := hc 0 (by decide)
        have h1 := hc 1 (by decide)
        simp only [vz, Nat.mul_zero, Nat.zero_add]
        rw [if_pos (by decide), if_pos (by decide)]
        omega
  · have := (lx_1 hs h1).2
    omega
theorem num7_ok (hT : Tp rd M n c) {p l m : Nat} (hp : p ≤ n) (hl : l < 1000) (hm : m < 1000) (h : nEr n c p l m = 0) (fa fp tk st nu lt : Int32) : mX5_takeNumber (rdS rd fa fp tk st (nI p) nu lt) (nI l) (nI m) = some (nI 1, rdS rd fa fp (nI 2) (nI (lxS n c p)) (nI (lxE n c p)) (nI (lxV n c p)) lt) := by
  obtain ⟨h1, h2, h3⟩ := nEr_0 h
  obtain ⟨nu', k1, k2⟩ := token7 hT hp fa fp tk st nu lt
  have hv := lxV_lt (c := c) hT.le hp h1
  rw [k2 h1, h1] at k1
  unfold mX5_takeNumber
  simp (disch := omega) only [↓reduceIte, obs, esc_il, esc_ir, leT, leF, ltT, ltF, eqT, eqF, nleT, nleF, nltT, nltF, neqT, neqF, nI_add, pk_mul, ald_nI, ast_nI, irm_nI, idv_nI, zbT, zbF, in_T, in_F1, in_F2, nI_l, sI_1, sI_2, sA_1, sA_2, subK, add0, sub0, or0, lN_add, lN_mul, L_0, L_1, L_2, L_3, L_4, L_5, L_6, L_7, L_8, L_9, L_10, L_11, L_12, L_13, L_14, L_15, L_16, L_17, L_18, L_19, L_20, L_30, L_31, L_32, L_35, L_37, L_39, L_40, L_43, L_48, L_57, L_59, L_60, L_97, L_99, L_100, L_120, L_122, L_127, L_160, L_200, L_255, L_999, L_1000, L_100000, L_1000000, L_24, L_33, L_34, L_36, L_38, L_69, L_70, L_72, L_214, L_215, L_288, L_174, L_175, L_206, LL_0, LL_1, LL_2, LL_3, LL_5, LL_7, LL_9, LL_10, LL_11, LL_12, LL_19, LL_20, LL_30, LL_39, LL_48, LL_57, LL_60, LL_97, LL_99, LL_122, LL_127, LL_999, rd_1, rd_2, rd_3, rd_4, rd_5, rd_6, rd_7, rd_8, rd_9, rd_s3, rd_s4, rd_s5, rd_s6, rd_s7, rd_s8, rd_s9, k1]
theorem num7_bad (hT : Tp rd M n c) {p l m : Nat} (hp : p ≤ n) (hl : l < 1000) (hm : m < 1000) (h : nEr n c p l m ≠ 0) (fa fp tk st nu lt : Int32) : ∃ tk' st' sp' nu', mX5_takeNumber (rdS rd fa fp tk st (nI p) nu lt) (nI l) (nI m) = some (nI 0, rdS rd (nI (nEr n c p l m)) (nI (lxS n c p)) tk' st' sp' nu' lt) := by
  obtain ⟨nu', k1, k2⟩ := token7 hT hp fa fp tk st nu lt
  obtain ⟨-, -, -, h4, -⟩ := lxE_f (c := c) hT.le hp
  unfold mX5_takeNumber mX5_refuse
  by_cases c4 : lxT n c p = 4
  · have e : nEr n c p l m = 1 := if_pos c4
    rw [e]
    rw [c4] at k1
    refine ⟨nI 4, nI (lxS n c p), nI (lxE n c p), nu', ?_⟩
    simp (disch := omega) only [↓reduceIte, obs, esc_il, esc_ir, leT, leF, ltT, ltF, eqT, eqF, nleT, nleF, nltT, nltF, neqT, neqF, nI_add, pk_mul, ald_nI, ast_nI, irm_nI, idv_nI, zbT, zbF, in_T, in_F1, in_F2, nI_l, sI_1, sI_2, sA_1, sA_2, subK, add0, sub0, or0, lN_add, lN_mul, L_0, L_1, L_2, L_3, L_4, L_5, L_6, L_7, L_8, L_9, L_10, L_11, L_12, L_13, L_14, L_15, L_16, L_17, L_18, L_19, L_20, L_30, L_31, L_32, L_35, L_37, L_39, L_40, L_43, L_48, L_57, L_59, L_60, L_97, L_99, L_100, L_120, L_122, L_127, L_160, L_200, L_255, L_999, L_1000, L_100000, L_1000000, L_24, L_33, L_34, L_36, L_38, L_69, L_70, L_72, L_214, L_215, L_288, L_174, L_175, L_206, LL_0, LL_1, LL_2, LL_3, LL_5, LL_7, LL_9, LL_10, LL_11, LL_12, LL_19, LL_20, LL_30, LL_39, LL_48, LL_57, LL_60, LL_97, LL_99, LL_122, LL_127, LL_999, rd_1, rd_2, rd_3, rd_4, rd_5, rd_6, rd_7, rd_8, rd_9, rd_s3, rd_s4, rd_s5, rd_s6, rd_s7, rd_s8, rd_s9, k1, rtZ0]
  by_cases c2 : lxT n c p = 2
  · have e : nEr n c p l m = 3 := by
      unfold nEr at h ⊢
      rw [if_neg c4, if_pos c2] at h ⊢
      split
      · rename_i h2; rw [if_pos h2] at h; exact absurd rfl h
      · rfl
    have e2 : ¬ (l ≤ lxV n c p ∧ lxV n c p ≤ m) := fun z => h (by unfold nEr; rw [if_neg c4, if_pos c2, if_pos z])
    have hv := lxV_lt (c := c) hT.le hp c2
    rw [k2 c2, c2] at k1
    rw [e]
    refine ⟨nI 2, nI (lxS n c p), nI (lxE n c p), nI (lxV n c p), ?_⟩
    rcases (show lxV n c p < l ∨ (l ≤ lxV n c p ∧ m < lxV n c p) by omega) with h3 | h3
    · simp (disch := omega) only [↓reduceIte, obs, esc_il, esc_ir, leT, leF, ltT, ltF, eqT, eqF, nleT, nleF, nltT, nltF, neqT, neqF, nI_add, pk_mul, ald_nI, ast_nI, irm_nI, idv_nI, zbT, zbF, in_T, in_F1, in_F2, nI_l, sI_1, sI_2, sA_1, sA_2, subK, add0, sub0, or0, lN_add, lN_mul, L_0, L_1, L_2, L_3, L_4, L_5, L_6, L_7, L_8, L_9, L_10, L_11, L_12, L_13, L_14, L_15, L_16, L_17, L_18, L_19, L_20, L_30, L_31, L_32, L_35, L_37, L_39, L_40, L_43, L_48, L_57, L_59, L_60, L_97, L_99, L_100, L_120, L_122, L_127, L_160, L_200, L_255, L_999, L_1000, L_100000, L_1000000, L_24, L_33, L_34, L_36, L_38, L_69, L_70, L_72, L_214, L_215, L_288, L_174, L_175, L_206, LL_0, LL_1, LL_2, LL_3, LL_5, LL_7, LL_9, LL_10, LL_11, LL_12, LL_19, LL_20, LL_30, LL_39, LL_48, LL_57, LL_60, LL_97, LL_99, LL_122, LL_127, LL_999, rd_1, rd_2, rd_3, rd_4, rd_5, rd_6, rd_7, rd_8, rd_9, rd_s3, rd_s4, rd_s5, rd_s6, rd_s7, rd_s8, rd_s9, k1, rtZ0]
    · simp (disch := omega) only [↓reduceIte, obs, esc_il, esc_ir, leT, leF, ltT, ltF, eqT, eqF, nleT, nleF, nltT, nltF, neqT, neqF, nI_add, pk_mul, ald_nI, ast_nI, irm_nI, idv_nI, zbT, zbF, in_T, in_F1, in_F2, nI_l, sI_1, sI_2, sA_1, sA_2, subK, add0, sub0, or0, lN_add, lN_mul, L_0, L_1, L_2, L_3, L_4, L_5, L_6, L_7, L_8, L_9, L_10, L_11, L_12, L_13, L_14, L_15, L_16, L_17, L_18, L_19, L_20, L_30, L_31, L_32, L_35, L_37, L_39, L_40, L_43, L_48, L_57, L_59, L_60, L_97, L_99, L_100, L_120, L_122, L_127, L_160, L_200, L_255, L_999, L_1000, L_100000, L_1000000, L_24, L_33, L_34, L_36, L_38, L_69, L_70, L_72, L_214, L_215, L_288, L_174, L_175, L_206, LL_0, LL_1, LL_2, LL_3, LL_5, LL_7, LL_9, LL_10, LL_11, LL_12, LL_19, LL_20, LL_30, LL_39, LL_48, LL_57, LL_60, LL_97, LL_99, LL_122, LL_127, LL_999, rd_1, rd_2, rd_3, rd_4, rd_5, rd_6, rd_7, rd_8, rd_9, rd_s3, rd_s4, rd_s5, rd_s6, rd_s7, rd_s8, rd_s9, k1, rtZ0]
  · have e : nEr n c p l m = 2 := by unfold nEr; rw [if_neg c4, if_neg c2]
    rw [e]
    refine ⟨nI (lxT n c p), nI (lxS n c p), nI (lxE n c p), nu', ?_⟩
    simp (disch := omega) only [↓reduceIte, obs, esc_il, esc_ir, leT, leF, ltT, ltF, eqT, eqF, nleT, nleF, nltT, nltF, neqT, neqF, nI_add, pk_mul, ald_nI, ast_nI, irm_nI, idv_nI, zbT, zbF, in_T, in_F1, in_F2, nI_l, sI_1, sI_2, sA_1, sA_2, subK, add0, sub0, or0, lN_add, lN_mul, L_0, L_1, L_2, L_3, L_4, L_5, L_6, L_7, L_8, L_9, L_10, L_11, L_12, L_13, L_14, L_15, L_16, L_17, L_18, L_19, L_20, L_30, L_31, L_32, L_35, L_37, L_39, L_40, L_43, L_48, L_57, L_59, L_60, L_97, L_99, L_100, L_120, L_122, L_127, L_160, L_200, L_255, L_999, L_1000, L_100000, L_1000000, L_24, L_33, L_34, L_36, L_38, L_69, L_70, L_72, L_214, L_215, L_288, L_174, L_175, L_206, LL_0, LL_1, LL_2, LL_3, LL_5, LL_7, LL_9, LL_10, LL_11, LL_12, LL_19, LL_20, LL_30, LL_39, LL_48, LL_57, LL_60, LL_97, LL_99, LL_122, LL_127, LL_999, rd_1, rd_2, rd_3, rd_4, rd_5, rd_6, rd_7, rd_8, rd_9, rd_s3, rd_s4, rd_s5, rd_s6, rd_s7, rd_s8, rd_s9, k1, rtZ0]
theorem ST.pg {rp : Nat → Int32} {td : Int32} {p : Nat} {G : GS} (h : ST M n c rp td p G) : G.1 1 = rp := by
  rcases h with ⟨-, tk, va, rfl⟩ | ⟨-, bp, rfl⟩ <;> rfl
theorem BK.pg {rp : Nat → Int32} {td : Int32} {e a : Nat} {G : GS} (h : BK M rp td e a G) : G.1 1 = rp := by
  obtain ⟨sp, he, tk, va, rfl⟩ := h; rfl
theorem ST_sA {rp : Nat → Int32} {td : Int32} {p : Nat} {G : GS} (h : ST M n c rp td p G) (rp' : Nat → Int32) : ST M n c rp' td p (sA G 1 rp') := by
  rcases h with ⟨h1, tk, va, rfl⟩ | ⟨h1, bp, rfl⟩
  · exact Or.inl ⟨h1, tk, va, md_s _ _ _ _ _ _ _ _ _ _⟩
  · exact Or.inr ⟨h1, bp, md_s _ _ _ _ _ _ _ _ _ _⟩
theorem BK_sA {rp : Nat → Int32} {td : Int32} {e a : Nat} {G : GS} (h : BK M rp td e a G) (rp' : Nat → Int32) : BK M rp' td e a (sA G 1 rp') := by
  obtain ⟨sp, he, tk, va, rfl⟩ := h
  exact ⟨sp, he, tk, va, md_s _ _ _ _ _ _ _ _ _ _⟩
theorem stepB {rp : Nat → Int32} {td : Int32} {e a : Nat} {G : GS} (h : BK M rp td e a G) (he : 0 < e) (h10 : e < 10) : mX8_step G = some G := by
  obtain ⟨sp, he, tk, va, rfl⟩ := h
  unfold mX8_step
  simp (disch := omega) only [↓reduceIte, obs, esc_il, esc_ir, leT, leF, ltT, ltF, eqT, eqF, nleT, nleF, nltT, nltF, neqT, neqF, nI_add, pk_mul, ald_nI, ast_nI, irm_nI, idv_nI, zbT, zbF, in_T, in_F1, in_F2, nI_l, sI_1, sI_2, sA_1, sA_2, subK, add0, sub0, or0, lN_add, lN_mul, L_0, L_1, L_2, L_3, L_4, L_5, L_6, L_7, L_8, L_9, L_10, L_11, L_12, L_13, L_14, L_15, L_16, L_17, L_18, L_19, L_20, L_30, L_31, L_32, L_35, L_37, L_39, L_40, L_43, L_48, L_57, L_59, L_60, L_97, L_99, L_100, L_120, L_122, L_127, L_160, L_200, L_255, L_999, L_1000, L_100000, L_1000000, L_24, L_33, L_34, L_36, L_38, L_69, L_70, L_72, L_214, L_215, L_288, L_174, L_175, L_206, LL_0, LL_1, LL_2, LL_3, LL_5, LL_7, LL_9, LL_10, LL_11, LL_12, LL_19, LL_20, LL_30, LL_39, LL_48, LL_57, LL_60, LL_97, LL_99, LL_122, LL_127, LL_999, md_0, md_1, md_t, md_12, md_13, md_2, md_4, md_6, md_7, md_8, md_9, md_10, md_11, md_s, md_s2, md_s6, md_s7, md_s8, md_s9, md_s10, md_s11]
theorem num8_ok (hT : Tp rd M n c) {p l m : Nat} (hp : p ≤ n) (hl : l < 1000) (hm : m < 1000) (h : nEr n c p l m = 0) {rp : Nat → Int32} {td : Int32} {G : GS} (hS : ST M n c rp td p G) : ∃ G', mX8_number G (nI l) (nI m) = some (nI (lxV n c p), G') ∧ ST M n c rp td (lxE n c p) G' := by
  obtain ⟨h1, h2, h3⟩ := nEr_0 h
  have hv := lxV_lt (c := c) hT.le hp h1
  obtain ⟨-, h5, -, -, -⟩ := lxE_f (c := c) hT.le hp
  rcases hS with ⟨h4, -⟩ | ⟨-, bp, rfl⟩
  · omega
  rw [h1, if_pos rfl]
  obtain ⟨G', k1, k2⟩ := token8 hT h5 rp td bp (nI (lxS n c p)) (nI 2) (nI (lxV n c p))
  refine ⟨G', ?_, k2⟩
  unfold mX8_number
  simp (disch := omega) only [↓reduceIte, obs, esc_il, esc_ir, leT, leF, ltT, ltF, eqT, eqF, nleT, nleF, nltT, nltF, neqT, neqF, nI_add, pk_mul, ald_nI, ast_nI, irm_nI, idv_nI, zbT, zbF, in_T, in_F1, in_F2, nI_l, sI_1, sI_2, sA_1, sA_2, subK, add0, sub0, or0, lN_add, lN_mul, L_0, L_1, L_2, L_3, L_4, L_5, L_6, L_7, L_8, L_9, L_10, L_11, L_12, L_13, L_14, L_15, L_16, L_17, L_18, L_19, L_20, L_30, L_31, L_32, L_35, L_37, L_39, L_40, L_43, L_48, L_57, L_59, L_60, L_97, L_99, L_100, L_120, L_122, L_127, L_160, L_200, L_255, L_999, L_1000, L_100000, L_1000000, L_24, L_33, L_34, L_36, L_38, L_69, L_70, L_72, L_214, L_215, L_288, L_174, L_175, L_206, LL_0, LL_1, LL_2, LL_3, LL_5, LL_7, LL_9, LL_10, LL_11, LL_12, LL_19, LL_20, LL_30, LL_39, LL_48, LL_57, LL_60, LL_97, LL_99, LL_122, LL_127, LL_999, md_0, md_1, md_t, md_12, md_13, md_2, md_4, md_6, md_7, md_8, md_9, md_10, md_11, md_s, md_s2, md_s6, md_s7, md_s8, md_s9, md_s10, md_s11, k1]
theorem num8_brk {l m : Nat} (hl : l < 1000) (hm : m < 1000) {rp : Nat → Int32} {td : Int32} {e a : Nat} {G : GS} (h : BK M rp td e a G) (he : 0 < e) (h10 : e < 10) : mX8_number G (nI l) (nI m) = some (nI l, G) := by
  have hs := stepB h he h10
  obtain ⟨sp, he, tk, va, rfl⟩ := h
  unfold mX8_number
  simp (disch := omega) only [↓reduceIte, obs, esc_il, esc_ir, leT, leF, ltT, ltF, eqT, eqF, nleT, nleF, nltT, nltF, neqT, neqF, nI_add, pk_mul, ald_nI, ast_nI, irm_nI, idv_nI, zbT, zbF, in_T, in_F1, in_F2, nI_l, sI_1, sI_2, sA_1, sA_2, subK, add0, sub0, or0, lN_add, lN_mul, L_0, L_1, L_2, L_3, L_4, L_5, L_6, L_7, L_8, L_9, L_10, L_11, L_12, L_13, L_14, L_15, L_16, L_17, L_18, L_19, L_20, L_30, L_31, L_32, L_35, L_37, L_39, L_40, L_43, L_48, L_57, L_59, L_60, L_97, L_99, L_100, L_120, L_122, L_127, L_160, L_200, L_255, L_999, L_1000, L_100000, L_1000000, L_24, L_33, L_34, L_36, L_38, L_69, L_70, L_72, L_214, L_215, L_288, L_174, L_175, L_206, LL_0, LL_1, LL_2, LL_3, LL_5, LL_7, LL_9, LL_10, LL_11, LL_12, LL_19, LL_20, LL_30, LL_39, LL_48, LL_57, LL_60, LL_97, LL_99, LL_122, LL_127, LL_999, md_0, md_1, md_t, md_12, md_13, md_2, md_4, md_6, md_7, md_8, md_9, md_10, md_11, md_s, md_s2, md_s6, md_s7, md_s8, md_s9, md_s10, md_s11, hs]
theorem num8_bad (hT : Tp rd M n c) {p l m : Nat} (hp : p ≤ n) (hl : l < 1000) (hm : m < 1000) (h : nEr n c p l m ≠ 0) {rp : Nat → Int32} {td : Int32} {G : GS} (hS : ST M n c rp td p G) : ∃ G', mX8_number G (nI l) (nI m) = some (nI l, G') ∧ BK M rp td (nEr n c p l m) (lxS n c p) G' := by
  obtain ⟨-, -, -, h4, -⟩ := lxE_f (c := c) hT.le hp
  rcases hS with ⟨c4, tk, va, rfl⟩ | ⟨c4, bp, rfl⟩
  · have e : nEr n c p l m = 1 := if_pos c4
    have hb : BK M rp td 1 (lxS n c p) (mdS M rp td (nI 1) (nI (lxS n c p)) (nI (lxE n c p)) (nI (lxS n c p)) tk va) := ⟨_, _, _, _, rfl⟩
    rw [e]
    exact ⟨_, num8_brk hl hm hb (by decide) (by decide), hb⟩
  by_cases c2 : lxT n c p = 2
  · have e2 : ¬ (l ≤ lxV n c p ∧ lxV n c p ≤ m) := fun z => h (by unfold nEr; rw [if_neg c4, if_pos c2, if_pos z])
    have e : nEr n c p l m = 3 := by unfold nEr; rw [if_neg c4, if_pos c2, if_neg e2]
    have hv := lxV_lt (c := c) hT.le hp c2
    rw [e, c2, if_pos rfl]
    have hb : BK M rp td 3 (lxS n c p) (mdS M rp td (nI 3) (nI (lxS n c p)) (nI (lxE n c p)) (nI (lxS n c p)) (nI 2) (nI (lxV n c p))) := ⟨_, _, _, _, rfl⟩
    have hs := stepB hb (by decide) (by decide)
    refine ⟨_, ?_, hb⟩
    unfold mX8_number mX8_fails
    rcases (show lxV n c p < l ∨ m < lxV n c p by omega) with h3 | h3
    · simp (disch := omega) only [↓reduceIte, obs, esc_il, esc_ir, leT, leF, ltT, ltF, eqT, eqF, nleT, nleF, nltT, nltF, neqT, neqF, nI_add, pk_mul, ald_nI, ast_nI, irm_nI, idv_nI, zbT, zbF, in_T, in_F1, in_F2, nI_l, sI_1, sI_2, sA_1, sA_2, subK, add0, sub0, or0, lN_add, lN_mul, L_0, L_1, L_2, L_3, L_4, L_5, L_6, L_7, L_8, L_9, L_10, L_11, L_12, L_13, L_14, L_15, L_16, L_17, L_18, L_19, L_20, L_30, L_31, L_32, L_35, L_37, L_39, L_40, L_43, L_48, L_57, L_59, L_60, L_97, L_99, L_100, L_120, L_122, L_127, L_160, L_200, L_255, L_999, L_1000, L_100000, L_1000000, L_24, L_33, L_34, L_36, L_38, L_69, L_70, L_72, L_214, L_215, L_288, L_174, L_175, L_206, LL_0, LL_1, LL_2, LL_3, LL_5, LL_7, LL_9, LL_10, LL_11, LL_12, LL_19, LL_20, LL_30, LL_39, LL_48, LL_57, LL_60, LL_97, LL_99, LL_122, LL_127, LL_999, md_0, md_1, md_t, md_12, md_13, md_2, md_4, md_6, md_7, md_8, md_9, md_10, md_11, md_s, md_s2, md_s6, md_s7, md_s8, md_s9, md_s10, md_s11, hs]
    · simp (disch := omega) only [↓reduceIte, obs, esc_il, esc_ir, leT, leF, ltT, ltF, eqT, eqF, nleT, nleF, nltT, nltF, neqT, neqF, nI_add, pk_mul, ald_nI, ast_nI, irm_nI, idv_nI, zbT, zbF, in_T, in_F1, in_F2, nI_l, sI_1, sI_2, sA_1, sA_2, subK, add0, sub0, or0, lN_add, lN_mul, L_0, L_1, L_2, L_3, L_4, L_5, L_6, L_7, L_8, L_9, L_10, L_11, L_12, L_13, L_14, L_15, L_16, L_17, L_18, L_19, L_20, L_30, L_31, L_32, L_35, L_37, L_39, L_40, L_43, L_48, L_57, L_59, L_60, L_97, L_99, L_100, L_120, L_122, L_127, L_160, L_200, L_255, L_999, L_1000, L_100000, L_1000000, L_24, L_33, L_34, L_36, L_38, L_69, L_70, L_72, L_214, L_215, L_288, L_174, L_175, L_206, LL_0, LL_1, LL_2, LL_3, LL_5, LL_7, LL_9, LL_10, LL_11, LL_12, LL_19, LL_20, LL_30, LL_39, LL_48, LL_57, LL_60, LL_97, LL_99, LL_122, LL_127, LL_999, md_0, md_1, md_t, md_12, md_13, md_2, md_4, md_6, md_7, md_8, md_9, md_10, md_11, md_s, md_s2, md_s6, md_s7, md_s8, md_s9, md_s10, md_s11, hs]
  · have e : nEr n c p l m = 2 := by unfold nEr; rw [if_neg c4, if_neg c2]
    rw [e]
    have hb : BK M rp td 2 (lxS n c p) (mdS M rp td (nI 2) (nI (lxS n c p)) (nI (lxE n c p)) (nI (lxS n c p)) (nI (lxT n c p)) (nI (if lxT n c p = 2 then lxV n c p else 0))) := ⟨_, _, _, _, rfl⟩
    have hs := stepB hb (by decide) (by decide)
    refine ⟨_, ?_, hb⟩
    unfold mX8_number mX8_fails
    rw [if_neg c2] at hs ⊢
    simp (disch := omega) only [↓reduceIte, obs, esc_il, esc_ir, leT, leF, ltT, ltF, eqT, eqF, nleT, nleF, nltT, nltF, neqT, neqF, nI_add, pk_mul, ald_nI, ast_nI, irm_nI, idv_nI, zbT, zbF, in_T, in_F1, in_F2, nI_l, sI_1, sI_2, sA_1, sA_2, subK, add0, sub0, or0, lN_add, lN_mul, L_0, L_1, L_2, L_3, L_4, L_5, L_6, L_7, L_8, L_9, L_10, L_11, L_12, L_13, L_14, L_15, L_16, L_17, L_18, L_19, L_20, L_30, L_31, L_32, L_35, L_37, L_39, L_40, L_43, L_48, L_57, L_59, L_60, L_97, L_99, L_100, L_120, L_122, L_127, L_160, L_200, L_255, L_999, L_1000, L_100000, L_1000000, L_24, L_33, L_34, L_36, L_38, L_69, L_70, L_72, L_214, L_215, L_288, L_174, L_175, L_206, LL_0, LL_1, LL_2, LL_3, LL_5, LL_7, LL_9, LL_10, LL_11, LL_12, LL_19, LL_20, LL_30, LL_39, LL_48, LL_57, LL_60, LL_97, LL_99, LL_122, LL_127, LL_999, md_0, md_1, md_t, md_12, md_13, md_2, md_4, md_6, md_7, md_8, md_9, md_10, md_11, md_s, md_s2, md_s6, md_s7, md_s8, md_s9, md_s10, md_s11, hs]
theorem fin8_ok (hT : Tp rd M n c) {p : Nat} (hp : p ≤ n) (h : sEr n c p = 0) {rp : Nat → Int32} {td : Int32} {G : GS} (hS : ST M n c rp td p G) : ∃ G', FIN8 G = some G' ∧ ST M n c rp td (lxE n c p) G' := by
  have h3 := sEr_0 h
  obtain ⟨-, h5, -, -, -⟩ := lxE_f (c := c) hT.le hp
  rcases hS with ⟨h4, -⟩ | ⟨-, bp, rfl⟩
  · omega
  rw [h3, if_neg (by decide)]
  obtain ⟨G', k1, k2⟩ := token8 hT h5 rp td bp (nI (lxS n c p)) (nI 3) (nI 0)
  refine ⟨G', ?_, k2⟩
  unfold FIN8
  simp (disch := omega) only [↓reduceIte, obs, esc_il, esc_ir, leT, leF, ltT, ltF, eqT, eqF, nleT, nleF, nltT, nltF, neqT, neqF, nI_add, pk_mul, ald_nI, ast_nI, irm_nI, idv_nI, zbT, zbF, in_T, in_F1, in_F2, nI_l, sI_1, sI_2, sA_1, sA_2, subK, add0, sub0, or0, lN_add, lN_mul, L_0, L_1, L_2, L_3, L_4, L_5, L_6, L_7, L_8, L_9, L_10, L_11, L_12, L_13, L_14, L_15, L_16, L_17, L_18, L_19, L_20, L_30, L_31, L_32, L_35, L_37, L_39, L_40, L_43, L_48, L_57, L_59, L_60, L_97, L_99, L_100, L_120, L_122, L_127, L_160, L_200, L_255, L_999, L_1000, L_100000, L_1000000, L_24, L_33, L_34, L_36, L_38, L_69, L_70, L_72, L_214, L_215, L_288, L_174, L_175, L_206, LL_0, LL_1, LL_2, LL_3, LL_5, LL_7, LL_9, LL_10, LL_11, LL_12, LL_19, LL_20, LL_30, LL_39, LL_48, LL_57, LL_60, LL_97, LL_99, LL_122, LL_127, LL_999, md_0, md_1, md_t, md_12, md_13, md_2, md_4, md_6, md_7, md_8, md_9, md_10, md_11, md_s, md_s2, md_s6, md_s7, md_s8, md_s9, md_s10, md_s11, k1]
theorem fin8_brk {rp : Nat → Int32} {td : Int32} {e a : Nat} {G : GS} (h : BK M rp td e a G) (he : 0 < e) (h10 : e < 10) : FIN8 G = some G := by
  have hs := stepB h he h10
  obtain ⟨sp, he, tk, va, rfl⟩ := h
  unfold FIN8
  simp (disch := omega) only [↓reduceIte, obs, esc_il, esc_ir, leT, leF, ltT, ltF, eqT, eqF, nleT, nleF, nltT, nltF, neqT, neqF, nI_add, pk_mul, ald_nI, ast_nI, irm_nI, idv_nI, zbT, zbF, in_T, in_F1, in_F2, nI_l, sI_1, sI_2, sA_1, sA_2, subK, add0, sub0, or0, lN_add, lN_mul, L_0, L_1, L_2, L_3, L_4, L_5, L_6, L_7, L_8, L_9, L_10, L_11, L_12, L_13, L_14, L_15, L_16, L_17, L_18, L_19, L_20, L_30, L_31, L_32, L_35, L_37, L_39, L_40, L_43, L_48, L_57, L_59, L_60, L_97, L_99, L_100, L_120, L_122, L_127, L_160, L_200, L_255, L_999, L_1000, L_100000, L_1000000, L_24, L_33, L_34, L_36, L_38, L_69, L_70, L_72, L_214, L_215, L_288, L_174, L_175, L_206, LL_0, LL_1, LL_2, LL_3, LL_5, LL_7, LL_9, LL_10, LL_11, LL_12, LL_19, LL_20, LL_30, LL_39, LL_48, LL_57, LL_60, LL_97, LL_99, LL_122, LL_127, LL_999, md_0, md_1, md_t, md_12, md_13, md_2, md_4, md_6, md_7, md_8, md_9, md_10, md_11, md_s, md_s2, md_s6, md_s7, md_s8, md_s9, md_s10, md_s11, hs]
theorem fin8_bad (hT : Tp rd M n c) {p : Nat} (hp : p ≤ n) (h : sEr n c p ≠ 0) {rp : Nat → Int32} {td : Int32} {G : GS} (hS : ST M n c rp td p G) : ∃ G', FIN8 G = some G' ∧ BK M rp td (sEr n c p) (lxS n c p) G' := by
  obtain ⟨-, -, -, h4, -⟩ := lxE_f (c := c) hT.le hp
  rcases hS with ⟨c4, tk, va, rfl⟩ | ⟨c4, bp, rfl⟩
  · have e : sEr n c p = 1 := if_pos c4
    have hb : BK M rp td 1 (lxS n c p) (mdS M rp td (nI 1) (nI (lxS n c p)) (nI (lxE n c p)) (nI (lxS n c p)) tk va) := ⟨_, _, _, _, rfl⟩
    rw [e]
    exact ⟨_, fin8_brk hb (by decide) (by decide), hb⟩
  have c3 : ¬ lxT n c p = 3 := fun z => h (by unfold sEr; rw [if_neg c4, if_pos z])
  have e : sEr n c p = 2 := by unfold sEr; rw [if_neg c4, if_neg c3]
  rw [e]
  have hb : BK M rp td 2 (lxS n c p) (mdS M rp td (nI 2) (nI (lxS n c p)) (nI (lxE n c p)) (nI (lxS n c p)) (nI (lxT n c p)) (nI (if lxT n c p = 2 then lxV n c p else 0))) := ⟨_, _, _, _, rfl⟩
  have hs := stepB hb (by decide) (by decide)
  refine ⟨_, ?_, hb⟩
  unfold FIN8 mX8_fails
  generalize (if lxT n c p = 2 then lxV n c p else 0) = vv at hs ⊢
  simp (disch := omega) only [↓reduceIte, obs, esc_il, esc_ir, leT, leF, ltT, ltF, eqT, eqF, nleT, nleF, nltT, nltF, neqT, neqF, nI_add, pk_mul, ald_nI, ast_nI, irm_nI, idv_nI, zbT, zbF, in_T, in_F1, in_F2, nI_l, sI_1, sI_2, sA_1, sA_2, subK, add0, sub0, or0, lN_add, lN_mul, L_0, L_1, L_2, L_3, L_4, L_5, L_6, L_7, L_8, L_9, L_10, L_11, L_12, L_13, L_14, L_15, L_16, L_17, L_18, L_19, L_20, L_30, L_31, L_32, L_35, L_37, L_39, L_40, L_43, L_48, L_57, L_59, L_60, L_97, L_99, L_100, L_120, L_122, L_127, L_160, L_200, L_255, L_999, L_1000, L_100000, L_1000000, L_24, L_33, L_34, L_36, L_38, L_69, L_70, L_72, L_214, L_215, L_288, L_174, L_175, L_206, LL_0, LL_1, LL_2, LL_3, LL_5, LL_7, LL_9, LL_10, LL_11, LL_12, LL_19, LL_20, LL_30, LL_39, LL_48, LL_57, LL_60, LL_97, LL_99, LL_122, LL_127, LL_999, md_0, md_1, md_t, md_12, md_13, md_2, md_4, md_6, md_7, md_8, md_9, md_10, md_11, md_s, md_s2, md_s6, md_s7, md_s8, md_s9, md_s10, md_s11, hs]
/-- the sign at the end, in the class -/
theorem sign7_bad (hT : Tp rd M n c) {p : Nat} (hp : p ≤ n) (h : sEr n c p ≠ 0) (fa fp tk st nu lt : Int32) : ∃ g', mX5_nextToken (rdS rd fa fp tk st (nI p) nu lt) = some g' ∧ ¬ g'.2 5 = 3 ∧ ∃ tk' st' sp' nu', mX5_refuse g' 2 = some (0, rdS rd (nI (sEr n c p)) (nI (lxS n c p)) tk' st' sp' nu' lt) := by
  obtain ⟨nu', k1, k2⟩ := token7 hT hp fa fp tk st nu lt
  obtain ⟨-, -, -, h4, -⟩ := lxE_f (c := c) hT.le hp
  have c3 : ¬ lxT n c p = 3 := fun z => h (by unfold sEr; rw [if_neg (by omega), if_pos z])
  refine ⟨_, k1, ?_, ?_⟩
  · rw [rd_5]
    exact fun z => c3 ((nI_eq (by omega) (by decide)).mp z)
  · unfold mX5_refuse
    by_cases c4 : lxT n c p = 4
    · have e : sEr n c p = 1 := if_pos c4
      rw [e]
      refine ⟨nI (lxT n c p), nI (lxS n c p), nI (lxE n c p), nu', ?_⟩
      simp (disch := omega) only [↓reduceIte, obs, esc_il, esc_ir, leT, leF, ltT, ltF, eqT, eqF, nleT, nleF, nltT, nltF, neqT, neqF, nI_add, pk_mul, ald_nI, ast_nI, irm_nI, idv_nI, zbT, zbF, in_T, in_F1, in_F2, nI_l, sI_1, sI_2, sA_1, sA_2, subK, add0, sub0, or0, lN_add, lN_mul, L_0, L_1, L_2, L_3, L_4, L_5, L_6, L_7, L_8, L_9, L_10, L_11, L_12, L_13, L_14, L_15, L_16, L_17, L_18, L_19, L_20, L_30, L_31, L_32, L_35, L_37, L_39, L_40, L_43, L_48, L_57, L_59, L_60, L_97, L_99, L_100, L_120, L_122, L_127, L_160, L_200, L_255, L_999, L_1000, L_100000, L_1000000, L_24, L_33, L_34, L_36, L_38, L_69, L_70, L_72, L_214, L_215, L_288, L_174, L_175, L_206, LL_0, LL_1, LL_2, LL_3, LL_5, LL_7, LL_9, LL_10, LL_11, LL_12, LL_19, LL_20, LL_30, LL_39, LL_48, LL_57, LL_60, LL_97, LL_99, LL_122, LL_127, LL_999, rd_1, rd_2, rd_3, rd_4, rd_5, rd_6, rd_7, rd_8, rd_9, rd_s3, rd_s4, rd_s5, rd_s6, rd_s7, rd_s8, rd_s9]
    · have e : sEr n c p = 2 := by unfold sEr; rw [if_neg c4, if_neg c3]
      rw [e]
      refine ⟨nI (lxT n c p), nI (lxS n c p), nI (lxE n c p), nu', ?_⟩
      simp (disch := omega) only [↓reduceIte, obs, esc_il, esc_ir, leT, leF, ltT, ltF, eqT, eqF, nleT, nleF, nltT, nltF, neqT, neqF, nI_add, pk_mul, ald_nI, ast_nI, irm_nI, idv_nI, zbT, zbF, in_T, in_F1, in_F2, nI_l, sI_1, sI_2, sA_1, sA_2, subK, add0, sub0, or0, lN_add, lN_mul, L_0, L_1, L_2, L_3, L_4, L_5, L_6, L_7, L_8, L_9, L_10, L_11, L_12, L_13, L_14, L_15, L_16, L_17, L_18, L_19, L_20, L_30, L_31, L_32, L_35, L_37, L_39, L_40, L_43, L_48, L_57, L_59, L_60, L_97, L_99, L_100, L_120, L_122, L_127, L_160, L_200, L_255, L_999, L_1000, L_100000, L_1000000, L_24, L_33, L_34, L_36, L_38, L_69, L_70, L_72, L_214, L_215, L_288, L_174, L_175, L_206, LL_0, LL_1, LL_2, LL_3, LL_5, LL_7, LL_9, LL_10, LL_11, LL_12, LL_19, LL_20, LL_30, LL_39, LL_48, LL_57, LL_60, LL_97, LL_99, LL_122, LL_127, LL_999, rd_1, rd_2, rd_3, rd_4, rd_5, rd_6, rd_7, rd_8, rd_9, rd_s3, rd_s4, rd_s5, rd_s6, rd_s7, rd_s8, rd_s9]
end
