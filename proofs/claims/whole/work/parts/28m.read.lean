/-! reading blocks from a sheet -/
theorem whO_s {σ ε : Type} {f : σ → Option (σ ⊕ ε)} {s s' : σ} (h : f s = some (.inl s')) (n : Nat) : whO f (n + 1) s = whO f n s' := by
  simp only [whO, h, obs]
theorem whO_x {σ ε : Type} {f : σ → Option (σ ⊕ ε)} {s : σ} {x : ε} (h : f s = some (.inr x)) (n : Nat) : whO f (n + 1) s = some x := by
  simp only [whO, h, obs]
theorem ex7 (ff : Int32) (h ro : GS) (i j n : Int32) (s : Int32 × Int32 × Int32 × GS) (hne : ¬ s.1 = 0) : mX7_read_l55 ff h ro i j n s = some (.inr (.inl s)) := by
  unfold mX7_read_l55
  rw [if_neg hne]
  split <;> rfl
theorem ex8 (r i j n : Int32) (s : Int32 × Int32 × Int32 × GS) (hne : ¬ s.1 = 0) : mX8_read_l55 r i j n s = some (.inr (.inl s)) := by
  unfold mX8_read_l55
  rw [if_neg hne]
  split <;> rfl
theorem end7 (ff : Int32) (h ro : GS) (i j n : Int32) (s : Int32 × Int32 × Int32 × GS) (hn : n ≤ s.2.2.1) : mX7_read_l55 ff h ro i j n s = some (.inr (.inl s)) := by
  unfold mX7_read_l55
  rw [if_pos hn]
theorem end8 (r i j n : Int32) (s : Int32 × Int32 × Int32 × GS) (hn : (2 : Int32) * n ≤ s.2.2.1) : mX8_read_l55 r i j n s = some (.inr (.inl s)) := by
  unfold mX8_read_l55
  rw [if_pos hn]
theorem m1F : (nI 0 ≤ -nI 1) = False := eq_false (by decide)
theorem m3F : (nI 0 ≤ -nI 3) = False := eq_false (by decide)
/-- the sheet of number k, as both have it -/
def Sh (ro M : GS) (k L m : Nat) : Prop := ro.2 1 = nI L ∧ L ≤ 2 ∧ ro.2 2 = nI m ∧ m ≤ 40 ∧ M.1 20 k = nI L ∧ M.1 21 k = nI m ∧ ∀ q, q < m → ro.1 0 q = M.1 22 (40 * k + q)
/-- how both readings end -/
def RdE (M : GS) (ff : Int32) (h : GS) (x : (Int32 × Int32 × Int32 × GS) ⊕ (Int32 × Int32 × GS × GS)) (y : (Int32 × Int32 × Int32 × GS) ⊕ (Int32 × GS)) : Prop := (∃ fd t z1 z2 g a f, x = .inl (fd, t, z1, g) ∧ y = .inl (fd, t, z2, sA M 0 f) ∧ HV g a ∧ PV f 0 a ∧ HI a ∧ a.2 11 ≤ 999 ∧ ∀ q, 40 ≤ q → q < 120 → f q = M.1 0 q) ∨ ∃ v g f, x = .inr (v, ff, h, g) ∧ y = .inr (v, sA M 0 f) ∧ Low (M.1 0) f
theorem m4N {t : Nat} (ht : t < 2 ^ 31) : (nI t = -nI 4) = False := m4_ne ht
theorem read_ind {ro M h : GS} {ff : Int32} {k L m Fo n : Nat} (hk : k < 4) (hs : Sh ro M k L m) (hF : Fo < m) (hn : n ≤ 20) : ∀ (d t : Nat) (a : AH) (g : GS) (f : Nat → Int32), t + d = n → HV g a → PV f 0 a → HI a → a.2 11 ≤ 999 → (∀ q, 40 ≤ q → q < 120 → f q = M.1 0 q) → (∀ q, q < 40 → f (120 + q) = M.1 0 q) → ∀ n1 n2, d + 1 < n1 → 2 * d + 2 < n2 → ∃ x y, whO (mX7_read_l55 ff h ro (nI L) (nI Fo) (nI n)) n1 (nI 0, nI t, nI t, g) = some x ∧ whO (mX8_read_l55 (nI k) (nI L) (nI Fo) (nI n)) n2 (nI 0, nI t, nI (2 * t), sA M 0 f) = some y ∧ RdE M ff h x y := by
  obtain ⟨s1, s2, s3, s4, s5, s6, s7⟩ := hs
  intro d
  induction d with
  | zero =>
    intro t a g f ht hv hp hi hy hf1 hf2 n1 n2 h1 h2
    obtain ⟨n1, rfl⟩ : ∃ q, n1 = q + 1 := ⟨n1 - 1, by omega⟩
    obtain ⟨n2, rfl⟩ : ∃ q, n2 = q + 1 := ⟨n2 - 1, by omega⟩
    refine ⟨_, _, whO_x (end7 _ _ _ _ _ _ _ (nI_le (by omega) (by omega))) n1, whO_x (end8 _ _ _ _ _ (by simp (disch := omega) only [↓reduceIte, obs, esc_il, esc_ir, leT, leF, ltT, ltF, eqT, eqF, nleT, nleF, nltT, nltF, neqT, neqF, nI_add, pk_mul, ald_nI, ast_nI, irm_nI, idv_nI, zbT, zbF, in_T, in_F1, in_F2, nI_l, sI_1, sI_2, sA_1, sA_2, subK, add0, sub0, or0, lN_add, lN_mul, L_0, L_1, L_2, L_3, L_4, L_5, L_6, L_7, L_8, L_9, L_10, L_11, L_12, L_13, L_14, L_15, L_16, L_17, L_18, L_19, L_20, L_30, L_31, L_32, L_35, L_37, L_39, L_40, L_43, L_48, L_57, L_59, L_60, L_97, L_99, L_100, L_120, L_122, L_127, L_160, L_200, L_255, L_999, L_1000, L_100000, L_1000000, L_24, L_33, L_34, L_36, L_38, L_69, L_70, L_72, L_214, L_215, L_288, L_174, L_175, L_206, LL_0, LL_1, LL_2, LL_3, LL_5, LL_9, LL_10, LL_11, LL_12, LL_19, LL_20, LL_30, LL_39, LL_60, LL_99, LL_127, LL_999])) n2, Or.inl ⟨_, _, _, _, g, a, f, rfl, rfl, hv, hp, hi, hy, hf1⟩⟩
  | succ d ih =>
    intro t a g f ht hv hp hi hy hf1 hf2 n1 n2 h1 h2
    have hb := hi.nb
    have hp' : PV ((sA M 0 f).1 0) 0 a := by rw [sA_s]; exact hp
    have hre : Low (M.1 0) (fun q => if 0 ≤ q ∧ q < 0 + 40 then f (120 + (q - 0)) else f q) := fun q hq => by
      show (if 0 ≤ q ∧ q < 0 + 40 then f (120 + (q - 0)) else f q) = _
      by_cases h40 : q < 40
      · rw [if_pos (by omega), Nat.sub_zero]; exact hf2 q h40
      · rw [if_neg (by omega)]; exact hf1 q (by omega) hq
    have hcp := copies_e (g := sA M 0 f) (i := 120) (j := 0) (by decide) (by decide) (by decide)
    rw [sA_s, sA_sA] at hcp
    by_cases hc : Fo + 2 * t < m
    · have st1 : mX8_read_l55 (nI k) (nI L) (nI Fo) (nI n) (nI 0, nI t, nI (2 * t), sA M 0 f) = some (.inl (nI 0, nI t, nI (2 * t + 1), sA M 0 f)) := by
        unfold mX8_read_l55
        simp (disch := omega) only [↓reduceIte, obs, esc_il, esc_ir, leT, leF, ltT, ltF, eqT, eqF, nleT, nleF, nltT, nltF, neqT, neqF, nI_add, pk_mul, ald_nI, ast_nI, irm_nI, idv_nI, zbT, zbF, in_T, in_F1, in_F2, nI_l, sI_1, sI_2, sA_1, sA_2, subK, add0, sub0, or0, lN_add, lN_mul, L_0, L_1, L_2, L_3, L_4, L_5, L_6, L_7, L_8, L_9, L_10, L_11, L_12, L_13, L_14, L_15, L_16, L_17, L_18, L_19, L_20, L_30, L_31, L_32, L_35, L_37, L_39, L_40, L_43, L_48, L_57, L_59, L_60, L_97, L_99, L_100, L_120, L_122, L_127, L_160, L_200, L_255, L_999, L_1000, L_100000, L_1000000, L_24, L_33, L_34, L_36, L_38, L_69, L_70, L_72, L_214, L_215, L_288, L_174, L_175, L_206, LL_0, LL_1, LL_2, LL_3, LL_5, LL_9, LL_10, LL_11, LL_12, LL_19, LL_20, LL_30, LL_39, LL_60, LL_99, LL_127, LL_999, s5, s6, m4N]
      obtain ⟨n2, rfl⟩ : ∃ q, n2 = q + 1 + 1 + 1 := ⟨n2 - 3, by omega⟩
      rw [whO_s st1]
      by_cases hc2 : Fo + 2 * t + 1 < m
      · obtain ⟨n1, rfl⟩ : ∃ q, n1 = q + 1 := ⟨n1 - 1, by omega⟩
        have i1 : 40 * k + Fo + (2 * t + 1) = 40 * k + (Fo + 2 * t + 1) := by omega
        have i2 : 40 * k + (Fo + 2 * t + 1) - 1 = 40 * k + (Fo + 2 * t) := by omega
        rcases pr_cs (M.1 22 (40 * k + (Fo + 2 * t))) (M.1 22 (40 * k + (Fo + 2 * t + 1))) with hbad | ⟨u, v, hu, hw, e1, e2⟩
        · have st7 : mX7_read_l55 ff h ro (nI L) (nI Fo) (nI n) (nI 0, nI t, nI t, g) = some (.inr (.inr (-nI 20 - nI t, ff, h, g))) := by
            unfold mX7_read_l55 mX6_faultOfPair mX6_faultAt mX6_cellAt
            simp (disch := omega) only [↓reduceIte, obs, esc_il, esc_ir, leT, leF, ltT, ltF, eqT, eqF, nleT, nleF, nltT, nltF, neqT, neqF, nI_add, pk_mul, ald_nI, ast_nI, irm_nI, idv_nI, zbT, zbF, in_T, in_F1, in_F2, nI_l, sI_1, sI_2, sA_1, sA_2, subK, add0, sub0, or0, lN_add, lN_mul, L_0, L_1, L_2, L_3, L_4, L_5, L_6, L_7, L_8, L_9, L_10, L_11, L_12, L_13, L_14, L_15, L_16, L_17, L_18, L_19, L_20, L_30, L_31, L_32, L_35, L_37, L_39, L_40, L_43, L_48, L_57, L_59, L_60, L_97, L_99, L_100, L_120, L_122, L_127, L_160, L_200, L_255, L_999, L_1000, L_100000, L_1000000, L_24, L_33, L_34, L_36, L_38, L_69, L_70, L_72, L_214, L_215, L_288, L_174, L_175, L_206, LL_0, LL_1, LL_2, LL_3, LL_5, LL_9, LL_10, LL_11, LL_12, LL_19, LL_20, LL_30, LL_39, LL_60, LL_99, LL_127, LL_999, s1, s3, m4N, s7, addBlock_bad hbad, m1F]
          have st8 : mX8_read_l55 (nI k) (nI L) (nI Fo) (nI n) (nI 0, nI t, nI (2 * t + 1), sA M 0 f) = some (.inr (.inr (-nI 20 - nI t, sA M 0 (fun q => if 0 ≤ q ∧ q < 0 + 40 then f (120 + (q - 0)) else f q)))) := by
            unfold mX8_read_l55
            simp (disch := omega) only [↓reduceIte, obs, esc_il, esc_ir, leT, leF, ltT, ltF, eqT, eqF, nleT, nleF, nltT, nltF, neqT, neqF, nI_add, pk_mul, ald_nI, ast_nI, irm_nI, idv_nI, zbT, zbF, in_T, in_F1, in_F2, nI_l, sI_1, sI_2, sA_1, sA_2, subK, add0, sub0, or0, lN_add, lN_mul, L_0, L_1, L_2, L_3, L_4, L_5, L_6, L_7, L_8, L_9, L_10, L_11, L_12, L_13, L_14, L_15, L_16, L_17, L_18, L_19, L_20, L_30, L_31, L_32, L_35, L_37, L_39, L_40, L_43, L_48, L_57, L_59, L_60, L_97, L_99, L_100, L_120, L_122, L_127, L_160, L_200, L_255, L_999, L_1000, L_100000, L_1000000, L_24, L_33, L_34, L_36, L_38, L_69, L_70, L_72, L_214, L_215, L_288, L_174, L_175, L_206, LL_0, LL_1, LL_2, LL_3, LL_5, LL_9, LL_10, LL_11, LL_12, LL_19, LL_20, LL_30, LL_39, LL_60, LL_99, LL_127, LL_999, s5, s6, m4N, i1, i2, prints_bad hbad, m1F, hcp]
          exact ⟨_, _, whO_x st7 n1, whO_x st8 _, Or.inr ⟨_, g, _, rfl, rfl, hre⟩⟩
        · by_cases hl : a.2 5 < 6
          · have st7 : mX7_read_l55 ff h ro (nI L) (nI Fo) (nI n) (nI 0, nI t, nI t, g) = some (.inl (nI 0, nI (t + 1), nI (t + 1), sI (sA (sA g 0 (upd (g.1 0) (a.2 5) (nI u))) 1 (upd (g.1 1) (a.2 5) (nI v))) 5 (nI (a.2 5 + 1)))) := by
              unfold mX7_read_l55 mX6_faultOfPair mX6_faultAt mX6_cellAt
              simp (disch := omega) only [↓reduceIte, obs, esc_il, esc_ir, leT, leF, ltT, ltF, eqT, eqF, nleT, nleF, nltT, nltF, neqT, neqF, nI_add, pk_mul, ald_nI, ast_nI, irm_nI, idv_nI, zbT, zbF, in_T, in_F1, in_F2, nI_l, sI_1, sI_2, sA_1, sA_2, subK, add0, sub0, or0, lN_add, lN_mul, L_0, L_1, L_2, L_3, L_4, L_5, L_6, L_7, L_8, L_9, L_10, L_11, L_12, L_13, L_14, L_15, L_16, L_17, L_18, L_19, L_20, L_30, L_31, L_32, L_35, L_37, L_39, L_40, L_43, L_48, L_57, L_59, L_60, L_97, L_99, L_100, L_120, L_122, L_127, L_160, L_200, L_255, L_999, L_1000, L_100000, L_1000000, L_24, L_33, L_34, L_36, L_38, L_69, L_70, L_72, L_214, L_215, L_288, L_174, L_175, L_206, LL_0, LL_1, LL_2, LL_3, LL_5, LL_9, LL_10, LL_11, LL_12, LL_19, LL_20, LL_30, LL_39, LL_60, LL_99, LL_127, LL_999, s1, s3, m4N, s7, e1, e2, addBlock_e hv hi hu hw hl]
            have st8 : mX8_read_l55 (nI k) (nI L) (nI Fo) (nI n) (nI 0, nI t, nI (2 * t + 1), sA M 0 f) = some (.inl (nI 0, nI (t + 1), nI (2 * (t + 1)), sA M 0 (upd (upd (upd f (a.2 5) (nI u)) (6 + a.2 5) (nI v)) 12 (nI (a.2 5 + 1))))) := by
              have hpr := prints_e hp' hi hu hw hl
              rw [sA_s, sA_sA] at hpr
              unfold mX8_read_l55
              rw [show 2 * (t + 1) = 2 * t + 1 + 1 by omega]
              simp (disch := omega) only [↓reduceIte, obs, esc_il, esc_ir, leT, leF, ltT, ltF, eqT, eqF, nleT, nleF, nltT, nltF, neqT, neqF, nI_add, pk_mul, ald_nI, ast_nI, irm_nI, idv_nI, zbT, zbF, in_T, in_F1, in_F2, nI_l, sI_1, sI_2, sA_1, sA_2, subK, add0, sub0, or0, lN_add, lN_mul, L_0, L_1, L_2, L_3, L_4, L_5, L_6, L_7, L_8, L_9, L_10, L_11, L_12, L_13, L_14, L_15, L_16, L_17, L_18, L_19, L_20, L_30, L_31, L_32, L_35, L_37, L_39, L_40, L_43, L_48, L_57, L_59, L_60, L_97, L_99, L_100, L_120, L_122, L_127, L_160, L_200, L_255, L_999, L_1000, L_100000, L_1000000, L_24, L_33, L_34, L_36, L_38, L_69, L_70, L_72, L_214, L_215, L_288, L_174, L_175, L_206, LL_0, LL_1, LL_2, LL_3, LL_5, LL_9, LL_10, LL_11, LL_12, LL_19, LL_20, LL_30, LL_39, LL_60, LL_99, LL_127, LL_999, s5, s6, m4N, i1, i2, e1, e2, hpr]
            rw [whO_s st7, whO_s st8]
            exact ih (t + 1) (ap_bl a u v) _ _ (by omega) (hv.bl u v) (P0.bl hp hi hl u v) (hi.bl hl u v hu hw) hy (fun q h3 h4 => by
              simp (disch := omega) only [upd_e, ↓reduceIte, neqF]; exact hf1 q h3 h4) (fun q h3 => by
              simp (disch := omega) only [upd_e, ↓reduceIte, neqF]; exact hf2 q h3) n1 _ (by omega) (by omega)
          · have hl6 : a.2 5 = 6 := by omega
            have st7 : mX7_read_l55 ff h ro (nI L) (nI Fo) (nI n) (nI 0, nI t, nI t, g) = some (.inr (.inr (-nI 20 - nI t, ff, h, g))) := by
              unfold mX7_read_l55 mX6_faultOfPair mX6_faultAt mX6_cellAt
              simp (disch := omega) only [↓reduceIte, obs, esc_il, esc_ir, leT, leF, ltT, ltF, eqT, eqF, nleT, nleF, nltT, nltF, neqT, neqF, nI_add, pk_mul, ald_nI, ast_nI, irm_nI, idv_nI, zbT, zbF, in_T, in_F1, in_F2, nI_l, sI_1, sI_2, sA_1, sA_2, subK, add0, sub0, or0, lN_add, lN_mul, L_0, L_1, L_2, L_3, L_4, L_5, L_6, L_7, L_8, L_9, L_10, L_11, L_12, L_13, L_14, L_15, L_16, L_17, L_18, L_19, L_20, L_30, L_31, L_32, L_35, L_37, L_39, L_40, L_43, L_48, L_57, L_59, L_60, L_97, L_99, L_100, L_120, L_122, L_127, L_160, L_200, L_255, L_999, L_1000, L_100000, L_1000000, L_24, L_33, L_34, L_36, L_38, L_69, L_70, L_72, L_214, L_215, L_288, L_174, L_175, L_206, LL_0, LL_1, LL_2, LL_3, LL_5, LL_9, LL_10, LL_11, LL_12, LL_19, LL_20, LL_30, LL_39, LL_60, LL_99, LL_127, LL_999, s1, s3, m4N, s7, e1, e2, addBlock_full hv hi hu hw hl6, m3F]
            have st8 : mX8_read_l55 (nI k) (nI L) (nI Fo) (nI n) (nI 0, nI t, nI (2 * t + 1), sA M 0 f) = some (.inr (.inr (-nI 20 - nI t, sA M 0 (fun q => if 0 ≤ q ∧ q < 0 + 40 then f (120 + (q - 0)) else f q)))) := by
              unfold mX8_read_l55
              simp (disch := omega) only [↓reduceIte, obs, esc_il, esc_ir, leT, leF, ltT, ltF, eqT, eqF, nleT, nleF, nltT, nltF, neqT, neqF, nI_add, pk_mul, ald_nI, ast_nI, irm_nI, idv_nI, zbT, zbF, in_T, in_F1, in_F2, nI_l, sI_1, sI_2, sA_1, sA_2, subK, add0, sub0, or0, lN_add, lN_mul, L_0, L_1, L_2, L_3, L_4, L_5, L_6, L_7, L_8, L_9, L_10, L_11, L_12, L_13, L_14, L_15, L_16, L_17, L_18, L_19, L_20, L_30, L_31, L_32, L_35, L_37, L_39, L_40, L_43, L_48, L_57, L_59, L_60, L_97, L_99, L_100, L_120, L_122, L_127, L_160, L_200, L_255, L_999, L_1000, L_100000, L_1000000, L_24, L_33, L_34, L_36, L_38, L_69, L_70, L_72, L_214, L_215, L_288, L_174, L_175, L_206, LL_0, LL_1, LL_2, LL_3, LL_5, LL_9, LL_10, LL_11, LL_12, LL_19, LL_20, LL_30, LL_39, LL_60, LL_99, LL_127, LL_999, s5, s6, m4N, i1, i2, e1, e2, prints_full hp' hi hu hw hl6, m3F, hcp]
            exact ⟨_, _, whO_x st7 n1, whO_x st8 _, Or.inr ⟨_, g, _, rfl, rfl, hre⟩⟩
      · obtain ⟨n1, rfl⟩ : ∃ q, n1 = q + 1 + 1 := ⟨n1 - 2, by omega⟩
        have st7 : mX7_read_l55 ff h ro (nI L) (nI Fo) (nI n) (nI 0, nI t, nI t, g) = some (.inl (nI 2, nI t, nI (t + 1), g)) := by
          unfold mX7_read_l55 mX6_faultOfPair mX6_faultAt mX6_cellAt
          simp (disch := omega) only [↓reduceIte, obs, esc_il, esc_ir, leT, leF, ltT, ltF, eqT, eqF, nleT, nleF, nltT, nltF, neqT, neqF, nI_add, pk_mul, ald_nI, ast_nI, irm_nI, idv_nI, zbT, zbF, in_T, in_F1, in_F2, nI_l, sI_1, sI_2, sA_1, sA_2, subK, add0, sub0, or0, lN_add, lN_mul, L_0, L_1, L_2, L_3, L_4, L_5, L_6, L_7, L_8, L_9, L_10, L_11, L_12, L_13, L_14, L_15, L_16, L_17, L_18, L_19, L_20, L_30, L_31, L_32, L_35, L_37, L_39, L_40, L_43, L_48, L_57, L_59, L_60, L_97, L_99, L_100, L_120, L_122, L_127, L_160, L_200, L_255, L_999, L_1000, L_100000, L_1000000, L_24, L_33, L_34, L_36, L_38, L_69, L_70, L_72, L_214, L_215, L_288, L_174, L_175, L_206, LL_0, LL_1, LL_2, LL_3, LL_5, LL_9, LL_10, LL_11, LL_12, LL_19, LL_20, LL_30, LL_39, LL_60, LL_99, LL_127, LL_999, s1, s3, m4N]
        have st8 : mX8_read_l55 (nI k) (nI L) (nI Fo) (nI n) (nI 0, nI t, nI (2 * t + 1), sA M 0 f) = some (.inl (nI 2, nI t, nI (2 * t + 1 + 1), sA M 0 f)) := by
          unfold mX8_read_l55
          simp (disch := omega) only [↓reduceIte, obs, esc_il, esc_ir, leT, leF, ltT, ltF, eqT, eqF, nleT, nleF, nltT, nltF, neqT, neqF, nI_add, pk_mul, ald_nI, ast_nI, irm_nI, idv_nI, zbT, zbF, in_T, in_F1, in_F2, nI_l, sI_1, sI_2, sA_1, sA_2, subK, add0, sub0, or0, lN_add, lN_mul, L_0, L_1, L_2, L_3, L_4, L_5, L_6, L_7, L_8, L_9, L_10, L_11, L_12, L_13, L_14, L_15, L_16, L_17, L_18, L_19, L_20, L_30, L_31, L_32, L_35, L_37, L_39, L_40, L_43, L_48, L_57, L_59, L_60, L_97, L_99, L_100, L_120, L_122, L_127, L_160, L_200, L_255, L_999, L_1000, L_100000, L_1000000, L_24, L_33, L_34, L_36, L_38, L_69, L_70, L_72, L_214, L_215, L_288, L_174, L_175, L_206, LL_0, LL_1, LL_2, LL_3, LL_5, LL_9, LL_10, LL_11, LL_12, LL_19, LL_20, LL_30, LL_39, LL_60, LL_99, LL_127, LL_999, s5, s6, m4N]
        rw [whO_s st7, whO_s st8, whO_x (ex7 _ _ _ _ _ _ _ (show ¬ nI 2 = 0 by decide)), whO_x (ex8 _ _ _ _ _ (show ¬ nI 2 = 0 by decide))]
        exact ⟨_, _, rfl, rfl, Or.inl ⟨_, _, _, _, g, a, f, rfl, rfl, hv, hp, hi, hy, hf1⟩⟩
    · obtain ⟨n1, rfl⟩ : ∃ q, n1 = q + 1 + 1 := ⟨n1 - 2, by omega⟩
      obtain ⟨n2, rfl⟩ : ∃ q, n2 = q + 1 + 1 := ⟨n2 - 2, by omega⟩
      have st7 : mX7_read_l55 ff h ro (nI L) (nI Fo) (nI n) (nI 0, nI t, nI t, g) = some (.inl (nI 2, nI t, nI (t + 1), g)) := by
        unfold mX7_read_l55 mX6_faultOfPair mX6_faultAt mX6_cellAt
        simp (disch := omega) only [↓reduceIte, obs, esc_il, esc_ir, leT, leF, ltT, ltF, eqT, eqF, nleT, nleF, nltT, nltF, neqT, neqF, nI_add, pk_mul, ald_nI, ast_nI, irm_nI, idv_nI, zbT, zbF, in_T, in_F1, in_F2, nI_l, sI_1, sI_2, sA_1, sA_2, subK, add0, sub0, or0, lN_add, lN_mul, L_0, L_1, L_2, L_3, L_4, L_5, L_6, L_7, L_8, L_9, L_10, L_11, L_12, L_13, L_14, L_15, L_16, L_17, L_18, L_19, L_20, L_30, L_31, L_32, L_35, L_37, L_39, L_40, L_43, L_48, L_57, L_59, L_60, L_97, L_99, L_100, L_120, L_122, L_127, L_160, L_200, L_255, L_999, L_1000, L_100000, L_1000000, L_24, L_33, L_34, L_36, L_38, L_69, L_70, L_72, L_214, L_215, L_288, L_174, L_175, L_206, LL_0, LL_1, LL_2, LL_3, LL_5, LL_9, LL_10, LL_11, LL_12, LL_19, LL_20, LL_30, LL_39, LL_60, LL_99, LL_127, LL_999, s1, s3, m4N]
      have st8 : mX8_read_l55 (nI k) (nI L) (nI Fo) (nI n) (nI 0, nI t, nI (2 * t), sA M 0 f) = some (.inl (nI 2, nI t, nI (2 * t + 1), sA M 0 f)) := by
        unfold mX8_read_l55
        simp (disch := omega) only [↓reduceIte, obs, esc_il, esc_ir, leT, leF, ltT, ltF, eqT, eqF, nleT, nleF, nltT, nltF, neqT, neqF, nI_add, pk_mul, ald_nI, ast_nI, irm_nI, idv_nI, zbT, zbF, in_T, in_F1, in_F2, nI_l, sI_1, sI_2, sA_1, sA_2, subK, add0, sub0, or0, lN_add, lN_mul, L_0, L_1, L_2, L_3, L_4, L_5, L_6, L_7, L_8, L_9, L_10, L_11, L_12, L_13, L_14, L_15, L_16, L_17, L_18, L_19, L_20, L_30, L_31, L_32, L_35, L_37, L_39, L_40, L_43, L_48, L_57, L_59, L_60, L_97, L_99, L_100, L_120, L_122, L_127, L_160, L_200, L_255, L_999, L_1000, L_100000, L_1000000, L_24, L_33, L_34, L_36, L_38, L_69, L_70, L_72, L_214, L_215, L_288, L_174, L_175, L_206, LL_0, LL_1, LL_2, LL_3, LL_5, LL_9, LL_10, LL_11, LL_12, LL_19, LL_20, LL_30, LL_39, LL_60, LL_99, LL_127, LL_999, s5, s6, m4N]
      rw [whO_s st7, whO_s st8, whO_x (ex7 _ _ _ _ _ _ _ (show ¬ nI 2 = 0 by decide)), whO_x (ex8 _ _ _ _ _ (show ¬ nI 2 = 0 by decide))]
      exact ⟨_, _, rfl, rfl, Or.inl ⟨_, _, _, _, g, a, f, rfl, rfl, hv, hp, hi, hy, hf1⟩⟩
theorem laddz (x : Int64) : x + lN 0 = x := Int64.add_zero x
/-- all of the reading, from its first step on -/
theorem read_all {F : FS} {M : GS} (hR : Rel F M) {k : Nat} (hk : k < 4) {L : Nat} (hL : L ≤ 2) (j : Int32) {n : Nat} (hn : n ≤ 20) {g : GS} {f : Nat → Int32} {a : AH} (hv : HV g a) (hp : PV f 0 a) (hi : HI a) (hy : a.2 11 ≤ 999) (hf1 : ∀ q, 40 ≤ q → q < 120 → f q = M.1 0 q) (hf2 : ∀ q, q < 40 → f (120 + q) = M.1 0 q) : ∃ x y, whO (mX7_read_l55 (F.2.1 2) (F.1 0) (F.1 (8 + k)) (nI L) j (nI n)) FU (nI 0, nI 0, nI 0, g) = some x ∧ whO (mX8_read_l55 (nI k) (nI L) j (nI n)) FU (nI 0, nI 0, nI 0, sA M 0 f) = some y ∧ RdE M (F.2.1 2) (F.1 0) x y := by
  obtain ⟨e1, e2, m, e3, e4, e5, e6⟩ := hR.R k hk
  have hb := hi.nb
  rcases Nat.eq_zero_or_pos n with rfl | h0
  · rw [show FU = 999999 + 1 from rfl]
    refine ⟨_, _, whO_x (end7 _ _ _ _ _ _ _ (nI_le (by omega) (by omega))) _, whO_x (end8 _ _ _ _ _ (by simp (disch := omega) only [↓reduceIte, obs, esc_il, esc_ir, leT, leF, ltT, ltF, eqT, eqF, nleT, nleF, nltT, nltF, neqT, neqF, nI_add, pk_mul, ald_nI, ast_nI, irm_nI, idv_nI, zbT, zbF, in_T, in_F1, in_F2, nI_l, sI_1, sI_2, sA_1, sA_2, subK, add0, sub0, or0, lN_add, lN_mul, L_0, L_1, L_2, L_3, L_4, L_5, L_6, L_7, L_8, L_9, L_10, L_11, L_12, L_13, L_14, L_15, L_16, L_17, L_18, L_19, L_20, L_30, L_31, L_32, L_35, L_37, L_39, L_40, L_43, L_48, L_57, L_59, L_60, L_97, L_99, L_100, L_120, L_122, L_127, L_160, L_200, L_255, L_999, L_1000, L_100000, L_1000000, L_24, L_33, L_34, L_36, L_38, L_69, L_70, L_72, L_214, L_215, L_288, L_174, L_175, L_206, LL_0, LL_1, LL_2, LL_3, LL_5, LL_9, LL_10, LL_11, LL_12, LL_19, LL_20, LL_30, LL_39, LL_60, LL_99, LL_127, LL_999])) _, Or.inl ⟨_, _, _, _, g, a, f, rfl, rfl, hv, hp, hi, hy, hf1⟩⟩
  have fin : ∀ by_ : Nat, 0 < by_ → by_ < 4 → mX7_read_l55 (F.2.1 2) (F.1 0) (F.1 (8 + k)) (nI L) j (nI n) (nI 0, nI 0, nI 0, g) = some (.inl (nI by_, nI 0, nI 1, g)) → mX8_read_l55 (nI k) (nI L) j (nI n) (nI 0, nI 0, nI 0, sA M 0 f) = some (.inl (nI by_, nI 0, nI 1, sA M 0 f)) → ∃ x y, whO (mX7_read_l55 (F.2.1 2) (F.1 0) (F.1 (8 + k)) (nI L) j (nI n)) FU (nI 0, nI 0, nI 0, g) = some x ∧ whO (mX8_read_l55 (nI k) (nI L) j (nI n)) FU (nI 0, nI 0, nI 0, sA M 0 f) = some y ∧ RdE M (F.2.1 2) (F.1 0) x y := by
    intro b h1 h2 st7 st8
    rw [show FU = 999998 + 1 + 1 from rfl, whO_s st7, whO_s st8, whO_x (ex7 _ _ _ _ _ _ _ (nI_ne0 h1 (by omega))), whO_x (ex8 _ _ _ _ _ (nI_ne0 h1 (by omega)))]
    exact ⟨_, _, rfl, rfl, Or.inl ⟨_, _, _, _, g, a, f, rfl, rfl, hv, hp, hi, hy, hf1⟩⟩
  rcases e2 with e2 | ⟨t, ht, e2⟩
  · refine fin 1 (by decide) (by decide) ?_ ?_
    · unfold mX7_read_l55 mX6_faultOfPair mX6_faultAt
      rw [e1, e2]
      simp (disch := omega) only [↓reduceIte, obs, esc_il, esc_ir, leT, leF, ltT, ltF, eqT, eqF, nleT, nleF, nltT, nltF, neqT, neqF, nI_add, pk_mul, ald_nI, ast_nI, irm_nI, idv_nI, zbT, zbF, in_T, in_F1, in_F2, nI_l, sI_1, sI_2, sA_1, sA_2, subK, add0, sub0, or0, lN_add, lN_mul, L_0, L_1, L_2, L_3, L_4, L_5, L_6, L_7, L_8, L_9, L_10, L_11, L_12, L_13, L_14, L_15, L_16, L_17, L_18, L_19, L_20, L_30, L_31, L_32, L_35, L_37, L_39, L_40, L_43, L_48, L_57, L_59, L_60, L_97, L_99, L_100, L_120, L_122, L_127, L_160, L_200, L_255, L_999, L_1000, L_100000, L_1000000, L_24, L_33, L_34, L_36, L_38, L_69, L_70, L_72, L_214, L_215, L_288, L_174, L_175, L_206, LL_0, LL_1, LL_2, LL_3, LL_5, LL_9, LL_10, LL_11, LL_12, LL_19, LL_20, LL_30, LL_39, LL_60, LL_99, LL_127, LL_999]
    · unfold mX8_read_l55
      simp (disch := omega) only [↓reduceIte, obs, esc_il, esc_ir, leT, leF, ltT, ltF, eqT, eqF, nleT, nleF, nltT, nltF, neqT, neqF, nI_add, pk_mul, ald_nI, ast_nI, irm_nI, idv_nI, zbT, zbF, in_T, in_F1, in_F2, nI_l, sI_1, sI_2, sA_1, sA_2, subK, add0, sub0, or0, lN_add, lN_mul, L_0, L_1, L_2, L_3, L_4, L_5, L_6, L_7, L_8, L_9, L_10, L_11, L_12, L_13, L_14, L_15, L_16, L_17, L_18, L_19, L_20, L_30, L_31, L_32, L_35, L_37, L_39, L_40, L_43, L_48, L_57, L_59, L_60, L_97, L_99, L_100, L_120, L_122, L_127, L_160, L_200, L_255, L_999, L_1000, L_100000, L_1000000, L_24, L_33, L_34, L_36, L_38, L_69, L_70, L_72, L_214, L_215, L_288, L_174, L_175, L_206, LL_0, LL_1, LL_2, LL_3, LL_5, LL_9, LL_10, LL_11, LL_12, LL_19, LL_20, LL_30, LL_39, LL_60, LL_99, LL_127, LL_999, e2]
  by_cases htL : t = L
  · subst htL
    rw [e2] at e1
    rcases cs2 j with h | ⟨Fo, hFo, rfl⟩
    · refine fin 2 (by decide) (by decide) ?_ ?_
      · unfold mX7_read_l55 mX6_faultOfPair mX6_faultAt
        simp (disch := omega) only [↓reduceIte, obs, esc_il, esc_ir, leT, leF, ltT, ltF, eqT, eqF, nleT, nleF, nltT, nltF, neqT, neqF, nI_add, pk_mul, ald_nI, ast_nI, irm_nI, idv_nI, zbT, zbF, in_T, in_F1, in_F2, nI_l, sI_1, sI_2, sA_1, sA_2, subK, add0, sub0, or0, lN_add, lN_mul, L_0, L_1, L_2, L_3, L_4, L_5, L_6, L_7, L_8, L_9, L_10, L_11, L_12, L_13, L_14, L_15, L_16, L_17, L_18, L_19, L_20, L_30, L_31, L_32, L_35, L_37, L_39, L_40, L_43, L_48, L_57, L_59, L_60, L_97, L_99, L_100, L_120, L_122, L_127, L_160, L_200, L_255, L_999, L_1000, L_100000, L_1000000, L_24, L_33, L_34, L_36, L_38, L_69, L_70, L_72, L_214, L_215, L_288, L_174, L_175, L_206, LL_0, LL_1, LL_2, LL_3, LL_5, LL_9, LL_10, LL_11, LL_12, LL_19, LL_20, LL_30, LL_39, LL_60, LL_99, LL_127, LL_999, e1, e4, m4N, Nat.mul_zero, ngLt h, ngLe h, ngGe h, ngGt h, ngEq h, ngEq' h, in_ng h, zb_ng h]
      · unfold mX8_read_l55
        simp (disch := omega) only [↓reduceIte, obs, esc_il, esc_ir, leT, leF, ltT, ltF, eqT, eqF, nleT, nleF, nltT, nltF, neqT, neqF, nI_add, pk_mul, ald_nI, ast_nI, irm_nI, idv_nI, zbT, zbF, in_T, in_F1, in_F2, nI_l, sI_1, sI_2, sA_1, sA_2, subK, add0, sub0, or0, lN_add, lN_mul, L_0, L_1, L_2, L_3, L_4, L_5, L_6, L_7, L_8, L_9, L_10, L_11, L_12, L_13, L_14, L_15, L_16, L_17, L_18, L_19, L_20, L_30, L_31, L_32, L_35, L_37, L_39, L_40, L_43, L_48, L_57, L_59, L_60, L_97, L_99, L_100, L_120, L_122, L_127, L_160, L_200, L_255, L_999, L_1000, L_100000, L_1000000, L_24, L_33, L_34, L_36, L_38, L_69, L_70, L_72, L_214, L_215, L_288, L_174, L_175, L_206, LL_0, LL_1, LL_2, LL_3, LL_5, LL_9, LL_10, LL_11, LL_12, LL_19, LL_20, LL_30, LL_39, LL_60, LL_99, LL_127, LL_999, e2, e5, m4N, laddz, ngLt h, ngLe h, ngGe h, ngGt h, ngEq h, ngEq' h, in_ng h, zb_ng h]
    · by_cases hFm : Fo < m
      · have hsh : Sh (F.1 (8 + k)) M k t m := ⟨e1, ht, e4, e3, e2, e5, e6⟩
        have := read_ind (ff := F.2.1 2) (h := F.1 0) hk hsh hFm hn n 0 a g f (by omega) hv hp hi hy hf1 hf2 FU FU (by show _ < 1000000; omega) (by show _ < 1000000; omega)
        rwa [Nat.mul_zero] at this
      · have hin : mX8_in (lN Fo) (lN 0) (nI m - nI 1).toInt64 = some (nI 0) := by
          have h2 := in_lay e3 (nI Fo)
          rw [nI_l hFo, zb_n (Or.inr (by rw [nI_clamp hFo]; omega))] at h2
          exact h2
        refine fin 2 (by decide) (by decide) ?_ ?_
        · unfold mX7_read_l55 mX6_faultOfPair mX6_faultAt
          simp (disch := omega) only [↓reduceIte, obs, esc_il, esc_ir, leT, leF, ltT, ltF, eqT, eqF, nleT, nleF, nltT, nltF, neqT, neqF, nI_add, pk_mul, ald_nI, ast_nI, irm_nI, idv_nI, zbT, zbF, in_T, in_F1, in_F2, nI_l, sI_1, sI_2, sA_1, sA_2, subK, add0, sub0, or0, lN_add, lN_mul, L_0, L_1, L_2, L_3, L_4, L_5, L_6, L_7, L_8, L_9, L_10, L_11, L_12, L_13, L_14, L_15, L_16, L_17, L_18, L_19, L_20, L_30, L_31, L_32, L_35, L_37, L_39, L_40, L_43, L_48, L_57, L_59, L_60, L_97, L_99, L_100, L_120, L_122, L_127, L_160, L_200, L_255, L_999, L_1000, L_100000, L_1000000, L_24, L_33, L_34, L_36, L_38, L_69, L_70, L_72, L_214, L_215, L_288, L_174, L_175, L_206, LL_0, LL_1, LL_2, LL_3, LL_5, LL_9, LL_10, LL_11, LL_12, LL_19, LL_20, LL_30, LL_39, LL_60, LL_99, LL_127, LL_999, e1, e4, m4N, Nat.mul_zero, Nat.add_zero]
        · unfold mX8_read_l55
          simp (disch := omega) only [↓reduceIte, obs, esc_il, esc_ir, leT, leF, ltT, ltF, eqT, eqF, nleT, nleF, nltT, nltF, neqT, neqF, nI_add, pk_mul, ald_nI, ast_nI, irm_nI, idv_nI, zbT, zbF, in_T, in_F1, in_F2, nI_l, sI_1, sI_2, sA_1, sA_2, add0, sub0, or0, lN_add, lN_mul, L_0, L_1, L_2, L_3, L_4, L_5, L_6, L_7, L_8, L_9, L_10, L_11, L_12, L_13, L_14, L_15, L_16, L_17, L_18, L_19, L_20, L_30, L_31, L_32, L_35, L_37, L_39, L_40, L_43, L_48, L_57, L_59, L_60, L_97, L_99, L_100, L_120, L_122, L_127, L_160, L_200, L_255, L_999, L_1000, L_100000, L_1000000, L_24, L_33, L_34, L_36, L_38, L_69, L_70, L_72, L_214, L_215, L_288, L_174, L_175, L_206, LL_0, LL_1, LL_2, LL_3, LL_5, LL_9, LL_10, LL_11, LL_12, LL_19, LL_20, LL_30, LL_39, LL_60, LL_99, LL_127, LL_999, e2, e5, m4N, laddz, hin, Nat.add_zero]
  · refine fin 3 (by decide) (by decide) ?_ ?_
    · unfold mX7_read_l55 mX6_faultOfPair mX6_faultAt
      rw [e1, e2]
      simp (disch := omega) only [↓reduceIte, obs, esc_il, esc_ir, leT, leF, ltT, ltF, eqT, eqF, nleT, nleF, nltT, nltF, neqT, neqF, nI_add, pk_mul, ald_nI, ast_nI, irm_nI, idv_nI, zbT, zbF, in_T, in_F1, in_F2, nI_l, sI_1, sI_2, sA_1, sA_2, subK, add0, sub0, or0, lN_add, lN_mul, L_0, L_1, L_2, L_3, L_4, L_5, L_6, L_7, L_8, L_9, L_10, L_11, L_12, L_13, L_14, L_15, L_16, L_17, L_18, L_19, L_20, L_30, L_31, L_32, L_35, L_37, L_39, L_40, L_43, L_48, L_57, L_59, L_60, L_97, L_99, L_100, L_120, L_122, L_127, L_160, L_200, L_255, L_999, L_1000, L_100000, L_1000000, L_24, L_33, L_34, L_36, L_38, L_69, L_70, L_72, L_214, L_215, L_288, L_174, L_175, L_206, LL_0, LL_1, LL_2, LL_3, LL_5, LL_9, LL_10, LL_11, LL_12, LL_19, LL_20, LL_30, LL_39, LL_60, LL_99, LL_127, LL_999, m4N]
    · unfold mX8_read_l55
      simp (disch := omega) only [↓reduceIte, obs, esc_il, esc_ir, leT, leF, ltT, ltF, eqT, eqF, nleT, nleF, nltT, nltF, neqT, neqF, nI_add, pk_mul, ald_nI, ast_nI, irm_nI, idv_nI, zbT, zbF, in_T, in_F1, in_F2, nI_l, sI_1, sI_2, sA_1, sA_2, subK, add0, sub0, or0, lN_add, lN_mul, L_0, L_1, L_2, L_3, L_4, L_5, L_6, L_7, L_8, L_9, L_10, L_11, L_12, L_13, L_14, L_15, L_16, L_17, L_18, L_19, L_20, L_30, L_31, L_32, L_35, L_37, L_39, L_40, L_43, L_48, L_57, L_59, L_60, L_97, L_99, L_100, L_120, L_122, L_127, L_160, L_200, L_255, L_999, L_1000, L_100000, L_1000000, L_24, L_33, L_34, L_36, L_38, L_69, L_70, L_72, L_214, L_215, L_288, L_174, L_175, L_206, LL_0, LL_1, LL_2, LL_3, LL_5, LL_9, LL_10, LL_11, LL_12, LL_19, LL_20, LL_30, LL_39, LL_60, LL_99, LL_127, LL_999, e2, m4N]
theorem Rel.rd {F : FS} {M : GS} (hR : Rel F M) {h' : GS} {f' : Nat → Int32} (hh : HP h' f' 0) (hf : ∀ q, 40 ≤ q → q < 120 → f' q = M.1 0 q) (g : GS) (v : Int32) : Rel (va_up (va_up F.1 0 h') 1 g, va_up F.2.1 2 v, F.2.2) (sI (sA M 0 f') 23 v) := by
  refine hR.mk2 hh ?_ ?_ hR.T hR.F hR.S (hR.R 0 (by decide)) (hR.R 1 (by decide)) (hR.R 2 (by decide)) (hR.R 3 (by decide)) rfl rfl rfl
  · obtain ⟨w, w1, w2, w3, w4⟩ := hR.I 0 (by decide)
    exact ⟨w, w1, w2, w3, fun hw => (w4 hw).agree (fun q h1 h2 => hf q (by omega) (by omega))⟩
  · obtain ⟨w, w1, w2, w3, w4⟩ := hR.I 1 (by decide)
    exact ⟨w, w1, w2, w3, fun hw => (w4 hw).agree (fun q h1 h2 => hf q (by omega) (by omega))⟩
theorem st_read_g {F : FS} {M : GS} (hR : Rel F M) (k : Nat) (hk : k < 4) (r : Int32) (i : Int32) (j : Int32) (n : Int32) (hs : ¬ (r < 0 ∨ 4 ≤ r.toNatClampNeg) → r.toNatClampNeg = k) : ∃ (o : Int32 × Int32 × GS × GS) (o' : Int32 × GS), mX7_read (F.2.1 2) (F.1 0) (F.1 1) (F.1 (8 + k)) r i j n = some o ∧ mX8_read M r i j n = some o' ∧ o.1 = o'.1 ∧ Rel ((va_up (va_up F.1 0 o.2.2.1) 1 o.2.2.2), (va_up F.2.1 2 o.2.1), F.2.2) o'.2 := by
  obtain ⟨⟨a, hv, hp, hi, hy⟩, -⟩ := id hR
  have hb := hi.nb
  have hsame : Rel (va_up (va_up F.1 0 (F.1 0)) 1 (F.1 1), va_up F.2.1 2 (F.2.1 2), F.2.2) M := by
    rw [up_id2, up_id2, up_id2]; exact hR
  unfold mX7_read mX8_read
  by_cases hr : r < 0 ∨ 4 ≤ r.toNatClampNeg
  · rw [if_pos hr, sel_n (N := 4) (by decide) hr (by decide)]
    exact ⟨_, _, rfl, rfl, rfl, hsame⟩
  have e := sel_y hk (by decide) hr hs
  subst e
  rw [if_neg hr]
  rcases cs2 i with h | ⟨L, hL0, rfl⟩
  · simp (disch := omega) only [↓reduceIte, obs, esc_il, esc_ir, leT, leF, ltT, ltF, eqT, eqF, nleT, nleF, nltT, nltF, neqT, neqF, nI_add, pk_mul, ald_nI, ast_nI, irm_nI, idv_nI, zbT, zbF, in_T, in_F1, in_F2, nI_l, sI_1, sI_2, sA_1, sA_2, subK, add0, sub0, or0, lN_add, lN_mul, L_0, L_1, L_2, L_3, L_4, L_5, L_6, L_7, L_8, L_9, L_10, L_11, L_12, L_13, L_14, L_15, L_16, L_17, L_18, L_19, L_20, L_30, L_31, L_32, L_35, L_37, L_39, L_40, L_43, L_48, L_57, L_59, L_60, L_97, L_99, L_100, L_120, L_122, L_127, L_160, L_200, L_255, L_999, L_1000, L_100000, L_1000000, L_24, L_33, L_34, L_36, L_38, L_69, L_70, L_72, L_214, L_215, L_288, L_174, L_175, L_206, LL_0, LL_1, LL_2, LL_3, LL_5, LL_9, LL_10, LL_11, LL_12, LL_19, LL_20, LL_30, LL_39, LL_60, LL_99, LL_127, LL_999, ngLt h, ngLe h, ngGe h, ngGt h, ngEq h, ngEq' h, in_ng h, zb_ng h]
    exact ⟨_, _, rfl, rfl, rfl, hsame⟩
  by_cases hL : L < 3
  · rcases cs2 n with h | ⟨m, hm, rfl⟩
    · simp (disch := omega) only [↓reduceIte, obs, esc_il, esc_ir, leT, leF, ltT, ltF, eqT, eqF, nleT, nleF, nltT, nltF, neqT, neqF, nI_add, pk_mul, ald_nI, ast_nI, irm_nI, idv_nI, zbT, zbF, in_T, in_F1, in_F2, nI_l, sI_1, sI_2, sA_1, sA_2, subK, add0, sub0, or0, lN_add, lN_mul, L_0, L_1, L_2, L_3, L_4, L_5, L_6, L_7, L_8, L_9, L_10, L_11, L_12, L_13, L_14, L_15, L_16, L_17, L_18, L_19, L_20, L_30, L_31, L_32, L_35, L_37, L_39, L_40, L_43, L_48, L_57, L_59, L_60, L_97, L_99, L_100, L_120, L_122, L_127, L_160, L_200, L_255, L_999, L_1000, L_100000, L_1000000, L_24, L_33, L_34, L_36, L_38, L_69, L_70, L_72, L_214, L_215, L_288, L_174, L_175, L_206, LL_0, LL_1, LL_2, LL_3, LL_5, LL_9, LL_10, LL_11, LL_12, LL_19, LL_20, LL_30, LL_39, LL_60, LL_99, LL_127, LL_999, ngLt h, ngLe h, ngGe h, ngGt h, ngEq h, ngEq' h, in_ng h, zb_ng h]
      exact ⟨_, _, rfl, rfl, rfl, hsame⟩
    by_cases hm2 : m ≤ 20
    · obtain ⟨g1, c1, c2⟩ := copy_e (g := F.1 1) hv hi
      have d1 := copies_e (g := M) (i := 0) (j := 120) (by decide) (by decide) (by decide)
      obtain ⟨x, y, x1, y1, xy⟩ := read_all hR hk (L := L) (by omega) j hm2 (g := g1) (f := fun q => if 120 ≤ q ∧ q < 120 + 40 then M.1 0 (0 + (q - 120)) else M.1 0 q) (a := a) c2 (hp.agree hi (fun q h1 h2 => if_neg (by omega))) hi hy (fun q h1 h2 => if_neg (by omega)) (fun q h1 => by
        show (if 120 ≤ 120 + q ∧ 120 + q < 120 + 40 then M.1 0 (0 + (120 + q - 120)) else M.1 0 (120 + q)) = _
        rw [if_pos (by omega), Nat.zero_add, Nat.add_sub_cancel_left])
      simp (disch := omega) only [↓reduceIte, obs, esc_il, esc_ir, leT, leF, ltT, ltF, eqT, eqF, nleT, nleF, nltT, nltF, neqT, neqF, nI_add, pk_mul, ald_nI, ast_nI, irm_nI, idv_nI, zbT, zbF, in_T, in_F1, in_F2, nI_l, sI_1, sI_2, sA_1, sA_2, subK, add0, sub0, or0, lN_add, lN_mul, L_0, L_1, L_2, L_3, L_4, L_5, L_6, L_7, L_8, L_9, L_10, L_11, L_12, L_13, L_14, L_15, L_16, L_17, L_18, L_19, L_20, L_30, L_31, L_32, L_35, L_37, L_39, L_40, L_43, L_48, L_57, L_59, L_60, L_97, L_99, L_100, L_120, L_122, L_127, L_160, L_200, L_255, L_999, L_1000, L_100000, L_1000000, L_24, L_33, L_34, L_36, L_38, L_69, L_70, L_72, L_214, L_215, L_288, L_174, L_175, L_206, LL_0, LL_1, LL_2, LL_3, LL_5, LL_9, LL_10, LL_11, LL_12, LL_19, LL_20, LL_30, LL_39, LL_60, LL_99, LL_127, LL_999, c1, d1, x1, y1]
      rcases xy with ⟨fd, t, z1, z2, g, b, f, rfl, rfl, b1, b2, b3, b4, b5⟩ | ⟨v, g, f, rfl, rfl, b1⟩
      · obtain ⟨g3, k1, k2⟩ := copy_e (g := F.1 0) b1 b3
        simp only [esc_il, k1, obs]
        exact ⟨_, _, rfl, rfl, rfl, hR.rd ⟨b, k2, b2, b3, b4⟩ b5 _ _⟩
      · simp only [esc_ir]
        refine ⟨_, _, rfl, rfl, rfl, ?_⟩
        show Rel (va_up (va_up F.1 0 (F.1 0)) 1 g, va_up F.2.1 2 (F.2.1 2), F.2.2) (sA M 0 f)
        rw [up_id2, up_id2]
        exact hR.scratch g b1
    · simp (disch := omega) only [↓reduceIte, obs, esc_il, esc_ir, leT, leF, ltT, ltF, eqT, eqF, nleT, nleF, nltT, nltF, neqT, neqF, nI_add, pk_mul, ald_nI, ast_nI, irm_nI, idv_nI, zbT, zbF, in_T, in_F1, in_F2, nI_l, sI_1, sI_2, sA_1, sA_2, subK, add0, sub0, or0, lN_add, lN_mul, L_0, L_1, L_2, L_3, L_4, L_5, L_6, L_7, L_8, L_9, L_10, L_11, L_12, L_13, L_14, L_15, L_16, L_17, L_18, L_19, L_20, L_30, L_31, L_32, L_35, L_37, L_39, L_40, L_43, L_48, L_57, L_59, L_60, L_97, L_99, L_100, L_120, L_122, L_127, L_160, L_200, L_255, L_999, L_1000, L_100000, L_1000000, L_24, L_33, L_34, L_36, L_38, L_69, L_70, L_72, L_214, L_215, L_288, L_174, L_175, L_206, LL_0, LL_1, LL_2, LL_3, LL_5, LL_9, LL_10, LL_11, LL_12, LL_19, LL_20, LL_30, LL_39, LL_60, LL_99, LL_127, LL_999]
      exact ⟨_, _, rfl, rfl, rfl, hsame⟩
  · simp (disch := omega) only [↓reduceIte, obs, esc_il, esc_ir, leT, leF, ltT, ltF, eqT, eqF, nleT, nleF, nltT, nltF, neqT, neqF, nI_add, pk_mul, ald_nI, ast_nI, irm_nI, idv_nI, zbT, zbF, in_T, in_F1, in_F2, nI_l, sI_1, sI_2, sA_1, sA_2, subK, add0, sub0, or0, lN_add, lN_mul, L_0, L_1, L_2, L_3, L_4, L_5, L_6, L_7, L_8, L_9, L_10, L_11, L_12, L_13, L_14, L_15, L_16, L_17, L_18, L_19, L_20, L_30, L_31, L_32, L_35, L_37, L_39, L_40, L_43, L_48, L_57, L_59, L_60, L_97, L_99, L_100, L_120, L_122, L_127, L_160, L_200, L_255, L_999, L_1000, L_100000, L_1000000, L_24, L_33, L_34, L_36, L_38, L_69, L_70, L_72, L_214, L_215, L_288, L_174, L_175, L_206, LL_0, LL_1, LL_2, LL_3, LL_5, LL_9, LL_10, LL_11, LL_12, LL_19, LL_20, LL_30, LL_39, LL_60, LL_99, LL_127, LL_999]
    exact ⟨_, _, rfl, rfl, rfl, hsame⟩
theorem st_read_0 {F : FS} {M : GS} (hR : Rel F M) (r : Int32) (i : Int32) (j : Int32) (n : Int32) (hs : ¬ (r < 0 ∨ 4 ≤ r.toNatClampNeg) → r.toNatClampNeg = 0) : ∃ (o : Int32 × Int32 × GS × GS) (o' : Int32 × GS), mX7_read (F.2.1 2) (F.1 0) (F.1 1) (F.1 8) r i j n = some o ∧ mX8_read M r i j n = some o' ∧ o.1 = o'.1 ∧ Rel ((va_up (va_up F.1 0 o.2.2.1) 1 o.2.2.2), (va_up F.2.1 2 o.2.1), F.2.2) o'.2 := st_read_g hR 0 (by decide) r i j n hs
theorem st_read_1 {F : FS} {M : GS} (hR : Rel F M) (r : Int32) (i : Int32) (j : Int32) (n : Int32) (hs : ¬ (r < 0 ∨ 4 ≤ r.toNatClampNeg) → r.toNatClampNeg = 1) : ∃ (o : Int32 × Int32 × GS × GS) (o' : Int32 × GS), mX7_read (F.2.1 2) (F.1 0) (F.1 1) (F.1 9) r i j n = some o ∧ mX8_read M r i j n = some o' ∧ o.1 = o'.1 ∧ Rel ((va_up (va_up F.1 0 o.2.2.1) 1 o.2.2.2), (va_up F.2.1 2 o.2.1), F.2.2) o'.2 := st_read_g hR 1 (by decide) r i j n hs
theorem st_read_2 {F : FS} {M : GS} (hR : Rel F M) (r : Int32) (i : Int32) (j : Int32) (n : Int32) (hs : ¬ (r < 0 ∨ 4 ≤ r.toNatClampNeg) → r.toNatClampNeg = 2) : ∃ (o : Int32 × Int32 × GS × GS) (o' : Int32 × GS), mX7_read (F.2.1 2) (F.1 0) (F.1 1) (F.1 10) r i j n = some o ∧ mX8_read M r i j n = some o' ∧ o.1 = o'.1 ∧ Rel ((va_up (va_up F.1 0 o.2.2.1) 1 o.2.2.2), (va_up F.2.1 2 o.2.1), F.2.2) o'.2 := st_read_g hR 2 (by decide) r i j n hs
theorem st_read_3 {F : FS} {M : GS} (hR : Rel F M) (r : Int32) (i : Int32) (j : Int32) (n : Int32) (hs : ¬ (r < 0 ∨ 4 ≤ r.toNatClampNeg) → r.toNatClampNeg = 3) : ∃ (o : Int32 × Int32 × GS × GS) (o' : Int32 × GS), mX7_read (F.2.1 2) (F.1 0) (F.1 1) (F.1 11) r i j n = some o ∧ mX8_read M r i j n = some o' ∧ o.1 = o'.1 ∧ Rel ((va_up (va_up F.1 0 o.2.2.1) 1 o.2.2.2), (va_up F.2.1 2 o.2.1), F.2.2) o'.2 := st_read_g hR 3 (by decide) r i j n hs
