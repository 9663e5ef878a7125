/-! shifts; where to look next -/
/-- the reference with other pages, and another table -/
def scM (M : GS) (f h : Nat → Int32) : GS := sA (sA M 0 f) 18 h
theorem scM_0 (M : GS) (f h : Nat → Int32) : (scM M f h).1 0 = f := rfl
theorem scM_18 (M : GS) (f h : Nat → Int32) : (scM M f h).1 18 = h := rfl
theorem scM_s0 (M : GS) (f h f' : Nat → Int32) : sA (scM M f h) 0 f' = scM M f' h := by
  unfold scM sA
  refine Prod.ext ?_ rfl
  funext k
  show va_up (va_up (va_up M.1 0 f) 18 h) 0 f' k = va_up (va_up M.1 0 f') 18 h k
  simp only [up_e]
  by_cases h0 : k = 0
  · subst h0; rfl
  · rw [if_neg h0]
    by_cases h1 : k = 18
    · rw [if_pos h1, if_pos h1]
    · rw [if_neg h1, if_neg h1, if_neg h0, if_neg h0]
theorem scM_s18 (M : GS) (f h h' : Nat → Int32) : sA (scM M f h) 18 h' = scM M f h' := sA_sA _ _ _ _
theorem scM_of (M : GS) (f : Nat → Int32) : sA M 0 f = scM M f (M.1 18) := by
  unfold scM
  have e : (sA M 0 f).1 18 = M.1 18 := rfl
  rw [← e, sA_id]
theorem Rel.scratch2 {F : FS} {M : GS} (hR : Rel F M) (g' : GS) {f' : Nat → Int32} (hf : Low (M.1 0) f') (h : Nat → Int32) : Rel (va_up F.1 1 g', F.2.1, F.2.2) (scM M f' h) := by
  obtain ⟨⟨a, h1, h2, h3, h4⟩, -⟩ := id hR
  refine hR.upd ?_ ?_ rfl ?_ ?_ rfl
  · refine ⟨a, h1, ?_, h3, h4⟩
    exact h2.agree h3 (fun q _ hq => hf q (by omega))
  · intro k h1 h2
    show va_up F.1 1 g' k = F.1 k
    rw [up_e, if_neg (by omega)]
  · intro q h1 h2
    exact hf q h2
  · intro k h1 h2 h3 h4
    show va_up (va_up M.1 0 f') 18 h k = M.1 k
    rw [up_e, if_neg h4, up_e, if_neg h1]
theorem SnR.sc {G : GS} {n : Nat} {si sv : Nat → Nat} (h : SnR G n si sv) (f h' : Nat → Int32) : SnR (scM G f h') n si sv := h
def shP (a : AH) (n : Nat) (si sv : Nat → Nat) (v : Nat) : Bool := alB (ftB (aI a 7 v) si sv) n
theorem fs15_e {me g : GS} {a : AH} {n : Nat} {si sv : Nat → Nat} (hs : SnC me n si sv) (hv : HV g a) (hi : HI a) : ∃ x, whO (mX7_fittingShifts_l15 me) FU (nI 0, nI 0, g) = some x ∧ ∃ m v g', x = (orZ (shP a n si sv) 6, m, g') ∧ v ≤ 5 ∧ HV g' (aI a 7 v) := by
  have hb := hi.nb
  refine whO_inv (fun (i : Nat) (s : Int32 × Int32 × GS) => ∃ v g, s = (orZ (shP a n si sv) i, nI i, g) ∧ v ≤ 5 ∧ HV g (aI a 7 v)) 6 _ ?_ ?_ _ ⟨a.2 7, g, rfl, by omega, by rw [aI_id]; exact hv⟩ (by decide)
  · rintro i s hlt ⟨v, g, rfl, hv5, e1⟩
    left
    have e2 := e1.i7 i
    rw [aI_aI] at e2
    have hi' := hi.i7 i (by omega)
    have hf : mX3_fits me (sI g 7 (nI i)) = some (nI (bN (shP a n si sv i))) := fits_e hs e2 hi'
    refine ⟨_, ?_, i, sI g 7 (nI i), rfl, by omega, e2⟩
    unfold mX7_fittingShifts_l15
    cases hx : shP a n si sv i
    · rw [orZ_n hx]
      rw [hx] at hf
      simp (disch := omega) only [↓reduceIte, obs, esc_il, esc_ir, leT, leF, ltT, ltF, eqT, eqF, nleT, nleF, nltT, nltF, neqT, neqF, nI_add, pk_mul, ald_nI, ast_nI, irm_nI, idv_nI, zbT, zbF, in_T, in_F1, in_F2, nI_l, sI_1, sI_2, sA_1, sA_2, subK, add0, sub0, or0, lN_add, lN_mul, L_0, L_1, L_2, L_3, L_4, L_5, L_6, L_7, L_8, L_9, L_10, L_11, L_12, L_13, L_14, L_15, L_16, L_17, L_18, L_19, L_20, L_30, L_31, L_32, L_35, L_37, L_39, L_40, L_43, L_48, L_57, L_59, L_60, L_97, L_99, L_100, L_120, L_122, L_127, L_160, L_200, L_255, L_999, L_1000, L_100000, L_1000000, L_24, L_33, L_34, L_36, L_38, L_69, L_70, L_72, L_214, L_215, L_288, L_174, L_175, L_206, LL_0, LL_1, LL_2, LL_3, LL_5, LL_9, LL_10, LL_11, LL_12, LL_19, LL_20, LL_30, LL_39, LL_60, LL_99, LL_127, LL_999, hf, bN, Bool.false_eq_true]
    · rw [orZ_y hx]
      rw [hx] at hf
      simp (disch := omega) only [↓reduceIte, obs, esc_il, esc_ir, leT, leF, ltT, ltF, eqT, eqF, nleT, nleF, nltT, nltF, neqT, neqF, nI_add, pk_mul, ald_nI, ast_nI, irm_nI, idv_nI, zbT, zbF, in_T, in_F1, in_F2, nI_l, sI_1, sI_2, sA_1, sA_2, subK, add0, sub0, or0, lN_add, lN_mul, L_0, L_1, L_2, L_3, L_4, L_5, L_6, L_7, L_8, L_9, L_10, L_11, L_12, L_13, L_14, L_15, L_16, L_17, L_18, L_19, L_20, L_30, L_31, L_32, L_35, L_37, L_39, L_40, L_43, L_48, L_57, L_59, L_60, L_97, L_99, L_100, L_120, L_122, L_127, L_160, L_200, L_255, L_999, L_1000, L_100000, L_1000000, L_24, L_33, L_34, L_36, L_38, L_69, L_70, L_72, L_214, L_215, L_288, L_174, L_175, L_206, LL_0, LL_1, LL_2, LL_3, LL_5, LL_9, LL_10, LL_11, LL_12, LL_19, LL_20, LL_30, LL_39, LL_60, LL_99, LL_127, LL_999, hf, bN]
  · rintro s ⟨v, g, rfl, hv5, e1⟩
    refine ⟨_, ?_, nI 6, v, g, rfl, hv5, e1⟩
    unfold mX7_fittingShifts_l15
    simp (disch := omega) only [↓reduceIte, obs, esc_il, esc_ir, leT, leF, ltT, ltF, eqT, eqF, nleT, nleF, nltT, nltF, neqT, neqF, nI_add, pk_mul, ald_nI, ast_nI, irm_nI, idv_nI, zbT, zbF, in_T, in_F1, in_F2, nI_l, sI_1, sI_2, sA_1, sA_2, subK, add0, sub0, or0, lN_add, lN_mul, L_0, L_1, L_2, L_3, L_4, L_5, L_6, L_7, L_8, L_9, L_10, L_11, L_12, L_13, L_14, L_15, L_16, L_17, L_18, L_19, L_20, L_30, L_31, L_32, L_35, L_37, L_39, L_40, L_43, L_48, L_57, L_59, L_60, L_97, L_99, L_100, L_120, L_122, L_127, L_160, L_200, L_255, L_999, L_1000, L_100000, L_1000000, L_24, L_33, L_34, L_36, L_38, L_69, L_70, L_72, L_214, L_215, L_288, L_174, L_175, L_206, LL_0, LL_1, LL_2, LL_3, LL_5, LL_9, LL_10, LL_11, LL_12, LL_19, LL_20, LL_30, LL_39, LL_60, LL_99, LL_127, LL_999]
theorem sn49_e {M : GS} {f h : Nat → Int32} {a b : AH} (hp : PV f 0 a) (hq : PV f 200 b) (hi : HI a) (hib : HI b) (hw : b.2 6 = a.2 6) {v : Nat} (hv : v < 6) (x : Int32) (g0 : GS) : whO (mX8_shiftsNow_l49 (x, nI v, g0)) FU (nI 0, scM M f h) = some (nI (a.2 6), scM M f (fun q => if 12 * v ≤ q ∧ q < 12 * v + a.2 6 then nI (frN b (q - 12 * v)) else h q)) := by
  have hb := hi.nb
  refine whO_for (fun i => (nI i, scM M f (fun q => if 12 * v ≤ q ∧ q < 12 * v + i then nI (frN b (q - 12 * v)) else h q))) (a.2 6) _ ?_ ?_ ?_ (by omega)
  · show (_, _) = (_, _)
    rw [show (fun q => if 12 * v ≤ q ∧ q < 12 * v + 0 then nI (frN b (q - 12 * v)) else h q) = h from by funext q; rw [if_neg (by omega)]]
  · intro i hx
    have hp' : PV ((scM M f (fun q => if 12 * v ≤ q ∧ q < 12 * v + i then nI (frN b (q - 12 * v)) else h q)).1 0) 0 a := hp
    have hq' : PV ((scM M f (fun q => if 12 * v ≤ q ∧ q < 12 * v + i then nI (frN b (q - 12 * v)) else h q)).1 0) 200 b := hq
    unfold mX8_shiftsNow_l49
    simp (disch := omega) only [↓reduceIte, obs, esc_il, esc_ir, leT, leF, ltT, ltF, eqT, eqF, nleT, nleF, nltT, nltF, neqT, neqF, nI_add, pk_mul, ald_nI, ast_nI, irm_nI, idv_nI, zbT, zbF, in_T, in_F1, in_F2, nI_l, sI_1, sI_2, sA_1, sA_2, subK, add0, sub0, or0, lN_add, lN_mul, L_0, L_1, L_2, L_3, L_4, L_5, L_6, L_7, L_8, L_9, L_10, L_11, L_12, L_13, L_14, L_15, L_16, L_17, L_18, L_19, L_20, L_30, L_31, L_32, L_35, L_37, L_39, L_40, L_43, L_48, L_57, L_59, L_60, L_97, L_99, L_100, L_120, L_122, L_127, L_160, L_200, L_255, L_999, L_1000, L_100000, L_1000000, L_24, L_33, L_34, L_36, L_38, L_69, L_70, L_72, L_214, L_215, L_288, L_174, L_175, L_206, LL_0, LL_1, LL_2, LL_3, LL_5, LL_9, LL_10, LL_11, LL_12, LL_19, LL_20, LL_30, LL_39, LL_60, LL_99, LL_127, LL_999, longOn_e hp' (by decide), frankOn_e hq' (by decide) hib, scM_18, scM_s18]
    simp only [Option.some.injEq, Sum.inl.injEq, Prod.mk.injEq, true_and]
    congr 1
    funext q
    rw [upd_e]
    by_cases h1 : q = 12 * v + i
    · rw [if_pos h1, if_pos (by omega), h1, Nat.add_sub_cancel_left]
    · rw [if_neg h1]
      by_cases h2 : 12 * v ≤ q ∧ q < 12 * v + i
      · rw [if_pos h2, if_pos (by omega)]
      · rw [if_neg h2, if_neg (by omega)]
  · have hp' : PV ((scM M f (fun q => if 12 * v ≤ q ∧ q < 12 * v + a.2 6 then nI (frN b (q - 12 * v)) else h q)).1 0) 0 a := hp
    unfold mX8_shiftsNow_l49
    simp (disch := omega) only [↓reduceIte, obs, esc_il, esc_ir, leT, leF, ltT, ltF, eqT, eqF, nleT, nleF, nltT, nltF, neqT, neqF, nI_add, pk_mul, ald_nI, ast_nI, irm_nI, idv_nI, zbT, zbF, in_T, in_F1, in_F2, nI_l, sI_1, sI_2, sA_1, sA_2, subK, add0, sub0, or0, lN_add, lN_mul, L_0, L_1, L_2, L_3, L_4, L_5, L_6, L_7, L_8, L_9, L_10, L_11, L_12, L_13, L_14, L_15, L_16, L_17, L_18, L_19, L_20, L_30, L_31, L_32, L_35, L_37, L_39, L_40, L_43, L_48, L_57, L_59, L_60, L_97, L_99, L_100, L_120, L_122, L_127, L_160, L_200, L_255, L_999, L_1000, L_100000, L_1000000, L_24, L_33, L_34, L_36, L_38, L_69, L_70, L_72, L_214, L_215, L_288, L_174, L_175, L_206, LL_0, LL_1, LL_2, LL_3, LL_5, LL_9, LL_10, LL_11, LL_12, LL_19, LL_20, LL_30, LL_39, LL_60, LL_99, LL_127, LL_999, longOn_e hp' (by decide)]
theorem sn12_e {M : GS} {f : Nat → Int32} {a : AH} {n : Nat} {si sv : Nat → Nat} (hs : SnR M n si sv) (hp0 : PV f 0 a) (hp : PV f 200 a) (hi : HI a) (hf : Low (M.1 0) f) : ∃ x, whO (mX8_shiftsNow_l12) FU (nI 0, nI 0, sA M 0 f) = some x ∧ ∃ m f' h, x = (orZ (shP a n si sv) 6, m, scM M f' h) ∧ Low (M.1 0) f' ∧ PV f' 0 a ∧ ∀ v q, v < 6 → q < a.2 6 → h (12 * v + q) = nI (frN (aI a 7 v) q) := by
  have hb := hi.nb
  refine whO_inv (fun (i : Nat) (s : Int32 × Int32 × GS) => ∃ f h v, s = (orZ (shP a n si sv) i, nI i, scM M f h) ∧ Low (M.1 0) f ∧ v ≤ 5 ∧ PV f 0 a ∧ PV f 200 (aI a 7 v) ∧ ∀ v q, v < i → q < a.2 6 → h (12 * v + q) = nI (frN (aI a 7 v) q)) 6 _ ?_ ?_ _ ⟨f, M.1 18, a.2 7, by rw [scM_of]; rfl, hf, by omega, hp0, by rw [aI_id]; exact hp, fun v q h => absurd h (Nat.not_lt_zero _)⟩ (by decide)
  · rintro i s hlt ⟨f, h, v, rfl, el, ev, e0, e1, e3⟩
    left
    have e2 := e1.i7 (hi.i7 v ev) i
    rw [aI_aI] at e2
    have hi' := hi.i7 i (by omega)
    have e0' : PV (upd f 214 (nI i)) 0 a := e0.agree hi (fun q h1 h2 => by rw [upd_e, if_neg (by omega)])
    have e2' : PV ((scM M (upd f 214 (nI i)) h).1 0) 200 (aI a 7 i) := e2
    have hq : mX8_isAsSeen (scM M (upd f 214 (nI i)) h) (nI 200) = some (nI (bN (shP a n si sv i))) := isAsSeen_e (hs.sc _ _) e2' (by decide) hi'
    have hL := sn49_e (M := M) (h := h) e0' e2 hi hi' rfl hlt (orZ (shP a n si sv) i) (scM M f h)
    refine ⟨_, ?_, upd f 214 (nI i), (fun q => if 12 * i ≤ q ∧ q < 12 * i + a.2 6 then nI (frN (aI a 7 i) (q - 12 * i)) else h q), i, rfl, el.up _ (by decide) _, by omega, e0', e2, ?_⟩
    · unfold mX8_shiftsNow_l12
      cases hx : shP a n si sv i
      · rw [orZ_n hx]
        rw [hx] at hq
        simp (disch := omega) only [↓reduceIte, obs, esc_il, esc_ir, leT, leF, ltT, ltF, eqT, eqF, nleT, nleF, nltT, nltF, neqT, neqF, nI_add, pk_mul, ald_nI, ast_nI, irm_nI, idv_nI, zbT, zbF, in_T, in_F1, in_F2, nI_l, sI_1, sI_2, sA_1, sA_2, subK, add0, sub0, or0, lN_add, lN_mul, L_0, L_1, L_2, L_3, L_4, L_5, L_6, L_7, L_8, L_9, L_10, L_11, L_12, L_13, L_14, L_15, L_16, L_17, L_18, L_19, L_20, L_30, L_31, L_32, L_35, L_37, L_39, L_40, L_43, L_48, L_57, L_59, L_60, L_97, L_99, L_100, L_120, L_122, L_127, L_160, L_200, L_255, L_999, L_1000, L_100000, L_1000000, L_24, L_33, L_34, L_36, L_38, L_69, L_70, L_72, L_214, L_215, L_288, L_174, L_175, L_206, LL_0, LL_1, LL_2, LL_3, LL_5, LL_9, LL_10, LL_11, LL_12, LL_19, LL_20, LL_30, LL_39, LL_60, LL_99, LL_127, LL_999, scM_0, scM_s0, hq, hL, bN, Bool.false_eq_true]
      · rw [orZ_y hx]
        rw [hx] at hq
        simp (disch := omega) only [↓reduceIte, obs, esc_il, esc_ir, leT, leF, ltT, ltF, eqT, eqF, nleT, nleF, nltT, nltF, neqT, neqF, nI_add, pk_mul, ald_nI, ast_nI, irm_nI, idv_nI, zbT, zbF, in_T, in_F1, in_F2, nI_l, sI_1, sI_2, sA_1, sA_2, subK, add0, sub0, or0, lN_add, lN_mul, L_0, L_1, L_2, L_3, L_4, L_5, L_6, L_7, L_8, L_9, L_10, L_11, L_12, L_13, L_14, L_15, L_16, L_17, L_18, L_19, L_20, L_30, L_31, L_32, L_35, L_37, L_39, L_40, L_43, L_48, L_57, L_59, L_60, L_97, L_99, L_100, L_120, L_122, L_127, L_160, L_200, L_255, L_999, L_1000, L_100000, L_1000000, L_24, L_33, L_34, L_36, L_38, L_69, L_70, L_72, L_214, L_215, L_288, L_174, L_175, L_206, LL_0, LL_1, LL_2, LL_3, LL_5, LL_9, LL_10, LL_11, LL_12, LL_19, LL_20, LL_30, LL_39, LL_60, LL_99, LL_127, LL_999, scM_0, scM_s0, hq, hL, bN]
    · intro v' q hv' hq'
      show (if 12 * i ≤ 12 * v' + q ∧ 12 * v' + q < 12 * i + a.2 6 then nI (frN (aI a 7 i) (12 * v' + q - 12 * i)) else h (12 * v' + q)) = _
      by_cases hvi : v' = i
      · subst hvi
        rw [if_pos (by omega), Nat.add_sub_cancel_left]
      · rw [if_neg (by omega)]
        exact e3 v' q (by omega) hq'
  · rintro s ⟨f, h, v, rfl, el, ev, e0, e1, e3⟩
    refine ⟨_, ?_, nI 6, f, h, rfl, el, e0, e3⟩
    unfold mX8_shiftsNow_l12
    simp (disch := omega) only [↓reduceIte, obs, esc_il, esc_ir, leT, leF, ltT, ltF, eqT, eqF, nleT, nleF, nltT, nltF, neqT, neqF, nI_add, pk_mul, ald_nI, ast_nI, irm_nI, idv_nI, zbT, zbF, in_T, in_F1, in_F2, nI_l, sI_1, sI_2, sA_1, sA_2, subK, add0, sub0, or0, lN_add, lN_mul, L_0, L_1, L_2, L_3, L_4, L_5, L_6, L_7, L_8, L_9, L_10, L_11, L_12, L_13, L_14, L_15, L_16, L_17, L_18, L_19, L_20, L_30, L_31, L_32, L_35, L_37, L_39, L_40, L_43, L_48, L_57, L_59, L_60, L_97, L_99, L_100, L_120, L_122, L_127, L_160, L_200, L_255, L_999, L_1000, L_100000, L_1000000, L_24, L_33, L_34, L_36, L_38, L_69, L_70, L_72, L_214, L_215, L_288, L_174, L_175, L_206, LL_0, LL_1, LL_2, LL_3, LL_5, LL_9, LL_10, LL_11, LL_12, LL_19, LL_20, LL_30, LL_39, LL_60, LL_99, LL_127, LL_999]
theorem fs_e {h tr me : GS} {a : AH} {n : Nat} {si sv : Nat → Nat} (hs : SnC me n si sv) (hv : HV h a) (hi : HI a) : ∃ v g', mX7_fittingShifts h tr me = some (orZ (shP a n si sv) 6, g') ∧ v ≤ 5 ∧ HV g' (aI a 7 v) := by
  obtain ⟨g1, c1, c2⟩ := copy_e (g := tr) hv hi
  obtain ⟨_, k1, m, v, g2, rfl, k2, k3⟩ := fs15_e hs c2 hi
  refine ⟨v, g2, ?_, k2, k3⟩
  unfold mX7_fittingShifts
  rw [c1, obs, L_0, k1, obs]
theorem sn_e {M : GS} {a : AH} {n : Nat} {si sv : Nat → Nat} (hs : SnR M n si sv) (hp : PV (M.1 0) 0 a) (hi : HI a) : ∃ f' h, mX8_shiftsNow M = some (orZ (shP a n si sv) 6, scM M f' h) ∧ Low (M.1 0) f' ∧ PV f' 0 a ∧ ∀ v q, v < 6 → q < a.2 6 → h (12 * v + q) = nI (frN (aI a 7 v) q) := by
  obtain ⟨f1, d1, d2, d3⟩ := copies_p (j := 200) hp hi (by omega) (by omega) (by omega)
  obtain ⟨_, k1, m, f2, h, rfl, k2, k3, k4⟩ := sn12_e hs (hp.frame hi d3 (by omega)) d2 hi (d3.low (by decide))
  refine ⟨f2, h, ?_, k2, k3, k4⟩
  unfold mX8_shiftsNow
  rw [L_0, L_200, d1, obs, k1, obs]
theorem st_shifts {F : FS} {M : GS} (hR : Rel F M) : ∃ (o : Int32 × GS) (o' : Int32 × GS), mX7_shifts (F.1 0) (F.1 1) (F.1 6) = some o ∧ mX8_shifts M = some o' ∧ o.1 = o'.1 ∧ Rel ((va_up F.1 1 o.2), F.2.1, F.2.2) o'.2 := by
  obtain ⟨⟨a, hv, hp, hi, hy⟩, -⟩ := id hR
  obtain ⟨n, si, sv, sc, sr⟩ := hR.S.fn
  obtain ⟨v, g', k1, -, -⟩ := fs_e (tr := F.1 1) sc hv hi
  obtain ⟨f', h, k2, k3, -, -⟩ := sn_e sr hp hi
  unfold mX7_shifts mX8_shifts
  rw [k1, k2, obs, obs]
  exact ⟨_, _, rfl, rfl, rfl, hR.scratch2 _ k3 h⟩
theorem orZ_congr {P Q : Nat → Bool} : ∀ n, (∀ i, i < n → P i = Q i) → orZ P n = orZ Q n
  | 0, _ => rfl
  | n + 1, h => by rw [orZ, orZ, orZ_congr n (fun i hi => h i (by omega)), h n (by omega)]
def b6 (b0 b1 b2 b3 b4 b5 : Bool) (i : Nat) : Bool := if i = 0 then b0 else if i = 1 then b1 else if i = 2 then b2 else if i = 3 then b3 else if i = 4 then b4 else b5
theorem bc6 : ∀ b0 b1 b2 b3 b4 b5 : Bool, mJ6_bitCount_0f7a4 (orZ (b6 b0 b1 b2 b3 b4 b5) 6) = some (nI (sumN (fun v => bN (b6 b0 b1 b2 b3 b4 b5 v)) 6)) := by decide +kernel
theorem b6_e (P : Nat → Bool) (i : Nat) (h : i < 6) : P i = b6 (P 0) (P 1) (P 2) (P 3) (P 4) (P 5) i := by
  rcases (show i = 0 ∨ i = 1 ∨ i = 2 ∨ i = 3 ∨ i = 4 ∨ i = 5 by omega) with rfl | rfl | rfl | rfl | rfl | rfl <;> rfl
theorem bitCount_e (P : Nat → Bool) : mJ6_bitCount_0f7a4 (orZ P 6) = some (nI (sumN (fun v => bN (P v)) 6)) := by
  have e := sumN_congr (f := fun v => bN (P v)) (g := fun v => bN (b6 (P 0) (P 1) (P 2) (P 3) (P 4) (P 5) v)) 6 (fun i hi => congrArg bN (b6_e P i hi))
  rw [orZ_congr 6 (b6_e P), bc6, e]
/-- the greatest, and 0 -/
def mxN (f : Nat → Nat) : Nat → Nat
  | 0 => 0
  | n + 1 => if f n ≤ mxN f n then mxN f n else f n
theorem mxN_le {f : Nat → Nat} {B : Nat} (h : ∀ i, f i ≤ B) : ∀ n, mxN f n ≤ B
  | 0 => Nat.zero_le _
  | n + 1 => by
    rw [mxN]
    split
    · exact mxN_le h n
    · exact h n
def smN (a : AH) (P : Nat → Bool) (i s : Nat) (o : Nat) : Nat := bN (P o && (frN (aI a 7 o) i == frN (aI a 7 s) i))
def woN (a : AH) (P : Nat → Bool) (i s : Nat) : Nat := if P s then sumN (smN a P i s) 6 else 0
theorem woN_le (a : AH) (P : Nat → Bool) (i s : Nat) : woN a P i s ≤ 6 := by
  unfold woN
  split
  · exact sumN_le (B := 1) (fun o => bN_le _) 6
  · omega
theorem sm_le (a : AH) (P : Nat → Bool) (i s m : Nat) : sumN (smN a P i s) m ≤ m := by
  have := sumN_le (f := smN a P i s) (B := 1) (fun o => bN_le _) m
  omega
theorem frankByShift_e {g : GS} {a : AH} {v s i : Nat} (hv : HV g (aI a 7 v)) (hi : HI a) (hs : s ≤ 5) (hx : i < a.2 6) : mX7_frankByShift g (nI s) (nI i) = some (nI (frN (aI a 7 s) i), sI g 7 (nI s)) ∧ HV (sI g 7 (nI s)) (aI a 7 s) := by
  have e2 := hv.i7 s
  rw [aI_aI] at e2
  refine ⟨?_, e2⟩
  unfold mX7_frankByShift
  rw [frankAt_e e2 (hi.i7 s hs) hx, obs]
theorem law36_e {g g0 : GS} {a : AH} {v s i : Nat} (P : Nat → Bool) (hv : HV g (aI a 7 v)) (hi : HI a) (hs : s ≤ 5) (hx : i < a.2 6) : ∃ x, whO (mX7_leftAtWorst_l36 (orZ P 6) (nI i) (nI (frN (aI a 7 s) i), g0)) FU (nI 0, nI 0, g) = some x ∧ ∃ m w g', x = (nI (sumN (smN a P i s) 6), m, g') ∧ HV g' (aI a 7 w) := by
  have hb := hi.nb
  refine whO_inv (fun (o : Nat) (x : Int32 × Int32 × GS) => ∃ w g', x = (nI (sumN (smN a P i s) o), nI o, g') ∧ HV g' (aI a 7 w)) 6 _ ?_ ?_ _ ⟨v, g, rfl, hv⟩ (by decide)
  · rintro o x hlt ⟨w, g', rfl, e1⟩
    left
    have hbit := orZ_bit P (m := 6) (i := o) (by decide) hlt
    obtain ⟨c1, c2⟩ := frankByShift_e (s := o) (i := i) e1 hi (by omega) hx
    have l1 := frN_le (hi.i7 o (by omega)) i
    have l2 := frN_le (hi.i7 s hs) i
    have e31 : (31 : Int32) = nI 31 := rfl
    cases hP : P o
    · refine ⟨(nI (sumN (smN a P i s) (o + 1)), nI (o + 1), g'), ?_, w, g', rfl, e1⟩
      unfold mX7_leftAtWorst_l36
      rw [hP] at hbit
      have es : smN a P i s o = 0 := by unfold smN; rw [hP]; rfl
      simp (disch := omega) only [↓reduceIte, obs, esc_il, esc_ir, leT, leF, ltT, ltF, eqT, eqF, nleT, nleF, nltT, nltF, neqT, neqF, nI_add, pk_mul, ald_nI, ast_nI, irm_nI, idv_nI, zbT, zbF, in_T, in_F1, in_F2, nI_l, sI_1, sI_2, sA_1, sA_2, subK, add0, sub0, or0, lN_add, lN_mul, L_0, L_1, L_2, L_3, L_4, L_5, L_6, L_7, L_8, L_9, L_10, L_11, L_12, L_13, L_14, L_15, L_16, L_17, L_18, L_19, L_20, L_30, L_31, L_32, L_35, L_37, L_39, L_40, L_43, L_48, L_57, L_59, L_60, L_97, L_99, L_100, L_120, L_122, L_127, L_160, L_200, L_255, L_999, L_1000, L_100000, L_1000000, L_24, L_33, L_34, L_36, L_38, L_69, L_70, L_72, L_214, L_215, L_288, L_174, L_175, L_206, LL_0, LL_1, LL_2, LL_3, LL_5, LL_9, LL_10, LL_11, LL_12, LL_19, LL_20, LL_30, LL_39, LL_60, LL_99, LL_127, LL_999, e31, hbit, sumN, es, Bool.false_eq_true, Nat.add_zero]
    · refine ⟨(nI (sumN (smN a P i s) (o + 1)), nI (o + 1), sI g' 7 (nI o)), ?_, o, sI g' 7 (nI o), rfl, c2⟩
      unfold mX7_leftAtWorst_l36
      rw [hP] at hbit
      by_cases hc : frN (aI a 7 o) i = frN (aI a 7 s) i
      · have es : smN a P i s o = 1 := by unfold smN; rw [hP, hc]; simp [bN]
        simp (disch := omega) only [↓reduceIte, obs, esc_il, esc_ir, leT, leF, ltT, ltF, eqT, eqF, nleT, nleF, nltT, nltF, neqT, neqF, nI_add, pk_mul, ald_nI, ast_nI, irm_nI, idv_nI, zbT, zbF, in_T, in_F1, in_F2, nI_l, sI_1, sI_2, sA_1, sA_2, subK, add0, sub0, or0, lN_add, lN_mul, L_0, L_1, L_2, L_3, L_4, L_5, L_6, L_7, L_8, L_9, L_10, L_11, L_12, L_13, L_14, L_15, L_16, L_17, L_18, L_19, L_20, L_30, L_31, L_32, L_35, L_37, L_39, L_40, L_43, L_48, L_57, L_59, L_60, L_97, L_99, L_100, L_120, L_122, L_127, L_160, L_200, L_255, L_999, L_1000, L_100000, L_1000000, L_24, L_33, L_34, L_36, L_38, L_69, L_70, L_72, L_214, L_215, L_288, L_174, L_175, L_206, LL_0, LL_1, LL_2, LL_3, LL_5, LL_9, LL_10, LL_11, LL_12, LL_19, LL_20, LL_30, LL_39, LL_60, LL_99, LL_127, LL_999, e31, hbit, c1, sumN, es]
      · have es : smN a P i s o = 0 := by unfold smN; simp [hc, bN]
        simp (disch := omega) only [↓reduceIte, obs, esc_il, esc_ir, leT, leF, ltT, ltF, eqT, eqF, nleT, nleF, nltT, nltF, neqT, neqF, nI_add, pk_mul, ald_nI, ast_nI, irm_nI, idv_nI, zbT, zbF, in_T, in_F1, in_F2, nI_l, sI_1, sI_2, sA_1, sA_2, subK, add0, sub0, or0, lN_add, lN_mul, L_0, L_1, L_2, L_3, L_4, L_5, L_6, L_7, L_8, L_9, L_10, L_11, L_12, L_13, L_14, L_15, L_16, L_17, L_18, L_19, L_20, L_30, L_31, L_32, L_35, L_37, L_39, L_40, L_43, L_48, L_57, L_59, L_60, L_97, L_99, L_100, L_120, L_122, L_127, L_160, L_200, L_255, L_999, L_1000, L_100000, L_1000000, L_24, L_33, L_34, L_36, L_38, L_69, L_70, L_72, L_214, L_215, L_288, L_174, L_175, L_206, LL_0, LL_1, LL_2, LL_3, LL_5, LL_9, LL_10, LL_11, LL_12, LL_19, LL_20, LL_30, LL_39, LL_60, LL_99, LL_127, LL_999, e31, hbit, c1, sumN, es, Nat.add_zero]
  · rintro x ⟨w, g', rfl, e1⟩
    refine ⟨_, ?_, nI 6, w, g', rfl, e1⟩
    unfold mX7_leftAtWorst_l36
    simp (disch := omega) only [↓reduceIte, obs, esc_il, esc_ir, leT, leF, ltT, ltF, eqT, eqF, nleT, nleF, nltT, nltF, neqT, neqF, nI_add, pk_mul, ald_nI, ast_nI, irm_nI, idv_nI, zbT, zbF, in_T, in_F1, in_F2, nI_l, sI_1, sI_2, sA_1, sA_2, subK, add0, sub0, or0, lN_add, lN_mul, L_0, L_1, L_2, L_3, L_4, L_5, L_6, L_7, L_8, L_9, L_10, L_11, L_12, L_13, L_14, L_15, L_16, L_17, L_18, L_19, L_20, L_30, L_31, L_32, L_35, L_37, L_39, L_40, L_43, L_48, L_57, L_59, L_60, L_97, L_99, L_100, L_120, L_122, L_127, L_160, L_200, L_255, L_999, L_1000, L_100000, L_1000000, L_24, L_33, L_34, L_36, L_38, L_69, L_70, L_72, L_214, L_215, L_288, L_174, L_175, L_206, LL_0, LL_1, LL_2, LL_3, LL_5, LL_9, LL_10, LL_11, LL_12, LL_19, LL_20, LL_30, LL_39, LL_60, LL_99, LL_127, LL_999]
theorem law_e {g : GS} {a : AH} {v i : Nat} (P : Nat → Bool) (hv : HV g (aI a 7 v)) (hi : HI a) (hx : i < a.2 6) : ∃ w g', mX7_leftAtWorst g (orZ P 6) (nI i) = some (nI (mxN (woN a P i) 6), g') ∧ HV g' (aI a 7 w) := by
  have hb := hi.nb
  have hL : ∃ x, whO (mX7_leftAtWorst_l5 (orZ P 6) (nI i)) FU (nI 0, nI 0, g) = some x ∧ ∃ m w g', x = (nI (mxN (woN a P i) 6), m, g') ∧ HV g' (aI a 7 w) := by
    refine whO_inv (fun (s : Nat) (x : Int32 × Int32 × GS) => ∃ w g', x = (nI (mxN (woN a P i) s), nI s, g') ∧ HV g' (aI a 7 w)) 6 _ ?_ ?_ _ ⟨v, g, rfl, hv⟩ (by decide)
    · rintro s x hlt ⟨w, g', rfl, e1⟩
      left
      have hbit := orZ_bit P (m := 6) (i := s) (by decide) hlt
      have e31 : (31 : Int32) = nI 31 := rfl
      have hm := mxN_le (woN_le a P i) s
      cases hP : P s
      · refine ⟨(nI (mxN (woN a P i) (s + 1)), nI (s + 1), g'), ?_, w, g', rfl, e1⟩
        unfold mX7_leftAtWorst_l5
        rw [hP] at hbit
        have es : woN a P i s = 0 := by unfold woN; rw [hP]; rfl
        simp (disch := omega) only [↓reduceIte, obs, esc_il, esc_ir, leT, leF, ltT, ltF, eqT, eqF, nleT, nleF, nltT, nltF, neqT, neqF, nI_add, pk_mul, ald_nI, ast_nI, irm_nI, idv_nI, zbT, zbF, in_T, in_F1, in_F2, nI_l, sI_1, sI_2, sA_1, sA_2, subK, add0, sub0, or0, lN_add, lN_mul, L_0, L_1, L_2, L_3, L_4, L_5, L_6, L_7, L_8, L_9, L_10, L_11, L_12, L_13, L_14, L_15, L_16, L_17, L_18, L_19, L_20, L_30, L_31, L_32, L_35, L_37, L_39, L_40, L_43, L_48, L_57, L_59, L_60, L_97, L_99, L_100, L_120, L_122, L_127, L_160, L_200, L_255, L_999, L_1000, L_100000, L_1000000, L_24, L_33, L_34, L_36, L_38, L_69, L_70, L_72, L_214, L_215, L_288, L_174, L_175, L_206, LL_0, LL_1, LL_2, LL_3, LL_5, LL_9, LL_10, LL_11, LL_12, LL_19, LL_20, LL_30, LL_39, LL_60, LL_99, LL_127, LL_999, e31, hbit, mxN, es, Bool.false_eq_true, Nat.zero_le]
      · obtain ⟨c1, c2⟩ := frankByShift_e (s := s) (i := i) e1 hi (by omega) hx
        obtain ⟨_, k1, m, w2, g2, rfl, k2⟩ := law36_e (g0 := sI g' 7 (nI s)) P c2 hi (s := s) (by omega) hx
        refine ⟨(nI (mxN (woN a P i) (s + 1)), nI (s + 1), g2), ?_, w2, g2, rfl, k2⟩
        unfold mX7_leftAtWorst_l5
        rw [hP] at hbit
        have es : woN a P i s = sumN (smN a P i s) 6 := by unfold woN; rw [hP]; rfl
        have hsm := sm_le a P i s 6
        simp (disch := omega) only [↓reduceIte, obs, esc_il, esc_ir, leT, leF, ltT, ltF, eqT, eqF, nleT, nleF, nltT, nltF, neqT, neqF, nI_add, pk_mul, ald_nI, ast_nI, irm_nI, idv_nI, zbT, zbF, in_T, in_F1, in_F2, nI_l, sI_1, sI_2, sA_1, sA_2, subK, add0, sub0, or0, lN_add, lN_mul, L_0, L_1, L_2, L_3, L_4, L_5, L_6, L_7, L_8, L_9, L_10, L_11, L_12, L_13, L_14, L_15, L_16, L_17, L_18, L_19, L_20, L_30, L_31, L_32, L_35, L_37, L_39, L_40, L_43, L_48, L_57, L_59, L_60, L_97, L_99, L_100, L_120, L_122, L_127, L_160, L_200, L_255, L_999, L_1000, L_100000, L_1000000, L_24, L_33, L_34, L_36, L_38, L_69, L_70, L_72, L_214, L_215, L_288, L_174, L_175, L_206, LL_0, LL_1, LL_2, LL_3, LL_5, LL_9, LL_10, LL_11, LL_12, LL_19, LL_20, LL_30, LL_39, LL_60, LL_99, LL_127, LL_999, e31, hbit, c1, k1, mxN, es]
        by_cases hc : sumN (smN a P i s) 6 ≤ mxN (woN a P i) s
        · simp (disch := omega) only [↓reduceIte, ltF, nleT]
        · simp (disch := omega) only [↓reduceIte, ltT, nleF]
    · rintro x ⟨w, g', rfl, e1⟩
      refine ⟨_, ?_, nI 6, w, g', rfl, e1⟩
      unfold mX7_leftAtWorst_l5
      simp (disch := omega) only [↓reduceIte, obs, esc_il, esc_ir, leT, leF, ltT, ltF, eqT, eqF, nleT, nleF, nltT, nltF, neqT, neqF, nI_add, pk_mul, ald_nI, ast_nI, irm_nI, idv_nI, zbT, zbF, in_T, in_F1, in_F2, nI_l, sI_1, sI_2, sA_1, sA_2, subK, add0, sub0, or0, lN_add, lN_mul, L_0, L_1, L_2, L_3, L_4, L_5, L_6, L_7, L_8, L_9, L_10, L_11, L_12, L_13, L_14, L_15, L_16, L_17, L_18, L_19, L_20, L_30, L_31, L_32, L_35, L_37, L_39, L_40, L_43, L_48, L_57, L_59, L_60, L_97, L_99, L_100, L_120, L_122, L_127, L_160, L_200, L_255, L_999, L_1000, L_100000, L_1000000, L_24, L_33, L_34, L_36, L_38, L_69, L_70, L_72, L_214, L_215, L_288, L_174, L_175, L_206, LL_0, LL_1, LL_2, LL_3, LL_5, LL_9, LL_10, LL_11, LL_12, LL_19, LL_20, LL_30, LL_39, LL_60, LL_99, LL_127, LL_999]
  obtain ⟨_, k1, m, w, g', rfl, k2⟩ := hL
  refine ⟨w, g', ?_, k2⟩
  unfold mX7_leftAtWorst
  rw [L_0, k1, obs]
def akF (W : Nat → Nat) (c : Nat) : Nat → Int32 × Nat
  | 0 => (-nI 4, c)
  | n + 1 => if (akF W c n).2 ≤ W n then akF W c n else (nI n, W n)
theorem akF_y {W : Nat → Nat} {c n : Nat} (h : (akF W c n).2 ≤ W n) : akF W c (n + 1) = akF W c n := if_pos h
theorem akF_n {W : Nat → Nat} {c n : Nat} (h : ¬ (akF W c n).2 ≤ W n) : akF W c (n + 1) = (nI n, W n) := if_neg h
theorem akF_le {W : Nat → Nat} {c : Nat} (hc : c ≤ 6) (hW : ∀ i, W i ≤ 6) : ∀ n, (akF W c n).2 ≤ 6
  | 0 => hc
  | n + 1 => by
    rw [akF]
    split
    · exact akF_le hc hW n
    · exact hW n
theorem ask26_e {h g : GS} {a : AH} {v : Nat} (P : Nat → Bool) (hh : HV h a) (hv : HV g (aI a 7 v)) (hi : HI a) (g0 : GS) {c : Nat} (hc : c ≤ 6) : ∃ x, whO (mX7_ask_l26 h (orZ P 6, g0)) FU (-nI 4, nI c, nI 0, g) = some x ∧ ∃ m g', x = ((akF (fun i => mxN (woN a P i) 6) c (a.2 6)).1, nI (akF (fun i => mxN (woN a P i) 6) c (a.2 6)).2, m, g') := by
  have hb := hi.nb
  refine whO_inv (fun (i : Nat) (x : Int32 × Int32 × Int32 × GS) => ∃ w g', x = ((akF (fun i => mxN (woN a P i) 6) c i).1, nI (akF (fun i => mxN (woN a P i) 6) c i).2, nI i, g') ∧ HV g' (aI a 7 w)) (a.2 6) _ ?_ ?_ _ ⟨v, g, rfl, hv⟩ (by omega)
  · rintro i x hlt ⟨w, g', rfl, e1⟩
    left
    obtain ⟨w2, g2, k1, k2⟩ := law_e P e1 hi hlt
    have l1 := akF_le (W := fun i => mxN (woN a P i) 6) hc (fun i => mxN_le (woN_le a P i) 6) i
    have l2 := mxN_le (woN_le a P i) 6
    unfold mX7_ask_l26
    by_cases hcc : (akF (fun i => mxN (woN a P i) 6) c i).2 ≤ mxN (woN a P i) 6
    · refine ⟨_, ?_, w2, g2, by rw [akF_y hcc], k2⟩
      simp (disch := omega) only [↓reduceIte, obs, esc_il, esc_ir, leT, leF, ltT, ltF, eqT, eqF, nleT, nleF, nltT, nltF, neqT, neqF, nI_add, pk_mul, ald_nI, ast_nI, irm_nI, idv_nI, zbT, zbF, in_T, in_F1, in_F2, nI_l, sI_1, sI_2, sA_1, sA_2, subK, add0, sub0, or0, lN_add, lN_mul, L_0, L_1, L_2, L_3, L_4, L_5, L_6, L_7, L_8, L_9, L_10, L_11, L_12, L_13, L_14, L_15, L_16, L_17, L_18, L_19, L_20, L_30, L_31, L_32, L_35, L_37, L_39, L_40, L_43, L_48, L_57, L_59, L_60, L_97, L_99, L_100, L_120, L_122, L_127, L_160, L_200, L_255, L_999, L_1000, L_100000, L_1000000, L_24, L_33, L_34, L_36, L_38, L_69, L_70, L_72, L_214, L_215, L_288, L_174, L_175, L_206, LL_0, LL_1, LL_2, LL_3, LL_5, LL_9, LL_10, LL_11, LL_12, LL_19, LL_20, LL_30, LL_39, LL_60, LL_99, LL_127, LL_999, hh.w, k1]
    · refine ⟨_, ?_, w2, g2, by rw [akF_n hcc], k2⟩
      simp (disch := omega) only [↓reduceIte, obs, esc_il, esc_ir, leT, leF, ltT, ltF, eqT, eqF, nleT, nleF, nltT, nltF, neqT, neqF, nI_add, pk_mul, ald_nI, ast_nI, irm_nI, idv_nI, zbT, zbF, in_T, in_F1, in_F2, nI_l, sI_1, sI_2, sA_1, sA_2, subK, add0, sub0, or0, lN_add, lN_mul, L_0, L_1, L_2, L_3, L_4, L_5, L_6, L_7, L_8, L_9, L_10, L_11, L_12, L_13, L_14, L_15, L_16, L_17, L_18, L_19, L_20, L_30, L_31, L_32, L_35, L_37, L_39, L_40, L_43, L_48, L_57, L_59, L_60, L_97, L_99, L_100, L_120, L_122, L_127, L_160, L_200, L_255, L_999, L_1000, L_100000, L_1000000, L_24, L_33, L_34, L_36, L_38, L_69, L_70, L_72, L_214, L_215, L_288, L_174, L_175, L_206, LL_0, LL_1, LL_2, LL_3, LL_5, LL_9, LL_10, LL_11, LL_12, LL_19, LL_20, LL_30, LL_39, LL_60, LL_99, LL_127, LL_999, hh.w, k1]
  · rintro x ⟨w, g', rfl, e1⟩
    refine ⟨_, ?_, nI (a.2 6), g', rfl⟩
    unfold mX7_ask_l26
    simp (disch := omega) only [↓reduceIte, obs, esc_il, esc_ir, leT, leF, ltT, ltF, eqT, eqF, nleT, nleF, nltT, nltF, neqT, neqF, nI_add, pk_mul, ald_nI, ast_nI, irm_nI, idv_nI, zbT, zbF, in_T, in_F1, in_F2, nI_l, sI_1, sI_2, sA_1, sA_2, subK, add0, sub0, or0, lN_add, lN_mul, L_0, L_1, L_2, L_3, L_4, L_5, L_6, L_7, L_8, L_9, L_10, L_11, L_12, L_13, L_14, L_15, L_16, L_17, L_18, L_19, L_20, L_30, L_31, L_32, L_35, L_37, L_39, L_40, L_43, L_48, L_57, L_59, L_60, L_97, L_99, L_100, L_120, L_122, L_127, L_160, L_200, L_255, L_999, L_1000, L_100000, L_1000000, L_24, L_33, L_34, L_36, L_38, L_69, L_70, L_72, L_214, L_215, L_288, L_174, L_175, L_206, LL_0, LL_1, LL_2, LL_3, LL_5, LL_9, LL_10, LL_11, LL_12, LL_19, LL_20, LL_30, LL_39, LL_60, LL_99, LL_127, LL_999, hh.w]
theorem ask22_e (P : Nat → Bool) (g0 : GS) : whO (mX8_ask_l22 (orZ P 6, g0)) FU (nI 0, nI 0) = some (nI (sumN (fun v => bN (P v)) 6), nI 6) := by
  refine whO_for (fun i => (nI (sumN (fun v => bN (P v)) i), nI i)) 6 _ (by rfl) ?_ ?_ (by decide)
  · intro i hi
    have hbit := orZ_bit P (m := 6) (i := i) (by decide) hi
    have e31 : (31 : Int32) = nI 31 := rfl
    unfold mX8_ask_l22
    simp (disch := omega) only [↓reduceIte, obs, esc_il, esc_ir, leT, leF, ltT, ltF, eqT, eqF, nleT, nleF, nltT, nltF, neqT, neqF, nI_add, pk_mul, ald_nI, ast_nI, irm_nI, idv_nI, zbT, zbF, in_T, in_F1, in_F2, nI_l, sI_1, sI_2, sA_1, sA_2, subK, add0, sub0, or0, lN_add, lN_mul, L_0, L_1, L_2, L_3, L_4, L_5, L_6, L_7, L_8, L_9, L_10, L_11, L_12, L_13, L_14, L_15, L_16, L_17, L_18, L_19, L_20, L_30, L_31, L_32, L_35, L_37, L_39, L_40, L_43, L_48, L_57, L_59, L_60, L_97, L_99, L_100, L_120, L_122, L_127, L_160, L_200, L_255, L_999, L_1000, L_100000, L_1000000, L_24, L_33, L_34, L_36, L_38, L_69, L_70, L_72, L_214, L_215, L_288, L_174, L_175, L_206, LL_0, LL_1, LL_2, LL_3, LL_5, LL_9, LL_10, LL_11, LL_12, LL_19, LL_20, LL_30, LL_39, LL_60, LL_99, LL_127, LL_999, e31, hbit, sumN]
    rfl
  · unfold mX8_ask_l22
    simp (disch := omega) only [↓reduceIte, obs, esc_il, esc_ir, leT, leF, ltT, ltF, eqT, eqF, nleT, nleF, nltT, nltF, neqT, neqF, nI_add, pk_mul, ald_nI, ast_nI, irm_nI, idv_nI, zbT, zbF, in_T, in_F1, in_F2, nI_l, sI_1, sI_2, sA_1, sA_2, subK, add0, sub0, or0, lN_add, lN_mul, L_0, L_1, L_2, L_3, L_4, L_5, L_6, L_7, L_8, L_9, L_10, L_11, L_12, L_13, L_14, L_15, L_16, L_17, L_18, L_19, L_20, L_30, L_31, L_32, L_35, L_37, L_39, L_40, L_43, L_48, L_57, L_59, L_60, L_97, L_99, L_100, L_120, L_122, L_127, L_160, L_200, L_255, L_999, L_1000, L_100000, L_1000000, L_24, L_33, L_34, L_36, L_38, L_69, L_70, L_72, L_214, L_215, L_288, L_174, L_175, L_206, LL_0, LL_1, LL_2, LL_3, LL_5, LL_9, LL_10, LL_11, LL_12, LL_19, LL_20, LL_30, LL_39, LL_60, LL_99, LL_127, LL_999]
theorem ask80_e {G : GS} {a : AH} (P : Nat → Bool) (hi : HI a) (hh : ∀ v q, v < 6 → q < a.2 6 → G.1 18 (12 * v + q) = nI (frN (aI a 7 v) q)) {s i : Nat} (hs : s < 6) (hx : i < a.2 6) (x y z : Int32) : ∃ m, whO (mX8_ask_l80 (orZ P 6, G) (x, y, nI i) (z, nI s)) FU (nI 0, nI 0) = some (nI (woN a P i s), m) := by
  have hb := hi.nb
  have hbs := orZ_bit P (m := 6) (i := s) (by decide) hs
  have e31 : (31 : Int32) = nI 31 := rfl
  cases hP : P s
  · rw [hP] at hbs
    have es : woN a P i s = 0 := by unfold woN; rw [hP]; rfl
    refine ⟨nI 0, ?_⟩
    rw [es]
    refine whO_for (fun _ => (nI 0, nI 0)) 0 _ rfl (fun i h => absurd h (Nat.not_lt_zero _)) ?_ (by decide)
    unfold mX8_ask_l80
    simp (disch := omega) only [↓reduceIte, obs, esc_il, esc_ir, leT, leF, ltT, ltF, eqT, eqF, nleT, nleF, nltT, nltF, neqT, neqF, nI_add, pk_mul, ald_nI, ast_nI, irm_nI, idv_nI, zbT, zbF, in_T, in_F1, in_F2, nI_l, sI_1, sI_2, sA_1, sA_2, subK, add0, sub0, or0, lN_add, lN_mul, L_0, L_1, L_2, L_3, L_4, L_5, L_6, L_7, L_8, L_9, L_10, L_11, L_12, L_13, L_14, L_15, L_16, L_17, L_18, L_19, L_20, L_30, L_31, L_32, L_35, L_37, L_39, L_40, L_43, L_48, L_57, L_59, L_60, L_97, L_99, L_100, L_120, L_122, L_127, L_160, L_200, L_255, L_999, L_1000, L_100000, L_1000000, L_24, L_33, L_34, L_36, L_38, L_69, L_70, L_72, L_214, L_215, L_288, L_174, L_175, L_206, LL_0, LL_1, LL_2, LL_3, LL_5, LL_9, LL_10, LL_11, LL_12, LL_19, LL_20, LL_30, LL_39, LL_60, LL_99, LL_127, LL_999, e31, hbs, Bool.false_eq_true]
  · rw [hP] at hbs
    have es : woN a P i s = sumN (smN a P i s) 6 := by unfold woN; rw [hP]; rfl
    refine ⟨nI 6, ?_⟩
    rw [es]
    refine whO_for (fun o => (nI (sumN (smN a P i s) o), nI o)) 6 _ (by rfl) ?_ ?_ (by decide)
    · intro o ho
      have hbit := orZ_bit P (m := 6) (i := o) (by decide) ho
      have l1 := frN_le (hi.i7 o (by omega)) i
      have l2 := frN_le (hi.i7 s (by omega)) i
      unfold mX8_ask_l80
      cases hPo : P o
      · rw [hPo] at hbit
        have es : smN a P i s o = 0 := by unfold smN; rw [hPo]; rfl
        simp (disch := omega) only [↓reduceIte, obs, esc_il, esc_ir, leT, leF, ltT, ltF, eqT, eqF, nleT, nleF, nltT, nltF, neqT, neqF, nI_add, pk_mul, ald_nI, ast_nI, irm_nI, idv_nI, zbT, zbF, in_T, in_F1, in_F2, nI_l, sI_1, sI_2, sA_1, sA_2, subK, add0, sub0, or0, lN_add, lN_mul, L_0, L_1, L_2, L_3, L_4, L_5, L_6, L_7, L_8, L_9, L_10, L_11, L_12, L_13, L_14, L_15, L_16, L_17, L_18, L_19, L_20, L_30, L_31, L_32, L_35, L_37, L_39, L_40, L_43, L_48, L_57, L_59, L_60, L_97, L_99, L_100, L_120, L_122, L_127, L_160, L_200, L_255, L_999, L_1000, L_100000, L_1000000, L_24, L_33, L_34, L_36, L_38, L_69, L_70, L_72, L_214, L_215, L_288, L_174, L_175, L_206, LL_0, LL_1, LL_2, LL_3, LL_5, LL_9, LL_10, LL_11, LL_12, LL_19, LL_20, LL_30, LL_39, LL_60, LL_99, LL_127, LL_999, e31, hbs, hbit, sumN, es, Bool.false_eq_true, Nat.add_zero]
      · rw [hPo] at hbit
        by_cases hc : frN (aI a 7 o) i = frN (aI a 7 s) i
        · have es : smN a P i s o = 1 := by unfold smN; rw [hPo, hc]; simp [bN]
          simp (disch := omega) only [↓reduceIte, obs, esc_il, esc_ir, leT, leF, ltT, ltF, eqT, eqF, nleT, nleF, nltT, nltF, neqT, neqF, nI_add, pk_mul, ald_nI, ast_nI, irm_nI, idv_nI, zbT, zbF, in_T, in_F1, in_F2, nI_l, sI_1, sI_2, sA_1, sA_2, subK, add0, sub0, or0, lN_add, lN_mul, L_0, L_1, L_2, L_3, L_4, L_5, L_6, L_7, L_8, L_9, L_10, L_11, L_12, L_13, L_14, L_15, L_16, L_17, L_18, L_19, L_20, L_30, L_31, L_32, L_35, L_37, L_39, L_40, L_43, L_48, L_57, L_59, L_60, L_97, L_99, L_100, L_120, L_122, L_127, L_160, L_200, L_255, L_999, L_1000, L_100000, L_1000000, L_24, L_33, L_34, L_36, L_38, L_69, L_70, L_72, L_214, L_215, L_288, L_174, L_175, L_206, LL_0, LL_1, LL_2, LL_3, LL_5, LL_9, LL_10, LL_11, LL_12, LL_19, LL_20, LL_30, LL_39, LL_60, LL_99, LL_127, LL_999, e31, hbs, hbit, hh s i hs hx, hh o i ho hx, sumN, es]
        · have es : smN a P i s o = 0 := by unfold smN; simp [hc, bN]
          simp (disch := omega) only [↓reduceIte, obs, esc_il, esc_ir, leT, leF, ltT, ltF, eqT, eqF, nleT, nleF, nltT, nltF, neqT, neqF, nI_add, pk_mul, ald_nI, ast_nI, irm_nI, idv_nI, zbT, zbF, in_T, in_F1, in_F2, nI_l, sI_1, sI_2, sA_1, sA_2, subK, add0, sub0, or0, lN_add, lN_mul, L_0, L_1, L_2, L_3, L_4, L_5, L_6, L_7, L_8, L_9, L_10, L_11, L_12, L_13, L_14, L_15, L_16, L_17, L_18, L_19, L_20, L_30, L_31, L_32, L_35, L_37, L_39, L_40, L_43, L_48, L_57, L_59, L_60, L_97, L_99, L_100, L_120, L_122, L_127, L_160, L_200, L_255, L_999, L_1000, L_100000, L_1000000, L_24, L_33, L_34, L_36, L_38, L_69, L_70, L_72, L_214, L_215, L_288, L_174, L_175, L_206, LL_0, LL_1, LL_2, LL_3, LL_5, LL_9, LL_10, LL_11, LL_12, LL_19, LL_20, LL_30, LL_39, LL_60, LL_99, LL_127, LL_999, e31, hbs, hbit, hh s i hs hx, hh o i ho hx, sumN, es, Nat.add_zero]
    · unfold mX8_ask_l80
      simp (disch := omega) only [↓reduceIte, obs, esc_il, esc_ir, leT, leF, ltT, ltF, eqT, eqF, nleT, nleF, nltT, nltF, neqT, neqF, nI_add, pk_mul, ald_nI, ast_nI, irm_nI, idv_nI, zbT, zbF, in_T, in_F1, in_F2, nI_l, sI_1, sI_2, sA_1, sA_2, subK, add0, sub0, or0, lN_add, lN_mul, L_0, L_1, L_2, L_3, L_4, L_5, L_6, L_7, L_8, L_9, L_10, L_11, L_12, L_13, L_14, L_15, L_16, L_17, L_18, L_19, L_20, L_30, L_31, L_32, L_35, L_37, L_39, L_40, L_43, L_48, L_57, L_59, L_60, L_97, L_99, L_100, L_120, L_122, L_127, L_160, L_200, L_255, L_999, L_1000, L_100000, L_1000000, L_24, L_33, L_34, L_36, L_38, L_69, L_70, L_72, L_214, L_215, L_288, L_174, L_175, L_206, LL_0, LL_1, LL_2, LL_3, LL_5, LL_9, LL_10, LL_11, LL_12, LL_19, LL_20, LL_30, LL_39, LL_60, LL_99, LL_127, LL_999]
theorem ask67_e {G : GS} {a : AH} (P : Nat → Bool) (hi : HI a) (hh : ∀ v q, v < 6 → q < a.2 6 → G.1 18 (12 * v + q) = nI (frN (aI a 7 v) q)) {i : Nat} (hx : i < a.2 6) (x y : Int32) : whO (mX8_ask_l67 (orZ P 6, G) (x, y, nI i)) FU (nI 0, nI 0) = some (nI (mxN (woN a P i) 6), nI 6) := by
  refine whO_for (fun s => (nI (mxN (woN a P i) s), nI s)) 6 _ (by rfl) ?_ ?_ (by decide)
  · intro s hs
    obtain ⟨m, k1⟩ := ask80_e P hi hh hs hx x y (nI (mxN (woN a P i) s))
    have l1 := woN_le a P i s
    have l2 := mxN_le (woN_le a P i) s
    unfold mX8_ask_l67
    simp only [mxN]
    by_cases hc : woN a P i s ≤ mxN (woN a P i) s
    · simp (disch := omega) only [↓reduceIte, obs, esc_il, esc_ir, leT, leF, ltT, ltF, eqT, eqF, nleT, nleF, nltT, nltF, neqT, neqF, nI_add, pk_mul, ald_nI, ast_nI, irm_nI, idv_nI, zbT, zbF, in_T, in_F1, in_F2, nI_l, sI_1, sI_2, sA_1, sA_2, subK, add0, sub0, or0, lN_add, lN_mul, L_0, L_1, L_2, L_3, L_4, L_5, L_6, L_7, L_8, L_9, L_10, L_11, L_12, L_13, L_14, L_15, L_16, L_17, L_18, L_19, L_20, L_30, L_31, L_32, L_35, L_37, L_39, L_40, L_43, L_48, L_57, L_59, L_60, L_97, L_99, L_100, L_120, L_122, L_127, L_160, L_200, L_255, L_999, L_1000, L_100000, L_1000000, L_24, L_33, L_34, L_36, L_38, L_69, L_70, L_72, L_214, L_215, L_288, L_174, L_175, L_206, LL_0, LL_1, LL_2, LL_3, LL_5, LL_9, LL_10, LL_11, LL_12, LL_19, LL_20, LL_30, LL_39, LL_60, LL_99, LL_127, LL_999, k1]
    · simp (disch := omega) only [↓reduceIte, obs, esc_il, esc_ir, leT, leF, ltT, ltF, eqT, eqF, nleT, nleF, nltT, nltF, neqT, neqF, nI_add, pk_mul, ald_nI, ast_nI, irm_nI, idv_nI, zbT, zbF, in_T, in_F1, in_F2, nI_l, sI_1, sI_2, sA_1, sA_2, subK, add0, sub0, or0, lN_add, lN_mul, L_0, L_1, L_2, L_3, L_4, L_5, L_6, L_7, L_8, L_9, L_10, L_11, L_12, L_13, L_14, L_15, L_16, L_17, L_18, L_19, L_20, L_30, L_31, L_32, L_35, L_37, L_39, L_40, L_43, L_48, L_57, L_59, L_60, L_97, L_99, L_100, L_120, L_122, L_127, L_160, L_200, L_255, L_999, L_1000, L_100000, L_1000000, L_24, L_33, L_34, L_36, L_38, L_69, L_70, L_72, L_214, L_215, L_288, L_174, L_175, L_206, LL_0, LL_1, LL_2, LL_3, LL_5, LL_9, LL_10, LL_11, LL_12, LL_19, LL_20, LL_30, LL_39, LL_60, LL_99, LL_127, LL_999, k1]
  · unfold mX8_ask_l67
    simp (disch := omega) only [↓reduceIte, obs, esc_il, esc_ir, leT, leF, ltT, ltF, eqT, eqF, nleT, nleF, nltT, nltF, neqT, neqF, nI_add, pk_mul, ald_nI, ast_nI, irm_nI, idv_nI, zbT, zbF, in_T, in_F1, in_F2, nI_l, sI_1, sI_2, sA_1, sA_2, subK, add0, sub0, or0, lN_add, lN_mul, L_0, L_1, L_2, L_3, L_4, L_5, L_6, L_7, L_8, L_9, L_10, L_11, L_12, L_13, L_14, L_15, L_16, L_17, L_18, L_19, L_20, L_30, L_31, L_32, L_35, L_37, L_39, L_40, L_43, L_48, L_57, L_59, L_60, L_97, L_99, L_100, L_120, L_122, L_127, L_160, L_200, L_255, L_999, L_1000, L_100000, L_1000000, L_24, L_33, L_34, L_36, L_38, L_69, L_70, L_72, L_214, L_215, L_288, L_174, L_175, L_206, LL_0, LL_1, LL_2, LL_3, LL_5, LL_9, LL_10, LL_11, LL_12, LL_19, LL_20, LL_30, LL_39, LL_60, LL_99, LL_127, LL_999]
theorem ask51_e {G : GS} {a : AH} (P : Nat → Bool) (hp : PV (G.1 0) 0 a) (hi : HI a) (hh : ∀ v q, v < 6 → q < a.2 6 → G.1 18 (12 * v + q) = nI (frN (aI a 7 v) q)) {c : Nat} (hc : c ≤ 6) : whO (mX8_ask_l51 (orZ P 6, G)) FU (nI c, -nI 4, nI 0) = some (nI (akF (fun i => mxN (woN a P i) 6) c (a.2 6)).2, (akF (fun i => mxN (woN a P i) 6) c (a.2 6)).1, nI (a.2 6)) := by
  have hb := hi.nb
  refine whO_for (fun i => (nI (akF (fun i => mxN (woN a P i) 6) c i).2, (akF (fun i => mxN (woN a P i) 6) c i).1, nI i)) (a.2 6) _ (by rfl) ?_ ?_ (by omega)
  · intro i hx
    have k1 := ask67_e P hi hh hx (nI (akF (fun i => mxN (woN a P i) 6) c i).2) (akF (fun i => mxN (woN a P i) 6) c i).1
    have l1 := akF_le (W := fun i => mxN (woN a P i) 6) hc (fun i => mxN_le (woN_le a P i) 6) i
    have l2 := mxN_le (woN_le a P i) 6
    unfold mX8_ask_l51
    by_cases hcc : (akF (fun i => mxN (woN a P i) 6) c i).2 ≤ mxN (woN a P i) 6
    · rw [akF_y hcc]
      simp (disch := omega) only [↓reduceIte, obs, esc_il, esc_ir, leT, leF, ltT, ltF, eqT, eqF, nleT, nleF, nltT, nltF, neqT, neqF, nI_add, pk_mul, ald_nI, ast_nI, irm_nI, idv_nI, zbT, zbF, in_T, in_F1, in_F2, nI_l, sI_1, sI_2, sA_1, sA_2, subK, add0, sub0, or0, lN_add, lN_mul, L_0, L_1, L_2, L_3, L_4, L_5, L_6, L_7, L_8, L_9, L_10, L_11, L_12, L_13, L_14, L_15, L_16, L_17, L_18, L_19, L_20, L_30, L_31, L_32, L_35, L_37, L_39, L_40, L_43, L_48, L_57, L_59, L_60, L_97, L_99, L_100, L_120, L_122, L_127, L_160, L_200, L_255, L_999, L_1000, L_100000, L_1000000, L_24, L_33, L_34, L_36, L_38, L_69, L_70, L_72, L_214, L_215, L_288, L_174, L_175, L_206, LL_0, LL_1, LL_2, LL_3, LL_5, LL_9, LL_10, LL_11, LL_12, LL_19, LL_20, LL_30, LL_39, LL_60, LL_99, LL_127, LL_999, longOn_e hp (by decide), k1]
    · rw [akF_n hcc]
      simp (disch := omega) only [↓reduceIte, obs, esc_il, esc_ir, leT, leF, ltT, ltF, eqT, eqF, nleT, nleF, nltT, nltF, neqT, neqF, nI_add, pk_mul, ald_nI, ast_nI, irm_nI, idv_nI, zbT, zbF, in_T, in_F1, in_F2, nI_l, sI_1, sI_2, sA_1, sA_2, subK, add0, sub0, or0, lN_add, lN_mul, L_0, L_1, L_2, L_3, L_4, L_5, L_6, L_7, L_8, L_9, L_10, L_11, L_12, L_13, L_14, L_15, L_16, L_17, L_18, L_19, L_20, L_30, L_31, L_32, L_35, L_37, L_39, L_40, L_43, L_48, L_57, L_59, L_60, L_97, L_99, L_100, L_120, L_122, L_127, L_160, L_200, L_255, L_999, L_1000, L_100000, L_1000000, L_24, L_33, L_34, L_36, L_38, L_69, L_70, L_72, L_214, L_215, L_288, L_174, L_175, L_206, LL_0, LL_1, LL_2, LL_3, LL_5, LL_9, LL_10, LL_11, LL_12, LL_19, LL_20, LL_30, LL_39, LL_60, LL_99, LL_127, LL_999, longOn_e hp (by decide), k1]
  · unfold mX8_ask_l51
    simp (disch := omega) only [↓reduceIte, obs, esc_il, esc_ir, leT, leF, ltT, ltF, eqT, eqF, nleT, nleF, nltT, nltF, neqT, neqF, nI_add, pk_mul, ald_nI, ast_nI, irm_nI, idv_nI, zbT, zbF, in_T, in_F1, in_F2, nI_l, sI_1, sI_2, sA_1, sA_2, subK, add0, sub0, or0, lN_add, lN_mul, L_0, L_1, L_2, L_3, L_4, L_5, L_6, L_7, L_8, L_9, L_10, L_11, L_12, L_13, L_14, L_15, L_16, L_17, L_18, L_19, L_20, L_30, L_31, L_32, L_35, L_37, L_39, L_40, L_43, L_48, L_57, L_59, L_60, L_97, L_99, L_100, L_120, L_122, L_127, L_160, L_200, L_255, L_999, L_1000, L_100000, L_1000000, L_24, L_33, L_34, L_36, L_38, L_69, L_70, L_72, L_214, L_215, L_288, L_174, L_175, L_206, LL_0, LL_1, LL_2, LL_3, LL_5, LL_9, LL_10, LL_11, LL_12, LL_19, LL_20, LL_30, LL_39, LL_60, LL_99, LL_127, LL_999, longOn_e hp (by decide)]
theorem st_ask {F : FS} {M : GS} (hR : Rel F M) (w : Int32) : ∃ (o : Int32 × GS) (o' : Int32 × GS), mX7_ask (F.1 0) (F.1 1) (F.1 6) w = some o ∧ mX8_ask M w = some o' ∧ o.1 = o'.1 ∧ Rel ((va_up F.1 1 o.2), F.2.1, F.2.2) o'.2 := by
  obtain ⟨⟨a, hv, hp, hi, hy⟩, -⟩ := id hR
  obtain ⟨n, si, sv, sc, sr⟩ := hR.S.fn
  have hb := hi.nb
  unfold mX7_ask mX8_ask
  rcases pair_cs w with ⟨h1, h2⟩ | hw
  · simp (disch := omega) only [↓reduceIte, obs, esc_il, esc_ir, leT, leF, ltT, ltF, eqT, eqF, nleT, nleF, nltT, nltF, neqT, neqF, nI_add, pk_mul, ald_nI, ast_nI, irm_nI, idv_nI, zbT, zbF, in_T, in_F1, in_F2, nI_l, sI_1, sI_2, sA_1, sA_2, subK, add0, sub0, or0, lN_add, lN_mul, L_0, L_1, L_2, L_3, L_4, L_5, L_6, L_7, L_8, L_9, L_10, L_11, L_12, L_13, L_14, L_15, L_16, L_17, L_18, L_19, L_20, L_30, L_31, L_32, L_35, L_37, L_39, L_40, L_43, L_48, L_57, L_59, L_60, L_97, L_99, L_100, L_120, L_122, L_127, L_160, L_200, L_255, L_999, L_1000, L_100000, L_1000000, L_24, L_33, L_34, L_36, L_38, L_69, L_70, L_72, L_214, L_215, L_288, L_174, L_175, L_206, LL_0, LL_1, LL_2, LL_3, LL_5, LL_9, LL_10, LL_11, LL_12, LL_19, LL_20, LL_30, LL_39, LL_60, LL_99, LL_127, LL_999, h1, h2]
    exact ⟨_, _, rfl, rfl, rfl, hR.same 1⟩
  obtain ⟨v, g', k1, -, k3⟩ := fs_e (tr := F.1 1) sc hv hi
  obtain ⟨f', h, l1, l2, l3, l4⟩ := sn_e sr hp hi
  have hc : sumN (fun v => bN (shP a n si sv v)) 6 ≤ 6 := sumN_le (B := 1) (fun o => bN_le _) 6
  obtain ⟨_, m1, m, g2, rfl⟩ := ask26_e (shP a n si sv) hv k3 hi g' hc
  have m2 := ask51_e (G := scM M f' h) (shP a n si sv) l3 hi l4 hc
  have m3 := ask22_e (shP a n si sv) (scM M f' h)
  rcases hw with rfl | rfl
  all_goals
    simp (disch := omega) only [↓reduceIte, obs, esc_il, esc_ir, leT, leF, ltT, ltF, eqT, eqF, nleT, nleF, nltT, nltF, neqT, neqF, nI_add, pk_mul, ald_nI, ast_nI, irm_nI, idv_nI, zbT, zbF, in_T, in_F1, in_F2, nI_l, sI_1, sI_2, sA_1, sA_2, subK, add0, sub0, or0, lN_add, lN_mul, L_0, L_1, L_2, L_3, L_4, L_5, L_6, L_7, L_8, L_9, L_10, L_11, L_12, L_13, L_14, L_15, L_16, L_17, L_18, L_19, L_20, L_30, L_31, L_32, L_35, L_37, L_39, L_40, L_43, L_48, L_57, L_59, L_60, L_97, L_99, L_100, L_120, L_122, L_127, L_160, L_200, L_255, L_999, L_1000, L_100000, L_1000000, L_24, L_33, L_34, L_36, L_38, L_69, L_70, L_72, L_214, L_215, L_288, L_174, L_175, L_206, LL_0, LL_1, LL_2, LL_3, LL_5, LL_9, LL_10, LL_11, LL_12, LL_19, LL_20, LL_30, LL_39, LL_60, LL_99, LL_127, LL_999, np0, np1, k1, l1, bitCount_e, m1, m2, m3]
    by_cases hB : (akF (fun i => mxN (woN a (shP a n si sv) i) 6) (sumN (fun v => bN (shP a n si sv v)) 6) (a.2 6)).1 = -nI 4
    · simp only [if_pos hB, obs, esc_il]
      exact ⟨_, _, rfl, rfl, rfl, hR.scratch2 _ l2 h⟩
    · simp only [if_neg hB, obs, esc_il, esc_ir]
      exact ⟨_, _, rfl, rfl, rfl, hR.scratch2 _ l2 h⟩
