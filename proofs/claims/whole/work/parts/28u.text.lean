/-! all lines, and the text -/
def tlZ (lt : Int32) (i : Nat) : Int32 := lt ||| (nI 1 <<< (nI i &&& nI 31))
section
variable {rd M : GS} {n : Nat} {c : Nat → Nat}
/-- how a line ends in both: with a fault, or well -/
def LnE (rd M : GS) (n : Nat) (c : Nat → Nat) (t : GS) (b : AH) (td lt : Int32) (fa fp : Int32) (i p : Nat) (x : Option (Int32 × GS × GS)) (y : Option GS) : Prop := (∃ e a rp G tk st sp nu, 0 < e ∧ e < 10 ∧ x = some (nI 0, rdS rd (nI e) (nI a) tk st sp nu lt, t) ∧ y = some G ∧ BK M rp td e a G) ∨ ∃ p' rp b' t' G tk st nu, p < p' ∧ p' ≤ n ∧ x = some (nI 1, rdS rd fa fp tk st (nI p') nu (tlZ lt i), t') ∧ y = some G ∧ ST M n c rp td p' G ∧ HV t' b' ∧ PV rp 0 b' ∧ HI b' ∧ b'.2 11 = b.2 11
theorem lx_up (hn : n ≤ 160) {p : Nat} (hp : p ≤ n) (h : lxT n c p ≠ 0) : p < lxE n c p := by
  obtain ⟨f1, -⟩ := lxS_f (c := c) hp hn
  obtain ⟨-, -, k, -, -⟩ := lxE_f (c := c) hn hp
  have := k h
  omega
theorem RB.ln {G : GS} {m e a : Nat} {td : Int32} (h : RB M G m td e a) (he : 0 < e) (h10 : e < 10) : ∃ G' rp, Option.bind (mX8_readMore G (nI m)) FIN8 = some G' ∧ BK M rp td e a G' := by
  obtain ⟨G', rp, h1, h2⟩ := h
  exact ⟨G', rp, by rw [h1, obs, fin8_brk h2 he h10], h2⟩
theorem RM.ok (hT : Tp rd M n c) {G : GS} {m p : Nat} {td : Int32} {rp : Nat → Int32} (h : RM M n c G m td rp p) (hp : p ≤ n) (hs : sEr n c p = 0) : ∃ G', Option.bind (mX8_readMore G (nI m)) FIN8 = some G' ∧ ST M n c rp td (lxE n c p) G' := by
  obtain ⟨G1, h1, h2⟩ := h
  obtain ⟨G2, k1, k2⟩ := fin8_ok hT hp hs h2
  exact ⟨G2, by rw [h1, obs, k1], k2⟩
theorem RM.bad (hT : Tp rd M n c) {G : GS} {m p : Nat} {td : Int32} {rp : Nat → Int32} (h : RM M n c G m td rp p) (hp : p ≤ n) (hs : sEr n c p ≠ 0) : ∃ G', Option.bind (mX8_readMore G (nI m)) FIN8 = some G' ∧ BK M rp td (sEr n c p) (lxS n c p) G' := by
  obtain ⟨G1, h1, h2⟩ := h
  obtain ⟨G2, k1, k2⟩ := fin8_bad hT hp hs h2
  exact ⟨G2, by rw [h1, obs, k1], k2⟩
theorem line_e (hT : Tp rd M n c) {p i : Nat} (hi8 : i < 8) (hp : p ≤ n) {rp : Nat → Int32} {td : Int32} {G : GS} (hS : ST M n c rp td p G) {b : AH} {t : GS} (hv : HV t b) (hq : PV rp 0 b) (hb : HI b) (hl5 : i < 4 → b.2 5 < 6) (hl12 : i = 7 → b.2 12 < 4) (fa fp tk st nu lt : Int32) : LnE rd M n c t b td lt fa fp i p (TL7 (rdS rd fa fp tk st (nI p) nu lt) t (nI i)) (Option.bind (mX8_readMore G (nI (RO8 i))) FIN8) := by
  have hn := hT.le
  obtain ⟨-, q, -, -, -⟩ := lxE_f (c := c) hn hp
  obtain ⟨-, r, -, -, -⟩ := lxE_f (c := c) hn q
  obtain ⟨-, r2, -, -, -⟩ := lxE_f (c := c) hn r
  have n1 := nEr_le n c p (TN 0 i) (TN 1 i)
  have n2 := nEr_le n c (lxE n c p) (TN 2 i) (TN 3 i)
  have n3 := sEr_le n c (lxE n c p)
  have n4 := sEr_le n c (lxE n c (lxE n c p))
  by_cases e1 : nEr n c p (TN 0 i) (TN 1 i) = 0
  · have v1 := nEr_0 e1
    have u1 := lx_up (c := c) hn hp (by omega)
    by_cases h2 : i = 4 ∨ i = 5 ∨ i = 7
    · by_cases e2 : nEr n c (lxE n c p) (TN 2 i) (TN 3 i) = 0
      · have v2 := nEr_0 e2
        have u2 := lx_up (c := c) hn q (by omega)
        by_cases e3 : sEr n c (lxE n c (lxE n c p)) = 0
        · have u3 := lx_up (c := c) hn r (by rw [sEr_0 e3]; decide)
          obtain ⟨nu', k⟩ := two_ok hT hi8 h2 hp e1 e2 e3 t fa fp tk st nu lt
          right
          rw [k]
          rcases h2 with rfl | rfl | rfl
          · obtain ⟨G', g1, g2⟩ := RM.ok hT (rm5_ok hT hp hS e1 e2) r e3
            refine ⟨_, _, aI (aI b 6 (lxV n c p)) 7 (lxV n c (lxE n c p)), _, G', nI 3, nI (lxS n c (lxE n c (lxE n c p))), nu', by omega, r2, ?_, g1, g2, (hv.i6 _).i7 _, (hq.i6 hb _).i7 (hb.i6 _ v1.2.1 v1.2.2) _, (hb.i6 _ v1.2.1 v1.2.2).i7 _ v2.2.2, rfl⟩
            unfold mX5_tell
            simp (disch := omega) only [↓reduceIte, obs, esc_il, esc_ir, leT, leF, ltT, ltF, eqT, eqF, nleT, nleF, nltT, nltF, neqT, neqF, nI_add, pk_mul, ald_nI, ast_nI, irm_nI, idv_nI, zbT, zbF, in_T, in_F1, in_F2, nI_l, sI_1, sI_2, sA_1, sA_2, subK, add0, sub0, or0, lN_add, lN_mul, L_0, L_1, L_2, L_3, L_4, L_5, L_6, L_7, L_8, L_9, L_10, L_11, L_12, L_13, L_14, L_15, L_16, L_17, L_18, L_19, L_20, L_30, L_31, L_32, L_35, L_37, L_39, L_40, L_43, L_48, L_57, L_59, L_60, L_97, L_99, L_100, L_120, L_122, L_127, L_160, L_200, L_255, L_999, L_1000, L_100000, L_1000000, L_24, L_33, L_34, L_36, L_38, L_69, L_70, L_72, L_214, L_215, L_288, L_174, L_175, L_206, LL_0, LL_1, LL_2, LL_3, LL_5, LL_7, LL_9, LL_10, LL_11, LL_12, LL_19, LL_20, LL_30, LL_39, LL_48, LL_57, LL_60, LL_97, LL_99, LL_122, LL_127, LL_999, rd_1, rd_2, rd_3, rd_4, rd_5, rd_6, rd_7, rd_8, rd_9, rd_s3, rd_s4, rd_s5, rd_s6, rd_s7, rd_s8, rd_s9]
            rfl
          · obtain ⟨G', g1, g2⟩ := RM.ok hT (rm6_ok hT hp hS e1 e2) r e3
            refine ⟨_, _, aI (aI b 8 (lxV n c p)) 9 (lxV n c (lxE n c p)), _, G', nI 3, nI (lxS n c (lxE n c (lxE n c p))), nu', by omega, r2, ?_, g1, g2, (hv.i8 _).i9 _, (hq.i8 hb _).i9 (hb.i8 _ v1.2.2) _, (hb.i8 _ v1.2.2).i9 _ v2.2.2, rfl⟩
            unfold mX5_tell
            simp (disch := omega) only [↓reduceIte, obs, esc_il, esc_ir, leT, leF, ltT, ltF, eqT, eqF, nleT, nleF, nltT, nltF, neqT, neqF, nI_add, pk_mul, ald_nI, ast_nI, irm_nI, idv_nI, zbT, zbF, in_T, in_F1, in_F2, nI_l, sI_1, sI_2, sA_1, sA_2, subK, add0, sub0, or0, lN_add, lN_mul, L_0, L_1, L_2, L_3, L_4, L_5, L_6, L_7, L_8, L_9, L_10, L_11, L_12, L_13, L_14, L_15, L_16, L_17, L_18, L_19, L_20, L_30, L_31, L_32, L_35, L_37, L_39, L_40, L_43, L_48, L_57, L_59, L_60, L_97, L_99, L_100, L_120, L_122, L_127, L_160, L_200, L_255, L_999, L_1000, L_100000, L_1000000, L_24, L_33, L_34, L_36, L_38, L_69, L_70, L_72, L_214, L_215, L_288, L_174, L_175, L_206, LL_0, LL_1, LL_2, LL_3, LL_5, LL_7, LL_9, LL_10, LL_11, LL_12, LL_19, LL_20, LL_30, LL_39, LL_48, LL_57, LL_60, LL_97, LL_99, LL_122, LL_127, LL_999, rd_1, rd_2, rd_3, rd_4, rd_5, rd_6, rd_7, rd_8, rd_9, rd_s3, rd_s4, rd_s5, rd_s6, rd_s7, rd_s8, rd_s9]
            rfl
          · have hl := hl12 rfl
            obtain ⟨G', g1, g2⟩ := RM.ok hT (rm4_ok hT hp hS hq hb hl e1 e2) r e3
            have har := addRoll_e hv hb (x := lxV n c p) (y := lxV n c (lxE n c p)) v1.2 v2.2 hl
            refine ⟨_, _, ap_ro b (lxV n c p) (lxV n c (lxE n c p)), _, G', nI 3, nI (lxS n c (lxE n c (lxE n c p))), nu', by omega, r2, ?_, g1, g2, hv.ro _ _, hq.ro hb hl _ _, hb.ro hl _ _ v1.2 v2.2, rfl⟩
            unfold mX5_tell
            simp (disch := omega) only [↓reduceIte, obs, esc_il, esc_ir, leT, leF, ltT, ltF, eqT, eqF, nleT, nleF, nltT, nltF, neqT, neqF, nI_add, pk_mul, ald_nI, ast_nI, irm_nI, idv_nI, zbT, zbF, in_T, in_F1, in_F2, nI_l, sI_1, sI_2, sA_1, sA_2, subK, add0, sub0, or0, lN_add, lN_mul, L_0, L_1, L_2, L_3, L_4, L_5, L_6, L_7, L_8, L_9, L_10, L_11, L_12, L_13, L_14, L_15, L_16, L_17, L_18, L_19, L_20, L_30, L_31, L_32, L_35, L_37, L_39, L_40, L_43, L_48, L_57, L_59, L_60, L_97, L_99, L_100, L_120, L_122, L_127, L_160, L_200, L_255, L_999, L_1000, L_100000, L_1000000, L_24, L_33, L_34, L_36, L_38, L_69, L_70, L_72, L_214, L_215, L_288, L_174, L_175, L_206, LL_0, LL_1, LL_2, LL_3, LL_5, LL_7, LL_9, LL_10, LL_11, LL_12, LL_19, LL_20, LL_30, LL_39, LL_48, LL_57, LL_60, LL_97, LL_99, LL_122, LL_127, LL_999, rd_1, rd_2, rd_3, rd_4, rd_5, rd_6, rd_7, rd_8, rd_9, rd_s3, rd_s4, rd_s5, rd_s6, rd_s7, rd_s8, rd_s9, har]
            rfl
        · obtain ⟨tk', st', sp', nu', k⟩ := two_badS hT hi8 h2 hp e1 e2 e3 t fa fp tk st nu lt
          left
          rw [k]
          rcases h2 with rfl | rfl | rfl
          · obtain ⟨G', g1, g2⟩ := RM.bad hT (rm5_ok hT hp hS e1 e2) r e3
            exact ⟨_, _, _, G', _, _, _, _, by omega, by omega, rfl, g1, g2⟩
          · obtain ⟨G', g1, g2⟩ := RM.bad hT (rm6_ok hT hp hS e1 e2) r e3
            exact ⟨_, _, _, G', _, _, _, _, by omega, by omega, rfl, g1, g2⟩
          · obtain ⟨G', g1, g2⟩ := RM.bad hT (rm4_ok hT hp hS hq hb (hl12 rfl) e1 e2) r e3
            exact ⟨_, _, _, G', _, _, _, _, by omega, by omega, rfl, g1, g2⟩
      · obtain ⟨tk', st', sp', nu', k⟩ := two_bad2 hT hi8 h2 hp e1 e2 t fa fp tk st nu lt
        left
        rw [k]
        rcases h2 with rfl | rfl | rfl
        · obtain ⟨G', rp', g1, g2⟩ := RB.ln (rm5_bad2 hT hp hS e1 e2) (Nat.pos_of_ne_zero e2) (Nat.lt_of_le_of_lt n2 (by decide))
          exact ⟨_, _, rp', G', _, _, _, _, Nat.pos_of_ne_zero e2, Nat.lt_of_le_of_lt n2 (by decide), rfl, g1, g2⟩
        · obtain ⟨G', rp', g1, g2⟩ := RB.ln (rm6_bad2 hT hp hS e1 e2) (Nat.pos_of_ne_zero e2) (Nat.lt_of_le_of_lt n2 (by decide))
          exact ⟨_, _, rp', G', _, _, _, _, Nat.pos_of_ne_zero e2, Nat.lt_of_le_of_lt n2 (by decide), rfl, g1, g2⟩
        · obtain ⟨G', rp', g1, g2⟩ := RB.ln (rm4_bad2 hT hp hS hq hb (hl12 rfl) e1 e2) (Nat.pos_of_ne_zero e2) (Nat.lt_of_le_of_lt n2 (by decide))
          exact ⟨_, _, rp', G', _, _, _, _, Nat.pos_of_ne_zero e2, Nat.lt_of_le_of_lt n2 (by decide), rfl, g1, g2⟩
    · by_cases e3 : sEr n c (lxE n c p) = 0
      · have u3 := lx_up (c := c) hn q (by rw [sEr_0 e3]; decide)
        obtain ⟨nu', k⟩ := one_ok hT hi8 h2 hp e1 e3 t fa fp tk st nu lt
        right
        rw [k]
        by_cases h6 : i = 6
        · subst h6
          obtain ⟨G', g1, g2⟩ := RM.ok hT (rmU_ok hT hp hS e1) q e3
          have e := hv.i10 (lxV n c p + 1)
          have e2 : upv (lxV n c p + 1) = nI (lxV n c p) := by unfold upv; rw [if_neg (by omega), Nat.add_sub_cancel]
          rw [e2] at e
          have v3 : lxV n c p ≤ 11 := v1.2.2
          refine ⟨_, _, aI b 10 (lxV n c p + 1), _, G', nI 3, nI (lxS n c (lxE n c p)), nu', by omega, r, ?_, g1, g2, e, hq.i10 hb _, hb.i10 _ (by omega), rfl⟩
          unfold mX5_tell
          simp (disch := omega) only [↓reduceIte, obs, esc_il, esc_ir, leT, leF, ltT, ltF, eqT, eqF, nleT, nleF, nltT, nltF, neqT, neqF, nI_add, pk_mul, ald_nI, ast_nI, irm_nI, idv_nI, zbT, zbF, in_T, in_F1, in_F2, nI_l, sI_1, sI_2, sA_1, sA_2, subK, add0, sub0, or0, lN_add, lN_mul, L_0, L_1, L_2, L_3, L_4, L_5, L_6, L_7, L_8, L_9, L_10, L_11, L_12, L_13, L_14, L_15, L_16, L_17, L_18, L_19, L_20, L_30, L_31, L_32, L_35, L_37, L_39, L_40, L_43, L_48, L_57, L_59, L_60, L_97, L_99, L_100, L_120, L_122, L_127, L_160, L_200, L_255, L_999, L_1000, L_100000, L_1000000, L_24, L_33, L_34, L_36, L_38, L_69, L_70, L_72, L_214, L_215, L_288, L_174, L_175, L_206, LL_0, LL_1, LL_2, LL_3, LL_5, LL_7, LL_9, LL_10, LL_11, LL_12, LL_19, LL_20, LL_30, LL_39, LL_48, LL_57, LL_60, LL_97, LL_99, LL_122, LL_127, LL_999, rd_1, rd_2, rd_3, rd_4, rd_5, rd_6, rd_7, rd_8, rd_9, rd_s3, rd_s4, rd_s5, rd_s6, rd_s7, rd_s8, rd_s9]
          rfl
        · have h4 : i < 4 := by omega
          have hl := hl5 h4
          have v3 : lxV n c p ≤ 9 := by
            have := v1.2.2
            rcases (show i = 0 ∨ i = 1 ∨ i = 2 ∨ i = 3 by omega) with rfl | rfl | rfl | rfl <;> exact this
          have e1' : nEr n c p 0 9 = 0 := by
            rcases (show i = 0 ∨ i = 1 ∨ i = 2 ∨ i = 3 by omega) with rfl | rfl | rfl | rfl <;> exact e1
          have hro : RO8 i = i := by
            rcases (show i = 0 ∨ i = 1 ∨ i = 2 ∨ i = 3 by omega) with rfl | rfl | rfl | rfl <;> rfl
          rw [hro]
          obtain ⟨G', g1, g2⟩ := RM.ok hT (rmB_ok hT h4 hp hS hq hb hl e1') q e3
          have hab := addBlock_e hv hb (x := i) (y := lxV n c p) h4 v3 hl
          refine ⟨_, _, ap_bl b i (lxV n c p), _, G', nI 3, nI (lxS n c (lxE n c p)), nu', by omega, r, ?_, g1, g2, hv.bl _ _, P0.bl hq hb hl _ _, hb.bl hl _ _ h4 v3, rfl⟩
          unfold mX5_tell
          simp (disch := omega) only [↓reduceIte, obs, esc_il, esc_ir, leT, leF, ltT, ltF, eqT, eqF, nleT, nleF, nltT, nltF, neqT, neqF, nI_add, pk_mul, ald_nI, ast_nI, irm_nI, idv_nI, zbT, zbF, in_T, in_F1, in_F2, nI_l, sI_1, sI_2, sA_1, sA_2, subK, add0, sub0, or0, lN_add, lN_mul, L_0, L_1, L_2, L_3, L_4, L_5, L_6, L_7, L_8, L_9, L_10, L_11, L_12, L_13, L_14, L_15, L_16, L_17, L_18, L_19, L_20, L_30, L_31, L_32, L_35, L_37, L_39, L_40, L_43, L_48, L_57, L_59, L_60, L_97, L_99, L_100, L_120, L_122, L_127, L_160, L_200, L_255, L_999, L_1000, L_100000, L_1000000, L_24, L_33, L_34, L_36, L_38, L_69, L_70, L_72, L_214, L_215, L_288, L_174, L_175, L_206, LL_0, LL_1, LL_2, LL_3, LL_5, LL_7, LL_9, LL_10, LL_11, LL_12, LL_19, LL_20, LL_30, LL_39, LL_48, LL_57, LL_60, LL_97, LL_99, LL_122, LL_127, LL_999, rd_1, rd_2, rd_3, rd_4, rd_5, rd_6, rd_7, rd_8, rd_9, rd_s3, rd_s4, rd_s5, rd_s6, rd_s7, rd_s8, rd_s9, hab]
          rfl
      · obtain ⟨tk', st', sp', nu', k⟩ := one_badS hT hi8 h2 hp e1 e3 t fa fp tk st nu lt
        left
        rw [k]
        by_cases h6 : i = 6
        · subst h6
          obtain ⟨G', g1, g2⟩ := RM.bad hT (rmU_ok hT hp hS e1) q e3
          exact ⟨_, _, _, G', _, _, _, _, by omega, by omega, rfl, g1, g2⟩
        · have h4 : i < 4 := by omega
          have hl := hl5 h4
          have e1' : nEr n c p 0 9 = 0 := by
            rcases (show i = 0 ∨ i = 1 ∨ i = 2 ∨ i = 3 by omega) with rfl | rfl | rfl | rfl <;> exact e1
          have hro : RO8 i = i := by
            rcases (show i = 0 ∨ i = 1 ∨ i = 2 ∨ i = 3 by omega) with rfl | rfl | rfl | rfl <;> rfl
          rw [hro]
          obtain ⟨G', g1, g2⟩ := RM.bad hT (rmB_ok hT h4 hp hS hq hb hl e1') q e3
          exact ⟨_, _, _, G', _, _, _, _, by omega, by omega, rfl, g1, g2⟩
  · obtain ⟨tk', st', sp', nu', k⟩ := cls_bad1 hT hi8 hp e1 t fa fp tk st nu lt
    left
    rw [k]
    have hrb : RB M G (RO8 i) td (nEr n c p (TN 0 i) (TN 1 i)) (lxS n c p) := by
      rcases (show i = 0 ∨ i = 1 ∨ i = 2 ∨ i = 3 ∨ i = 4 ∨ i = 5 ∨ i = 6 ∨ i = 7 by omega) with rfl | rfl | rfl | rfl | rfl | rfl | rfl | rfl
      · exact rmB_bad hT (by decide) hp hS hq hb (hl5 (by decide)) e1
      · exact rmB_bad hT (by decide) hp hS hq hb (hl5 (by decide)) e1
      · exact rmB_bad hT (by decide) hp hS hq hb (hl5 (by decide)) e1
      · exact rmB_bad hT (by decide) hp hS hq hb (hl5 (by decide)) e1
      · exact rm5_bad1 hT hp hS e1
      · exact rm6_bad1 hT hp hS e1
      · exact rmU_bad hT hp hS e1
      · exact rm4_bad1 hT hp hS hq hb (hl12 rfl) e1
    obtain ⟨G', rp', g1, g2⟩ := RB.ln hrb (by omega) (by omega)
    exact ⟨_, _, rp', G', _, _, _, _, by omega, by omega, rfl, g1, g2⟩
end
