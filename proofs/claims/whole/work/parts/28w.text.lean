/-! the text -/
section
variable {rd M : GS} {n : Nat} {c : Nat → Nat}
def TxE (rd M : GS) (x : (Int32 × Int32 × GS × GS) ⊕ (Int32 × GS × GS)) (y : Int32 × GS) : Prop := (∃ l fp tk st sp nu lt t b rp td bp sp' he tk' va, x = .inr (l, rdS rd (nI 0) fp tk st sp nu lt, t) ∧ y = (l, mdS M rp td (nI 0) bp sp' he tk' va) ∧ HV t b ∧ PV rp 0 b ∧ HI b ∧ b.2 11 = 0) ∨ ∃ e a l l' tk st sp nu lt t rp td sp' he tk' va, 0 < e ∧ e < 10 ∧ x = .inr (l, rdS rd (nI e) (nI a) tk st sp nu lt, t) ∧ y = (l', mdS M rp td (nI e) (nI a) sp' he tk' va)
theorem l42_brk {rp : Nat → Int32} {td : Int32} {e a : Nat} {G : GS} (h : BK M rp td e a G) (he : 0 < e) (h10 : e < 10) (l : Int32) : mX8_text_l42 (l, G) = some (.inr (l, G)) := by
  obtain ⟨sp, hh, tk, va, rfl⟩ := h
  unfold mX8_text_l42
  simp (disch := omega) only [↓reduceIte, obs, esc_il, esc_ir, leT, leF, ltT, ltF, eqT, eqF, nleT, nleF, nltT, nltF, neqT, neqF, nI_add, pk_mul, ald_nI, ast_nI, irm_nI, idv_nI, zbT, zbF, in_T, in_F1, in_F2, nI_l, sI_1, sI_2, sA_1, sA_2, subK, add0, sub0, or0, lN_add, lN_mul, L_0, L_1, L_2, L_3, L_4, L_5, L_6, L_7, L_8, L_9, L_10, L_11, L_12, L_13, L_14, L_15, L_16, L_17, L_18, L_19, L_20, L_30, L_31, L_32, L_35, L_37, L_39, L_40, L_43, L_48, L_57, L_59, L_60, L_97, L_99, L_100, L_120, L_122, L_127, L_160, L_200, L_255, L_999, L_1000, L_100000, L_1000000, L_24, L_33, L_34, L_36, L_38, L_69, L_70, L_72, L_214, L_215, L_288, L_174, L_175, L_206, LL_0, LL_1, LL_2, LL_3, LL_5, LL_7, LL_9, LL_10, LL_11, LL_12, LL_19, LL_20, LL_30, LL_39, LL_48, LL_57, LL_60, LL_97, LL_99, LL_122, LL_127, LL_999, md_0, md_1, md_t, md_12, md_13, md_2, md_4, md_6, md_7, md_8, md_9, md_10, md_11, md_s, md_s2, md_s6, md_s7, md_s8, md_s9, md_s10, md_s11]
theorem text_ind (hT : Tp rd M n c) (hC : M.1 12 = lf CUTS 9) (hLt : M.1 13 = lf LETS 43) : ∀ d p L K tv tr b t rp G, n ≤ p + d → p ≤ n → 2 * K ≤ p → TD tv tr → ST M n c rp (nI tr) p G → HV t b → PV rp 0 b → HI b → b.2 11 = 0 → ∀ fp tk st nu n1 n2, d + 2 < n1 → d + 2 < n2 → ∃ x y, whO (mX5_takeAll_l31) n1 (nI L, nI K, rdS rd (nI 0) fp tk st (nI p) nu (nI tv), t) = some x ∧ whO (mX8_text_l42) n2 (nI L, G) = some y ∧ TxE rd M x y := by
  intro d
  have hn := hT.le
  induction d using Nat.strongRecOn with
  | ind d ih =>
    intro p L K tv tr b t rp G hd hp hK hTD hS hv hq hb hy fp tk st nu n1 n2 h1 h2
    obtain ⟨n1, rfl⟩ : ∃ q, n1 = q + 1 := ⟨n1 - 1, by omega⟩
    obtain ⟨n2, rfl⟩ : ∃ q, n2 = q + 1 + 1 := ⟨n2 - 2, by omega⟩
    obtain ⟨nu', t1, -⟩ := token7 hT hp (nI 0) fp tk st nu (nI tv)
    obtain ⟨k1, k2, k3, k4, k5⟩ := lxE_f (c := c) hn hp
    by_cases h0 : lxT n c p = 0
    · rcases hS with ⟨c4, -⟩ | ⟨-, bp, rfl⟩
      · omega
      rw [h0] at t1 ⊢
      have s7 : mX5_takeAll_l31 (nI L, nI K, rdS rd (nI 0) fp tk st (nI p) nu (nI tv), t) = some (.inr (.inr (nI L, rdS rd (nI 0) fp (nI 0) (nI (lxS n c p)) (nI (lxE n c p)) nu' (nI tv), t))) := by
        unfold mX5_takeAll_l31
        simp (disch := omega) only [↓reduceIte, obs, esc_il, esc_ir, leT, leF, ltT, ltF, eqT, eqF, nleT, nleF, nltT, nltF, neqT, neqF, nI_add, pk_mul, ald_nI, ast_nI, irm_nI, idv_nI, zbT, zbF, in_T, in_F1, in_F2, nI_l, sI_1, sI_2, sA_1, sA_2, subK, add0, sub0, or0, lN_add, lN_mul, L_0, L_1, L_2, L_3, L_4, L_5, L_6, L_7, L_8, L_9, L_10, L_11, L_12, L_13, L_14, L_15, L_16, L_17, L_18, L_19, L_20, L_30, L_31, L_32, L_35, L_37, L_39, L_40, L_43, L_48, L_57, L_59, L_60, L_97, L_99, L_100, L_120, L_122, L_127, L_160, L_200, L_255, L_999, L_1000, L_100000, L_1000000, L_24, L_33, L_34, L_36, L_38, L_69, L_70, L_72, L_214, L_215, L_288, L_174, L_175, L_206, LL_0, LL_1, LL_2, LL_3, LL_5, LL_7, LL_9, LL_10, LL_11, LL_12, LL_19, LL_20, LL_30, LL_39, LL_48, LL_57, LL_60, LL_97, LL_99, LL_122, LL_127, LL_999, t1, rd_5]
      have s8 : mX8_text_l42 (nI L, mdS M rp (nI tr) (nI 0) bp (nI (lxE n c p)) (nI (lxS n c p)) (nI 0) (nI (if 0 = 2 then lxV n c p else 0))) = some (.inr (nI L, mdS M rp (nI tr) (nI 0) bp (nI (lxE n c p)) (nI (lxS n c p)) (nI 0) (nI (if 0 = 2 then lxV n c p else 0)))) := by
        unfold mX8_text_l42
        simp (disch := omega) only [↓reduceIte, obs, esc_il, esc_ir, leT, leF, ltT, ltF, eqT, eqF, nleT, nleF, nltT, nltF, neqT, neqF, nI_add, pk_mul, ald_nI, ast_nI, irm_nI, idv_nI, zbT, zbF, in_T, in_F1, in_F2, nI_l, sI_1, sI_2, sA_1, sA_2, subK, add0, sub0, or0, lN_add, lN_mul, L_0, L_1, L_2, L_3, L_4, L_5, L_6, L_7, L_8, L_9, L_10, L_11, L_12, L_13, L_14, L_15, L_16, L_17, L_18, L_19, L_20, L_30, L_31, L_32, L_35, L_37, L_39, L_40, L_43, L_48, L_57, L_59, L_60, L_97, L_99, L_100, L_120, L_122, L_127, L_160, L_200, L_255, L_999, L_1000, L_100000, L_1000000, L_24, L_33, L_34, L_36, L_38, L_69, L_70, L_72, L_214, L_215, L_288, L_174, L_175, L_206, LL_0, LL_1, LL_2, LL_3, LL_5, LL_7, LL_9, LL_10, LL_11, LL_12, LL_19, LL_20, LL_30, LL_39, LL_48, LL_57, LL_60, LL_97, LL_99, LL_122, LL_127, LL_999, md_0, md_1, md_t, md_12, md_13, md_2, md_4, md_6, md_7, md_8, md_9, md_10, md_11, md_s, md_s2, md_s6, md_s7, md_s8, md_s9, md_s10, md_s11]
      exact ⟨_, _, whO_x s7 _, whO_x s8 _, Or.inl ⟨_, _, _, _, _, _, _, t, b, rp, _, _, _, _, _, _, rfl, rfl, hv, hq, hb, hy⟩⟩
    by_cases h4 : lxT n c p = 4
    · rcases hS with ⟨-, tk', va', rfl⟩ | ⟨c4, -⟩
      · have s7 : mX5_takeAll_l31 (nI L, nI K, rdS rd (nI 0) fp tk st (nI p) nu (nI tv), t) = some (.inr (.inr (nI L, rdS rd (nI 1) (nI (lxS n c p)) (nI 4) (nI (lxS n c p)) (nI (lxE n c p)) nu' (nI tv), t))) := by
          have hrf := RF_e (rd := rd) t (nI 0) fp (nI (lxE n c p)) nu' (nI tv) (T := 4) (s := lxS n c p) (k := 2) (by decide) (by decide)
          rw [if_pos rfl] at hrf
          have htl : mX5_takeLine (rdS rd (nI 0) fp (nI 4) (nI (lxS n c p)) (nI (lxE n c p)) nu' (nI tv)) t = some (nI 0, rdS rd (nI 1) (nI (lxS n c p)) (nI 4) (nI (lxS n c p)) (nI (lxE n c p)) nu' (nI tv), t) := by
            rw [tl_u, rd_5, if_neg (show ¬ nI 4 = 1 by decide), obs, if_pos (show (-4 : Int32) < 0 by decide)]
            exact hrf
          rw [h4] at t1
          unfold mX5_takeAll_l31
          simp (disch := omega) only [↓reduceIte, obs, esc_il, esc_ir, leT, leF, ltT, ltF, eqT, eqF, nleT, nleF, nltT, nltF, neqT, neqF, nI_add, pk_mul, ald_nI, ast_nI, irm_nI, idv_nI, zbT, zbF, in_T, in_F1, in_F2, nI_l, sI_1, sI_2, sA_1, sA_2, subK, add0, sub0, or0, lN_add, lN_mul, L_0, L_1, L_2, L_3, L_4, L_5, L_6, L_7, L_8, L_9, L_10, L_11, L_12, L_13, L_14, L_15, L_16, L_17, L_18, L_19, L_20, L_30, L_31, L_32, L_35, L_37, L_39, L_40, L_43, L_48, L_57, L_59, L_60, L_97, L_99, L_100, L_120, L_122, L_127, L_160, L_200, L_255, L_999, L_1000, L_100000, L_1000000, L_24, L_33, L_34, L_36, L_38, L_69, L_70, L_72, L_214, L_215, L_288, L_174, L_175, L_206, LL_0, LL_1, LL_2, LL_3, LL_5, LL_7, LL_9, LL_10, LL_11, LL_12, LL_19, LL_20, LL_30, LL_39, LL_48, LL_57, LL_60, LL_97, LL_99, LL_122, LL_127, LL_999, t1, rd_5, htl]
        have hbk : BK M rp (nI tr) 1 (lxS n c p) (mdS M rp (nI tr) (nI 1) (nI (lxS n c p)) (nI (lxE n c p)) (nI (lxS n c p)) tk' va') := ⟨_, _, _, _, rfl⟩
        exact ⟨_, _, whO_x s7 _, whO_x (l42_brk hbk (by decide) (by decide) (nI L)) _, Or.inr ⟨1, lxS n c p, _, _, _, _, _, _, _, t, rp, _, _, _, _, _, by decide, by decide, rfl, rfl⟩⟩
      · exact absurd h4 c4
    · have htk := take_e hT hC hLt hp h0 h4 hTD hS hv hq hb fp nu'
      have hr8 : mX8_text_l42 (nI L, G) = Option.bind (mX8_readLine G) fun v16 => some (.inl (nI (L + 1), v16)) := by
        rcases hS with ⟨c4, -⟩ | ⟨-, bp, rfl⟩
        · exact absurd c4 h4
        · unfold mX8_text_l42
          simp (disch := omega) only [↓reduceIte, obs, esc_il, esc_ir, leT, leF, ltT, ltF, eqT, eqF, nleT, nleF, nltT, nltF, neqT, neqF, nI_add, pk_mul, ald_nI, ast_nI, irm_nI, idv_nI, zbT, zbF, in_T, in_F1, in_F2, nI_l, sI_1, sI_2, sA_1, sA_2, subK, add0, sub0, or0, lN_add, lN_mul, L_0, L_1, L_2, L_3, L_4, L_5, L_6, L_7, L_8, L_9, L_10, L_11, L_12, L_13, L_14, L_15, L_16, L_17, L_18, L_19, L_20, L_30, L_31, L_32, L_35, L_37, L_39, L_40, L_43, L_48, L_57, L_59, L_60, L_97, L_99, L_100, L_120, L_122, L_127, L_160, L_200, L_255, L_999, L_1000, L_100000, L_1000000, L_24, L_33, L_34, L_36, L_38, L_69, L_70, L_72, L_214, L_215, L_288, L_174, L_175, L_206, LL_0, LL_1, LL_2, LL_3, LL_5, LL_7, LL_9, LL_10, LL_11, LL_12, LL_19, LL_20, LL_30, LL_39, LL_48, LL_57, LL_60, LL_97, LL_99, LL_122, LL_127, LL_999, md_0, md_1, md_t, md_12, md_13, md_2, md_4, md_6, md_7, md_8, md_9, md_10, md_11, md_s, md_s2, md_s6, md_s7, md_s8, md_s9, md_s10, md_s11]
      rcases htk with ⟨e, a, rp', td', lt', G', tk', st', sp', nu2, l1, l2, l3, l4, l5⟩ | ⟨p', rp', b', t', G', tk', st', nu2, tv', tr', l1, l2, l3, l4, l5, l6, l7, l8, l9, l10⟩
      · have s7 : mX5_takeAll_l31 (nI L, nI K, rdS rd (nI 0) fp tk st (nI p) nu (nI tv), t) = some (.inr (.inr (nI L, rdS rd (nI e) (nI a) tk' st' sp' nu2 lt', t))) := by
          unfold mX5_takeAll_l31
          simp (disch := omega) only [↓reduceIte, obs, esc_il, esc_ir, leT, leF, ltT, ltF, eqT, eqF, nleT, nleF, nltT, nltF, neqT, neqF, nI_add, pk_mul, ald_nI, ast_nI, irm_nI, idv_nI, zbT, zbF, in_T, in_F1, in_F2, nI_l, sI_1, sI_2, sA_1, sA_2, subK, add0, sub0, or0, lN_add, lN_mul, L_0, L_1, L_2, L_3, L_4, L_5, L_6, L_7, L_8, L_9, L_10, L_11, L_12, L_13, L_14, L_15, L_16, L_17, L_18, L_19, L_20, L_30, L_31, L_32, L_35, L_37, L_39, L_40, L_43, L_48, L_57, L_59, L_60, L_97, L_99, L_100, L_120, L_122, L_127, L_160, L_200, L_255, L_999, L_1000, L_100000, L_1000000, L_24, L_33, L_34, L_36, L_38, L_69, L_70, L_72, L_214, L_215, L_288, L_174, L_175, L_206, LL_0, LL_1, LL_2, LL_3, LL_5, LL_7, LL_9, LL_10, LL_11, LL_12, LL_19, LL_20, LL_30, LL_39, LL_48, LL_57, LL_60, LL_97, LL_99, LL_122, LL_127, LL_999, t1, rd_5, l3]
        rw [l4, obs] at hr8
        refine ⟨_, _, whO_x s7 _, (whO_s hr8 _).trans (whO_x (l42_brk l5 l1 l2 (nI (L + 1))) _), ?_⟩
        obtain ⟨sp3, he3, tk3, va3, rfl⟩ := l5
        exact Or.inr ⟨e, a, _, _, _, _, _, _, _, t, rp', _, _, _, _, _, l1, l2, rfl, rfl⟩
      · have s7 : mX5_takeAll_l31 (nI L, nI K, rdS rd (nI 0) fp tk st (nI p) nu (nI tv), t) = some (.inl (nI (L + 1), nI (K + 1), rdS rd (nI 0) fp tk' st' (nI p') nu2 (nI tv'), t')) := by
          unfold mX5_takeAll_l31
          simp (disch := omega) only [↓reduceIte, obs, esc_il, esc_ir, leT, leF, ltT, ltF, eqT, eqF, nleT, nleF, nltT, nltF, neqT, neqF, nI_add, pk_mul, ald_nI, ast_nI, irm_nI, idv_nI, zbT, zbF, in_T, in_F1, in_F2, nI_l, sI_1, sI_2, sA_1, sA_2, subK, add0, sub0, or0, lN_add, lN_mul, L_0, L_1, L_2, L_3, L_4, L_5, L_6, L_7, L_8, L_9, L_10, L_11, L_12, L_13, L_14, L_15, L_16, L_17, L_18, L_19, L_20, L_30, L_31, L_32, L_35, L_37, L_39, L_40, L_43, L_48, L_57, L_59, L_60, L_97, L_99, L_100, L_120, L_122, L_127, L_160, L_200, L_255, L_999, L_1000, L_100000, L_1000000, L_24, L_33, L_34, L_36, L_38, L_69, L_70, L_72, L_214, L_215, L_288, L_174, L_175, L_206, LL_0, LL_1, LL_2, LL_3, LL_5, LL_7, LL_9, LL_10, LL_11, LL_12, LL_19, LL_20, LL_30, LL_39, LL_48, LL_57, LL_60, LL_97, LL_99, LL_122, LL_127, LL_999, t1, rd_5, l3]
        rw [l4, obs] at hr8
        rw [whO_s s7, whO_s hr8]
        exact ih (d - 1) (by omega) p' (L + 1) (K + 1) tv' tr' b' t' rp' G' (by omega) l2 (by omega) l10 l5 l6 l7 l8 (l9.trans hy) fp tk' st' nu2 _ _ (by omega) (by omega)
end
def b0 : AH := (fun _ _ => 0, fun k => if k = 6 then 12 else if k = 9 then 2 else 0)
theorem b0_hi : HI b0 := by
  refine ⟨by decide, by decide, by decide, by decide, by decide, by decide, by decide, by decide, by decide, fun j hj => absurd hj (Nat.not_lt_zero _), fun j _ => by show (0 : Nat) ≤ 99; decide, fun j hj => absurd hj (Nat.not_lt_zero _)⟩
theorem clear_e (t : GS) : ∃ t1, mX0_clear t = some t1 ∧ HV t1 b0 := by
  unfold mX0_clear
  rw [fill_i _ 12 _ (by decide)]
  refine ⟨_, rfl, ?_⟩
  refine ⟨fun j hj => absurd hj (Nat.not_lt_zero _), fun j hj => absurd hj (Nat.not_lt_zero _), fun j hj => ?_, fun j hj => absurd hj (Nat.not_lt_zero _), fun j hj => absurd hj (Nat.not_lt_zero _), rfl, rfl, rfl, rfl, rfl, rfl, rfl, rfl⟩
  show (if j < 12 then (0 : Int32) else _) = nI 0
  rw [if_pos hj]; rfl
theorem page0 {f : Nat → Int32} (h : ∀ q, q < 40 → f q = 0) : PV f 0 b0 := by
  refine ⟨fun j hj => absurd hj (Nat.not_lt_zero _), fun j hj => absurd hj (Nat.not_lt_zero _), fun j hj => ?_, fun j hj => absurd hj (Nat.not_lt_zero _), fun j hj => absurd hj (Nat.not_lt_zero _), ?_, ?_, ?_, ?_, ?_, ?_, ?_, ?_⟩
  · rw [h _ (by omega)]; rfl
  · rw [h _ (by decide)]; rfl
  · rw [h _ (by decide)]; rfl
  · rw [h _ (by decide)]; rfl
  · rw [h _ (by decide)]; rfl
  · rw [h _ (by decide)]; rfl
  · rw [h _ (by decide)]; rfl
  · rw [h _ (by decide)]; rfl
  · rw [h _ (by decide)]; rfl
theorem text19_e (G : GS) : whO (mX8_text_l19) FU (nI 0, G) = some (nI 40, sA G 1 (fun q => if q < 40 then 0 else G.1 1 q)) := by
  refine whO_for (fun k => (nI k, sA G 1 (fun q => if q < k then 0 else G.1 1 q))) 40 _ ?_ ?_ ?_ (by decide)
  · show (_, _) = (_, _)
    rw [show (fun q => if q < 0 then 0 else G.1 1 q) = G.1 1 from by funext q; rw [if_neg (by omega)], sA_id]
  · intro k hk
    unfold mX8_text_l19
    simp (disch := omega) only [↓reduceIte, obs, esc_il, esc_ir, leT, leF, ltT, ltF, eqT, eqF, nleT, nleF, nltT, nltF, neqT, neqF, nI_add, pk_mul, ald_nI, ast_nI, irm_nI, idv_nI, zbT, zbF, in_T, in_F1, in_F2, nI_l, sI_1, sI_2, sA_1, sA_2, subK, add0, sub0, or0, lN_add, lN_mul, L_0, L_1, L_2, L_3, L_4, L_5, L_6, L_7, L_8, L_9, L_10, L_11, L_12, L_13, L_14, L_15, L_16, L_17, L_18, L_19, L_20, L_30, L_31, L_32, L_35, L_37, L_39, L_40, L_43, L_48, L_57, L_59, L_60, L_97, L_99, L_100, L_120, L_122, L_127, L_160, L_200, L_255, L_999, L_1000, L_100000, L_1000000, L_24, L_33, L_34, L_36, L_38, L_69, L_70, L_72, L_214, L_215, L_288, L_174, L_175, L_206, LL_0, LL_1, LL_2, LL_3, LL_5, LL_7, LL_9, LL_10, LL_11, LL_12, LL_19, LL_20, LL_30, LL_39, LL_48, LL_57, LL_60, LL_97, LL_99, LL_122, LL_127, LL_999, sA_sA]
    simp only [Option.some.injEq, Sum.inl.injEq, Prod.mk.injEq, true_and]
    congr 1
    funext q
    rw [upd_e]
    by_cases h1 : q = k
    · rw [if_pos h1, if_pos (by omega)]
    · rw [if_neg h1]
      by_cases h2 : q < k
      · rw [if_pos h2, if_pos (by omega)]
      · rw [if_neg h2, if_neg (by omega)]
  · unfold mX8_text_l19
    simp (disch := omega) only [↓reduceIte, obs, esc_il, esc_ir, leT, leF, ltT, ltF, eqT, eqF, nleT, nleF, nltT, nltF, neqT, neqF, nI_add, pk_mul, ald_nI, ast_nI, irm_nI, idv_nI, zbT, zbF, in_T, in_F1, in_F2, nI_l, sI_1, sI_2, sA_1, sA_2, subK, add0, sub0, or0, lN_add, lN_mul, L_0, L_1, L_2, L_3, L_4, L_5, L_6, L_7, L_8, L_9, L_10, L_11, L_12, L_13, L_14, L_15, L_16, L_17, L_18, L_19, L_20, L_30, L_31, L_32, L_35, L_37, L_39, L_40, L_43, L_48, L_57, L_59, L_60, L_97, L_99, L_100, L_120, L_122, L_127, L_160, L_200, L_255, L_999, L_1000, L_100000, L_1000000, L_24, L_33, L_34, L_36, L_38, L_69, L_70, L_72, L_214, L_215, L_288, L_174, L_175, L_206, LL_0, LL_1, LL_2, LL_3, LL_5, LL_7, LL_9, LL_10, LL_11, LL_12, LL_19, LL_20, LL_30, LL_39, LL_48, LL_57, LL_60, LL_97, LL_99, LL_122, LL_127, LL_999]
theorem text96_e (G : GS) : whO (mX8_text_l96) FU (nI 0, G) = some (nI 40, sA G 0 (fun q => if q < 40 then G.1 1 q else G.1 0 q)) := by
  refine whO_for (fun k => (nI k, sA G 0 (fun q => if q < k then G.1 1 q else G.1 0 q))) 40 _ ?_ ?_ ?_ (by decide)
  · show (_, _) = (_, _)
    rw [show (fun q => if q < 0 then G.1 1 q else G.1 0 q) = G.1 0 from by funext q; rw [if_neg (by omega)], sA_id]
  · intro k hk
    unfold mX8_text_l96
    simp (disch := omega) only [↓reduceIte, obs, esc_il, esc_ir, leT, leF, ltT, ltF, eqT, eqF, nleT, nleF, nltT, nltF, neqT, neqF, nI_add, pk_mul, ald_nI, ast_nI, irm_nI, idv_nI, zbT, zbF, in_T, in_F1, in_F2, nI_l, sI_1, sI_2, sA_1, sA_2, subK, add0, sub0, or0, lN_add, lN_mul, L_0, L_1, L_2, L_3, L_4, L_5, L_6, L_7, L_8, L_9, L_10, L_11, L_12, L_13, L_14, L_15, L_16, L_17, L_18, L_19, L_20, L_30, L_31, L_32, L_35, L_37, L_39, L_40, L_43, L_48, L_57, L_59, L_60, L_97, L_99, L_100, L_120, L_122, L_127, L_160, L_200, L_255, L_999, L_1000, L_100000, L_1000000, L_24, L_33, L_34, L_36, L_38, L_69, L_70, L_72, L_214, L_215, L_288, L_174, L_175, L_206, LL_0, LL_1, LL_2, LL_3, LL_5, LL_7, LL_9, LL_10, LL_11, LL_12, LL_19, LL_20, LL_30, LL_39, LL_48, LL_57, LL_60, LL_97, LL_99, LL_122, LL_127, LL_999, sA_sA]
    simp only [Option.some.injEq, Sum.inl.injEq, Prod.mk.injEq, true_and]
    congr 1
    funext q
    rw [upd_e]
    by_cases h1 : q = k
    · rw [if_pos h1, if_pos (by omega), h1]
    · rw [if_neg h1]
      by_cases h2 : q < k
      · rw [if_pos h2, if_pos (by omega)]
      · rw [if_neg h2, if_neg (by omega)]
  · unfold mX8_text_l96
    simp (disch := omega) only [↓reduceIte, obs, esc_il, esc_ir, leT, leF, ltT, ltF, eqT, eqF, nleT, nleF, nltT, nltF, neqT, neqF, nI_add, pk_mul, ald_nI, ast_nI, irm_nI, idv_nI, zbT, zbF, in_T, in_F1, in_F2, nI_l, sI_1, sI_2, sA_1, sA_2, subK, add0, sub0, or0, lN_add, lN_mul, L_0, L_1, L_2, L_3, L_4, L_5, L_6, L_7, L_8, L_9, L_10, L_11, L_12, L_13, L_14, L_15, L_16, L_17, L_18, L_19, L_20, L_30, L_31, L_32, L_35, L_37, L_39, L_40, L_43, L_48, L_57, L_59, L_60, L_97, L_99, L_100, L_120, L_122, L_127, L_160, L_200, L_255, L_999, L_1000, L_100000, L_1000000, L_24, L_33, L_34, L_36, L_38, L_69, L_70, L_72, L_214, L_215, L_288, L_174, L_175, L_206, LL_0, LL_1, LL_2, LL_3, LL_5, LL_7, LL_9, LL_10, LL_11, LL_12, LL_19, LL_20, LL_30, LL_39, LL_48, LL_57, LL_60, LL_97, LL_99, LL_122, LL_127, LL_999]
theorem nar00 : vp_nar .boolean (nI 0) = nI 0 := rfl
theorem Rel_tx_ok {F : FS} {M : GS} (hR : Rel F M) {h t me : GS} {b : AH} (hv : HV h b) {rp : Nat → Int32} (hp : PV rp 0 b) (hb : HI b) (hy : b.2 11 = 0) (fp tk st sp nu lt td bp sp' he tk' va : Int32) (hme : me.2 2 = nI 0) : Rel (va_up (va_up (va_up (va_up F.1 0 h) 4 (sI (rdS (F.1 4) (nI 0) fp tk st sp nu lt) 2 (nI 0))) 5 t) 6 me, va_up (va_up F.2.1 0 (nI 0)) 1 (nI 0), F.2.2) (sA (sA (sI (sA (sI (sI (mdS M rp td (nI 0) bp sp' he tk' va) 4 (nI 0)) 5 (nI 0)) 0 (fun q => if q < 40 then rp q else M.1 0 q)) 17 (nI 0)) 19 (upd (M.1 19) 0 (nI 0))) 19 (upd (upd (M.1 19) 0 (nI 0)) 1 (nI 0))) := by
  have hbb := hb.nb
  refine hR.mk2 ?_ ?_ ?_ ?_ rfl ?_ (hR.R 0 (by decide)) (hR.R 1 (by decide)) (hR.R 2 (by decide)) (hR.R 3 (by decide)) hR.N rfl rfl
  · exact ⟨b, hv, hp.agree hb (fun q _ hq => if_pos (by omega)), hb, by omega⟩
  · exact ⟨0, by decide, rfl, rfl, fun h => absurd h (by decide)⟩
  · exact ⟨0, by decide, rfl, rfl, fun h => absurd h (by decide)⟩
  · exact ⟨0, by decide, rfl, rfl, fun j hj => absurd hj (Nat.not_lt_zero _)⟩
  · exact ⟨0, by decide, hme, rfl, fun j hj => absurd hj (Nat.not_lt_zero _)⟩
theorem Rel_tx_bad {F : FS} {M : GS} (hR : Rel F M) {t : GS} {rp : Nat → Int32} {e a : Nat} (tk st sp nu lt td sp' he tk' va : Int32) : Rel (va_up (va_up (va_up (va_up F.1 0 (F.1 0)) 4 (sI (rdS (F.1 4) (nI e) (nI a) tk st sp nu lt) 2 (nI 0))) 5 t) 6 (F.1 6), va_up (va_up F.2.1 0 (F.2.1 0)) 1 (F.2.1 1), F.2.2) (sI (sI (mdS M rp td (nI e) (nI a) sp' he tk' va) 4 (nI 0)) 5 (nI e)) := by
  refine hR.mk2 hR.1 (hR.I 0 (by decide)) (hR.I 1 (by decide)) ?_ rfl hR.S (hR.R 0 (by decide)) (hR.R 1 (by decide)) (hR.R 2 (by decide)) (hR.R 3 (by decide)) hR.N rfl rfl
  exact ⟨0, by decide, rfl, rfl, fun j hj => absurd hj (Nat.not_lt_zero _)⟩
theorem st_text {F : FS} {M : GS} (hR : Rel F M) : ∃ (o : Int32 × GS × GS × GS × GS × Int32 × Int32) (o' : Int32 × GS), mX7_text (F.1 0) (F.1 4) (F.1 5) (F.1 6) (F.2.1 0) (F.2.1 1) = some o ∧ mX8_text M = some o' ∧ o.1 = o'.1 ∧ Rel ((va_up (va_up (va_up (va_up F.1 0 o.2.1) 4 o.2.2.1) 5 o.2.2.2.1) 6 o.2.2.2.2.1), (va_up (va_up F.2.1 0 o.2.2.2.2.2.1) 1 o.2.2.2.2.2.2), F.2.2) o'.2 := by
  obtain ⟨n, c, hT⟩ := hR.T.fn
  have hn := hT.le
  have hC : M.1 12 = lf CUTS 9 := hR.2.2.2.2.2.2.2.1
  have hLt : M.1 13 = lf LETS 43 := hR.2.2.2.2.2.2.2.2
  obtain ⟨t1, c1, c2⟩ := clear_e (F.1 5)
  have hrd : sI (sI (sI (sI (F.1 4) 3 (nI 0)) 4 (nI 0)) 7 (nI 0)) 9 (nI 0) = rdS (F.1 4) (nI 0) (nI 0) ((F.1 4).2 5) ((F.1 4).2 6) (nI 0) ((F.1 4).2 8) (nI 0) := by
    have e := rd_id (F.1 4)
    calc sI (sI (sI (sI (F.1 4) 3 (nI 0)) 4 (nI 0)) 7 (nI 0)) 9 (nI 0) = sI (sI (sI (sI (rdS (F.1 4) ((F.1 4).2 3) ((F.1 4).2 4) ((F.1 4).2 5) ((F.1 4).2 6) ((F.1 4).2 7) ((F.1 4).2 8) ((F.1 4).2 9)) 3 (nI 0)) 4 (nI 0)) 7 (nI 0)) 9 (nI 0) := by rw [e]
      _ = _ := by rw [rd_s3, rd_s4, rd_s7, rd_s9]
  have hmd : sI (sI (sI M 6 (nI 0)) 8 (nI 0)) 2 (nI 0) = mdS M (M.1 1) (nI 0) (nI 0) (M.2 7) (nI 0) (M.2 9) (M.2 10) (M.2 11) := by
    have e := md_id M
    calc sI (sI (sI M 6 (nI 0)) 8 (nI 0)) 2 (nI 0) = sI (sI (sI (mdS M (M.1 1) (M.2 2) (M.2 6) (M.2 7) (M.2 8) (M.2 9) (M.2 10) (M.2 11)) 6 (nI 0)) 8 (nI 0)) 2 (nI 0) := by rw [e]
      _ = _ := by rw [md_s6, md_s8, md_s2]
  obtain ⟨G, g1, g2⟩ := token8 hT (Nat.zero_le n) (fun q => if q < 40 then 0 else M.1 1 q) (nI 0) (M.2 7) (M.2 9) (M.2 10) (M.2 11)
  have hpg : PV (fun q => if q < 40 then 0 else M.1 1 q) 0 b0 := page0 (fun q hq => if_pos hq)
  have hTD : TD 0 0 := ⟨by decide, by decide, rfl, rfl, rfl⟩
  obtain ⟨x, y, x1, y1, xy⟩ := text_ind hT hC hLt n 0 0 0 0 0 b0 t1 _ G (by omega) (Nat.zero_le n) (by decide) hTD g2 c2 hpg b0_hi rfl (nI 0) ((F.1 4).2 5) ((F.1 4).2 6) ((F.1 4).2 8) FU FU (by show _ < 1000000; omega) (by show _ < 1000000; omega)
  have h19 := text19_e (mdS M (M.1 1) (nI 0) (nI 0) (M.2 7) (nI 0) (M.2 9) (M.2 10) (M.2 11))
  rw [md_s, md_1] at h19
  unfold mX7_text mX5_takeAll mX8_text mX7_loseImages
  rw [c1, obs, L_0, hrd, x1, obs, hmd, h19, obs, g1, obs, y1, obs]
  rcases xy with ⟨l, fp, tk, st, sp, nu, lt, t, b, rp, td, bp, sp', he, tk', va, rfl, rfl, a1, a2, a3, a4⟩ | ⟨e, a, l, l', tk, st, sp, nu, lt, t, rp, td, sp', he, tk', va, he1, he2, rfl, rfl⟩
  · obtain ⟨h', k1, k2⟩ := copy_e (g := F.1 0) a1 a3
    have h96 := text96_e (sI (sI (mdS M rp td (nI 0) bp sp' he tk' va) 4 (nI 0)) 5 (nI 0))
    have e6 : ∀ z w : Int32, (sI (sI (mdS M rp td (nI 0) bp sp' he tk' va) 4 z) 5 w).2 6 = nI 0 := fun z w => rfl
    have e6' : ∀ z : Int32, (sI (mdS M rp td (nI 0) bp sp' he tk' va) 4 z).2 6 = nI 0 := fun z => rfl
    have e3 : (sI (rdS (F.1 4) (nI 0) fp tk st sp nu lt) 2 (nI 0)).2 3 = nI 0 := rfl
    simp only [esc_ir, obs, e3, e6, e6', if_pos (show nI 0 = nI 0 from rfl), if_pos (show nI 0 ≤ nI 0 by decide), k1, h96, ↓reduceIte]
    rw [ast_nI (by decide) (by decide), obs, L_1, ast_nI (by decide) (by decide), obs, nar00]
    exact ⟨_, _, rfl, rfl, rfl, Rel_tx_ok hR k2 a2 a3 a4 fp tk st sp nu lt td bp sp' he tk' va rfl⟩
  · have e3 : (sI (rdS (F.1 4) (nI e) (nI a) tk st sp nu lt) 2 (nI 0)).2 3 = nI e := rfl
    have e4 : (sI (rdS (F.1 4) (nI e) (nI a) tk st sp nu lt) 2 (nI 0)).2 4 = nI a := rfl
    have e6 : ∀ z w : Int32, (sI (sI (mdS M rp td (nI e) (nI a) sp' he tk' va) 4 z) 5 w).2 6 = nI e := fun z w => rfl
    have e6' : ∀ z : Int32, (sI (mdS M rp td (nI e) (nI a) sp' he tk' va) 4 z).2 6 = nI e := fun z => rfl
    have e7 : ∀ z w : Int32, (sI (sI (mdS M rp td (nI e) (nI a) sp' he tk' va) 4 z) 5 w).2 7 = nI a := fun z w => rfl
    simp only [esc_ir, obs, e3, e4, e6, e6', e7, if_neg (show ¬ nI e = nI 0 from fun z => by have := (nI_eq (by omega) (by decide)).mp z; omega), if_neg (show ¬ nI e ≤ nI 0 from nI_ge he1 (by omega))]
    exact ⟨_, _, rfl, rfl, rfl, Rel_tx_bad hR tk st sp nu lt td sp' he tk' va⟩
