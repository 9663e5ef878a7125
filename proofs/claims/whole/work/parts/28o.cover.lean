/-! rolls: the cheapest that cover so much -/
def cv (p : Nat) : Nat := if p = 100000 then 1000000 else p
theorem cvl {p : Nat} (h : p < 100000) : cv p = p := if_neg (by omega)
theorem cvd : cv 100000 = 1000000 := rfl
def bK (r : Nat) (kk : Int32) : Nat := if nI r = kk then 1 else 0
theorem bK_le (r : Nat) (kk : Int32) : bK r kk ≤ 1 := by unfold bK; split <;> omega
def stp (a : AH) (kk : Int32) (P C : Nat → Nat) (t r : Nat) (pc : Nat × Nat) : Nat × Nat :=
  if a.1 3 r ≤ t ∧ P (t - a.1 3 r) < 100000 then
    (if P (t - a.1 3 r) + a.1 4 r < pc.1 ∨ (P (t - a.1 3 r) + a.1 4 r = pc.1 ∧ pc.2 < C (t - a.1 3 r) + bK r kk) then (P (t - a.1 3 r) + a.1 4 r, C (t - a.1 3 r) + bK r kk) else pc)
  else pc
def rfo (a : AH) (kk : Int32) (P C : Nat → Nat) (t : Nat) : Nat → Nat × Nat
  | 0 => (if t = 0 then 0 else 100000, 0)
  | r + 1 => stp a kk P C t r (rfo a kk P C t r)
def tbl (a : AH) (kk : Int32) : Nat → (Nat → Nat) × (Nat → Nat)
  | 0 => (fun _ => 100000, fun _ => 0)
  | t + 1 => (va_up (tbl a kk t).1 t (rfo a kk (tbl a kk t).1 (tbl a kk t).2 t (a.2 12)).1, va_up (tbl a kk t).2 t (rfo a kk (tbl a kk t).1 (tbl a kk t).2 t (a.2 12)).2)
def PF (a : AH) (kk : Int32) (t : Nat) : Nat := (tbl a kk (t + 1)).1 t
def CF (a : AH) (kk : Int32) (t : Nat) : Nat := (tbl a kk (t + 1)).2 t
theorem tbl_e (a : AH) (kk : Int32) : ∀ m t, t < m → (tbl a kk m).1 t = PF a kk t ∧ (tbl a kk m).2 t = CF a kk t
  | 0, t, h => absurd h (Nat.not_lt_zero _)
  | m + 1, t, h => by
    by_cases e : t = m
    · subst e; exact ⟨rfl, rfl⟩
    · obtain ⟨h1, h2⟩ := tbl_e a kk m t (by omega)
      rw [← h1, ← h2]
      refine ⟨?_, ?_⟩
      · show va_up _ m _ t = _
        rw [up_e, if_neg e]
      · show va_up _ m _ t = _
        rw [up_e, if_neg e]
theorem rfo_congr {a : AH} (hi : HI a) (kk : Int32) {P P' C C' : Nat → Nat} {t : Nat} (h : ∀ q, q < t → P q = P' q ∧ C q = C' q) : ∀ r, r ≤ a.2 12 → rfo a kk P C t r = rfo a kk P' C' t r
  | 0, _ => rfl
  | r + 1, hr => by
    have hl := hi.rl (show r < a.2 12 by omega)
    rw [rfo, rfo, rfo_congr hi kk h r (by omega)]
    unfold stp
    by_cases hc : a.1 3 r ≤ t
    · rw [(h (t - a.1 3 r) (by omega)).1, (h (t - a.1 3 r) (by omega)).2]
    · rw [if_neg (fun z => hc z.1), if_neg (fun z => hc z.1)]
theorem PF_e {a : AH} (hi : HI a) (kk : Int32) (t : Nat) : PF a kk t = (rfo a kk (PF a kk) (CF a kk) t (a.2 12)).1 ∧ CF a kk t = (rfo a kk (PF a kk) (CF a kk) t (a.2 12)).2 := by
  have e := rfo_congr hi kk (P := (tbl a kk t).1) (C := (tbl a kk t).2) (P' := PF a kk) (C' := CF a kk) (t := t) (fun q hq => tbl_e a kk t q hq) (a.2 12) (Nat.le_refl _)
  rw [← e]
  refine ⟨?_, ?_⟩
  · show va_up _ t _ t = _
    rw [up_e, if_pos rfl]
  · show va_up _ t _ t = _
    rw [up_e, if_pos rfl]
def Bd (t : Nat) (pc : Nat × Nat) : Prop := (pc.1 = 100000 ∨ pc.1 ≤ 9 * t) ∧ pc.2 ≤ t
theorem rfo_bd {a : AH} (hi : HI a) (kk : Int32) {t : Nat} (h : ∀ q, q < t → Bd q (PF a kk q, CF a kk q)) (ht : t ≤ 1000) : ∀ r, r ≤ a.2 12 → Bd t (rfo a kk (PF a kk) (CF a kk) t r)
  | 0, _ => by
    refine ⟨?_, Nat.zero_le _⟩
    show (if t = 0 then 0 else 100000) = 100000 ∨ (if t = 0 then 0 else 100000) ≤ 9 * t
    split
    · right; omega
    · left; rfl
  | r + 1, hr => by
    have ih := rfo_bd hi kk h ht r (by omega)
    have hl := hi.rl (show r < a.2 12 by omega)
    have hb := bK_le r kk
    rw [rfo]
    unfold stp
    by_cases hc : a.1 3 r ≤ t ∧ PF a kk (t - a.1 3 r) < 100000
    · rw [if_pos hc]
      split
      · obtain ⟨h1, h2⟩ := h (t - a.1 3 r) (by omega)
        have h1 : PF a kk (t - a.1 3 r) = 100000 ∨ PF a kk (t - a.1 3 r) ≤ 9 * (t - a.1 3 r) := h1
        have h2 : CF a kk (t - a.1 3 r) ≤ t - a.1 3 r := h2
        refine ⟨Or.inr ?_, ?_⟩
        · show PF a kk (t - a.1 3 r) + a.1 4 r ≤ 9 * t
          omega
        · show CF a kk (t - a.1 3 r) + bK r kk ≤ t
          omega
      · exact ih
    · rw [if_neg hc]; exact ih
theorem PF_bd {a : AH} (hi : HI a) (kk : Int32) : ∀ m t, t < m → m ≤ 1000 → Bd t (PF a kk t, CF a kk t)
  | 0, t, h, _ => absurd h (Nat.not_lt_zero _)
  | m + 1, t, h, hm => by
    obtain ⟨e1, e2⟩ := PF_e hi kk t
    rw [e1, e2]
    exact rfo_bd hi kk (fun q hq => PF_bd hi kk m q (by omega) (by omega)) (by omega) (a.2 12) (Nat.le_refl _)
theorem PF_b {a : AH} (hi : HI a) (kk : Int32) {t : Nat} (ht : t < 1000) : (PF a kk t = 100000 ∨ PF a kk t ≤ 9 * t) ∧ CF a kk t ≤ t := PF_bd hi kk 1000 t ht (Nat.le_refl _)
theorem rfo_b {a : AH} (hi : HI a) (kk : Int32) {t r : Nat} (ht : t < 1000) (hr : r ≤ a.2 12) : ((rfo a kk (PF a kk) (CF a kk) t r).1 = 100000 ∨ (rfo a kk (PF a kk) (CF a kk) t r).1 ≤ 9 * t) ∧ (rfo a kk (PF a kk) (CF a kk) t r).2 ≤ t := rfo_bd hi kk (fun q hq => PF_bd hi kk 1000 q (by omega) (Nat.le_refl _)) (by omega) r hr
theorem stp_0 {a : AH} {kk : Int32} {P C : Nat → Nat} {t r : Nat} {pc : Nat × Nat} (h : ¬ (a.1 3 r ≤ t ∧ P (t - a.1 3 r) < 100000)) : stp a kk P C t r pc = pc := if_neg h
theorem stp_y {a : AH} {kk : Int32} {P C : Nat → Nat} {t r : Nat} {pc : Nat × Nat} (h : a.1 3 r ≤ t ∧ P (t - a.1 3 r) < 100000) (h2 : P (t - a.1 3 r) + a.1 4 r < pc.1 ∨ (P (t - a.1 3 r) + a.1 4 r = pc.1 ∧ pc.2 < C (t - a.1 3 r) + bK r kk)) : stp a kk P C t r pc = (P (t - a.1 3 r) + a.1 4 r, C (t - a.1 3 r) + bK r kk) := by
  unfold stp; rw [if_pos h, if_pos h2]
theorem stp_n {a : AH} {kk : Int32} {P C : Nat → Nat} {t r : Nat} {pc : Nat × Nat} (h : a.1 3 r ≤ t ∧ P (t - a.1 3 r) < 100000) (h2 : ¬ (P (t - a.1 3 r) + a.1 4 r < pc.1 ∨ (P (t - a.1 3 r) + a.1 4 r = pc.1 ∧ pc.2 < C (t - a.1 3 r) + bK r kk))) : stp a kk P C t r pc = pc := by
  unfold stp; rw [if_pos h, if_neg h2]
/-- the class's table: filled below s, and at s so far pc -/
def PT (g : GS) (a : AH) (kk : Int32) (s : Nat) (pc : Nat × Nat) : Prop := (∀ q, q < s → g.1 0 q = nI (cv (PF a kk q)) ∧ g.1 1 q = nI (CF a kk q)) ∧ g.1 0 s = nI (cv pc.1) ∧ g.1 1 s = nI pc.2
theorem lengthen_e {g : GS} {a : AH} {kk : Int32} (hi : HI a) {s r : Nat} {pc : Nat × Nat} (hr : r < a.2 12) (hs : s < 69) (hg : PT g a kk s pc) (hpc : (pc.1 = 100000 ∨ pc.1 ≤ 9 * s) ∧ pc.2 ≤ s) : ∃ g', mX4_lengthen g (nI s) (nI s - nI (a.1 3 r)) (nI (a.1 4 r)) (nI (bK r kk)) = some g' ∧ PT g' a kk s (stp a kk (PF a kk) (CF a kk) s r pc) := by
  have hl := hi.rl hr
  obtain ⟨g1, g2, g3⟩ := id hg
  have hb := bK_le r kk
  unfold mX4_lengthen
  by_cases c1 : a.1 3 r ≤ s
  · obtain ⟨g4, g5⟩ := g1 (s - a.1 3 r) (by omega)
    obtain ⟨p1, p2⟩ := PF_b hi kk (t := s - a.1 3 r) (by omega)
    by_cases c2 : PF a kk (s - a.1 3 r) < 100000
    · rw [cvl c2] at g4
      have hup : PT (sA (sA g 0 (upd (g.1 0) s (nI (PF a kk (s - a.1 3 r) + a.1 4 r)))) 1 (upd (g.1 1) s (nI (CF a kk (s - a.1 3 r) + bK r kk)))) a kk s (PF a kk (s - a.1 3 r) + a.1 4 r, CF a kk (s - a.1 3 r) + bK r kk) := by
        refine ⟨fun q hq => ⟨?_, ?_⟩, ?_, ?_⟩
        · show upd (g.1 0) s _ q = _
          rw [upd_e, if_neg (by omega)]; exact (g1 q hq).1
        · show upd (g.1 1) s _ q = _
          rw [upd_e, if_neg (by omega)]; exact (g1 q hq).2
        · show upd (g.1 0) s _ s = nI (cv (PF a kk (s - a.1 3 r) + a.1 4 r))
          rw [upd_e, if_pos rfl, cvl (by omega)]
        · show upd (g.1 1) s _ s = _
          rw [upd_e, if_pos rfl]
      by_cases c3 : PF a kk (s - a.1 3 r) + a.1 4 r < pc.1
      · rw [stp_y ⟨c1, c2⟩ (Or.inl c3)]
        refine ⟨_, ?_, hup⟩
        by_cases c9 : pc.1 = 100000
        · rw [c9, cvd] at g2
          simp (disch := omega) only [↓reduceIte, obs, esc_il, esc_ir, leT, leF, ltT, ltF, eqT, eqF, nleT, nleF, nltT, nltF, neqT, neqF, nI_add, pk_mul, ald_nI, ast_nI, irm_nI, idv_nI, zbT, zbF, in_T, in_F1, in_F2, nI_l, sI_1, sI_2, sA_1, sA_2, subK, add0, sub0, or0, lN_add, lN_mul, L_0, L_1, L_2, L_3, L_4, L_5, L_6, L_7, L_8, L_9, L_10, L_11, L_12, L_13, L_14, L_15, L_16, L_17, L_18, L_19, L_20, L_30, L_31, L_32, L_35, L_37, L_39, L_40, L_43, L_48, L_57, L_59, L_60, L_97, L_99, L_100, L_120, L_122, L_127, L_160, L_200, L_255, L_999, L_1000, L_100000, L_1000000, L_24, L_33, L_34, L_36, L_38, L_69, L_70, L_72, L_214, L_215, L_288, L_174, L_175, L_206, LL_0, LL_1, LL_2, LL_3, LL_5, LL_9, LL_10, LL_11, LL_12, LL_19, LL_20, LL_30, LL_39, LL_60, LL_99, LL_127, LL_999, g2, g3, g4, g5]
        · rw [cvl (by omega)] at g2
          simp (disch := omega) only [↓reduceIte, obs, esc_il, esc_ir, leT, leF, ltT, ltF, eqT, eqF, nleT, nleF, nltT, nltF, neqT, neqF, nI_add, pk_mul, ald_nI, ast_nI, irm_nI, idv_nI, zbT, zbF, in_T, in_F1, in_F2, nI_l, sI_1, sI_2, sA_1, sA_2, subK, add0, sub0, or0, lN_add, lN_mul, L_0, L_1, L_2, L_3, L_4, L_5, L_6, L_7, L_8, L_9, L_10, L_11, L_12, L_13, L_14, L_15, L_16, L_17, L_18, L_19, L_20, L_30, L_31, L_32, L_35, L_37, L_39, L_40, L_43, L_48, L_57, L_59, L_60, L_97, L_99, L_100, L_120, L_122, L_127, L_160, L_200, L_255, L_999, L_1000, L_100000, L_1000000, L_24, L_33, L_34, L_36, L_38, L_69, L_70, L_72, L_214, L_215, L_288, L_174, L_175, L_206, LL_0, LL_1, LL_2, LL_3, LL_5, LL_9, LL_10, LL_11, LL_12, LL_19, LL_20, LL_30, LL_39, LL_60, LL_99, LL_127, LL_999, g2, g3, g4, g5]
      · rw [cvl (by omega)] at g2
        by_cases c4 : PF a kk (s - a.1 3 r) + a.1 4 r = pc.1
        · by_cases c5 : pc.2 < CF a kk (s - a.1 3 r) + bK r kk
          · rw [stp_y ⟨c1, c2⟩ (Or.inr ⟨c4, c5⟩)]
            refine ⟨_, ?_, hup⟩
            simp (disch := omega) only [↓reduceIte, obs, esc_il, esc_ir, leT, leF, ltT, ltF, eqT, eqF, nleT, nleF, nltT, nltF, neqT, neqF, nI_add, pk_mul, ald_nI, ast_nI, irm_nI, idv_nI, zbT, zbF, in_T, in_F1, in_F2, nI_l, sI_1, sI_2, sA_1, sA_2, subK, add0, sub0, or0, lN_add, lN_mul, L_0, L_1, L_2, L_3, L_4, L_5, L_6, L_7, L_8, L_9, L_10, L_11, L_12, L_13, L_14, L_15, L_16, L_17, L_18, L_19, L_20, L_30, L_31, L_32, L_35, L_37, L_39, L_40, L_43, L_48, L_57, L_59, L_60, L_97, L_99, L_100, L_120, L_122, L_127, L_160, L_200, L_255, L_999, L_1000, L_100000, L_1000000, L_24, L_33, L_34, L_36, L_38, L_69, L_70, L_72, L_214, L_215, L_288, L_174, L_175, L_206, LL_0, LL_1, LL_2, LL_3, LL_5, LL_9, LL_10, LL_11, LL_12, LL_19, LL_20, LL_30, LL_39, LL_60, LL_99, LL_127, LL_999, g2, g3, g4, g5]
          · rw [stp_n ⟨c1, c2⟩ (by omega)]
            refine ⟨g, ?_, hg⟩
            simp (disch := omega) only [↓reduceIte, obs, esc_il, esc_ir, leT, leF, ltT, ltF, eqT, eqF, nleT, nleF, nltT, nltF, neqT, neqF, nI_add, pk_mul, ald_nI, ast_nI, irm_nI, idv_nI, zbT, zbF, in_T, in_F1, in_F2, nI_l, sI_1, sI_2, sA_1, sA_2, subK, add0, sub0, or0, lN_add, lN_mul, L_0, L_1, L_2, L_3, L_4, L_5, L_6, L_7, L_8, L_9, L_10, L_11, L_12, L_13, L_14, L_15, L_16, L_17, L_18, L_19, L_20, L_30, L_31, L_32, L_35, L_37, L_39, L_40, L_43, L_48, L_57, L_59, L_60, L_97, L_99, L_100, L_120, L_122, L_127, L_160, L_200, L_255, L_999, L_1000, L_100000, L_1000000, L_24, L_33, L_34, L_36, L_38, L_69, L_70, L_72, L_214, L_215, L_288, L_174, L_175, L_206, LL_0, LL_1, LL_2, LL_3, LL_5, LL_9, LL_10, LL_11, LL_12, LL_19, LL_20, LL_30, LL_39, LL_60, LL_99, LL_127, LL_999, g2, g3, g4, g5]
        · rw [stp_n ⟨c1, c2⟩ (by omega)]
          refine ⟨g, ?_, hg⟩
          simp (disch := omega) only [↓reduceIte, obs, esc_il, esc_ir, leT, leF, ltT, ltF, eqT, eqF, nleT, nleF, nltT, nltF, neqT, neqF, nI_add, pk_mul, ald_nI, ast_nI, irm_nI, idv_nI, zbT, zbF, in_T, in_F1, in_F2, nI_l, sI_1, sI_2, sA_1, sA_2, subK, add0, sub0, or0, lN_add, lN_mul, L_0, L_1, L_2, L_3, L_4, L_5, L_6, L_7, L_8, L_9, L_10, L_11, L_12, L_13, L_14, L_15, L_16, L_17, L_18, L_19, L_20, L_30, L_31, L_32, L_35, L_37, L_39, L_40, L_43, L_48, L_57, L_59, L_60, L_97, L_99, L_100, L_120, L_122, L_127, L_160, L_200, L_255, L_999, L_1000, L_100000, L_1000000, L_24, L_33, L_34, L_36, L_38, L_69, L_70, L_72, L_214, L_215, L_288, L_174, L_175, L_206, LL_0, LL_1, LL_2, LL_3, LL_5, LL_9, LL_10, LL_11, LL_12, LL_19, LL_20, LL_30, LL_39, LL_60, LL_99, LL_127, LL_999, g2, g3, g4, g5]
    · rw [stp_0 (by omega)]
      have e : PF a kk (s - a.1 3 r) = 100000 := by omega
      rw [e, cvd] at g4
      refine ⟨g, ?_, hg⟩
      simp (disch := omega) only [↓reduceIte, obs, esc_il, esc_ir, leT, leF, ltT, ltF, eqT, eqF, nleT, nleF, nltT, nltF, neqT, neqF, nI_add, pk_mul, ald_nI, ast_nI, irm_nI, idv_nI, zbT, zbF, in_T, in_F1, in_F2, nI_l, sI_1, sI_2, sA_1, sA_2, subK, add0, sub0, or0, lN_add, lN_mul, L_0, L_1, L_2, L_3, L_4, L_5, L_6, L_7, L_8, L_9, L_10, L_11, L_12, L_13, L_14, L_15, L_16, L_17, L_18, L_19, L_20, L_30, L_31, L_32, L_35, L_37, L_39, L_40, L_43, L_48, L_57, L_59, L_60, L_97, L_99, L_100, L_120, L_122, L_127, L_160, L_200, L_255, L_999, L_1000, L_100000, L_1000000, L_24, L_33, L_34, L_36, L_38, L_69, L_70, L_72, L_214, L_215, L_288, L_174, L_175, L_206, LL_0, LL_1, LL_2, LL_3, LL_5, LL_9, LL_10, LL_11, LL_12, LL_19, LL_20, LL_30, LL_39, LL_60, LL_99, LL_127, LL_999, g4]
  · rw [stp_0 (by omega)]
    refine ⟨g, ?_, hg⟩
    simp (disch := omega) only [↓reduceIte, obs, esc_il, esc_ir, leT, leF, ltT, ltF, eqT, eqF, nleT, nleF, nltT, nltF, neqT, neqF, nI_add, pk_mul, ald_nI, ast_nI, irm_nI, idv_nI, zbT, zbF, in_T, in_F1, in_F2, nI_l, sI_1, sI_2, sA_1, sA_2, subK, add0, sub0, or0, lN_add, lN_mul, L_0, L_1, L_2, L_3, L_4, L_5, L_6, L_7, L_8, L_9, L_10, L_11, L_12, L_13, L_14, L_15, L_16, L_17, L_18, L_19, L_20, L_30, L_31, L_32, L_35, L_37, L_39, L_40, L_43, L_48, L_57, L_59, L_60, L_97, L_99, L_100, L_120, L_122, L_127, L_160, L_200, L_255, L_999, L_1000, L_100000, L_1000000, L_24, L_33, L_34, L_36, L_38, L_69, L_70, L_72, L_214, L_215, L_288, L_174, L_175, L_206, LL_0, LL_1, LL_2, LL_3, LL_5, LL_9, LL_10, LL_11, LL_12, LL_19, LL_20, LL_30, LL_39, LL_60, LL_99, LL_127, LL_999, ngd]
theorem bK_e (r : Nat) (kk : Int32) : (if nI r = kk then some (nI 1) else some (nI 0)) = some (nI (bK r kk)) := by
  unfold bK; split <;> rfl
theorem reckon45_e {h g : GS} {a : AH} {kk : Int32} (hv : HV h a) (hi : HI a) {s : Nat} (h1 : 1 ≤ s) (hs : s < 69) (hg : PT g a kk s (100000, 0)) (g0 : GS) : ∃ x, whO (mX4_reckon_l45 h kk (nI s, g0)) FU (nI 0, g) = some x ∧ PT x.2 a kk s (PF a kk s, CF a kk s) := by
  have hb := hi.nb
  obtain ⟨e1, e2⟩ := PF_e hi kk s
  rw [e1, e2]
  refine whO_inv (fun (r : Nat) (x : Int32 × GS) => ∃ g, x = (nI r, g) ∧ PT g a kk s (rfo a kk (PF a kk) (CF a kk) s r)) (a.2 12) _ ?_ ?_ _ ⟨g, rfl, by rw [rfo, if_neg (by omega)]; exact hg⟩ (by omega)
  · rintro r x hlt ⟨g, rfl, e⟩
    left
    have hbd := rfo_b hi kk (t := s) (r := r) (by omega) (by omega)
    obtain ⟨g', k1, k2⟩ := lengthen_e hi hlt hs e hbd
    refine ⟨(nI (r + 1), g'), ?_, g', rfl, k2⟩
    unfold mX4_reckon_l45
    simp (disch := omega) only [↓reduceIte, obs, esc_il, esc_ir, leT, leF, ltT, ltF, eqT, eqF, nleT, nleF, nltT, nltF, neqT, neqF, nI_add, pk_mul, ald_nI, ast_nI, irm_nI, idv_nI, zbT, zbF, in_T, in_F1, in_F2, nI_l, sI_1, sI_2, sA_1, sA_2, add0, sub0, or0, lN_add, lN_mul, L_0, L_1, L_2, L_3, L_4, L_5, L_6, L_7, L_8, L_9, L_10, L_11, L_12, L_13, L_14, L_15, L_16, L_17, L_18, L_19, L_20, L_30, L_31, L_32, L_35, L_37, L_39, L_40, L_43, L_48, L_57, L_59, L_60, L_97, L_99, L_100, L_120, L_122, L_127, L_160, L_200, L_255, L_999, L_1000, L_100000, L_1000000, L_24, L_33, L_34, L_36, L_38, L_69, L_70, L_72, L_214, L_215, L_288, L_174, L_175, L_206, LL_0, LL_1, LL_2, LL_3, LL_5, LL_9, LL_10, LL_11, LL_12, LL_19, LL_20, LL_30, LL_39, LL_60, LL_99, LL_127, LL_999, hasRoll_e hv hi, hv.ln, hv.pr, bK_e, k1]
  · rintro x ⟨g, rfl, e⟩
    refine ⟨(nI (a.2 12), g), ?_, e⟩
    unfold mX4_reckon_l45
    by_cases h4 : a.2 12 < 4
    · simp (disch := omega) only [↓reduceIte, obs, esc_il, esc_ir, leT, leF, ltT, ltF, eqT, eqF, nleT, nleF, nltT, nltF, neqT, neqF, nI_add, pk_mul, ald_nI, ast_nI, irm_nI, idv_nI, zbT, zbF, in_T, in_F1, in_F2, nI_l, sI_1, sI_2, sA_1, sA_2, subK, add0, sub0, or0, lN_add, lN_mul, L_0, L_1, L_2, L_3, L_4, L_5, L_6, L_7, L_8, L_9, L_10, L_11, L_12, L_13, L_14, L_15, L_16, L_17, L_18, L_19, L_20, L_30, L_31, L_32, L_35, L_37, L_39, L_40, L_43, L_48, L_57, L_59, L_60, L_97, L_99, L_100, L_120, L_122, L_127, L_160, L_200, L_255, L_999, L_1000, L_100000, L_1000000, L_24, L_33, L_34, L_36, L_38, L_69, L_70, L_72, L_214, L_215, L_288, L_174, L_175, L_206, LL_0, LL_1, LL_2, LL_3, LL_5, LL_9, LL_10, LL_11, LL_12, LL_19, LL_20, LL_30, LL_39, LL_60, LL_99, LL_127, LL_999, hasRoll_e hv hi]
    · simp (disch := omega) only [↓reduceIte, obs, esc_il, esc_ir, leT, leF, ltT, ltF, eqT, eqF, nleT, nleF, nltT, nltF, neqT, neqF, nI_add, pk_mul, ald_nI, ast_nI, irm_nI, idv_nI, zbT, zbF, in_T, in_F1, in_F2, nI_l, sI_1, sI_2, sA_1, sA_2, subK, add0, sub0, or0, lN_add, lN_mul, L_0, L_1, L_2, L_3, L_4, L_5, L_6, L_7, L_8, L_9, L_10, L_11, L_12, L_13, L_14, L_15, L_16, L_17, L_18, L_19, L_20, L_30, L_31, L_32, L_35, L_37, L_39, L_40, L_43, L_48, L_57, L_59, L_60, L_97, L_99, L_100, L_120, L_122, L_127, L_160, L_200, L_255, L_999, L_1000, L_100000, L_1000000, L_24, L_33, L_34, L_36, L_38, L_69, L_70, L_72, L_214, L_215, L_288, L_174, L_175, L_206, LL_0, LL_1, LL_2, LL_3, LL_5, LL_9, LL_10, LL_11, LL_12, LL_19, LL_20, LL_30, LL_39, LL_60, LL_99, LL_127, LL_999]
/-- the class's table, all of it -/
def PA (g : GS) (a : AH) (kk : Int32) (s : Nat) : Prop := ∀ q, q < s → g.1 0 q = nI (cv (PF a kk q)) ∧ g.1 1 q = nI (CF a kk q)
theorem PF_0 {a : AH} (hi : HI a) (kk : Int32) : PF a kk 0 = 0 ∧ CF a kk 0 = 0 := by
  have h := PF_b hi kk (t := 0) (by decide)
  have e := (PF_e hi kk 0).1
  have hz : ∀ r, r ≤ a.2 12 → rfo a kk (PF a kk) (CF a kk) 0 r = (0, 0) := by
    intro r
    induction r with
    | zero => intro _; rfl
    | succ r ih =>
      intro hr
      have hl := hi.rl (show r < a.2 12 by omega)
      rw [rfo, ih (by omega), stp_0 (by omega)]
  rw [hz _ (Nat.le_refl _)] at e
  exact ⟨e, by omega⟩
theorem reckonP_e {h g : GS} {a : AH} {kk : Int32} (hv : HV h a) (hi : HI a) : ∃ g', mX4_reckon g h kk = some g' ∧ PA g' a kk 69 := by
  have hb := hi.nb
  have hL : ∃ x, whO (mX4_reckon_l21 h kk) FU (nI 1, sA (sA g 0 (upd (g.1 0) 0 (nI 0))) 1 (upd (g.1 1) 0 (nI 0))) = some x ∧ PA x.2 a kk 69 := by
    refine whO_inv (fun (i : Nat) (x : Int32 × GS) => ∃ g, x = (nI (i + 1), g) ∧ PA g a kk (i + 1)) 68 _ ?_ ?_ _ ⟨_, rfl, ?_⟩ (by decide)
    · rintro i x hlt ⟨g, rfl, e⟩
      left
      have hpt : PT (sA (sA g 0 (upd (g.1 0) (i + 1) (nI 1000000))) 1 (upd (g.1 1) (i + 1) (nI 0))) a kk (i + 1) (100000, 0) := by
        refine ⟨fun q hq => ⟨?_, ?_⟩, ?_, ?_⟩
        · show upd (g.1 0) (i + 1) _ q = _
          rw [upd_e, if_neg (by omega)]; exact (e q hq).1
        · show upd (g.1 1) (i + 1) _ q = _
          rw [upd_e, if_neg (by omega)]; exact (e q hq).2
        · show upd (g.1 0) (i + 1) _ (i + 1) = _
          rw [upd_e, if_pos rfl]; rfl
        · show upd (g.1 1) (i + 1) _ (i + 1) = _
          rw [upd_e, if_pos rfl]
      obtain ⟨x, k1, k2, k3, k4⟩ := reckon45_e hv hi (by omega) (by omega) hpt g
      refine ⟨(nI (i + 1 + 1), x.2), ?_, x.2, rfl, ?_⟩
      · unfold mX4_reckon_l21
        simp (disch := omega) only [↓reduceIte, obs, esc_il, esc_ir, leT, leF, ltT, ltF, eqT, eqF, nleT, nleF, nltT, nltF, neqT, neqF, nI_add, pk_mul, ald_nI, ast_nI, irm_nI, idv_nI, zbT, zbF, in_T, in_F1, in_F2, nI_l, sI_1, sI_2, sA_1, sA_2, subK, add0, sub0, or0, lN_add, lN_mul, L_0, L_1, L_2, L_3, L_4, L_5, L_6, L_7, L_8, L_9, L_10, L_11, L_12, L_13, L_14, L_15, L_16, L_17, L_18, L_19, L_20, L_30, L_31, L_32, L_35, L_37, L_39, L_40, L_43, L_48, L_57, L_59, L_60, L_97, L_99, L_100, L_120, L_122, L_127, L_160, L_200, L_255, L_999, L_1000, L_100000, L_1000000, L_24, L_33, L_34, L_36, L_38, L_69, L_70, L_72, L_214, L_215, L_288, L_174, L_175, L_206, LL_0, LL_1, LL_2, LL_3, LL_5, LL_9, LL_10, LL_11, LL_12, LL_19, LL_20, LL_30, LL_39, LL_60, LL_99, LL_127, LL_999, k1]
      · intro q hq
        by_cases h : q = i + 1
        · rw [h]; exact ⟨k3, k4⟩
        · exact k2 q (by omega)
    · rintro x ⟨g, rfl, e⟩
      refine ⟨(nI 69, g), ?_, e⟩
      unfold mX4_reckon_l21
      simp (disch := omega) only [↓reduceIte, obs, esc_il, esc_ir, leT, leF, ltT, ltF, eqT, eqF, nleT, nleF, nltT, nltF, neqT, neqF, nI_add, pk_mul, ald_nI, ast_nI, irm_nI, idv_nI, zbT, zbF, in_T, in_F1, in_F2, nI_l, sI_1, sI_2, sA_1, sA_2, subK, add0, sub0, or0, lN_add, lN_mul, L_0, L_1, L_2, L_3, L_4, L_5, L_6, L_7, L_8, L_9, L_10, L_11, L_12, L_13, L_14, L_15, L_16, L_17, L_18, L_19, L_20, L_30, L_31, L_32, L_35, L_37, L_39, L_40, L_43, L_48, L_57, L_59, L_60, L_97, L_99, L_100, L_120, L_122, L_127, L_160, L_200, L_255, L_999, L_1000, L_100000, L_1000000, L_24, L_33, L_34, L_36, L_38, L_69, L_70, L_72, L_214, L_215, L_288, L_174, L_175, L_206, LL_0, LL_1, LL_2, LL_3, LL_5, LL_9, LL_10, LL_11, LL_12, LL_19, LL_20, LL_30, LL_39, LL_60, LL_99, LL_127, LL_999]
    · intro q hq
      obtain rfl : q = 0 := by omega
      obtain ⟨z1, z2⟩ := PF_0 hi kk
      refine ⟨?_, ?_⟩
      · show upd (g.1 0) 0 _ 0 = _
        rw [upd_e, if_pos rfl, z1]; rfl
      · show upd (g.1 1) 0 (nI 0) 0 = nI (CF a kk 0)
        rw [upd_e, if_pos rfl, z2]
  obtain ⟨x, x1, x2⟩ := hL
  refine ⟨x.2, ?_, x2⟩
  unfold mX4_reckon
  simp (disch := omega) only [↓reduceIte, obs, esc_il, esc_ir, leT, leF, ltT, ltF, eqT, eqF, nleT, nleF, nltT, nltF, neqT, neqF, nI_add, pk_mul, ald_nI, ast_nI, irm_nI, idv_nI, zbT, zbF, in_T, in_F1, in_F2, nI_l, sI_1, sI_2, sA_1, sA_2, subK, add0, sub0, or0, lN_add, lN_mul, L_0, L_1, L_2, L_3, L_4, L_5, L_6, L_7, L_8, L_9, L_10, L_11, L_12, L_13, L_14, L_15, L_16, L_17, L_18, L_19, L_20, L_30, L_31, L_32, L_35, L_37, L_39, L_40, L_43, L_48, L_57, L_59, L_60, L_97, L_99, L_100, L_120, L_122, L_127, L_160, L_200, L_255, L_999, L_1000, L_100000, L_1000000, L_24, L_33, L_34, L_36, L_38, L_69, L_70, L_72, L_214, L_215, L_288, L_174, L_175, L_206, LL_0, LL_1, LL_2, LL_3, LL_5, LL_9, LL_10, LL_11, LL_12, LL_19, LL_20, LL_30, LL_39, LL_60, LL_99, LL_127, LL_999, x1]
/-- the least price of those from n on, below m -/
def mnN (P : Nat → Nat) (n : Nat) : Nat → Nat
  | 0 => 100000
  | m + 1 => if m < n then mnN P n m else if P m < mnN P n m then P m else mnN P n m
theorem mn_le (P : Nat → Nat) (n : Nat) : ∀ m t, n ≤ t → t < m → mnN P n m ≤ P t
  | 0, t, _, h => absurd h (Nat.not_lt_zero _)
  | m + 1, t, h1, h2 => by
    rw [mnN]
    by_cases e : t = m
    · subst e
      rw [if_neg (by omega)]
      split <;> omega
    · have := mn_le P n m t h1 (by omega)
      split
      · exact this
      · split <;> omega
theorem mn_D (P : Nat → Nat) (n : Nat) : ∀ m, mnN P n m ≤ 100000
  | 0 => Nat.le_refl _
  | m + 1 => by
    have := mn_D P n m
    rw [mnN]
    split
    · exact this
    · split <;> omega
theorem mn_at (P : Nat → Nat) (n : Nat) : ∀ m, mnN P n m = 100000 ∨ ∃ t, n ≤ t ∧ t < m ∧ P t = mnN P n m
  | 0 => Or.inl rfl
  | m + 1 => by
    have ih := mn_at P n m
    rw [mnN]
    by_cases c1 : m < n
    · rw [if_pos c1]
      rcases ih with h | ⟨t, h1, h2, h3⟩
      · exact Or.inl h
      · exact Or.inr ⟨t, h1, by omega, h3⟩
    · rw [if_neg c1]
      by_cases c2 : P m < mnN P n m
      · rw [if_pos c2]; exact Or.inr ⟨m, by omega, by omega, rfl⟩
      · rw [if_neg c2]
        rcases ih with h | ⟨t, h1, h2, h3⟩
        · exact Or.inl h
        · exact Or.inr ⟨t, h1, by omega, h3⟩
/-- a price that is paid at all is paid by one roll more -/
theorem rfo_from {a : AH} (kk : Int32) {t : Nat} (ht : 0 < t) : ∀ r, (rfo a kk (PF a kk) (CF a kk) t r).1 < 100000 → ∃ q, q < r ∧ a.1 3 q ≤ t ∧ (rfo a kk (PF a kk) (CF a kk) t r).1 = PF a kk (t - a.1 3 q) + a.1 4 q
  | 0, h => by
    rw [rfo, if_neg (by omega)] at h
    exact absurd h (by decide)
  | r + 1, h => by
    have ih := rfo_from (a := a) kk ht r
    rw [rfo] at h ⊢
    by_cases c1 : a.1 3 r ≤ t ∧ PF a kk (t - a.1 3 r) < 100000
    · by_cases c2 : PF a kk (t - a.1 3 r) + a.1 4 r < (rfo a kk (PF a kk) (CF a kk) t r).1 ∨ (PF a kk (t - a.1 3 r) + a.1 4 r = (rfo a kk (PF a kk) (CF a kk) t r).1 ∧ (rfo a kk (PF a kk) (CF a kk) t r).2 < CF a kk (t - a.1 3 r) + bK r kk)
      · rw [stp_y c1 c2]
        exact ⟨r, by omega, c1.1, rfl⟩
      · rw [stp_n c1 c2] at h ⊢
        obtain ⟨q, q1, q2, q3⟩ := ih h
        exact ⟨q, by omega, q2, q3⟩
    · rw [stp_0 c1] at h ⊢
      obtain ⟨q, q1, q2, q3⟩ := ih h
      exact ⟨q, by omega, q2, q3⟩
theorem far_lt {a : AH} (hi : HI a) (kk : Int32) (n : Nat) : ∀ d t, t = n + 9 + d → PF a kk t < 100000 → mnN (PF a kk) n (n + 9) < PF a kk t := by
  intro d
  induction d using Nat.strongRecOn with
  | ind d ih =>
    intro t ht hP
    have e := (PF_e hi kk t).1
    obtain ⟨q, q1, q2, q3⟩ := rfo_from (a := a) kk (t := t) (by omega) (a.2 12) (by rw [← e]; exact hP)
    have hl := hi.rl q1
    rw [← e] at q3
    rcases Nat.lt_or_ge (t - a.1 3 q) (n + 9) with h | h
    · have := mn_le (PF a kk) n (n + 9) (t - a.1 3 q) (by omega) h
      omega
    · have := ih (t - a.1 3 q - (n + 9)) (by omega) (t - a.1 3 q) (by omega) (by omega)
      omega
theorem mn_far {a : AH} (hi : HI a) (kk : Int32) (n : Nat) : ∀ d, mnN (PF a kk) n (n + 9 + d) = mnN (PF a kk) n (n + 9)
  | 0 => rfl
  | d + 1 => by
    rw [← Nat.add_assoc, mnN, if_neg (by omega), mn_far hi kk n d, if_neg]
    intro h
    have h1 := mn_D (PF a kk) n (n + 9)
    have := far_lt hi kk n d (n + 9 + d) rfl (by omega)
    omega
theorem leastPrice_e {g : GS} {a : AH} {kk : Int32} (hi : HI a) (hg : PA g a kk 69) {n : Nat} (hn : n ≤ 60) : mX4_leastPrice g (nI n) = some (nI (cv (mnN (PF a kk) n 69))) := by
  unfold mX4_leastPrice
  rw [whO_for (fun i => (nI (cv (mnN (PF a kk) n i)), nI i)) 69 (nI (cv (mnN (PF a kk) n 69)), nI 69) (by rfl) ?_ ?_ (by decide)]
  · rfl
  · intro i hx
    obtain ⟨g1, g2⟩ := hg i hx
    obtain ⟨p1, p2⟩ := PF_b hi kk (t := i) (by omega)
    have hD := mn_D (PF a kk) n i
    unfold mX4_leastPrice_l5
    rw [mnN]
    by_cases c1 : i < n
    · rw [if_pos c1]
      simp (disch := omega) only [↓reduceIte, obs, esc_il, esc_ir, leT, leF, ltT, ltF, eqT, eqF, nleT, nleF, nltT, nltF, neqT, neqF, nI_add, pk_mul, ald_nI, ast_nI, irm_nI, idv_nI, zbT, zbF, in_T, in_F1, in_F2, nI_l, sI_1, sI_2, sA_1, sA_2, subK, add0, sub0, or0, lN_add, lN_mul, L_0, L_1, L_2, L_3, L_4, L_5, L_6, L_7, L_8, L_9, L_10, L_11, L_12, L_13, L_14, L_15, L_16, L_17, L_18, L_19, L_20, L_30, L_31, L_32, L_35, L_37, L_39, L_40, L_43, L_48, L_57, L_59, L_60, L_97, L_99, L_100, L_120, L_122, L_127, L_160, L_200, L_255, L_999, L_1000, L_100000, L_1000000, L_24, L_33, L_34, L_36, L_38, L_69, L_70, L_72, L_214, L_215, L_288, L_174, L_175, L_206, LL_0, LL_1, LL_2, LL_3, LL_5, LL_9, LL_10, LL_11, LL_12, LL_19, LL_20, LL_30, LL_39, LL_60, LL_99, LL_127, LL_999]
    · rw [if_neg c1]
      have e : ∀ z : Int32, z = nI (cv (if PF a kk i < mnN (PF a kk) n i then PF a kk i else mnN (PF a kk) n i)) → (if nI (cv (PF a kk i)) < nI (cv (mnN (PF a kk) n i)) then nI (cv (PF a kk i)) else nI (cv (mnN (PF a kk) n i))) = z := fun z hz => by
        rw [hz]
        by_cases c2 : PF a kk i < mnN (PF a kk) n i
        · rw [if_pos c2, cvl (by omega), if_pos]
          by_cases c3 : mnN (PF a kk) n i = 100000
          · rw [c3, cvd]; exact nI_lt (by omega) (by decide)
          · rw [cvl (by omega)]; exact nI_lt c2 (by omega)
        · rw [if_neg c2]
          by_cases c3 : PF a kk i = 100000
          · by_cases c4 : mnN (PF a kk) n i = 100000
            · rw [c3, c4, if_neg (nI_nlt (Nat.le_refl _) (by decide))]
            · rw [c3, cvd, cvl (by omega), if_neg (nI_nlt (by omega) (by decide))]
          · rw [cvl (show PF a kk i < 100000 by omega), cvl (show mnN (PF a kk) n i < 100000 by omega), if_neg (nI_nlt (by omega) (by omega))]
      simp (disch := omega) only [↓reduceIte, obs, L_69, L_1, leT, leF, ltT, ltF, nI_add, ald_nI, nltF, nltT, g1]
      rw [e _ rfl]
  · unfold mX4_leastPrice_l5
    simp (disch := omega) only [↓reduceIte, obs, esc_il, esc_ir, leT, leF, ltT, ltF, eqT, eqF, nleT, nleF, nltT, nltF, neqT, neqF, nI_add, pk_mul, ald_nI, ast_nI, irm_nI, idv_nI, zbT, zbF, in_T, in_F1, in_F2, nI_l, sI_1, sI_2, sA_1, sA_2, subK, add0, sub0, or0, lN_add, lN_mul, L_0, L_1, L_2, L_3, L_4, L_5, L_6, L_7, L_8, L_9, L_10, L_11, L_12, L_13, L_14, L_15, L_16, L_17, L_18, L_19, L_20, L_30, L_31, L_32, L_35, L_37, L_39, L_40, L_43, L_48, L_57, L_59, L_60, L_97, L_99, L_100, L_120, L_122, L_127, L_160, L_200, L_255, L_999, L_1000, L_100000, L_1000000, L_24, L_33, L_34, L_36, L_38, L_69, L_70, L_72, L_214, L_215, L_288, L_174, L_175, L_206, LL_0, LL_1, LL_2, LL_3, LL_5, LL_9, LL_10, LL_11, LL_12, LL_19, LL_20, LL_30, LL_39, LL_60, LL_99, LL_127, LL_999]
/-- the reference with other tables -/
def pcM (M : GS) (x y : Nat → Int32) : GS := sA (sA M 14 x) 15 y
theorem pcM_0 (M : GS) (x y : Nat → Int32) : (pcM M x y).1 0 = M.1 0 := rfl
theorem pcM_14 (M : GS) (x y : Nat → Int32) : (pcM M x y).1 14 = x := rfl
theorem pcM_15 (M : GS) (x y : Nat → Int32) : (pcM M x y).1 15 = y := rfl
theorem pcM_s15 (M : GS) (x y z : Nat → Int32) : sA (pcM M x y) 15 z = pcM M x z := sA_sA _ _ _ _
theorem pcM_s14 (M : GS) (x y z : Nat → Int32) : sA (pcM M x y) 14 z = pcM M z y := by
  unfold pcM sA
  refine Prod.ext ?_ rfl
  funext k
  show va_up (va_up (va_up M.1 14 x) 15 y) 14 z k = va_up (va_up M.1 14 z) 15 y k
  simp only [up_e]
  by_cases h0 : k = 14
  · subst h0; rfl
  · rw [if_neg h0]
    by_cases h1 : k = 15
    · rw [if_pos h1, if_pos h1]
    · rw [if_neg h1, if_neg h1, if_neg h0, if_neg h0]
theorem pcM_id (M : GS) : pcM M (M.1 14) (M.1 15) = M := by
  unfold pcM
  rw [sA_id, sA_id]
theorem Rel.paper {F : FS} {M : GS} (hR : Rel F M) (g' : GS) (x y : Nat → Int32) : Rel (va_up F.1 7 g', F.2.1, F.2.2) (pcM M x y) := by
  refine hR.upd hR.1 ?_ rfl (fun q _ _ => rfl) ?_ rfl
  · intro k h1 h2
    show va_up F.1 7 g' k = F.1 k
    rw [up_e, if_neg h2]
  · intro k h1 h2 h3 h4
    show va_up (va_up M.1 14 x) 15 y k = M.1 k
    rw [up_e, if_neg h3, up_e, if_neg h2]
def QT (x y : Nat → Int32) (a : AH) (kk : Int32) (s : Nat) (pc : Nat × Nat) : Prop := (∀ q, q < s → x q = nI (PF a kk q) ∧ y q = nI (CF a kk q)) ∧ x s = nI pc.1 ∧ y s = nI pc.2
theorem upd_id {f : Nat → Int32} {k : Nat} {v : Int32} (h : f k = v) : upd f k v = f := by
  funext j; rw [upd_e]; split
  · rename_i e; rw [e, h]
  · rfl
theorem covers44_e {M : GS} {a : AH} {kk : Int32} (hp : PV (M.1 0) 0 a) (hi : HI a) {s : Nat} (hs : s < 70) {x y : Nat → Int32} (hg : QT x y a kk s (if s = 0 then 0 else 100000, 0)) (z : Int32) (g0 : GS) : ∃ u, whO (mX8_covers_l44 kk (z, nI s, g0)) FU (nI 0, pcM M x y) = some u ∧ ∃ x' y', u.2 = pcM M x' y' ∧ QT x' y' a kk s (PF a kk s, CF a kk s) := by
  have hb := hi.nb
  obtain ⟨e1, e2⟩ := PF_e hi kk s
  rw [e1, e2]
  refine whO_inv (fun (r : Nat) (u : Int32 × GS) => ∃ x y, u = (nI r, pcM M x y) ∧ QT x y a kk s (rfo a kk (PF a kk) (CF a kk) s r)) (a.2 12) _ ?_ ?_ _ ⟨x, y, rfl, hg⟩ (by omega)
  · rintro r u hlt ⟨x, y, rfl, e⟩
    left
    have hl := hi.rl hlt
    obtain ⟨g1, g2, g3⟩ := id e
    have hbK := bK_le r kk
    obtain ⟨b1, b2⟩ := rfo_b hi kk (t := s) (r := r) (by omega) (by omega)
    have hp' : PV ((pcM M x y).1 0) 0 a := hp
    rw [rfo]
    unfold mX8_covers_l44
    generalize rfo a kk (PF a kk) (CF a kk) s r = pc at *
    by_cases c1 : a.1 3 r ≤ s
    · obtain ⟨g4, g5⟩ := g1 (s - a.1 3 r) (by omega)
      obtain ⟨p1, p2⟩ := PF_b hi kk (t := s - a.1 3 r) (by omega)
      by_cases c2 : PF a kk (s - a.1 3 r) < 100000
      · have hup : QT (upd x s (nI (PF a kk (s - a.1 3 r) + a.1 4 r))) (upd y s (nI (CF a kk (s - a.1 3 r) + bK r kk))) a kk s (PF a kk (s - a.1 3 r) + a.1 4 r, CF a kk (s - a.1 3 r) + bK r kk) := by
          refine ⟨fun q hq => ⟨?_, ?_⟩, ?_, ?_⟩
          · rw [upd_e, if_neg (by omega)]; exact (g1 q hq).1
          · rw [upd_e, if_neg (by omega)]; exact (g1 q hq).2
          · rw [upd_e, if_pos rfl]
          · rw [upd_e, if_pos rfl]
        by_cases c3 : PF a kk (s - a.1 3 r) + a.1 4 r < pc.1
        · rw [stp_y ⟨c1, c2⟩ (Or.inl c3)]
          refine ⟨_, ?_, _, _, rfl, hup⟩
          simp (disch := omega) only [↓reduceIte, obs, esc_il, esc_ir, leT, leF, ltT, ltF, eqT, eqF, nleT, nleF, nltT, nltF, neqT, neqF, nI_add, pk_mul, ald_nI, ast_nI, irm_nI, idv_nI, zbT, zbF, in_T, in_F1, in_F2, nI_l, sI_1, sI_2, sA_1, sA_2, subK, add0, sub0, or0, lN_add, lN_mul, L_0, L_1, L_2, L_3, L_4, L_5, L_6, L_7, L_8, L_9, L_10, L_11, L_12, L_13, L_14, L_15, L_16, L_17, L_18, L_19, L_20, L_30, L_31, L_32, L_35, L_37, L_39, L_40, L_43, L_48, L_57, L_59, L_60, L_97, L_99, L_100, L_120, L_122, L_127, L_160, L_200, L_255, L_999, L_1000, L_100000, L_1000000, L_24, L_33, L_34, L_36, L_38, L_69, L_70, L_72, L_214, L_215, L_288, L_174, L_175, L_206, LL_0, LL_1, LL_2, LL_3, LL_5, LL_9, LL_10, LL_11, LL_12, LL_19, LL_20, LL_30, LL_39, LL_60, LL_99, LL_127, LL_999, pcM_0, pcM_14, pcM_15, pcM_s14, pcM_s15, P0.r hp, P0.ln hp, P0.pr hp, bK_e, g2, g3, g4, g5]
        · by_cases c4 : PF a kk (s - a.1 3 r) + a.1 4 r = pc.1
          · by_cases c5 : pc.2 < CF a kk (s - a.1 3 r) + bK r kk
            · rw [stp_y ⟨c1, c2⟩ (Or.inr ⟨c4, c5⟩)]
              refine ⟨_, ?_, _, _, rfl, hup⟩
              simp (disch := omega) only [↓reduceIte, obs, esc_il, esc_ir, leT, leF, ltT, ltF, eqT, eqF, nleT, nleF, nltT, nltF, neqT, neqF, nI_add, pk_mul, ald_nI, ast_nI, irm_nI, idv_nI, zbT, zbF, in_T, in_F1, in_F2, nI_l, sI_1, sI_2, sA_1, sA_2, subK, add0, sub0, or0, lN_add, lN_mul, L_0, L_1, L_2, L_3, L_4, L_5, L_6, L_7, L_8, L_9, L_10, L_11, L_12, L_13, L_14, L_15, L_16, L_17, L_18, L_19, L_20, L_30, L_31, L_32, L_35, L_37, L_39, L_40, L_43, L_48, L_57, L_59, L_60, L_97, L_99, L_100, L_120, L_122, L_127, L_160, L_200, L_255, L_999, L_1000, L_100000, L_1000000, L_24, L_33, L_34, L_36, L_38, L_69, L_70, L_72, L_214, L_215, L_288, L_174, L_175, L_206, LL_0, LL_1, LL_2, LL_3, LL_5, LL_9, LL_10, LL_11, LL_12, LL_19, LL_20, LL_30, LL_39, LL_60, LL_99, LL_127, LL_999, pcM_0, pcM_14, pcM_15, pcM_s14, pcM_s15, P0.r hp, P0.ln hp, P0.pr hp, bK_e, g2, g3, g4, g5, c4]
            · rw [stp_n ⟨c1, c2⟩ (by omega)]
              refine ⟨_, ?_, x, y, rfl, e⟩
              simp (disch := omega) only [↓reduceIte, obs, esc_il, esc_ir, leT, leF, ltT, ltF, eqT, eqF, nleT, nleF, nltT, nltF, neqT, neqF, nI_add, pk_mul, ald_nI, ast_nI, irm_nI, idv_nI, zbT, zbF, in_T, in_F1, in_F2, nI_l, sI_1, sI_2, sA_1, sA_2, subK, add0, sub0, or0, lN_add, lN_mul, L_0, L_1, L_2, L_3, L_4, L_5, L_6, L_7, L_8, L_9, L_10, L_11, L_12, L_13, L_14, L_15, L_16, L_17, L_18, L_19, L_20, L_30, L_31, L_32, L_35, L_37, L_39, L_40, L_43, L_48, L_57, L_59, L_60, L_97, L_99, L_100, L_120, L_122, L_127, L_160, L_200, L_255, L_999, L_1000, L_100000, L_1000000, L_24, L_33, L_34, L_36, L_38, L_69, L_70, L_72, L_214, L_215, L_288, L_174, L_175, L_206, LL_0, LL_1, LL_2, LL_3, LL_5, LL_9, LL_10, LL_11, LL_12, LL_19, LL_20, LL_30, LL_39, LL_60, LL_99, LL_127, LL_999, pcM_0, pcM_14, pcM_15, pcM_s14, pcM_s15, P0.r hp, P0.ln hp, P0.pr hp, bK_e, g2, g3, g4, g5, upd_id g2, upd_id g3]
          · rw [stp_n ⟨c1, c2⟩ (by omega)]
            refine ⟨_, ?_, x, y, rfl, e⟩
            simp (disch := omega) only [↓reduceIte, obs, esc_il, esc_ir, leT, leF, ltT, ltF, eqT, eqF, nleT, nleF, nltT, nltF, neqT, neqF, nI_add, pk_mul, ald_nI, ast_nI, irm_nI, idv_nI, zbT, zbF, in_T, in_F1, in_F2, nI_l, sI_1, sI_2, sA_1, sA_2, subK, add0, sub0, or0, lN_add, lN_mul, L_0, L_1, L_2, L_3, L_4, L_5, L_6, L_7, L_8, L_9, L_10, L_11, L_12, L_13, L_14, L_15, L_16, L_17, L_18, L_19, L_20, L_30, L_31, L_32, L_35, L_37, L_39, L_40, L_43, L_48, L_57, L_59, L_60, L_97, L_99, L_100, L_120, L_122, L_127, L_160, L_200, L_255, L_999, L_1000, L_100000, L_1000000, L_24, L_33, L_34, L_36, L_38, L_69, L_70, L_72, L_214, L_215, L_288, L_174, L_175, L_206, LL_0, LL_1, LL_2, LL_3, LL_5, LL_9, LL_10, LL_11, LL_12, LL_19, LL_20, LL_30, LL_39, LL_60, LL_99, LL_127, LL_999, pcM_0, pcM_14, pcM_15, pcM_s14, pcM_s15, P0.r hp, P0.ln hp, P0.pr hp, bK_e, g2, g3, g4, g5, upd_id g2, upd_id g3]
      · rw [stp_0 (by omega)]
        refine ⟨_, ?_, x, y, rfl, e⟩
        simp (disch := omega) only [↓reduceIte, obs, esc_il, esc_ir, leT, leF, ltT, ltF, eqT, eqF, nleT, nleF, nltT, nltF, neqT, neqF, nI_add, pk_mul, ald_nI, ast_nI, irm_nI, idv_nI, zbT, zbF, in_T, in_F1, in_F2, nI_l, sI_1, sI_2, sA_1, sA_2, subK, add0, sub0, or0, lN_add, lN_mul, L_0, L_1, L_2, L_3, L_4, L_5, L_6, L_7, L_8, L_9, L_10, L_11, L_12, L_13, L_14, L_15, L_16, L_17, L_18, L_19, L_20, L_30, L_31, L_32, L_35, L_37, L_39, L_40, L_43, L_48, L_57, L_59, L_60, L_97, L_99, L_100, L_120, L_122, L_127, L_160, L_200, L_255, L_999, L_1000, L_100000, L_1000000, L_24, L_33, L_34, L_36, L_38, L_69, L_70, L_72, L_214, L_215, L_288, L_174, L_175, L_206, LL_0, LL_1, LL_2, LL_3, LL_5, LL_9, LL_10, LL_11, LL_12, LL_19, LL_20, LL_30, LL_39, LL_60, LL_99, LL_127, LL_999, pcM_0, pcM_14, P0.r hp, P0.ln hp, g4]
    · rw [stp_0 (by omega)]
      refine ⟨_, ?_, x, y, rfl, e⟩
      simp (disch := omega) only [↓reduceIte, obs, esc_il, esc_ir, leT, leF, ltT, ltF, eqT, eqF, nleT, nleF, nltT, nltF, neqT, neqF, nI_add, pk_mul, ald_nI, ast_nI, irm_nI, idv_nI, zbT, zbF, in_T, in_F1, in_F2, nI_l, sI_1, sI_2, sA_1, sA_2, subK, add0, sub0, or0, lN_add, lN_mul, L_0, L_1, L_2, L_3, L_4, L_5, L_6, L_7, L_8, L_9, L_10, L_11, L_12, L_13, L_14, L_15, L_16, L_17, L_18, L_19, L_20, L_30, L_31, L_32, L_35, L_37, L_39, L_40, L_43, L_48, L_57, L_59, L_60, L_97, L_99, L_100, L_120, L_122, L_127, L_160, L_200, L_255, L_999, L_1000, L_100000, L_1000000, L_24, L_33, L_34, L_36, L_38, L_69, L_70, L_72, L_214, L_215, L_288, L_174, L_175, L_206, LL_0, LL_1, LL_2, LL_3, LL_5, LL_9, LL_10, LL_11, LL_12, LL_19, LL_20, LL_30, LL_39, LL_60, LL_99, LL_127, LL_999, pcM_0, P0.r hp, P0.ln hp, ngd]
  · rintro u ⟨x, y, rfl, e⟩
    refine ⟨(nI (a.2 12), pcM M x y), ?_, x, y, rfl, e⟩
    unfold mX8_covers_l44
    simp (disch := omega) only [↓reduceIte, obs, esc_il, esc_ir, leT, leF, ltT, ltF, eqT, eqF, nleT, nleF, nltT, nltF, neqT, neqF, nI_add, pk_mul, ald_nI, ast_nI, irm_nI, idv_nI, zbT, zbF, in_T, in_F1, in_F2, nI_l, sI_1, sI_2, sA_1, sA_2, subK, add0, sub0, or0, lN_add, lN_mul, L_0, L_1, L_2, L_3, L_4, L_5, L_6, L_7, L_8, L_9, L_10, L_11, L_12, L_13, L_14, L_15, L_16, L_17, L_18, L_19, L_20, L_30, L_31, L_32, L_35, L_37, L_39, L_40, L_43, L_48, L_57, L_59, L_60, L_97, L_99, L_100, L_120, L_122, L_127, L_160, L_200, L_255, L_999, L_1000, L_100000, L_1000000, L_24, L_33, L_34, L_36, L_38, L_69, L_70, L_72, L_214, L_215, L_288, L_174, L_175, L_206, LL_0, LL_1, LL_2, LL_3, LL_5, LL_9, LL_10, LL_11, LL_12, LL_19, LL_20, LL_30, LL_39, LL_60, LL_99, LL_127, LL_999, pcM_0, P0.r hp]
def QA (x y : Nat → Int32) (a : AH) (kk : Int32) (s : Nat) : Prop := ∀ q, q < s → x q = nI (PF a kk q) ∧ y q = nI (CF a kk q)
theorem covers_e {M : GS} {a : AH} (kk : Int32) (hp : PV (M.1 0) 0 a) (hi : HI a) {n : Nat} (hn : n ≤ 60) : ∃ x y, mX8_covers M (nI n) kk = some (nI (mnN (PF a kk) n (n + 10)), pcM M x y) ∧ QA x y a kk (n + 10) := by
  have hb := hi.nb
  have hL : ∃ u, whO (mX8_covers_l6 (nI n) kk) FU (nI 100000, nI 0, M) = some u ∧ ∃ m x y, u = (nI (mnN (PF a kk) n (n + 10)), m, pcM M x y) ∧ QA x y a kk (n + 10) := by
    refine whO_inv (fun (t : Nat) (u : Int32 × Int32 × GS) => ∃ x y, u = (nI (mnN (PF a kk) n t), nI t, pcM M x y) ∧ QA x y a kk t) (n + 10) _ ?_ ?_ _ ⟨M.1 14, M.1 15, by rw [pcM_id]; rfl, fun q hq => absurd hq (Nat.not_lt_zero _)⟩ (by omega)
    · rintro t u hlt ⟨x, y, rfl, e⟩
      left
      have hqt : QT (upd x t (nI (if t = 0 then 0 else 100000))) (upd y t (nI 0)) a kk t (if t = 0 then 0 else 100000, 0) := by
        refine ⟨fun q hq => ⟨?_, ?_⟩, ?_, ?_⟩
        · rw [upd_e, if_neg (by omega)]; exact (e q hq).1
        · rw [upd_e, if_neg (by omega)]; exact (e q hq).2
        · rw [upd_e, if_pos rfl]
        · rw [upd_e, if_pos rfl]
      have hf : (if nI t = nI 0 then some (nI 0) else some (nI 100000)) = some (nI (if t = 0 then 0 else 100000)) := by
        by_cases h0 : t = 0
        · rw [h0]; rfl
        · rw [if_neg (fun z => h0 ((nI_eq (by omega) (by decide)).mp z)), if_neg h0]
      obtain ⟨u, k1, x', y', k2, k3, k4, k5⟩ := covers44_e (M := M) hp hi (by omega) hqt (nI (mnN (PF a kk) n t)) (pcM M x y)
      have hD := mn_D (PF a kk) n t
      obtain ⟨p1, p2⟩ := PF_b hi kk (t := t) (by omega)
      refine ⟨(nI (mnN (PF a kk) n (t + 1)), nI (t + 1), pcM M x' y'), ?_, x', y', rfl, ?_⟩
      · unfold mX8_covers_l6
        by_cases c1 : t < n
        · rw [show mnN (PF a kk) n (t + 1) = mnN (PF a kk) n t from if_pos c1]
          rcases (show t = 0 ∨ 0 < t by omega) with rfl | h0
          · simp (disch := omega) only [↓reduceIte, obs, esc_il, esc_ir, leT, leF, ltT, ltF, eqT, eqF, nleT, nleF, nltT, nltF, neqT, neqF, nI_add, pk_mul, ald_nI, ast_nI, irm_nI, idv_nI, zbT, zbF, in_T, in_F1, in_F2, nI_l, sI_1, sI_2, sA_1, sA_2, subK, add0, sub0, or0, lN_add, lN_mul, L_0, L_1, L_2, L_3, L_4, L_5, L_6, L_7, L_8, L_9, L_10, L_11, L_12, L_13, L_14, L_15, L_16, L_17, L_18, L_19, L_20, L_30, L_31, L_32, L_35, L_37, L_39, L_40, L_43, L_48, L_57, L_59, L_60, L_97, L_99, L_100, L_120, L_122, L_127, L_160, L_200, L_255, L_999, L_1000, L_100000, L_1000000, L_24, L_33, L_34, L_36, L_38, L_69, L_70, L_72, L_214, L_215, L_288, L_174, L_175, L_206, LL_0, LL_1, LL_2, LL_3, LL_5, LL_9, LL_10, LL_11, LL_12, LL_19, LL_20, LL_30, LL_39, LL_60, LL_99, LL_127, LL_999, pcM_14, pcM_15, pcM_s14, pcM_s15] at k1 ⊢
            simp (disch := omega) only [↓reduceIte, obs, esc_il, esc_ir, leT, leF, ltT, ltF, eqT, eqF, nleT, nleF, nltT, nltF, neqT, neqF, nI_add, pk_mul, ald_nI, ast_nI, irm_nI, idv_nI, zbT, zbF, in_T, in_F1, in_F2, nI_l, sI_1, sI_2, sA_1, sA_2, subK, add0, sub0, or0, lN_add, lN_mul, L_0, L_1, L_2, L_3, L_4, L_5, L_6, L_7, L_8, L_9, L_10, L_11, L_12, L_13, L_14, L_15, L_16, L_17, L_18, L_19, L_20, L_30, L_31, L_32, L_35, L_37, L_39, L_40, L_43, L_48, L_57, L_59, L_60, L_97, L_99, L_100, L_120, L_122, L_127, L_160, L_200, L_255, L_999, L_1000, L_100000, L_1000000, L_24, L_33, L_34, L_36, L_38, L_69, L_70, L_72, L_214, L_215, L_288, L_174, L_175, L_206, LL_0, LL_1, LL_2, LL_3, LL_5, LL_9, LL_10, LL_11, LL_12, LL_19, LL_20, LL_30, LL_39, LL_60, LL_99, LL_127, LL_999, k1, k2]
          · rw [if_neg (by omega)] at k1
            simp (disch := omega) only [↓reduceIte, obs, esc_il, esc_ir, leT, leF, ltT, ltF, eqT, eqF, nleT, nleF, nltT, nltF, neqT, neqF, nI_add, pk_mul, ald_nI, ast_nI, irm_nI, idv_nI, zbT, zbF, in_T, in_F1, in_F2, nI_l, sI_1, sI_2, sA_1, sA_2, subK, add0, sub0, or0, lN_add, lN_mul, L_0, L_1, L_2, L_3, L_4, L_5, L_6, L_7, L_8, L_9, L_10, L_11, L_12, L_13, L_14, L_15, L_16, L_17, L_18, L_19, L_20, L_30, L_31, L_32, L_35, L_37, L_39, L_40, L_43, L_48, L_57, L_59, L_60, L_97, L_99, L_100, L_120, L_122, L_127, L_160, L_200, L_255, L_999, L_1000, L_100000, L_1000000, L_24, L_33, L_34, L_36, L_38, L_69, L_70, L_72, L_214, L_215, L_288, L_174, L_175, L_206, LL_0, LL_1, LL_2, LL_3, LL_5, LL_9, LL_10, LL_11, LL_12, LL_19, LL_20, LL_30, LL_39, LL_60, LL_99, LL_127, LL_999, pcM_14, pcM_15, pcM_s14, pcM_s15, k1, k2]
        · by_cases c2 : PF a kk t < mnN (PF a kk) n t
          · rw [show mnN (PF a kk) n (t + 1) = PF a kk t from by rw [mnN, if_neg c1, if_pos c2]]
            rcases (show t = 0 ∨ 0 < t by omega) with rfl | h0
            · simp (disch := omega) only [↓reduceIte, obs, esc_il, esc_ir, leT, leF, ltT, ltF, eqT, eqF, nleT, nleF, nltT, nltF, neqT, neqF, nI_add, pk_mul, ald_nI, ast_nI, irm_nI, idv_nI, zbT, zbF, in_T, in_F1, in_F2, nI_l, sI_1, sI_2, sA_1, sA_2, subK, add0, sub0, or0, lN_add, lN_mul, L_0, L_1, L_2, L_3, L_4, L_5, L_6, L_7, L_8, L_9, L_10, L_11, L_12, L_13, L_14, L_15, L_16, L_17, L_18, L_19, L_20, L_30, L_31, L_32, L_35, L_37, L_39, L_40, L_43, L_48, L_57, L_59, L_60, L_97, L_99, L_100, L_120, L_122, L_127, L_160, L_200, L_255, L_999, L_1000, L_100000, L_1000000, L_24, L_33, L_34, L_36, L_38, L_69, L_70, L_72, L_214, L_215, L_288, L_174, L_175, L_206, LL_0, LL_1, LL_2, LL_3, LL_5, LL_9, LL_10, LL_11, LL_12, LL_19, LL_20, LL_30, LL_39, LL_60, LL_99, LL_127, LL_999, pcM_14, pcM_15, pcM_s14, pcM_s15] at k1 ⊢
              simp (disch := omega) only [↓reduceIte, obs, esc_il, esc_ir, leT, leF, ltT, ltF, eqT, eqF, nleT, nleF, nltT, nltF, neqT, neqF, nI_add, pk_mul, ald_nI, ast_nI, irm_nI, idv_nI, zbT, zbF, in_T, in_F1, in_F2, nI_l, sI_1, sI_2, sA_1, sA_2, subK, add0, sub0, or0, lN_add, lN_mul, L_0, L_1, L_2, L_3, L_4, L_5, L_6, L_7, L_8, L_9, L_10, L_11, L_12, L_13, L_14, L_15, L_16, L_17, L_18, L_19, L_20, L_30, L_31, L_32, L_35, L_37, L_39, L_40, L_43, L_48, L_57, L_59, L_60, L_97, L_99, L_100, L_120, L_122, L_127, L_160, L_200, L_255, L_999, L_1000, L_100000, L_1000000, L_24, L_33, L_34, L_36, L_38, L_69, L_70, L_72, L_214, L_215, L_288, L_174, L_175, L_206, LL_0, LL_1, LL_2, LL_3, LL_5, LL_9, LL_10, LL_11, LL_12, LL_19, LL_20, LL_30, LL_39, LL_60, LL_99, LL_127, LL_999, k1, k2, pcM_14, k4]
            · rw [if_neg (by omega)] at k1
              simp (disch := omega) only [↓reduceIte, obs, esc_il, esc_ir, leT, leF, ltT, ltF, eqT, eqF, nleT, nleF, nltT, nltF, neqT, neqF, nI_add, pk_mul, ald_nI, ast_nI, irm_nI, idv_nI, zbT, zbF, in_T, in_F1, in_F2, nI_l, sI_1, sI_2, sA_1, sA_2, subK, add0, sub0, or0, lN_add, lN_mul, L_0, L_1, L_2, L_3, L_4, L_5, L_6, L_7, L_8, L_9, L_10, L_11, L_12, L_13, L_14, L_15, L_16, L_17, L_18, L_19, L_20, L_30, L_31, L_32, L_35, L_37, L_39, L_40, L_43, L_48, L_57, L_59, L_60, L_97, L_99, L_100, L_120, L_122, L_127, L_160, L_200, L_255, L_999, L_1000, L_100000, L_1000000, L_24, L_33, L_34, L_36, L_38, L_69, L_70, L_72, L_214, L_215, L_288, L_174, L_175, L_206, LL_0, LL_1, LL_2, LL_3, LL_5, LL_9, LL_10, LL_11, LL_12, LL_19, LL_20, LL_30, LL_39, LL_60, LL_99, LL_127, LL_999, pcM_14, pcM_15, pcM_s14, pcM_s15, k1, k2, k4]
          · rw [show mnN (PF a kk) n (t + 1) = mnN (PF a kk) n t from by rw [mnN, if_neg c1, if_neg c2]]
            rcases (show t = 0 ∨ 0 < t by omega) with rfl | h0
            · simp (disch := omega) only [↓reduceIte, obs, esc_il, esc_ir, leT, leF, ltT, ltF, eqT, eqF, nleT, nleF, nltT, nltF, neqT, neqF, nI_add, pk_mul, ald_nI, ast_nI, irm_nI, idv_nI, zbT, zbF, in_T, in_F1, in_F2, nI_l, sI_1, sI_2, sA_1, sA_2, subK, add0, sub0, or0, lN_add, lN_mul, L_0, L_1, L_2, L_3, L_4, L_5, L_6, L_7, L_8, L_9, L_10, L_11, L_12, L_13, L_14, L_15, L_16, L_17, L_18, L_19, L_20, L_30, L_31, L_32, L_35, L_37, L_39, L_40, L_43, L_48, L_57, L_59, L_60, L_97, L_99, L_100, L_120, L_122, L_127, L_160, L_200, L_255, L_999, L_1000, L_100000, L_1000000, L_24, L_33, L_34, L_36, L_38, L_69, L_70, L_72, L_214, L_215, L_288, L_174, L_175, L_206, LL_0, LL_1, LL_2, LL_3, LL_5, LL_9, LL_10, LL_11, LL_12, LL_19, LL_20, LL_30, LL_39, LL_60, LL_99, LL_127, LL_999, pcM_14, pcM_15, pcM_s14, pcM_s15] at k1 ⊢
              simp (disch := omega) only [↓reduceIte, obs, esc_il, esc_ir, leT, leF, ltT, ltF, eqT, eqF, nleT, nleF, nltT, nltF, neqT, neqF, nI_add, pk_mul, ald_nI, ast_nI, irm_nI, idv_nI, zbT, zbF, in_T, in_F1, in_F2, nI_l, sI_1, sI_2, sA_1, sA_2, subK, add0, sub0, or0, lN_add, lN_mul, L_0, L_1, L_2, L_3, L_4, L_5, L_6, L_7, L_8, L_9, L_10, L_11, L_12, L_13, L_14, L_15, L_16, L_17, L_18, L_19, L_20, L_30, L_31, L_32, L_35, L_37, L_39, L_40, L_43, L_48, L_57, L_59, L_60, L_97, L_99, L_100, L_120, L_122, L_127, L_160, L_200, L_255, L_999, L_1000, L_100000, L_1000000, L_24, L_33, L_34, L_36, L_38, L_69, L_70, L_72, L_214, L_215, L_288, L_174, L_175, L_206, LL_0, LL_1, LL_2, LL_3, LL_5, LL_9, LL_10, LL_11, LL_12, LL_19, LL_20, LL_30, LL_39, LL_60, LL_99, LL_127, LL_999, k1, k2, pcM_14, k4]
            · rw [if_neg (by omega)] at k1
              simp (disch := omega) only [↓reduceIte, obs, esc_il, esc_ir, leT, leF, ltT, ltF, eqT, eqF, nleT, nleF, nltT, nltF, neqT, neqF, nI_add, pk_mul, ald_nI, ast_nI, irm_nI, idv_nI, zbT, zbF, in_T, in_F1, in_F2, nI_l, sI_1, sI_2, sA_1, sA_2, subK, add0, sub0, or0, lN_add, lN_mul, L_0, L_1, L_2, L_3, L_4, L_5, L_6, L_7, L_8, L_9, L_10, L_11, L_12, L_13, L_14, L_15, L_16, L_17, L_18, L_19, L_20, L_30, L_31, L_32, L_35, L_37, L_39, L_40, L_43, L_48, L_57, L_59, L_60, L_97, L_99, L_100, L_120, L_122, L_127, L_160, L_200, L_255, L_999, L_1000, L_100000, L_1000000, L_24, L_33, L_34, L_36, L_38, L_69, L_70, L_72, L_214, L_215, L_288, L_174, L_175, L_206, LL_0, LL_1, LL_2, LL_3, LL_5, LL_9, LL_10, LL_11, LL_12, LL_19, LL_20, LL_30, LL_39, LL_60, LL_99, LL_127, LL_999, pcM_14, pcM_15, pcM_s14, pcM_s15, k1, k2, k4]
      · intro q hq
        by_cases h : q = t
        · rw [h]; exact ⟨k4, k5⟩
        · exact k3 q (by omega)
    · rintro u ⟨x, y, rfl, e⟩
      refine ⟨_, ?_, nI (n + 10), x, y, rfl, e⟩
      unfold mX8_covers_l6
      simp (disch := omega) only [↓reduceIte, obs, esc_il, esc_ir, leT, leF, ltT, ltF, eqT, eqF, nleT, nleF, nltT, nltF, neqT, neqF, nI_add, pk_mul, ald_nI, ast_nI, irm_nI, idv_nI, zbT, zbF, in_T, in_F1, in_F2, nI_l, sI_1, sI_2, sA_1, sA_2, subK, add0, sub0, or0, lN_add, lN_mul, L_0, L_1, L_2, L_3, L_4, L_5, L_6, L_7, L_8, L_9, L_10, L_11, L_12, L_13, L_14, L_15, L_16, L_17, L_18, L_19, L_20, L_30, L_31, L_32, L_35, L_37, L_39, L_40, L_43, L_48, L_57, L_59, L_60, L_97, L_99, L_100, L_120, L_122, L_127, L_160, L_200, L_255, L_999, L_1000, L_100000, L_1000000, L_24, L_33, L_34, L_36, L_38, L_69, L_70, L_72, L_214, L_215, L_288, L_174, L_175, L_206, LL_0, LL_1, LL_2, LL_3, LL_5, LL_9, LL_10, LL_11, LL_12, LL_19, LL_20, LL_30, LL_39, LL_60, LL_99, LL_127, LL_999]
  obtain ⟨_, k1, m, x, y, rfl, k2⟩ := hL
  refine ⟨x, y, ?_, k2⟩
  unfold mX8_covers
  rw [L_100000, L_0, k1, obs]
theorem mn_69 {a : AH} (hi : HI a) (kk : Int32) {n : Nat} (hn : n ≤ 60) : mnN (PF a kk) n 69 = mnN (PF a kk) n (n + 9) := by
  have := mn_far hi kk n (60 - n)
  rwa [show n + 9 + (60 - n) = 69 by omega] at this
theorem mn_10 {a : AH} (hi : HI a) (kk : Int32) (n : Nat) : mnN (PF a kk) n (n + 10) = mnN (PF a kk) n (n + 9) := mn_far hi kk n 1
theorem PF_none {a : AH} (hi : HI a) (kk : Int32) (h0 : a.2 12 = 0) {t : Nat} (ht : 0 < t) : PF a kk t = 100000 := by
  rw [(PF_e hi kk t).1, h0, rfo, if_neg (by omega)]
theorem mn_none {a : AH} (hi : HI a) (kk : Int32) (h0 : a.2 12 = 0) {n : Nat} (hn : 0 < n) : ∀ m, mnN (PF a kk) n m = 100000
  | 0 => rfl
  | m + 1 => by
    rw [mnN, mn_none hi kk h0 hn m]
    by_cases c : m < n
    · rw [if_pos c]
    · rw [if_neg c, PF_none hi kk h0 (by omega), if_neg (by omega)]
theorem rfo_le (a : AH) (kk : Int32) (t : Nat) : ∀ d r, (rfo a kk (PF a kk) (CF a kk) t (r + d)).1 ≤ (rfo a kk (PF a kk) (CF a kk) t r).1
  | 0, r => Nat.le_refl _
  | d + 1, r => by
    have ih := rfo_le a kk t d r
    refine Nat.le_trans ?_ ih
    rw [← Nat.add_assoc, rfo]
    unfold stp
    split
    · split
      · rename_i h
        show PF a kk _ + _ ≤ _
        omega
      · exact Nat.le_refl _
    · exact Nat.le_refl _
theorem PF_mul {a : AH} (hi : HI a) (kk : Int32) (h0 : 0 < a.2 12) : ∀ q, q * a.1 3 0 < 1000 → PF a kk (q * a.1 3 0) < 100000
  | 0, _ => by rw [Nat.zero_mul, (PF_0 hi kk).1]; decide
  | q + 1, h => by
    have hl := hi.rl h0
    rw [Nat.succ_mul] at h ⊢
    have ih := PF_mul hi kk h0 q (by omega)
    have hb := PF_b hi kk (t := q * a.1 3 0) (by omega)
    rw [(PF_e hi kk _).1]
    have h1 := rfo_le a kk (q * a.1 3 0 + a.1 3 0) (a.2 12 - 1) 1
    rw [show 1 + (a.2 12 - 1) = a.2 12 by omega] at h1
    refine Nat.lt_of_le_of_lt h1 ?_
    rw [rfo, rfo, if_neg (by omega)]
    have e : q * a.1 3 0 + a.1 3 0 - a.1 3 0 = q * a.1 3 0 := by omega
    rw [stp_y (by rw [e]; exact ⟨by omega, ih⟩) (by rw [e]; left; show _ < 100000; omega)]
    show PF a kk _ + _ < _
    rw [e]; omega
theorem mn_some {a : AH} (hi : HI a) (kk : Int32) {n : Nat} (hn : n ≤ 60) (h : 0 < a.2 12 ∨ n = 0) : mnN (PF a kk) n (n + 9) < 100000 := by
  rcases h with h | rfl
  · have hl := hi.rl h
    have h1 := Nat.div_add_mod (n + (a.1 3 0 - 1)) (a.1 3 0)
    have h2 := Nat.mod_lt (n + (a.1 3 0 - 1)) (show 0 < a.1 3 0 by omega)
    rw [Nat.mul_comm] at h1
    have h3 := PF_mul hi kk h ((n + (a.1 3 0 - 1)) / a.1 3 0) (by omega)
    have := mn_le (PF a kk) n (n + 9) ((n + (a.1 3 0 - 1)) / a.1 3 0 * a.1 3 0) (by omega) (by omega)
    omega
  · have := mn_le (PF a kk) 0 9 0 (by decide) (by decide)
    rw [(PF_0 hi kk).1] at this
    show mnN (PF a kk) 0 9 < _
    omega
/-- the first that costs the least -/
theorem first_e {a : AH} (hi : HI a) (kk : Int32) {n : Nat} (hm : mnN (PF a kk) n (n + 9) < 100000) : ∃ d, d < 9 ∧ PF a kk (n + d) = mnN (PF a kk) n (n + 9) ∧ ∀ e, e < d → PF a kk (n + e) ≠ mnN (PF a kk) n (n + 9) := by
  have hex : ∃ d, PF a kk (n + d) = mnN (PF a kk) n (n + 9) ∧ d < 9 := by
    rcases mn_at (PF a kk) n (n + 9) with h | ⟨t, h1, h2, h3⟩
    · omega
    · exact ⟨t - n, by rw [show n + (t - n) = t by omega]; exact h3, by omega⟩
  obtain ⟨d, d1, d2⟩ := pk_least (fun d => PF a kk (n + d) = mnN (PF a kk) n (n + 9)) (by obtain ⟨d, h, _⟩ := hex; exact ⟨d, h⟩)
  refine ⟨d, ?_, d1, d2⟩
  obtain ⟨e, e1, e2⟩ := hex
  rcases Nat.lt_or_ge e d with h | h
  · exact absurd e1 (d2 e h)
  · omega
theorem leastLeft_e {g : GS} {a : AH} {kk : Int32} (hi : HI a) (hg : PA g a kk 69) {n d : Nat} (hn : n ≤ 60) (hm : mnN (PF a kk) n (n + 9) < 100000) (hd : d < 9) (h1 : PF a kk (n + d) = mnN (PF a kk) n (n + 9)) (h2 : ∀ e, e < d → PF a kk (n + e) ≠ mnN (PF a kk) n (n + 9)) : mX4_leastLeft g (nI n) (nI (mnN (PF a kk) n (n + 9))) = some (nI d) := by
  unfold mX4_leastLeft
  have hL : whO (mX4_leastLeft_l2 g (nI n) (nI (mnN (PF a kk) n (n + 9)))) FU (nI 0) = some (.inr (nI d)) := by
    refine whO_for (fun i => nI i) (n + d) _ rfl ?_ ?_ (by omega)
    · intro i hx
      obtain ⟨g1, g2⟩ := hg i (by omega)
      obtain ⟨p1, p2⟩ := PF_b hi kk (t := i) (by omega)
      unfold mX4_leastLeft_l2
      by_cases c1 : i < n
      · simp (disch := omega) only [↓reduceIte, obs, esc_il, esc_ir, leT, leF, ltT, ltF, eqT, eqF, nleT, nleF, nltT, nltF, neqT, neqF, nI_add, pk_mul, ald_nI, ast_nI, irm_nI, idv_nI, zbT, zbF, in_T, in_F1, in_F2, nI_l, sI_1, sI_2, sA_1, sA_2, subK, add0, sub0, or0, lN_add, lN_mul, L_0, L_1, L_2, L_3, L_4, L_5, L_6, L_7, L_8, L_9, L_10, L_11, L_12, L_13, L_14, L_15, L_16, L_17, L_18, L_19, L_20, L_30, L_31, L_32, L_35, L_37, L_39, L_40, L_43, L_48, L_57, L_59, L_60, L_97, L_99, L_100, L_120, L_122, L_127, L_160, L_200, L_255, L_999, L_1000, L_100000, L_1000000, L_24, L_33, L_34, L_36, L_38, L_69, L_70, L_72, L_214, L_215, L_288, L_174, L_175, L_206, LL_0, LL_1, LL_2, LL_3, LL_5, LL_9, LL_10, LL_11, LL_12, LL_19, LL_20, LL_30, LL_39, LL_60, LL_99, LL_127, LL_999]
      · have hne := h2 (i - n) (by omega)
        rw [show n + (i - n) = i by omega] at hne
        by_cases c2 : PF a kk i = 100000
        · rw [c2, cvd] at g1
          simp (disch := omega) only [↓reduceIte, obs, esc_il, esc_ir, leT, leF, ltT, ltF, eqT, eqF, nleT, nleF, nltT, nltF, neqT, neqF, nI_add, pk_mul, ald_nI, ast_nI, irm_nI, idv_nI, zbT, zbF, in_T, in_F1, in_F2, nI_l, sI_1, sI_2, sA_1, sA_2, subK, add0, sub0, or0, lN_add, lN_mul, L_0, L_1, L_2, L_3, L_4, L_5, L_6, L_7, L_8, L_9, L_10, L_11, L_12, L_13, L_14, L_15, L_16, L_17, L_18, L_19, L_20, L_30, L_31, L_32, L_35, L_37, L_39, L_40, L_43, L_48, L_57, L_59, L_60, L_97, L_99, L_100, L_120, L_122, L_127, L_160, L_200, L_255, L_999, L_1000, L_100000, L_1000000, L_24, L_33, L_34, L_36, L_38, L_69, L_70, L_72, L_214, L_215, L_288, L_174, L_175, L_206, LL_0, LL_1, LL_2, LL_3, LL_5, LL_9, LL_10, LL_11, LL_12, LL_19, LL_20, LL_30, LL_39, LL_60, LL_99, LL_127, LL_999, g1]
        · rw [cvl (by omega)] at g1
          simp (disch := omega) only [↓reduceIte, obs, esc_il, esc_ir, leT, leF, ltT, ltF, eqT, eqF, nleT, nleF, nltT, nltF, neqT, neqF, nI_add, pk_mul, ald_nI, ast_nI, irm_nI, idv_nI, zbT, zbF, in_T, in_F1, in_F2, nI_l, sI_1, sI_2, sA_1, sA_2, subK, add0, sub0, or0, lN_add, lN_mul, L_0, L_1, L_2, L_3, L_4, L_5, L_6, L_7, L_8, L_9, L_10, L_11, L_12, L_13, L_14, L_15, L_16, L_17, L_18, L_19, L_20, L_30, L_31, L_32, L_35, L_37, L_39, L_40, L_43, L_48, L_57, L_59, L_60, L_97, L_99, L_100, L_120, L_122, L_127, L_160, L_200, L_255, L_999, L_1000, L_100000, L_1000000, L_24, L_33, L_34, L_36, L_38, L_69, L_70, L_72, L_214, L_215, L_288, L_174, L_175, L_206, LL_0, LL_1, LL_2, LL_3, LL_5, LL_9, LL_10, LL_11, LL_12, LL_19, LL_20, LL_30, LL_39, LL_60, LL_99, LL_127, LL_999, g1]
    · obtain ⟨g1, g2⟩ := hg (n + d) (by omega)
      rw [h1, cvl hm] at g1
      unfold mX4_leastLeft_l2
      simp (disch := omega) only [↓reduceIte, obs, esc_il, esc_ir, leT, leF, ltT, ltF, eqT, eqF, nleT, nleF, nltT, nltF, neqT, neqF, nI_add, pk_mul, ald_nI, ast_nI, irm_nI, idv_nI, zbT, zbF, in_T, in_F1, in_F2, nI_l, sI_1, sI_2, sA_1, sA_2, subK, add0, sub0, or0, lN_add, lN_mul, L_0, L_1, L_2, L_3, L_4, L_5, L_6, L_7, L_8, L_9, L_10, L_11, L_12, L_13, L_14, L_15, L_16, L_17, L_18, L_19, L_20, L_30, L_31, L_32, L_35, L_37, L_39, L_40, L_43, L_48, L_57, L_59, L_60, L_97, L_99, L_100, L_120, L_122, L_127, L_160, L_200, L_255, L_999, L_1000, L_100000, L_1000000, L_24, L_33, L_34, L_36, L_38, L_69, L_70, L_72, L_214, L_215, L_288, L_174, L_175, L_206, LL_0, LL_1, LL_2, LL_3, LL_5, LL_9, LL_10, LL_11, LL_12, LL_19, LL_20, LL_30, LL_39, LL_60, LL_99, LL_127, LL_999, g1, Nat.add_sub_cancel_left]
  rw [L_0, hL, obs, esc_ir]
theorem cover44_e {M : GS} {a : AH} {kk : Int32} {x y : Nat → Int32} (hi : HI a) {n d : Nat} (hg : QA x y a kk (n + 10)) (hn : n ≤ 60) (hm : mnN (PF a kk) n (n + 9) < 100000) (hd : d < 9) (h1 : PF a kk (n + d) = mnN (PF a kk) n (n + 9)) (h2 : ∀ e, e < d → PF a kk (n + e) ≠ mnN (PF a kk) n (n + 9)) : whO (mX8_cover_l44 (nI n) (nI (mnN (PF a kk) n (n + 9)), pcM M x y)) FU (nI 0) = some (nI d) := by
  refine whO_for (fun i => nI i) d _ rfl ?_ ?_ (by omega)
  · intro i hx
    obtain ⟨g1, g2⟩ := hg (n + i) (by omega)
    obtain ⟨p1, p2⟩ := PF_b hi kk (t := n + i) (by omega)
    have hne := h2 i hx
    unfold mX8_cover_l44
    simp (disch := omega) only [↓reduceIte, obs, esc_il, esc_ir, leT, leF, ltT, ltF, eqT, eqF, nleT, nleF, nltT, nltF, neqT, neqF, nI_add, pk_mul, ald_nI, ast_nI, irm_nI, idv_nI, zbT, zbF, in_T, in_F1, in_F2, nI_l, sI_1, sI_2, sA_1, sA_2, subK, add0, sub0, or0, lN_add, lN_mul, L_0, L_1, L_2, L_3, L_4, L_5, L_6, L_7, L_8, L_9, L_10, L_11, L_12, L_13, L_14, L_15, L_16, L_17, L_18, L_19, L_20, L_30, L_31, L_32, L_35, L_37, L_39, L_40, L_43, L_48, L_57, L_59, L_60, L_97, L_99, L_100, L_120, L_122, L_127, L_160, L_200, L_255, L_999, L_1000, L_100000, L_1000000, L_24, L_33, L_34, L_36, L_38, L_69, L_70, L_72, L_214, L_215, L_288, L_174, L_175, L_206, LL_0, LL_1, LL_2, LL_3, LL_5, LL_9, LL_10, LL_11, LL_12, LL_19, LL_20, LL_30, LL_39, LL_60, LL_99, LL_127, LL_999, pcM_14, g1]
  · obtain ⟨g1, g2⟩ := hg (n + d) (by omega)
    rw [h1] at g1
    unfold mX8_cover_l44
    simp (disch := omega) only [↓reduceIte, obs, esc_il, esc_ir, leT, leF, ltT, ltF, eqT, eqF, nleT, nleF, nltT, nltF, neqT, neqF, nI_add, pk_mul, ald_nI, ast_nI, irm_nI, idv_nI, zbT, zbF, in_T, in_F1, in_F2, nI_l, sI_1, sI_2, sA_1, sA_2, subK, add0, sub0, or0, lN_add, lN_mul, L_0, L_1, L_2, L_3, L_4, L_5, L_6, L_7, L_8, L_9, L_10, L_11, L_12, L_13, L_14, L_15, L_16, L_17, L_18, L_19, L_20, L_30, L_31, L_32, L_35, L_37, L_39, L_40, L_43, L_48, L_57, L_59, L_60, L_97, L_99, L_100, L_120, L_122, L_127, L_160, L_200, L_255, L_999, L_1000, L_100000, L_1000000, L_24, L_33, L_34, L_36, L_38, L_69, L_70, L_72, L_214, L_215, L_288, L_174, L_175, L_206, LL_0, LL_1, LL_2, LL_3, LL_5, LL_9, LL_10, LL_11, LL_12, LL_19, LL_20, LL_30, LL_39, LL_60, LL_99, LL_127, LL_999, pcM_14, g1]
theorem st_cover {F : FS} {M : GS} (hR : Rel F M) (n : Int32) (w : Int32) : ∃ (o : Int32 × GS) (o' : Int32 × GS), mX7_cover (F.1 0) (F.1 7) n w = some o ∧ mX8_cover M n w = some o' ∧ o.1 = o'.1 ∧ Rel ((va_up F.1 7 o.2), F.2.1, F.2.2) o'.2 := by
  obtain ⟨⟨a, hv, hp, hi, hy⟩, -⟩ := id hR
  have hb := hi.nb
  unfold mX7_cover mX8_cover
  rcases cs2 n with h | ⟨m, hm, rfl⟩
  · simp (disch := omega) only [↓reduceIte, obs, esc_il, esc_ir, leT, leF, ltT, ltF, eqT, eqF, nleT, nleF, nltT, nltF, neqT, neqF, nI_add, pk_mul, ald_nI, ast_nI, irm_nI, idv_nI, zbT, zbF, in_T, in_F1, in_F2, nI_l, sI_1, sI_2, sA_1, sA_2, subK, add0, sub0, or0, lN_add, lN_mul, L_0, L_1, L_2, L_3, L_4, L_5, L_6, L_7, L_8, L_9, L_10, L_11, L_12, L_13, L_14, L_15, L_16, L_17, L_18, L_19, L_20, L_30, L_31, L_32, L_35, L_37, L_39, L_40, L_43, L_48, L_57, L_59, L_60, L_97, L_99, L_100, L_120, L_122, L_127, L_160, L_200, L_255, L_999, L_1000, L_100000, L_1000000, L_24, L_33, L_34, L_36, L_38, L_69, L_70, L_72, L_214, L_215, L_288, L_174, L_175, L_206, LL_0, LL_1, LL_2, LL_3, LL_5, LL_9, LL_10, LL_11, LL_12, LL_19, LL_20, LL_30, LL_39, LL_60, LL_99, LL_127, LL_999, ngLt h, ngLe h, ngGe h, ngGt h, ngEq h, ngEq' h, in_ng h, zb_ng h]
    exact ⟨_, _, rfl, rfl, rfl, hR.same 7⟩
  by_cases hm2 : m ≤ 60
  · rcases pair_cs w with ⟨w1, w2⟩ | hw
    · simp (disch := omega) only [↓reduceIte, obs, esc_il, esc_ir, leT, leF, ltT, ltF, eqT, eqF, nleT, nleF, nltT, nltF, neqT, neqF, nI_add, pk_mul, ald_nI, ast_nI, irm_nI, idv_nI, zbT, zbF, in_T, in_F1, in_F2, nI_l, sI_1, sI_2, sA_1, sA_2, subK, add0, sub0, or0, lN_add, lN_mul, L_0, L_1, L_2, L_3, L_4, L_5, L_6, L_7, L_8, L_9, L_10, L_11, L_12, L_13, L_14, L_15, L_16, L_17, L_18, L_19, L_20, L_30, L_31, L_32, L_35, L_37, L_39, L_40, L_43, L_48, L_57, L_59, L_60, L_97, L_99, L_100, L_120, L_122, L_127, L_160, L_200, L_255, L_999, L_1000, L_100000, L_1000000, L_24, L_33, L_34, L_36, L_38, L_69, L_70, L_72, L_214, L_215, L_288, L_174, L_175, L_206, LL_0, LL_1, LL_2, LL_3, LL_5, LL_9, LL_10, LL_11, LL_12, LL_19, LL_20, LL_30, LL_39, LL_60, LL_99, LL_127, LL_999, w1, w2]
      exact ⟨_, _, rfl, rfl, rfl, hR.same 7⟩
    obtain ⟨x, y, k1, k2⟩ := covers_e (-nI 4) hp hi hm2
    rw [mn_10 hi] at k1
    by_cases hc : a.2 12 = 0 ∧ 0 < m
    · rw [mn_none hi _ hc.1 hc.2] at k1
      rcases hw with rfl | rfl
      all_goals
        simp (disch := omega) only [↓reduceIte, obs, esc_il, esc_ir, leT, leF, ltT, ltF, eqT, eqF, nleT, nleF, nltT, nltF, neqT, neqF, nI_add, pk_mul, ald_nI, ast_nI, irm_nI, idv_nI, zbT, zbF, in_T, in_F1, in_F2, nI_l, sI_1, sI_2, sA_1, sA_2, subK, add0, sub0, or0, lN_add, lN_mul, L_0, L_1, L_2, L_3, L_4, L_5, L_6, L_7, L_8, L_9, L_10, L_11, L_12, L_13, L_14, L_15, L_16, L_17, L_18, L_19, L_20, L_30, L_31, L_32, L_35, L_37, L_39, L_40, L_43, L_48, L_57, L_59, L_60, L_97, L_99, L_100, L_120, L_122, L_127, L_160, L_200, L_255, L_999, L_1000, L_100000, L_1000000, L_24, L_33, L_34, L_36, L_38, L_69, L_70, L_72, L_214, L_215, L_288, L_174, L_175, L_206, LL_0, LL_1, LL_2, LL_3, LL_5, LL_9, LL_10, LL_11, LL_12, LL_19, LL_20, LL_30, LL_39, LL_60, LL_99, LL_127, LL_999, np0, np1, hv.r, k1]
        refine ⟨_, _, rfl, rfl, rfl, ?_⟩
        show Rel (va_up F.1 7 (F.1 7), F.2.1, F.2.2) (pcM M x y)
        exact hR.paper _ x y
    · have hs := mn_some hi (-nI 4) hm2 (by omega)
      obtain ⟨g', l1, l2⟩ := reckonP_e (g := F.1 7) (kk := -nI 4) hv hi
      have l3 := leastPrice_e hi l2 hm2
      rw [mn_69 hi _ hm2, cvl hs] at l3
      obtain ⟨d, d1, d2, d3⟩ := first_e hi (-nI 4) hs
      have l4 := leastLeft_e hi l2 hm2 hs d1 d2 d3
      have l5 := cover44_e (M := M) hi k2 hm2 hs d1 d2 d3
      by_cases hz : a.2 12 = 0
      · have hm0 : m = 0 := by omega
        rcases hw with rfl | rfl
        all_goals
          simp (disch := omega) only [↓reduceIte, obs, esc_il, esc_ir, leT, leF, ltT, ltF, eqT, eqF, nleT, nleF, nltT, nltF, neqT, neqF, nI_add, pk_mul, ald_nI, ast_nI, irm_nI, idv_nI, zbT, zbF, in_T, in_F1, in_F2, nI_l, sI_1, sI_2, sA_1, sA_2, subK, add0, sub0, or0, lN_add, lN_mul, L_0, L_1, L_2, L_3, L_4, L_5, L_6, L_7, L_8, L_9, L_10, L_11, L_12, L_13, L_14, L_15, L_16, L_17, L_18, L_19, L_20, L_30, L_31, L_32, L_35, L_37, L_39, L_40, L_43, L_48, L_57, L_59, L_60, L_97, L_99, L_100, L_120, L_122, L_127, L_160, L_200, L_255, L_999, L_1000, L_100000, L_1000000, L_24, L_33, L_34, L_36, L_38, L_69, L_70, L_72, L_214, L_215, L_288, L_174, L_175, L_206, LL_0, LL_1, LL_2, LL_3, LL_5, LL_9, LL_10, LL_11, LL_12, LL_19, LL_20, LL_30, LL_39, LL_60, LL_99, LL_127, LL_999, np0, np1, hv.r, k1, l1, l3, l4, l5]
          exact ⟨_, _, rfl, rfl, rfl, hR.paper _ x y⟩
      · rcases hw with rfl | rfl
        all_goals
          simp (disch := omega) only [↓reduceIte, obs, esc_il, esc_ir, leT, leF, ltT, ltF, eqT, eqF, nleT, nleF, nltT, nltF, neqT, neqF, nI_add, pk_mul, ald_nI, ast_nI, irm_nI, idv_nI, zbT, zbF, in_T, in_F1, in_F2, nI_l, sI_1, sI_2, sA_1, sA_2, subK, add0, sub0, or0, lN_add, lN_mul, L_0, L_1, L_2, L_3, L_4, L_5, L_6, L_7, L_8, L_9, L_10, L_11, L_12, L_13, L_14, L_15, L_16, L_17, L_18, L_19, L_20, L_30, L_31, L_32, L_35, L_37, L_39, L_40, L_43, L_48, L_57, L_59, L_60, L_97, L_99, L_100, L_120, L_122, L_127, L_160, L_200, L_255, L_999, L_1000, L_100000, L_1000000, L_24, L_33, L_34, L_36, L_38, L_69, L_70, L_72, L_214, L_215, L_288, L_174, L_175, L_206, LL_0, LL_1, LL_2, LL_3, LL_5, LL_9, LL_10, LL_11, LL_12, LL_19, LL_20, LL_30, LL_39, LL_60, LL_99, LL_127, LL_999, np0, np1, hv.r, k1, l1, l3, l4, l5]
          exact ⟨_, _, rfl, rfl, rfl, hR.paper _ x y⟩
  · simp (disch := omega) only [↓reduceIte, obs, esc_il, esc_ir, leT, leF, ltT, ltF, eqT, eqF, nleT, nleF, nltT, nltF, neqT, neqF, nI_add, pk_mul, ald_nI, ast_nI, irm_nI, idv_nI, zbT, zbF, in_T, in_F1, in_F2, nI_l, sI_1, sI_2, sA_1, sA_2, subK, add0, sub0, or0, lN_add, lN_mul, L_0, L_1, L_2, L_3, L_4, L_5, L_6, L_7, L_8, L_9, L_10, L_11, L_12, L_13, L_14, L_15, L_16, L_17, L_18, L_19, L_20, L_30, L_31, L_32, L_35, L_37, L_39, L_40, L_43, L_48, L_57, L_59, L_60, L_97, L_99, L_100, L_120, L_122, L_127, L_160, L_200, L_255, L_999, L_1000, L_100000, L_1000000, L_24, L_33, L_34, L_36, L_38, L_69, L_70, L_72, L_214, L_215, L_288, L_174, L_175, L_206, LL_0, LL_1, LL_2, LL_3, LL_5, LL_9, LL_10, LL_11, LL_12, LL_19, LL_20, LL_30, LL_39, LL_60, LL_99, LL_127, LL_999]
    exact ⟨_, _, rfl, rfl, rfl, hR.same 7⟩
/-- most of one roll, where the least is paid -/
def mcN (P C : Nat → Nat) (L n : Nat) : Nat → Nat
  | 0 => 0
  | m + 1 => if m < n then mcN P C L n m else if P m = L ∧ mcN P C L n m < C m then C m else mcN P C L n m
theorem mc_1 {P C : Nat → Nat} {L n m : Nat} (h : m < n) : mcN P C L n (m + 1) = mcN P C L n m := if_pos h
theorem mc_2 {P C : Nat → Nat} {L n m : Nat} (h : ¬ m < n) (h2 : P m = L ∧ mcN P C L n m < C m) : mcN P C L n (m + 1) = C m := by
  rw [mcN, if_neg h, if_pos h2]
theorem mc_3 {P C : Nat → Nat} {L n m : Nat} (h : ¬ m < n) (h2 : ¬ (P m = L ∧ mcN P C L n m < C m)) : mcN P C L n (m + 1) = mcN P C L n m := by
  rw [mcN, if_neg h, if_neg h2]
theorem mc_n (P C : Nat → Nat) (L n : Nat) : ∀ m, m ≤ n → mcN P C L n m = 0
  | 0, _ => rfl
  | m + 1, h => by rw [mcN, if_pos (by omega), mc_n P C L n m (by omega)]
theorem mc_le {P C : Nat → Nat} {L n : Nat} (h : ∀ t, t < 1000 → C t ≤ t) : ∀ m, m < 1000 → mcN P C L n m ≤ m
  | 0, _ => Nat.le_refl _
  | m + 1, hm => by
    have := mc_le (P := P) (L := L) (n := n) h m (by omega)
    have := h m (by omega)
    rw [mcN]
    split
    · omega
    · split <;> omega
theorem mc_far {a : AH} (hi : HI a) (kk : Int32) {n : Nat} (hs : mnN (PF a kk) n (n + 9) < 100000) : ∀ d, mcN (PF a kk) (CF a kk) (mnN (PF a kk) n (n + 9)) n (n + 9 + d) = mcN (PF a kk) (CF a kk) (mnN (PF a kk) n (n + 9)) n (n + 9)
  | 0 => rfl
  | d + 1 => by
    rw [← Nat.add_assoc, mcN, if_neg (by omega), mc_far hi kk hs d, if_neg]
    intro h
    have := far_lt hi kk n d (n + 9 + d) rfl (by omega)
    omega
theorem mostChosen_e {g : GS} {a : AH} {kk : Int32} (hi : HI a) (hg : PA g a kk 69) {n L : Nat} (hn : n ≤ 60) (hL : L < 100000) : mX4_mostChosen g (nI n) (nI L) = some (nI (mcN (PF a kk) (CF a kk) L n 69)) := by
  unfold mX4_mostChosen
  rw [whO_for (fun i => (nI (mcN (PF a kk) (CF a kk) L n i), nI i)) 69 (nI (mcN (PF a kk) (CF a kk) L n 69), nI 69) (by rfl) ?_ ?_ (by decide)]
  · rfl
  · intro i hx
    obtain ⟨g1, g2⟩ := hg i hx
    obtain ⟨p1, p2⟩ := PF_b hi kk (t := i) (by omega)
    have hmc := mc_le (P := PF a kk) (C := CF a kk) (L := L) (n := n) (fun t ht => (PF_b hi kk ht).2) i (by omega)
    unfold mX4_mostChosen_l5
    by_cases c1 : i < n
    · rw [mc_1 c1]
      simp (disch := omega) only [↓reduceIte, obs, esc_il, esc_ir, leT, leF, ltT, ltF, eqT, eqF, nleT, nleF, nltT, nltF, neqT, neqF, nI_add, pk_mul, ald_nI, ast_nI, irm_nI, idv_nI, zbT, zbF, in_T, in_F1, in_F2, nI_l, sI_1, sI_2, sA_1, sA_2, subK, add0, sub0, or0, lN_add, lN_mul, L_0, L_1, L_2, L_3, L_4, L_5, L_6, L_7, L_8, L_9, L_10, L_11, L_12, L_13, L_14, L_15, L_16, L_17, L_18, L_19, L_20, L_30, L_31, L_32, L_35, L_37, L_39, L_40, L_43, L_48, L_57, L_59, L_60, L_97, L_99, L_100, L_120, L_122, L_127, L_160, L_200, L_255, L_999, L_1000, L_100000, L_1000000, L_24, L_33, L_34, L_36, L_38, L_69, L_70, L_72, L_214, L_215, L_288, L_174, L_175, L_206, LL_0, LL_1, LL_2, LL_3, LL_5, LL_9, LL_10, LL_11, LL_12, LL_19, LL_20, LL_30, LL_39, LL_60, LL_99, LL_127, LL_999]
    · by_cases c2 : PF a kk i = L
      · rw [c2, cvl hL] at g1
        by_cases c3 : mcN (PF a kk) (CF a kk) L n i < CF a kk i
        · rw [mc_2 c1 ⟨c2, c3⟩]
          simp (disch := omega) only [↓reduceIte, obs, esc_il, esc_ir, leT, leF, ltT, ltF, eqT, eqF, nleT, nleF, nltT, nltF, neqT, neqF, nI_add, pk_mul, ald_nI, ast_nI, irm_nI, idv_nI, zbT, zbF, in_T, in_F1, in_F2, nI_l, sI_1, sI_2, sA_1, sA_2, subK, add0, sub0, or0, lN_add, lN_mul, L_0, L_1, L_2, L_3, L_4, L_5, L_6, L_7, L_8, L_9, L_10, L_11, L_12, L_13, L_14, L_15, L_16, L_17, L_18, L_19, L_20, L_30, L_31, L_32, L_35, L_37, L_39, L_40, L_43, L_48, L_57, L_59, L_60, L_97, L_99, L_100, L_120, L_122, L_127, L_160, L_200, L_255, L_999, L_1000, L_100000, L_1000000, L_24, L_33, L_34, L_36, L_38, L_69, L_70, L_72, L_214, L_215, L_288, L_174, L_175, L_206, LL_0, LL_1, LL_2, LL_3, LL_5, LL_9, LL_10, LL_11, LL_12, LL_19, LL_20, LL_30, LL_39, LL_60, LL_99, LL_127, LL_999, g1, g2]
        · rw [mc_3 c1 (fun z => c3 z.2)]
          simp (disch := omega) only [↓reduceIte, obs, esc_il, esc_ir, leT, leF, ltT, ltF, eqT, eqF, nleT, nleF, nltT, nltF, neqT, neqF, nI_add, pk_mul, ald_nI, ast_nI, irm_nI, idv_nI, zbT, zbF, in_T, in_F1, in_F2, nI_l, sI_1, sI_2, sA_1, sA_2, subK, add0, sub0, or0, lN_add, lN_mul, L_0, L_1, L_2, L_3, L_4, L_5, L_6, L_7, L_8, L_9, L_10, L_11, L_12, L_13, L_14, L_15, L_16, L_17, L_18, L_19, L_20, L_30, L_31, L_32, L_35, L_37, L_39, L_40, L_43, L_48, L_57, L_59, L_60, L_97, L_99, L_100, L_120, L_122, L_127, L_160, L_200, L_255, L_999, L_1000, L_100000, L_1000000, L_24, L_33, L_34, L_36, L_38, L_69, L_70, L_72, L_214, L_215, L_288, L_174, L_175, L_206, LL_0, LL_1, LL_2, LL_3, LL_5, LL_9, LL_10, LL_11, LL_12, LL_19, LL_20, LL_30, LL_39, LL_60, LL_99, LL_127, LL_999, g1, g2]
      · rw [mc_3 c1 (fun z => c2 z.1)]
        by_cases c4 : PF a kk i = 100000
        · rw [c4, cvd] at g1
          simp (disch := omega) only [↓reduceIte, obs, esc_il, esc_ir, leT, leF, ltT, ltF, eqT, eqF, nleT, nleF, nltT, nltF, neqT, neqF, nI_add, pk_mul, ald_nI, ast_nI, irm_nI, idv_nI, zbT, zbF, in_T, in_F1, in_F2, nI_l, sI_1, sI_2, sA_1, sA_2, subK, add0, sub0, or0, lN_add, lN_mul, L_0, L_1, L_2, L_3, L_4, L_5, L_6, L_7, L_8, L_9, L_10, L_11, L_12, L_13, L_14, L_15, L_16, L_17, L_18, L_19, L_20, L_30, L_31, L_32, L_35, L_37, L_39, L_40, L_43, L_48, L_57, L_59, L_60, L_97, L_99, L_100, L_120, L_122, L_127, L_160, L_200, L_255, L_999, L_1000, L_100000, L_1000000, L_24, L_33, L_34, L_36, L_38, L_69, L_70, L_72, L_214, L_215, L_288, L_174, L_175, L_206, LL_0, LL_1, LL_2, LL_3, LL_5, LL_9, LL_10, LL_11, LL_12, LL_19, LL_20, LL_30, LL_39, LL_60, LL_99, LL_127, LL_999, g1, g2]
        · rw [cvl (by omega)] at g1
          simp (disch := omega) only [↓reduceIte, obs, esc_il, esc_ir, leT, leF, ltT, ltF, eqT, eqF, nleT, nleF, nltT, nltF, neqT, neqF, nI_add, pk_mul, ald_nI, ast_nI, irm_nI, idv_nI, zbT, zbF, in_T, in_F1, in_F2, nI_l, sI_1, sI_2, sA_1, sA_2, subK, add0, sub0, or0, lN_add, lN_mul, L_0, L_1, L_2, L_3, L_4, L_5, L_6, L_7, L_8, L_9, L_10, L_11, L_12, L_13, L_14, L_15, L_16, L_17, L_18, L_19, L_20, L_30, L_31, L_32, L_35, L_37, L_39, L_40, L_43, L_48, L_57, L_59, L_60, L_97, L_99, L_100, L_120, L_122, L_127, L_160, L_200, L_255, L_999, L_1000, L_100000, L_1000000, L_24, L_33, L_34, L_36, L_38, L_69, L_70, L_72, L_214, L_215, L_288, L_174, L_175, L_206, LL_0, LL_1, LL_2, LL_3, LL_5, LL_9, LL_10, LL_11, LL_12, LL_19, LL_20, LL_30, LL_39, LL_60, LL_99, LL_127, LL_999, g1, g2]
  · unfold mX4_mostChosen_l5
    simp (disch := omega) only [↓reduceIte, obs, esc_il, esc_ir, leT, leF, ltT, ltF, eqT, eqF, nleT, nleF, nltT, nltF, neqT, neqF, nI_add, pk_mul, ald_nI, ast_nI, irm_nI, idv_nI, zbT, zbF, in_T, in_F1, in_F2, nI_l, sI_1, sI_2, sA_1, sA_2, subK, add0, sub0, or0, lN_add, lN_mul, L_0, L_1, L_2, L_3, L_4, L_5, L_6, L_7, L_8, L_9, L_10, L_11, L_12, L_13, L_14, L_15, L_16, L_17, L_18, L_19, L_20, L_30, L_31, L_32, L_35, L_37, L_39, L_40, L_43, L_48, L_57, L_59, L_60, L_97, L_99, L_100, L_120, L_122, L_127, L_160, L_200, L_255, L_999, L_1000, L_100000, L_1000000, L_24, L_33, L_34, L_36, L_38, L_69, L_70, L_72, L_214, L_215, L_288, L_174, L_175, L_206, LL_0, LL_1, LL_2, LL_3, LL_5, LL_9, LL_10, LL_11, LL_12, LL_19, LL_20, LL_30, LL_39, LL_60, LL_99, LL_127, LL_999]
theorem most35_e {M : GS} {a : AH} {kk : Int32} {x y : Nat → Int32} (hi : HI a) {n L : Nat} (hg : QA x y a kk (n + 10)) (hn : n ≤ 60) (hL : L < 100000) : whO (mX8_most_l35 (nI n) (nI L, pcM M x y)) FU (nI 0, nI n) = some (nI (mcN (PF a kk) (CF a kk) L n (n + 10)), nI (n + 10)) := by
  refine whO_for (fun i => (nI (mcN (PF a kk) (CF a kk) L n (n + i)), nI (n + i))) 10 _ (by show _ = (nI (mcN (PF a kk) (CF a kk) L n n), nI n); rw [mc_n _ _ _ _ _ (Nat.le_refl _)]) ?_ ?_ (by decide)
  · intro i hx
    obtain ⟨g1, g2⟩ := hg (n + i) (by omega)
    obtain ⟨p1, p2⟩ := PF_b hi kk (t := n + i) (by omega)
    have hmc := mc_le (P := PF a kk) (C := CF a kk) (L := L) (n := n) (fun t ht => (PF_b hi kk ht).2) (n + i) (by omega)
    unfold mX8_most_l35
    rw [← Nat.add_assoc]
    by_cases c2 : PF a kk (n + i) = L
    · rw [c2] at g1
      by_cases c3 : mcN (PF a kk) (CF a kk) L n (n + i) < CF a kk (n + i)
      · rw [mc_2 (by omega) ⟨c2, c3⟩]
        simp (disch := omega) only [↓reduceIte, obs, esc_il, esc_ir, leT, leF, ltT, ltF, eqT, eqF, nleT, nleF, nltT, nltF, neqT, neqF, nI_add, pk_mul, ald_nI, ast_nI, irm_nI, idv_nI, zbT, zbF, in_T, in_F1, in_F2, nI_l, sI_1, sI_2, sA_1, sA_2, subK, add0, sub0, or0, lN_add, lN_mul, L_0, L_1, L_2, L_3, L_4, L_5, L_6, L_7, L_8, L_9, L_10, L_11, L_12, L_13, L_14, L_15, L_16, L_17, L_18, L_19, L_20, L_30, L_31, L_32, L_35, L_37, L_39, L_40, L_43, L_48, L_57, L_59, L_60, L_97, L_99, L_100, L_120, L_122, L_127, L_160, L_200, L_255, L_999, L_1000, L_100000, L_1000000, L_24, L_33, L_34, L_36, L_38, L_69, L_70, L_72, L_214, L_215, L_288, L_174, L_175, L_206, LL_0, LL_1, LL_2, LL_3, LL_5, LL_9, LL_10, LL_11, LL_12, LL_19, LL_20, LL_30, LL_39, LL_60, LL_99, LL_127, LL_999, pcM_14, pcM_15, g1, g2]
      · rw [mc_3 (by omega) (fun z => c3 z.2)]
        simp (disch := omega) only [↓reduceIte, obs, esc_il, esc_ir, leT, leF, ltT, ltF, eqT, eqF, nleT, nleF, nltT, nltF, neqT, neqF, nI_add, pk_mul, ald_nI, ast_nI, irm_nI, idv_nI, zbT, zbF, in_T, in_F1, in_F2, nI_l, sI_1, sI_2, sA_1, sA_2, subK, add0, sub0, or0, lN_add, lN_mul, L_0, L_1, L_2, L_3, L_4, L_5, L_6, L_7, L_8, L_9, L_10, L_11, L_12, L_13, L_14, L_15, L_16, L_17, L_18, L_19, L_20, L_30, L_31, L_32, L_35, L_37, L_39, L_40, L_43, L_48, L_57, L_59, L_60, L_97, L_99, L_100, L_120, L_122, L_127, L_160, L_200, L_255, L_999, L_1000, L_100000, L_1000000, L_24, L_33, L_34, L_36, L_38, L_69, L_70, L_72, L_214, L_215, L_288, L_174, L_175, L_206, LL_0, LL_1, LL_2, LL_3, LL_5, LL_9, LL_10, LL_11, LL_12, LL_19, LL_20, LL_30, LL_39, LL_60, LL_99, LL_127, LL_999, pcM_14, pcM_15, g1, g2]
    · rw [mc_3 (by omega) (fun z => c2 z.1)]
      simp (disch := omega) only [↓reduceIte, obs, esc_il, esc_ir, leT, leF, ltT, ltF, eqT, eqF, nleT, nleF, nltT, nltF, neqT, neqF, nI_add, pk_mul, ald_nI, ast_nI, irm_nI, idv_nI, zbT, zbF, in_T, in_F1, in_F2, nI_l, sI_1, sI_2, sA_1, sA_2, subK, add0, sub0, or0, lN_add, lN_mul, L_0, L_1, L_2, L_3, L_4, L_5, L_6, L_7, L_8, L_9, L_10, L_11, L_12, L_13, L_14, L_15, L_16, L_17, L_18, L_19, L_20, L_30, L_31, L_32, L_35, L_37, L_39, L_40, L_43, L_48, L_57, L_59, L_60, L_97, L_99, L_100, L_120, L_122, L_127, L_160, L_200, L_255, L_999, L_1000, L_100000, L_1000000, L_24, L_33, L_34, L_36, L_38, L_69, L_70, L_72, L_214, L_215, L_288, L_174, L_175, L_206, LL_0, LL_1, LL_2, LL_3, LL_5, LL_9, LL_10, LL_11, LL_12, LL_19, LL_20, LL_30, LL_39, LL_60, LL_99, LL_127, LL_999, pcM_14, pcM_15, g1, g2]
  · unfold mX8_most_l35
    simp (disch := omega) only [↓reduceIte, obs, esc_il, esc_ir, leT, leF, ltT, ltF, eqT, eqF, nleT, nleF, nltT, nltF, neqT, neqF, nI_add, pk_mul, ald_nI, ast_nI, irm_nI, idv_nI, zbT, zbF, in_T, in_F1, in_F2, nI_l, sI_1, sI_2, sA_1, sA_2, subK, add0, sub0, or0, lN_add, lN_mul, L_0, L_1, L_2, L_3, L_4, L_5, L_6, L_7, L_8, L_9, L_10, L_11, L_12, L_13, L_14, L_15, L_16, L_17, L_18, L_19, L_20, L_30, L_31, L_32, L_35, L_37, L_39, L_40, L_43, L_48, L_57, L_59, L_60, L_97, L_99, L_100, L_120, L_122, L_127, L_160, L_200, L_255, L_999, L_1000, L_100000, L_1000000, L_24, L_33, L_34, L_36, L_38, L_69, L_70, L_72, L_214, L_215, L_288, L_174, L_175, L_206, LL_0, LL_1, LL_2, LL_3, LL_5, LL_9, LL_10, LL_11, LL_12, LL_19, LL_20, LL_30, LL_39, LL_60, LL_99, LL_127, LL_999]
theorem st_most {F : FS} {M : GS} (hR : Rel F M) (r : Int32) (n : Int32) : ∃ (o : Int32 × GS) (o' : Int32 × GS), mX7_most (F.1 0) (F.1 7) r n = some o ∧ mX8_most M r n = some o' ∧ o.1 = o'.1 ∧ Rel ((va_up F.1 7 o.2), F.2.1, F.2.2) o'.2 := by
  obtain ⟨⟨a, hv, hp, hi, hy⟩, -⟩ := id hR
  have hb := hi.nb
  unfold mX7_most mX8_most
  rcases cs2 r with h | ⟨k, hk, rfl⟩
  · simp (disch := omega) only [↓reduceIte, obs, esc_il, esc_ir, leT, leF, ltT, ltF, eqT, eqF, nleT, nleF, nltT, nltF, neqT, neqF, nI_add, pk_mul, ald_nI, ast_nI, irm_nI, idv_nI, zbT, zbF, in_T, in_F1, in_F2, nI_l, sI_1, sI_2, sA_1, sA_2, subK, add0, sub0, or0, lN_add, lN_mul, L_0, L_1, L_2, L_3, L_4, L_5, L_6, L_7, L_8, L_9, L_10, L_11, L_12, L_13, L_14, L_15, L_16, L_17, L_18, L_19, L_20, L_30, L_31, L_32, L_35, L_37, L_39, L_40, L_43, L_48, L_57, L_59, L_60, L_97, L_99, L_100, L_120, L_122, L_127, L_160, L_200, L_255, L_999, L_1000, L_100000, L_1000000, L_24, L_33, L_34, L_36, L_38, L_69, L_70, L_72, L_214, L_215, L_288, L_174, L_175, L_206, LL_0, LL_1, LL_2, LL_3, LL_5, LL_9, LL_10, LL_11, LL_12, LL_19, LL_20, LL_30, LL_39, LL_60, LL_99, LL_127, LL_999, hasRoll_e hv hi, isRoll_e hp hi, ngLt h, ngLe h, ngGe h, ngGt h, ngEq h, ngEq' h, in_ng h, zb_ng h]
    exact ⟨_, _, rfl, rfl, rfl, hR.same 7⟩
  by_cases hk2 : k < a.2 12
  · rcases cs2 n with h | ⟨m, hm, rfl⟩
    · simp (disch := omega) only [↓reduceIte, obs, esc_il, esc_ir, leT, leF, ltT, ltF, eqT, eqF, nleT, nleF, nltT, nltF, neqT, neqF, nI_add, pk_mul, ald_nI, ast_nI, irm_nI, idv_nI, zbT, zbF, in_T, in_F1, in_F2, nI_l, sI_1, sI_2, sA_1, sA_2, subK, add0, sub0, or0, lN_add, lN_mul, L_0, L_1, L_2, L_3, L_4, L_5, L_6, L_7, L_8, L_9, L_10, L_11, L_12, L_13, L_14, L_15, L_16, L_17, L_18, L_19, L_20, L_30, L_31, L_32, L_35, L_37, L_39, L_40, L_43, L_48, L_57, L_59, L_60, L_97, L_99, L_100, L_120, L_122, L_127, L_160, L_200, L_255, L_999, L_1000, L_100000, L_1000000, L_24, L_33, L_34, L_36, L_38, L_69, L_70, L_72, L_214, L_215, L_288, L_174, L_175, L_206, LL_0, LL_1, LL_2, LL_3, LL_5, LL_9, LL_10, LL_11, LL_12, LL_19, LL_20, LL_30, LL_39, LL_60, LL_99, LL_127, LL_999, hasRoll_e hv hi, isRoll_e hp hi, ngLt h, ngLe h, ngGe h, ngGt h, ngEq h, ngEq' h, in_ng h, zb_ng h]
      exact ⟨_, _, rfl, rfl, rfl, hR.same 7⟩
    by_cases hm2 : m ≤ 60
    · obtain ⟨x, y, k1, k2⟩ := covers_e (nI k) hp hi hm2
      rw [mn_10 hi] at k1
      have hs := mn_some hi (nI k) hm2 (by omega)
      obtain ⟨g', l1, l2⟩ := reckonP_e (g := F.1 7) (kk := nI k) hv hi
      have l3 := leastPrice_e hi l2 hm2
      rw [mn_69 hi _ hm2, cvl hs] at l3
      have l4 := mostChosen_e hi l2 hm2 hs
      have l5 := most35_e (M := M) hi k2 hm2 hs
      have e1 := mc_far hi (nI k) hs (60 - m)
      rw [show m + 9 + (60 - m) = 69 by omega] at e1
      have e2 : mcN (PF a (nI k)) (CF a (nI k)) (mnN (PF a (nI k)) m (m + 9)) m (m + 10) = mcN (PF a (nI k)) (CF a (nI k)) (mnN (PF a (nI k)) m (m + 9)) m (m + 9) := mc_far hi (nI k) hs 1
      rw [e1] at l4
      rw [e2] at l5
      simp (disch := omega) only [↓reduceIte, obs, esc_il, esc_ir, leT, leF, ltT, ltF, eqT, eqF, nleT, nleF, nltT, nltF, neqT, neqF, nI_add, pk_mul, ald_nI, ast_nI, irm_nI, idv_nI, zbT, zbF, in_T, in_F1, in_F2, nI_l, sI_1, sI_2, sA_1, sA_2, subK, add0, sub0, or0, lN_add, lN_mul, L_0, L_1, L_2, L_3, L_4, L_5, L_6, L_7, L_8, L_9, L_10, L_11, L_12, L_13, L_14, L_15, L_16, L_17, L_18, L_19, L_20, L_30, L_31, L_32, L_35, L_37, L_39, L_40, L_43, L_48, L_57, L_59, L_60, L_97, L_99, L_100, L_120, L_122, L_127, L_160, L_200, L_255, L_999, L_1000, L_100000, L_1000000, L_24, L_33, L_34, L_36, L_38, L_69, L_70, L_72, L_214, L_215, L_288, L_174, L_175, L_206, LL_0, LL_1, LL_2, LL_3, LL_5, LL_9, LL_10, LL_11, LL_12, LL_19, LL_20, LL_30, LL_39, LL_60, LL_99, LL_127, LL_999, hasRoll_e hv hi, isRoll_e hp hi, k1, l1, l3, l4, l5]
      exact ⟨_, _, rfl, rfl, rfl, hR.paper _ x y⟩
    · simp (disch := omega) only [↓reduceIte, obs, esc_il, esc_ir, leT, leF, ltT, ltF, eqT, eqF, nleT, nleF, nltT, nltF, neqT, neqF, nI_add, pk_mul, ald_nI, ast_nI, irm_nI, idv_nI, zbT, zbF, in_T, in_F1, in_F2, nI_l, sI_1, sI_2, sA_1, sA_2, subK, add0, sub0, or0, lN_add, lN_mul, L_0, L_1, L_2, L_3, L_4, L_5, L_6, L_7, L_8, L_9, L_10, L_11, L_12, L_13, L_14, L_15, L_16, L_17, L_18, L_19, L_20, L_30, L_31, L_32, L_35, L_37, L_39, L_40, L_43, L_48, L_57, L_59, L_60, L_97, L_99, L_100, L_120, L_122, L_127, L_160, L_200, L_255, L_999, L_1000, L_100000, L_1000000, L_24, L_33, L_34, L_36, L_38, L_69, L_70, L_72, L_214, L_215, L_288, L_174, L_175, L_206, LL_0, LL_1, LL_2, LL_3, LL_5, LL_9, LL_10, LL_11, LL_12, LL_19, LL_20, LL_30, LL_39, LL_60, LL_99, LL_127, LL_999, hasRoll_e hv hi, isRoll_e hp hi]
      exact ⟨_, _, rfl, rfl, rfl, hR.same 7⟩
  · simp (disch := omega) only [↓reduceIte, obs, esc_il, esc_ir, leT, leF, ltT, ltF, eqT, eqF, nleT, nleF, nltT, nltF, neqT, neqF, nI_add, pk_mul, ald_nI, ast_nI, irm_nI, idv_nI, zbT, zbF, in_T, in_F1, in_F2, nI_l, sI_1, sI_2, sA_1, sA_2, subK, add0, sub0, or0, lN_add, lN_mul, L_0, L_1, L_2, L_3, L_4, L_5, L_6, L_7, L_8, L_9, L_10, L_11, L_12, L_13, L_14, L_15, L_16, L_17, L_18, L_19, L_20, L_30, L_31, L_32, L_35, L_37, L_39, L_40, L_43, L_48, L_57, L_59, L_60, L_97, L_99, L_100, L_120, L_122, L_127, L_160, L_200, L_255, L_999, L_1000, L_100000, L_1000000, L_24, L_33, L_34, L_36, L_38, L_69, L_70, L_72, L_214, L_215, L_288, L_174, L_175, L_206, LL_0, LL_1, LL_2, LL_3, LL_5, LL_9, LL_10, LL_11, LL_12, LL_19, LL_20, LL_30, LL_39, LL_60, LL_99, LL_127, LL_999, hasRoll_e hv hi, isRoll_e hp hi]
    exact ⟨_, _, rfl, rfl, rfl, hR.same 7⟩
