/-! loops by an invariant; years; copies -/
theorem whO_inv {σ ε : Type} {f : σ → Option (σ ⊕ ε)} (I : Nat → σ → Prop) (N : Nat) (Q : ε → Prop) (hs : ∀ i s, i < N → I i s → (∃ s', f s = some (.inl s') ∧ I (i + 1) s') ∨ ∃ x, f s = some (.inr x) ∧ Q x) (hx : ∀ s, I N s → ∃ x, f s = some (.inr x) ∧ Q x) (s : σ) (h0 : I 0 s) (hN : N < 1000000) : ∃ x, whO f FU s = some x ∧ Q x := by
  have key : ∀ d k s, k + d = N → I k s → ∀ n, d < n → ∃ x, whO f n s = some x ∧ Q x := by
    intro d
    induction d with
    | zero =>
      intro k s hk hI n hn
      obtain ⟨m, rfl⟩ : ∃ m, n = m + 1 := ⟨n - 1, by omega⟩
      have e : k = N := by omega
      subst e
      obtain ⟨x, h1, h2⟩ := hx s hI
      exact ⟨x, by simp only [whO, h1, Option.bind_some], h2⟩
    | succ d ih =>
      intro k s hk hI n hn
      obtain ⟨m, rfl⟩ : ∃ m, n = m + 1 := ⟨n - 1, by omega⟩
      rcases hs k s (by omega) hI with ⟨s', h1, h2⟩ | ⟨x, h1, h2⟩
      · obtain ⟨x, h3, h4⟩ := ih (k + 1) s' (by omega) h2 m (by omega)
        exact ⟨x, by simp only [whO, h1, Option.bind_some]; exact h3, h4⟩
      · exact ⟨x, by simp only [whO, h1, Option.bind_some], h2⟩
  exact key N 0 s (by omega) h0 FU hN
def distN (i w : Nat) : Nat := if w ≤ i then i - w else w - i
theorem abs_e {i w : Nat} (hi : i < 1000) (hw : w < 1000) : (if 0 ≤ nI i - nI w then nI i - nI w else 0 - (nI i - nI w)) = nI (distN i w) := by
  unfold distN
  have h0 : (0 : Int32).toInt = 0 := by decide
  by_cases h : w ≤ i
  · rw [if_pos (by rw [Int32.le_iff_toInt_le, pk_sub_toInt (by omega) (by omega)]; omega), if_pos h, pk_sub h]
  · rw [if_neg (by rw [Int32.le_iff_toInt_le, pk_sub_toInt (by omega) (by omega)]; omega), if_neg h, ← pk_sub (show i ≤ w by omega)]
    rw [Int32.zero_sub, Int32.neg_sub]
theorem abs8_e {i w : Nat} (hi : i < 1000) (hw : w < 1000) : (if 0 ≤ nI i - nI w then some (nI i - nI w) else some (-(nI i - nI w))) = some (nI (distN i w)) := by
  rw [← abs_e hi hw, Int32.zero_sub]
  split <;> rfl
theorem dist_near {i w r : Nat} : distN i w ≤ r ↔ i ≤ w + r ∧ w ≤ i + r := by
  unfold distN
  split <;> omega
theorem fdN_le {a : AH} (hi : HI a) (n : Nat) {i : Nat} (hx : i < 12) : fdN a n i ≤ 99 := by
  have := hi.fd hx
  unfold fdN
  split <;> omega
theorem passA_HI {a : AH} (hi : HI a) (n : Nat) (hn : a.2 11 + n ≤ 2000) : HI (passA n a) := by
  have hb := hi.nb
  refine ⟨hb.1, hb.2.1, hb.2.2.1, hb.2.2.2.1, hb.2.2.2.2.1, hb.2.2.2.2.2.1, hb.2.2.2.2.2.2.1, ?_, hb.2.2.2.2.2.2.2.2, fun j hj => ⟨hi.kd hj, hi.wm hj⟩, fun j hj => ?_, fun j hj => hi.rl hj⟩
  · exact hn
  · exact fdN_le hi n hj
theorem passA_add (m n : Nat) (a : AH) : passA m (passA n a) = passA (n + m) a := by
  unfold passA
  refine Prod.ext ?_ ?_
  · funext k
    show va_up (va_up a.1 2 (fdN a n)) 2 _ k = va_up a.1 2 _ k
    rw [bx_uu]
    simp only [up_e]
    split
    · funext i
      show (if i < a.2 6 ∧ i ≤ a.2 8 + a.2 9 ∧ a.2 8 ≤ i + a.2 9 then min 99 (fdN a n i + m) else fdN a n i) = _
      unfold fdN
      split
      · omega
      · rfl
    · rfl
  · funext k
    show va_up (va_up a.2 11 (a.2 11 + n)) 11 (a.2 11 + n + m) k = va_up a.2 11 (a.2 11 + (n + m)) k
    rw [bx_uu, Nat.add_assoc]
theorem passA_0 {a : AH} (hi : HI a) (hw : ∀ i, i < a.2 6 → a.1 2 i ≤ 99) : passA 0 a = a := by
  unfold passA
  refine Prod.ext ?_ ?_
  · funext k
    show va_up a.1 2 _ k = a.1 k
    rw [up_e]
    split
    · rename_i h
      subst h
      funext i
      unfold fdN
      split
      · rename_i h
        have := hw i h.1
        omega
      · rfl
    · rfl
  · funext k
    show va_up a.2 11 _ k = a.2 k
    rw [up_e]
    split
    · rename_i h; subst h; rfl
    · rfl
theorem pass0 {a : AH} (hi : HI a) : passA 0 a = a := passA_0 hi (fun i h => hi.fd (by have := hi.nb; omega))
theorem pass_e {g : GS} {a : AH} (hv : HV g a) (hi : HI a) {n : Nat} (hn : n < 100) : ∃ g', mX0_pass g (nI n) = some g' ∧ HV g' (passA n a) := by
  have hb := hi.nb
  unfold mX0_pass
  rw [whO_for (fun i => (nI i, sA g 2 (fun j => if j < i ∧ j ≤ a.2 8 + a.2 9 ∧ a.2 8 ≤ j + a.2 9 then nI (min 99 (a.1 2 j + n)) else g.1 2 j))) (a.2 6) (nI (a.2 6), sA g 2 (fun j => if j < a.2 6 ∧ j ≤ a.2 8 + a.2 9 ∧ a.2 8 ≤ j + a.2 9 then nI (min 99 (a.1 2 j + n)) else g.1 2 j)) ?_ ?_ ?_ (by omega)]
  · refine ⟨_, rfl, ?_⟩
    refine ⟨fun j hj => hv.kd hj, fun j hj => hv.wm hj, fun j hj => ?_, fun j hj => hv.ln hj, fun j hj => hv.pr hj, hv.b, hv.w, hv.s, hv.wd, hv.re, hv.u, ?_, hv.r⟩
    · show (if j < a.2 6 ∧ j ≤ a.2 8 + a.2 9 ∧ a.2 8 ≤ j + a.2 9 then nI (min 99 (a.1 2 j + n)) else g.1 2 j) = nI (fdN a n j)
      unfold fdN
      split
      · rfl
      · exact hv.fd hj
    · show g.2 11 + nI n = nI (a.2 11 + n)
      rw [hv.y, nI_add]
  · rw [L_0]
    congr 1
    rw [show (fun j => if j < 0 ∧ j ≤ a.2 8 + a.2 9 ∧ a.2 8 ≤ j + a.2 9 then nI (min 99 (a.1 2 j + n)) else g.1 2 j) = g.1 2 from by funext j; simp, sA_id]
  · intro i hx
    have hf := hi.fd (show i < 12 by omega)
    unfold mX0_pass_l2
    simp only [sA_2, hv.w, hv.re, hv.wd]
    rw [if_neg (nI_ge hx (by omega)), if_neg (show ¬ (12 : Int32) ≤ nI i from nI_ge (b := 12) (by omega) (by decide)), abs_e (by omega) (by omega), sA_s, nI_1]
    have hd : distN i (a.2 8) < 1000 := by unfold distN; split <;> omega
    rw [ite_lt (by omega) (by omega)]
    by_cases hnr : i ≤ a.2 8 + a.2 9 ∧ a.2 8 ≤ i + a.2 9
    · rw [if_neg (by have := dist_near.mpr hnr; omega), ald_nI (by omega) (by decide), obs, if_neg (show ¬ (i < i ∧ i ≤ a.2 8 + a.2 9 ∧ a.2 8 ≤ i + a.2 9) by omega), hv.fd (by omega), nI_add, ast_nI (by omega) (by decide), obs, obs]
      simp only [Option.some.injEq, Sum.inl.injEq, Prod.mk.injEq, true_and]
      rw [sA_sA]
      congr 1
      funext j
      rw [upd_e]
      by_cases h1 : j = i
      · subst h1
        rw [if_pos rfl, if_pos (show j < j + 1 ∧ j ≤ a.2 8 + a.2 9 ∧ a.2 8 ≤ j + a.2 9 by omega)]
        by_cases h2 : a.1 2 j + n < 99
        · rw [if_pos (show nI (a.1 2 j + n) < (99 : Int32) from nI_lt (b := 99) h2 (by decide)), show min 99 (a.1 2 j + n) = a.1 2 j + n by omega]
        · rw [if_neg (show ¬ nI (a.1 2 j + n) < (99 : Int32) from nI_nlt (b := 99) (by omega) (by omega)), show min 99 (a.1 2 j + n) = 99 by omega]
          rfl
      · rw [if_neg h1]
        by_cases h2 : j < i ∧ j ≤ a.2 8 + a.2 9 ∧ a.2 8 ≤ j + a.2 9
        · rw [if_pos h2, if_pos (by omega)]
        · rw [if_neg h2, if_neg (by omega)]
    · rw [if_pos (by have h9 : ¬ distN i (a.2 8) ≤ a.2 9 := fun h => hnr (dist_near.mp h); omega), obs]
      simp only [Option.some.injEq, Sum.inl.injEq, Prod.mk.injEq, true_and]
      congr 1
      funext j
      by_cases h2 : j < i ∧ j ≤ a.2 8 + a.2 9 ∧ a.2 8 ≤ j + a.2 9
      · rw [if_pos h2, if_pos (by omega)]
      · rw [if_neg h2, if_neg (by omega)]
  · unfold mX0_pass_l2
    simp only [sA_2, hv.w]
    rw [if_pos (nI_le (Nat.le_refl _) (by omega))]
theorem copy_e {g k : GS} {a : AH} (hv : HV k a) (hi : HI a) : ∃ g', mX0_copy g k = some g' ∧ HV g' a := by
  have hb := hi.nb
  refine ⟨_, rfl, ?_⟩
  refine ⟨fun j hj => ?_, fun j hj => ?_, fun j hj => ?_, fun j hj => ?_, fun j hj => ?_, hv.b, hv.w, hv.s, hv.wd, hv.re, hv.u, hv.y, hv.r⟩
  · show va_cpy (k.1 0) _ 0 0 6 j = _
    rw [pk_cpy_in (by omega) (by omega), Nat.zero_add, Nat.sub_zero]; exact hv.kd hj
  · show va_cpy (k.1 1) _ 0 0 6 j = _
    rw [pk_cpy_in (by omega) (by omega), Nat.zero_add, Nat.sub_zero]; exact hv.wm hj
  · show va_cpy (k.1 2) _ 0 0 12 j = _
    rw [pk_cpy_in (by omega) (by omega), Nat.zero_add, Nat.sub_zero]; exact hv.fd hj
  · show va_cpy (k.1 3) _ 0 0 4 j = _
    rw [pk_cpy_in (by omega) (by omega), Nat.zero_add, Nat.sub_zero]; exact hv.ln hj
  · show va_cpy (k.1 4) _ 0 0 4 j = _
    rw [pk_cpy_in (by omega) (by omega), Nat.zero_add, Nat.sub_zero]; exact hv.pr hj
/-- the reference's year -/
theorem yearOn_e {g : GS} {p : Nat} {a : AH} (hv : PV (g.1 0) p a) (hp : p + 40 ≤ 240) (hi : HI a) : ∃ f', mX8_yearOn g (nI p) = some (sA g 0 f') ∧ PV f' p (passA 1 a) ∧ FrP (g.1 0) f' p := by
  have hb := hi.nb
  unfold mX8_yearOn
  rw [whO_for (fun i => (nI i, sA g 0 (fun q => if p + 19 ≤ q ∧ q < p + 19 + i then nI (fdN a 1 (q - (p + 19))) else g.1 0 q))) (a.2 6) (nI (a.2 6), sA g 0 (fun q => if p + 19 ≤ q ∧ q < p + 19 + a.2 6 then nI (fdN a 1 (q - (p + 19))) else g.1 0 q)) ?_ ?_ ?_ (by omega)]
  · simp only [obs, sA_s, L_18, L_1, nI_add]
    rw [ald_nI (by omega) (by decide), obs, ast_nI (by omega) (by decide), obs, sA_sA, if_neg (by omega), hv.y, nI_add]
    refine ⟨_, rfl, ?_, ?_⟩
    · refine ⟨fun j hj => ?_, fun j hj => ?_, fun j hj => ?_, fun j hj => ?_, fun j hj => ?_, ?_, ?_, ?_, ?_, ?_, ?_, ?_, ?_⟩
      · have hj : j < a.2 5 := hj
        rw [upd_e, if_neg (by omega), if_neg (by omega)]; exact hv.kd hj
      · have hj : j < a.2 5 := hj
        rw [upd_e, if_neg (by omega), if_neg (by omega)]; exact hv.wm hj
      · rw [upd_e, if_neg (by omega)]
        show _ = nI (fdN a 1 j)
        by_cases h : j < a.2 6
        · rw [if_pos (by omega), show p + 19 + j - (p + 19) = j by omega]
        · rw [if_neg (by omega), hv.fd hj]
          unfold fdN
          rw [if_neg (by omega)]
      · have hj : j < a.2 12 := hj
        rw [upd_e, if_neg (by omega), if_neg (by omega)]; exact hv.ln hj
      · have hj : j < a.2 12 := hj
        rw [upd_e, if_neg (by omega), if_neg (by omega)]; exact hv.pr hj
      · rw [upd_e, if_neg (by omega), if_neg (by omega)]; exact hv.b
      · rw [upd_e, if_neg (by omega), if_neg (by omega)]; exact hv.w
      · rw [upd_e, if_neg (by omega), if_neg (by omega)]; exact hv.s
      · rw [upd_e, if_neg (by omega), if_neg (by omega)]; exact hv.wd
      · rw [upd_e, if_neg (by omega), if_neg (by omega)]; exact hv.re
      · rw [upd_e, if_neg (by omega), if_neg (by omega)]; exact hv.u
      · rw [upd_e, if_pos rfl]; rfl
      · rw [upd_e, if_neg (by omega), if_neg (by omega)]; exact hv.r
    · intro q hq
      rw [upd_e, if_neg (by omega), if_neg (by omega)]
  · rw [L_0]
    congr 1
    rw [show (fun q => if p + 19 ≤ q ∧ q < p + 19 + 0 then nI (fdN a 1 (q - (p + 19))) else g.1 0 q) = g.1 0 from by funext q; rw [if_neg (by omega)], sA_id]
  · intro i hx
    have hf := hi.fd (show i < 12 by omega)
    have hPi : PV ((sA g 0 (fun q => if p + 19 ≤ q ∧ q < p + 19 + i then nI (fdN a 1 (q - (p + 19))) else g.1 0 q)).1 0) p (va_up a.1 2 (fun j => if j < i then fdN a 1 j else a.1 2 j), a.2) := by
      rw [sA_s]
      refine ⟨fun j hj => ?_, fun j hj => ?_, fun j hj => ?_, fun j hj => ?_, fun j hj => ?_, ?_, ?_, ?_, ?_, ?_, ?_, ?_, ?_⟩
      · have hj : j < a.2 5 := hj
        dsimp only; rw [if_neg (by omega)]; exact hv.kd hj
      · have hj : j < a.2 5 := hj
        dsimp only; rw [if_neg (by omega)]; exact hv.wm hj
      · dsimp only
        show _ = nI (if j < i then fdN a 1 j else a.1 2 j)
        by_cases h : j < i
        · rw [if_pos (by omega), if_pos h, show p + 19 + j - (p + 19) = j by omega]
        · rw [if_neg (by omega), if_neg h, hv.fd hj]
      · have hj : j < a.2 12 := hj
        dsimp only; rw [if_neg (by omega)]; exact hv.ln hj
      · have hj : j < a.2 12 := hj
        dsimp only; rw [if_neg (by omega)]; exact hv.pr hj
      · dsimp only; rw [if_neg (by omega)]; exact hv.b
      · dsimp only; rw [if_neg (by omega)]; exact hv.w
      · dsimp only; rw [if_neg (by omega)]; exact hv.s
      · dsimp only; rw [if_neg (by omega)]; exact hv.wd
      · dsimp only; rw [if_neg (by omega)]; exact hv.re
      · dsimp only; rw [if_neg (by omega)]; exact hv.u
      · dsimp only; rw [if_neg (by omega)]; exact hv.y
      · dsimp only; rw [if_neg (by omega)]; exact hv.r
    have hl := longOn_e hPi hp
    unfold mX8_yearOn_l2
    simp only
    rw [hl, obs]
    show (if nI (a.2 6) ≤ nI i then _ else _) = _
    rw [if_neg (nI_ge hx (by omega))]
    simp only [sA_s, L_15, L_16, L_19, nI_add, nI_1]
    rw [ald_nI (by omega) (by decide), obs, if_neg (show ¬ (p + 19 ≤ p + 15 ∧ p + 15 < p + 19 + i) by omega), hv.wd, abs8_e (by omega) (by omega), obs, ald_nI (by omega) (by decide), obs, if_neg (show ¬ (p + 19 ≤ p + 19 + i ∧ p + 19 + i < p + 19 + i) by omega), hv.fd (by omega), ald_nI (by omega) (by decide), obs, if_neg (show ¬ (p + 19 ≤ p + 16 ∧ p + 16 < p + 19 + i) by omega), hv.re, Int32.sub_add_cancel]
    have hd : distN i (a.2 8) < 1000 := by unfold distN; split <;> omega
    rw [ite_lt (by omega) (by omega)]
    have hge : a.1 2 i ≤ fdN a 1 i := by unfold fdN; split <;> omega
    have key : ∀ z : Option Int32, z = some (nI (fdN a 1 i - a.1 2 i)) → (Option.bind z fun v25 => Option.bind (ast 240 (fun q => if p + 19 ≤ q ∧ q < p + 19 + i then nI (fdN a 1 (q - (p + 19))) else g.1 0 q) (nI (p + 19 + i)) (nI (a.1 2 i) + v25)) fun f26 => some (Sum.inl (nI (i + 1), sA (sA g 0 (fun q => if p + 19 ≤ q ∧ q < p + 19 + i then nI (fdN a 1 (q - (p + 19))) else g.1 0 q)) 0 f26))) = some (Sum.inl (α := Int32 × GS) (β := Int32 × GS) (nI (i + 1), sA g 0 (fun q => if p + 19 ≤ q ∧ q < p + 19 + (i + 1) then nI (fdN a 1 (q - (p + 19))) else g.1 0 q))) := by
      intro z hz
      rw [hz, obs, nI_add, ast_nI (by omega) (by decide), obs, sA_sA]
      simp only [Option.some.injEq, Sum.inl.injEq, Prod.mk.injEq, true_and]
      congr 1
      funext q
      rw [upd_e]
      by_cases h1 : q = p + 19 + i
      · subst h1
        rw [if_pos rfl, if_pos (by omega), show p + 19 + i - (p + 19) = i by omega, show a.1 2 i + (fdN a 1 i - a.1 2 i) = fdN a 1 i by omega]
      · rw [if_neg h1]
        by_cases h2 : p + 19 ≤ q ∧ q < p + 19 + i
        · rw [if_pos h2, if_pos (by omega)]
        · rw [if_neg h2, if_neg (by omega)]
    refine key _ ?_
    unfold fdN
    by_cases h1 : a.2 9 < distN i (a.2 8)
    · rw [if_pos h1, if_neg (fun z => by have := dist_near.mpr z.2; omega), Nat.sub_self]; rfl
    · have := dist_near.mp (Nat.le_of_not_lt h1)
      rw [if_neg h1, if_pos (show i < a.2 6 ∧ i ≤ a.2 8 + a.2 9 ∧ a.2 8 ≤ i + a.2 9 by omega), obs]
      by_cases h2 : 99 ≤ a.1 2 i
      · rw [if_pos (show (99 : Int32) ≤ nI (a.1 2 i) from nI_le (a := 99) h2 (by omega)), show min 99 (a.1 2 i + 1) - a.1 2 i = 0 by omega]
        rfl
      · rw [if_neg (show ¬ (99 : Int32) ≤ nI (a.1 2 i) from nI_ge (b := 99) (by omega) (by decide)), show min 99 (a.1 2 i + 1) - a.1 2 i = 1 by omega]
        rfl
  · have hPi : (sA g 0 (fun q => if p + 19 ≤ q ∧ q < p + 19 + a.2 6 then nI (fdN a 1 (q - (p + 19))) else g.1 0 q)).1 0 (p + 13) = nI (a.2 6) - 12 := by
      rw [sA_s, if_neg (by omega)]; exact hv.w
    unfold mX8_yearOn_l2 mX8_longOn
    simp only [L_13, nI_add]
    rw [ald_nI (by omega) (by decide), obs, hPi, obs, Int32.sub_add_cancel, if_pos (nI_le (Nat.le_refl _) (by omega))]
theorem copies_e {g : GS} {i j : Nat} (hi : i + 40 ≤ 240) (hj : j + 40 ≤ 240) (hd : i + 40 ≤ j ∨ j + 40 ≤ i) : mX8_copies g (nI i) (nI j) = some (sA g 0 (fun q => if j ≤ q ∧ q < j + 40 then g.1 0 (i + (q - j)) else g.1 0 q)) := by
  unfold mX8_copies
  rw [whO_for (fun k => (nI k, sA g 0 (fun q => if j ≤ q ∧ q < j + k then g.1 0 (i + (q - j)) else g.1 0 q))) 40 (nI 40, sA g 0 (fun q => if j ≤ q ∧ q < j + 40 then g.1 0 (i + (q - j)) else g.1 0 q)) ?_ ?_ ?_ (by decide)]
  · rfl
  · rw [L_0]
    congr 1
    rw [show (fun q => if j ≤ q ∧ q < j + 0 then g.1 0 (i + (q - j)) else g.1 0 q) = g.1 0 from by funext q; rw [if_neg (by omega)], sA_id]
  · intro k hk
    unfold mX8_copies_l2
    simp only [nI_add, nI_1, sA_s]
    rw [if_neg (show ¬ (40 : Int32) ≤ nI k from nI_ge (b := 40) hk (by decide)), ald_nI (by omega) (by decide), obs, ast_nI (by omega) (by decide), obs, if_neg (by omega), sA_sA]
    simp only [Option.some.injEq, Sum.inl.injEq, Prod.mk.injEq, true_and]
    congr 1
    funext q
    rw [upd_e]
    by_cases h1 : q = j + k
    · subst h1
      rw [if_pos rfl, if_pos (by omega), show j + k - j = k by omega]
    · rw [if_neg h1]
      by_cases h2 : j ≤ q ∧ q < j + k
      · rw [if_pos h2, if_pos (by omega)]
      · rw [if_neg h2, if_neg (by omega)]
  · unfold mX8_copies_l2
    simp only
    rw [if_pos (show (40 : Int32) ≤ nI 40 from nI_le (a := 40) (Nat.le_refl _) (by decide))]
theorem PV.copied {f : Nat → Int32} {i j : Nat} {a : AH} (h : PV f i a) (hi : HI a) : PV (fun q => if j ≤ q ∧ q < j + 40 then f (i + (q - j)) else f q) j a := by
  have hb := hi.nb
  have e : ∀ k, k < 40 → (fun q => if j ≤ q ∧ q < j + 40 then f (i + (q - j)) else f q) (j + k) = f (i + k) := fun k hk => by
    show (if _ then _ else _) = _
    rw [if_pos (by omega), show j + k - j = k by omega]
  refine ⟨fun k hk => ?_, fun k hk => ?_, fun k hk => ?_, fun k hk => ?_, fun k hk => ?_, ?_, ?_, ?_, ?_, ?_, ?_, ?_, ?_⟩
  · rw [e _ (by omega)]; exact h.kd hk
  · rw [Nat.add_assoc, e _ (by omega), ← Nat.add_assoc]; exact h.wm hk
  · rw [Nat.add_assoc, e _ (by omega), ← Nat.add_assoc]; exact h.fd hk
  · rw [Nat.add_assoc, e _ (by omega), ← Nat.add_assoc]; exact h.ln hk
  · rw [Nat.add_assoc, e _ (by omega), ← Nat.add_assoc]; exact h.pr hk
  · rw [e _ (by omega)]; exact h.b
  · rw [e _ (by omega)]; exact h.w
  · rw [e _ (by omega)]; exact h.s
  · rw [e _ (by omega)]; exact h.wd
  · rw [e _ (by omega)]; exact h.re
  · rw [e _ (by omega)]; exact h.u
  · rw [e _ (by omega)]; exact h.y
  · rw [e _ (by omega)]; exact h.r
theorem copies_p {g : GS} {i j : Nat} {a : AH} (hv : PV (g.1 0) i a) (ha : HI a) (hi : i + 40 ≤ 240) (hj : j + 40 ≤ 240) (hd : i + 40 ≤ j ∨ j + 40 ≤ i) : ∃ f', mX8_copies g (nI i) (nI j) = some (sA g 0 f') ∧ PV f' j a ∧ FrP (g.1 0) f' j :=
  ⟨_, copies_e hi hj hd, hv.copied ha, fun q hq => if_neg (by omega)⟩
theorem FrP.trans {f f1 f2 : Nat → Int32} {p : Nat} (h1 : FrP f f1 p) (h2 : FrP f1 f2 p) : FrP f f2 p := fun q hq => (h2 q hq).trans (h1 q hq)
theorem yearsGo_e {g : GS} {p n : Nat} {a : AH} (hv : PV (g.1 0) p a) (hi : HI a) (hp : p + 40 ≤ 160 ∨ p = 200) (hn : n < 100) (hy : a.2 11 ≤ 999) : ∃ f', mX8_yearsGo g (nI p) (nI n) = some (sA g 0 f') ∧ PV f' 160 (passA n a) ∧ FrP (g.1 0) f' 160 := by
  have hb := hi.nb
  unfold mX8_yearsGo
  obtain ⟨f1, h1, h2, h3⟩ := copies_p (j := 160) hv hi (by omega) (by omega) (by omega)
  rw [L_160, h1, obs]
  have hs : ∀ (i : Nat) (s : Int32 × GS), i < n → (s.1 = nI i ∧ ∃ f', s.2 = sA g 0 f' ∧ PV f' 160 (passA i a) ∧ FrP (g.1 0) f' 160) → (∃ s', mX8_yearsGo_l10 (nI n) s = some (.inl s') ∧ (s'.1 = nI (i + 1) ∧ ∃ f', s'.2 = sA g 0 f' ∧ PV f' 160 (passA (i + 1) a) ∧ FrP (g.1 0) f' 160)) ∨ ∃ x, mX8_yearsGo_l10 (nI n) s = some (.inr x) ∧ ∃ f', x.2 = sA g 0 f' ∧ PV f' 160 (passA n a) ∧ FrP (g.1 0) f' 160 := by
    intro i s hlt ⟨e1, f', e2, e3, e4⟩
    left
    obtain ⟨s1, s2⟩ := s
    simp only at e1 e2
    subst e1 e2
    obtain ⟨f2, k1, k2, k3⟩ := yearOn_e (g := sA g 0 f') (p := 160) (by rw [sA_s]; exact e3) (by decide) (passA_HI hi i (by omega))
    refine ⟨(nI (i + 1), sA g 0 f2), ?_, rfl, f2, rfl, ?_, ?_⟩
    · unfold mX8_yearsGo_l10
      simp only
      rw [if_neg (nI_ge hlt (by omega)), L_160, k1, obs, sA_sA, nI_1]
    · rw [← passA_add]; exact k2
    · rw [sA_s] at k3; exact e4.trans k3
  have hx : ∀ s : Int32 × GS, (s.1 = nI n ∧ ∃ f', s.2 = sA g 0 f' ∧ PV f' 160 (passA n a) ∧ FrP (g.1 0) f' 160) → ∃ x, mX8_yearsGo_l10 (nI n) s = some (.inr x) ∧ ∃ f', x.2 = sA g 0 f' ∧ PV f' 160 (passA n a) ∧ FrP (g.1 0) f' 160 := by
    intro s ⟨e1, f', e2, e3, e4⟩
    obtain ⟨s1, s2⟩ := s
    simp only at e1 e2
    subst e1 e2
    refine ⟨(nI n, sA g 0 f'), ?_, f', rfl, e3, e4⟩
    unfold mX8_yearsGo_l10
    simp only
    rw [if_pos (nI_le (Nat.le_refl _) (by omega))]
  obtain ⟨x, h5, f', e1, e2, e3⟩ := whO_inv (fun (i : Nat) (s : Int32 × GS) => s.1 = nI i ∧ ∃ f', s.2 = sA g 0 f' ∧ PV f' 160 (passA i a) ∧ FrP (g.1 0) f' 160) n (fun (x : Int32 × GS) => ∃ f', x.2 = sA g 0 f' ∧ PV f' 160 (passA n a) ∧ FrP (g.1 0) f' 160) hs hx ((0 : Int32), sA g 0 f1) ⟨rfl, f1, rfl, by rw [pass0 hi]; exact h2, h3⟩ (by omega)
  exact ⟨f', by rw [h5, obs, e1], e2, e3⟩
