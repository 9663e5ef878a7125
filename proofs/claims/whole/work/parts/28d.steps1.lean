/-! Rel under change; the calls that only read -/
theorem Rel.upd {F F' : FS} {M M' : GS} (hR : Rel F M) (hh : HP (F'.1 0) (M'.1 0) 0) (hG : ∀ k, 2 ≤ k → k ≠ 7 → F'.1 k = F.1 k) (hI : F'.2.1 = F.2.1) (hf : ∀ q, 40 ≤ q → q < 120 → M'.1 0 q = M.1 0 q) (hM : ∀ k, k ≠ 0 → k ≠ 14 → k ≠ 15 → k ≠ 18 → M'.1 k = M.1 k) (hi : M'.2 = M.2) : Rel F' M' := by
  obtain ⟨h1, h2, h3, h4, h5, h6, h7, h8, h9⟩ := hR
  refine ⟨hh, ?_, ?_, ?_, ?_, ?_, ?_, ?_, ?_⟩
  · intro k hk
    obtain ⟨v, a1, a2, a3, a4⟩ := h2 k hk
    refine ⟨v, a1, by rw [hI]; exact a2, by rw [hM 19 (by decide) (by decide) (by decide) (by decide)]; exact a3, fun hv => ?_⟩
    obtain ⟨a, b1, b2, b3, b4⟩ := a4 hv
    refine ⟨a, by rw [hG _ (by omega) (by omega)]; exact b1, ?_, b3, b4⟩
    have hb := b3.nb
    have e : ∀ q, 40 * (k + 1) ≤ q → q < 40 * (k + 1) + 40 → M'.1 0 q = M.1 0 q := fun q q1 q2 => hf q (by omega) (by omega)
    refine ⟨fun j hj => ?_, fun j hj => ?_, fun j hj => ?_, fun j hj => ?_, fun j hj => ?_, ?_, ?_, ?_, ?_, ?_, ?_, ?_, ?_⟩
    · rw [e _ (by omega) (by omega)]; exact b2.kd hj
    · rw [e _ (by omega) (by omega)]; exact b2.wm hj
    · rw [e _ (by omega) (by omega)]; exact b2.fd hj
    · rw [e _ (by omega) (by omega)]; exact b2.ln hj
    · rw [e _ (by omega) (by omega)]; exact b2.pr hj
    · rw [e _ (by omega) (by omega)]; exact b2.b
    · rw [e _ (by omega) (by omega)]; exact b2.w
    · rw [e _ (by omega) (by omega)]; exact b2.s
    · rw [e _ (by omega) (by omega)]; exact b2.wd
    · rw [e _ (by omega) (by omega)]; exact b2.re
    · rw [e _ (by omega) (by omega)]; exact b2.u
    · rw [e _ (by omega) (by omega)]; exact b2.y
    · rw [e _ (by omega) (by omega)]; exact b2.r
  · obtain ⟨n, a1, a2, a3, a4⟩ := h3
    exact ⟨n, a1, by rw [hG 4 (by decide) (by decide)]; exact a2, by rw [hi]; exact a3, fun j hj => by rw [hG 4 (by decide) (by decide), hM 3 (by decide) (by decide) (by decide) (by decide)]; exact a4 j hj⟩
  · rw [hG 4 (by decide) (by decide), hi]; exact h4
  · obtain ⟨n, a1, a2, a3, a4⟩ := h5
    exact ⟨n, a1, by rw [hG 6 (by decide) (by decide)]; exact a2, by rw [hi]; exact a3, fun j hj => by rw [hG 6 (by decide) (by decide), hM 16 (by decide) (by decide) (by decide) (by decide)]; exact a4 j hj⟩
  · intro k hk
    unfold RelR
    rw [hG (8 + k) (by omega) (by omega), hM 20 (by decide) (by decide) (by decide) (by decide), hM 21 (by decide) (by decide) (by decide) (by decide), hM 22 (by decide) (by decide) (by decide) (by decide)]
    exact h6 k hk
  · rw [hI, hi]; exact h7
  · rw [hM 12 (by decide) (by decide) (by decide) (by decide)]; exact h8
  · rw [hM 13 (by decide) (by decide) (by decide) (by decide)]; exact h9
/-- the hall alone, and the page 0 -/
theorem Rel.hall {F : FS} {M : GS} (hR : Rel F M) {g' : GS} {f' : Nat → Int32} (hh : HP g' f' 0) (hf : ∀ q, 40 ≤ q → q < 120 → f' q = M.1 0 q) : Rel (va_up F.1 0 g', F.2.1, F.2.2) (sA M 0 f') := by
  refine hR.upd ?_ ?_ rfl ?_ ?_ rfl
  · show HP (va_up F.1 0 g' 0) ((sA M 0 f').1 0) 0
    rw [sA_s]; exact hh
  · intro k h1 h2
    show va_up F.1 0 g' k = F.1 k
    rw [up_e, if_neg (by omega)]
  · intro q h1 h2
    rw [sA_s]; exact hf q h1 h2
  · intro k h1 _ _ _
    exact sA_n M f' h1
/-- nothing has changed but scratch: the trial, pages from 120 on -/
theorem Rel.scratch {F : FS} {M : GS} (hR : Rel F M) (g' : GS) {f' : Nat → Int32} (hf : ∀ q, q < 120 → f' q = M.1 0 q) : Rel (va_up F.1 1 g', F.2.1, F.2.2) (sA M 0 f') := by
  have hR0 := hR
  obtain ⟨⟨a, h1, h2, h3, h4⟩, -⟩ := hR0
  refine hR.upd ?_ ?_ rfl ?_ ?_ rfl
  · refine ⟨a, ?_, ?_, h3, h4⟩
    · show HV (va_up F.1 1 g' 0) a
      exact h1
    · rw [sA_s]
      have hb := h3.nb
      refine ⟨fun j hj => ?_, fun j hj => ?_, fun j hj => ?_, fun j hj => ?_, fun j hj => ?_, ?_, ?_, ?_, ?_, ?_, ?_, ?_, ?_⟩
      · rw [hf _ (by omega)]; exact h2.kd hj
      · rw [hf _ (by omega)]; exact h2.wm hj
      · rw [hf _ (by omega)]; exact h2.fd hj
      · rw [hf _ (by omega)]; exact h2.ln hj
      · rw [hf _ (by omega)]; exact h2.pr hj
      · rw [hf _ (by omega)]; exact h2.b
      · rw [hf _ (by omega)]; exact h2.w
      · rw [hf _ (by omega)]; exact h2.s
      · rw [hf _ (by omega)]; exact h2.wd
      · rw [hf _ (by omega)]; exact h2.re
      · rw [hf _ (by omega)]; exact h2.u
      · rw [hf _ (by omega)]; exact h2.y
      · rw [hf _ (by omega)]; exact h2.r
  · intro k h1 h2
    show va_up F.1 1 g' k = F.1 k
    rw [up_e, if_neg (by omega)]
  · intro q h1 h2
    rw [sA_s]; exact hf q (by omega)
  · intro k h1 _ _ _
    exact sA_n M f' h1
theorem st_fault {F : FS} {M : GS} (hR : Rel F M) : ∃ (o : Int32) (o' : Int32), mX7_fault (F.1 4) = some o ∧ mX8_fault M = some o' ∧ o = o' ∧ Rel F M := ⟨_, _, rfl, rfl, hR.2.2.2.1, hR⟩
theorem st_torn {F : FS} {M : GS} (hR : Rel F M) : ∃ (o : Int32) (o' : Int32), mX7_torn (F.2.1 2) = some o ∧ mX8_torn M = some o' ∧ o = o' ∧ Rel F M := ⟨_, _, rfl, rfl, hR.2.2.2.2.2.2.1, hR⟩
theorem P0.b {f : Nat → Int32} {a : AH} (h : PV f 0 a) : f 12 = nI (a.2 5) := h.b
theorem P0.w {f : Nat → Int32} {a : AH} (h : PV f 0 a) : f 13 = nI (a.2 6) - 12 := h.w
theorem P0.s {f : Nat → Int32} {a : AH} (h : PV f 0 a) : f 14 = nI (a.2 7) := h.s
theorem P0.wd {f : Nat → Int32} {a : AH} (h : PV f 0 a) : f 15 = nI (a.2 8) := h.wd
theorem P0.re {f : Nat → Int32} {a : AH} (h : PV f 0 a) : f 16 = nI (a.2 9) - 2 := h.re
theorem P0.u {f : Nat → Int32} {a : AH} (h : PV f 0 a) : f 17 = nI (a.2 10) := h.u
theorem P0.y {f : Nat → Int32} {a : AH} (h : PV f 0 a) : f 18 = nI (a.2 11) := h.y
theorem P0.r {f : Nat → Int32} {a : AH} (h : PV f 0 a) : f 39 = nI (a.2 12) := h.r
theorem P0.kd {f : Nat → Int32} {a : AH} (h : PV f 0 a) {j : Nat} (hj : j < a.2 5) : f j = nI (a.1 0 j) := by have := h.kd hj; rwa [Nat.zero_add] at this
theorem P0.wm {f : Nat → Int32} {a : AH} (h : PV f 0 a) {j : Nat} (hj : j < a.2 5) : f (6 + j) = nI (a.1 1 j) := by have := h.wm hj; rwa [Nat.zero_add] at this
theorem P0.fd {f : Nat → Int32} {a : AH} (h : PV f 0 a) {j : Nat} (hj : j < 12) : f (19 + j) = nI (a.1 2 j) := by have := h.fd hj; rwa [Nat.zero_add] at this
theorem P0.ln {f : Nat → Int32} {a : AH} (h : PV f 0 a) {j : Nat} (hj : j < a.2 12) : f (31 + j) = nI (a.1 3 j) := by have := h.ln hj; rwa [Nat.zero_add] at this
theorem P0.pr {f : Nat → Int32} {a : AH} (h : PV f 0 a) {j : Nat} (hj : j < a.2 12) : f (35 + j) = nI (a.1 4 j) := by have := h.pr hj; rwa [Nat.zero_add] at this
theorem ups_e {k : Nat} (hk : k ≤ 12) : (if nI k = 0 then some (-4 : Int32) else Option.bind (some (nI k)) fun v14 => some (v14 - (1 : Int32))) = some (upv k) := by
  unfold upv
  by_cases h : k = 0
  · subst h; rfl
  · rw [if_neg (nI_ne0 (by omega) (by omega)), if_neg h, obs, L_1, pk_sub (by omega)]
theorem aldk {f : Nat → Int32} (k : Nat) (h : k < 240) : ald 240 f (nI k) = some (f k) := ald_nI h (by decide)
theorem st_rule {F : FS} {M : GS} (hR : Rel F M) (n : Int32) : ∃ (o : Int32) (o' : Int32), mX7_rule (F.1 0) n = some o ∧ mX8_rule M n = some o' ∧ o = o' ∧ Rel F M := by
  obtain ⟨⟨a, hv, hp, hi, hy⟩, -⟩ := id hR
  have hb := hi.nb
  unfold mX7_rule mX8_rule
  by_cases c0 : n = 0
  · subst c0
    rw [if_pos rfl, if_pos rfl, hv.b, L_12, aldk 12 (by decide), obs, P0.b hp]
    exact ⟨_, _, rfl, rfl, rfl, hR⟩
  by_cases c1 : n = 1
  · subst c1
    rw [if_neg c0, if_neg c0, if_pos rfl, if_pos rfl, hv.w, L_0, longOn_e hp (by decide), obs]
    exact ⟨_, _, rfl, rfl, rfl, hR⟩
  by_cases c2 : n = 2
  · subst c2
    rw [if_neg c0, if_neg c0, if_neg c1, if_neg c1, if_pos rfl, if_pos rfl, hv.s, L_14, aldk 14 (by decide), obs, P0.s hp]
    exact ⟨_, _, rfl, rfl, rfl, hR⟩
  by_cases c3 : n = 3
  · subst c3
    rw [if_neg c0, if_neg c0, if_neg c1, if_neg c1, if_neg c2, if_neg c2, if_pos rfl, if_pos rfl, hv.wd, L_15, aldk 15 (by decide), obs, P0.wd hp]
    exact ⟨_, _, rfl, rfl, rfl, hR⟩
  by_cases c4 : n = 4
  · subst c4
    rw [if_neg c0, if_neg c0, if_neg c1, if_neg c1, if_neg c2, if_neg c2, if_neg c3, if_neg c3, if_pos rfl, if_pos rfl, hv.re, L_16, aldk 16 (by decide), obs, P0.re hp, Int32.sub_add_cancel]
    exact ⟨_, _, rfl, rfl, rfl, hR⟩
  by_cases c5 : n = 5
  · subst c5
    rw [if_neg c0, if_neg c0, if_neg c1, if_neg c1, if_neg c2, if_neg c2, if_neg c3, if_neg c3, if_neg c4, if_neg c4, if_pos rfl, if_pos rfl, hv.u, L_17, aldk 17 (by decide), obs, P0.u hp, ups_e (by omega)]
    exact ⟨_, _, rfl, rfl, rfl, hR⟩
  by_cases c6 : n = 6
  · subst c6
    rw [if_neg c0, if_neg c0, if_neg c1, if_neg c1, if_neg c2, if_neg c2, if_neg c3, if_neg c3, if_neg c4, if_neg c4, if_neg c5, if_neg c5, if_pos rfl, if_pos rfl, hv.y, L_18, aldk 18 (by decide), obs, P0.y hp]
    exact ⟨_, _, rfl, rfl, rfl, hR⟩
  by_cases c7 : n = 7
  · subst c7
    rw [if_neg c0, if_neg c0, if_neg c1, if_neg c1, if_neg c2, if_neg c2, if_neg c3, if_neg c3, if_neg c4, if_neg c4, if_neg c5, if_neg c5, if_neg c6, if_neg c6, if_pos rfl, if_pos rfl, frankOfAll_e hv hi, obs, L_0, frankOfAll8_e hp (by decide) hi, obs]
    exact ⟨_, _, rfl, rfl, rfl, hR⟩
  by_cases c8 : n = 8
  · subst c8
    rw [if_neg c0, if_neg c0, if_neg c1, if_neg c1, if_neg c2, if_neg c2, if_neg c3, if_neg c3, if_neg c4, if_neg c4, if_neg c5, if_neg c5, if_neg c6, if_neg c6, if_neg c7, if_neg c7, if_pos rfl, if_pos rfl, hv.r, L_39, aldk 39 (by decide), obs, P0.r hp]
    exact ⟨_, _, rfl, rfl, rfl, hR⟩
  rw [if_neg c0, if_neg c0, if_neg c1, if_neg c1, if_neg c2, if_neg c2, if_neg c3, if_neg c3, if_neg c4, if_neg c4, if_neg c5, if_neg c5, if_neg c6, if_neg c6, if_neg c7, if_neg c7, if_neg c8, if_neg c8]
  exact ⟨_, _, rfl, rfl, rfl, hR⟩
