/-! plain facts on the mirrors' own words -/
theorem whO_run {σ ε : Type} {f : σ → Option (σ ⊕ ε)} (st : Nat → σ) (N : Nat) (x : ε) (hs : ∀ i, i < N → f (st i) = some (.inl (st (i + 1)))) (hx : f (st N) = some (.inr x)) : ∀ n, N < n → whO f n (st 0) = some x := by
  have key : ∀ d k, k + d = N → ∀ n, d < n → whO f n (st k) = some x := by
    intro d
    induction d with
    | zero =>
      intro k hk n hn
      obtain ⟨m, rfl⟩ : ∃ m, n = m + 1 := ⟨n - 1, by omega⟩
      have e : k = N := by omega
      subst e
      simp only [whO, hx, Option.bind_some]
    | succ d ih =>
      intro k hk n hn
      obtain ⟨m, rfl⟩ : ∃ m, n = m + 1 := ⟨n - 1, by omega⟩
      simp only [whO, hs k (by omega), Option.bind_some]
      exact ih (k + 1) (by omega) m (by omega)
  intro n hn
  exact key N 0 (by omega) n hn
theorem whO_for {σ ε : Type} {f : σ → Option (σ ⊕ ε)} {s0 : σ} (st : Nat → σ) (N : Nat) (x : ε) (h0 : s0 = st 0) (hs : ∀ i, i < N → f (st i) = some (.inl (st (i + 1)))) (hx : f (st N) = some (.inr x)) (hN : N < 1000000) : whO f FU s0 = some x := by
  subst h0
  exact whO_run st N x hs hx FU hN
theorem ald_nI {n : Nat} {f : Nat → Int32} {k : Nat} (h : k < n) (hn : n < 2 ^ 31) : ald n f (nI k) = some (f k) := by
  unfold ald
  rw [if_neg (nI_in h hn), nI_clamp (by omega)]
theorem ast_nI {n : Nat} {f : Nat → Int32} {k : Nat} {x : Int32} (h : k < n) (hn : n < 2 ^ 31) : ast n f (nI k) x = some (upd f k x) := by
  unfold ast
  rw [if_neg (nI_in h hn), nI_clamp (by omega)]
theorem aldL_nI {n : Nat} {f : Nat → Int64} {k : Nat} (h : k < n) (hn : n < 2 ^ 31) : aldL n f (nI k) = some (f k) := by
  unfold aldL
  rw [if_neg (nI_in h hn), nI_clamp (by omega)]
theorem astL_nI {n : Nat} {f : Nat → Int64} {k : Nat} {x : Int64} (h : k < n) (hn : n < 2 ^ 31) : astL n f (nI k) x = some (vp_updL f k x) := by
  unfold astL
  rw [if_neg (nI_in h hn), nI_clamp (by omega)]
theorem fill_i (f : Nat → Int32) (n : Nat) (x : Int32) (hn : n < 1000000) : mJ7_fill_53178 f n x = some (fun j => if j < n then x else f j) := by
  unfold mJ7_fill_53178
  rw [whO_for (fun i => (nI i, fun j => if j < i then x else f j)) n (nI n, fun j => if j < n then x else f j) (by simp [nI_0]) ?_ ?_ hn]
  · rfl
  · intro i hi
    unfold mJ7_fill_53178_l5
    simp only
    rw [if_neg (nI_ge hi (by omega)), ast_nI hi (by omega)]
    simp only [Option.bind_some, Option.some.injEq, Sum.inl.injEq, Prod.mk.injEq]
    refine ⟨nI_1 i, ?_⟩
    funext j
    unfold upd
    by_cases h1 : j = i
    · subst h1; simp
    · by_cases h2 : j < i
      · simp [h1, h2, show j < i + 1 by omega]
      · simp [h1, h2, show ¬ j < i + 1 by omega]
  · unfold mJ7_fill_53178_l5
    simp only
    rw [if_pos (nI_le (Nat.le_refl n) (by omega))]
theorem fill_l (f : Nat → Int64) (n : Nat) (x : Int64) (hn : n < 1000000) : mJ7_fill_d0a16 f n x = some (fun j => if j < n then x else f j) := by
  unfold mJ7_fill_d0a16
  rw [whO_for (fun i => (nI i, fun j => if j < i then x else f j)) n (nI n, fun j => if j < n then x else f j) (by simp [nI_0]) ?_ ?_ hn]
  · rfl
  · intro i hi
    unfold mJ7_fill_d0a16_l6
    simp only
    rw [if_neg (nI_ge hi (by omega)), astL_nI hi (by omega)]
    simp only [Option.bind_some, Option.some.injEq, Sum.inl.injEq, Prod.mk.injEq]
    refine ⟨nI_1 i, ?_⟩
    funext j
    unfold vp_updL
    by_cases h1 : j = i
    · subst h1; simp
    · by_cases h2 : j < i
      · simp [h1, h2, show j < i + 1 by omega]
      · simp [h1, h2, show ¬ j < i + 1 by omega]
  · unfold mJ7_fill_d0a16_l6
    simp only
    rw [if_pos (nI_le (Nat.le_refl n) (by omega))]
def zGS : GS := (fun _ _ => 0, fun _ => 0)
def hall0 : GS := (fun _ _ => 0, fun k => if k = 6 then 12 else if k = 9 then 2 else if k = 10 then -4 else 0)
theorem clear_z : mX0_clear zGS = some hall0 := by
  unfold mX0_clear
  rw [fill_i _ 12 _ (by decide)]
  simp only [Option.bind_some, Option.some.injEq]
  unfold sA sI hall0 zGS va_up
  refine Prod.ext ?_ ?_
  · funext k j
    by_cases h : k = 2
    · simp [h]
    · simp [h]
  · funext k
    show (if k = 12 then (0 : Int32) else if k = 11 then 0 else if k = 10 then -4 else if k = 9 then 2 else if k = 8 then 0 else if k = 7 then 0 else if k = 6 then 12 else if k = 5 then 0 else 0) = _
    by_cases h6 : k = 6
    · subst h6; rfl
    · by_cases h9 : k = 9
      · subst h9; rfl
      · by_cases h10 : k = 10
        · subst h10; rfl
        · simp [h6, h9, h10]
