/-! the calls on a PLACE, a ROLL; the changes -/
theorem out_ne {n : Int32} {N : Nat} (h : n < 0 ∨ N ≤ n.toNatClampNeg) {k : Nat} (hk : k < N) (hN : N < 2 ^ 31) : ¬ n = nI k := by
  intro e
  subst e
  rw [nI_clamp (by omega)] at h
  rcases h with h | h
  · exact nI_pos (by omega) h
  · omega
theorem in_k (x : Int32) (N : Nat) {z : Int64} (hN : N < 2 ^ 30) (hz : z.toInt = (N : Int) - 1) : mX8_in x.toInt64 0 z = some (zb x N) := in_zb x hN hz
theorem st_place {F : FS} {M : GS} (hR : Rel F M) (i : Int32) (n : Int32) : ∃ (o : Int32) (o' : Int32), mX7_place (F.1 0) i n = some o ∧ mX8_place M i n = some o' ∧ o = o' ∧ Rel F M := by
  obtain ⟨⟨a, hv, hp, hi, hy⟩, -⟩ := id hR
  have hb := hi.nb
  unfold mX7_place mX8_place
  rw [hasPlace_e hv hi, obs, isPlace_e hp hi, obs, in_k n 3 (by decide) (by decide), obs]
  rcases cs i (a.2 6) (by omega) with h | ⟨k, hk, rfl⟩
  · rw [zb_n h, if_pos rfl, if_pos rfl]
    exact ⟨_, _, rfl, rfl, rfl, hR⟩
  · rw [zb_y hk (by omega), if_neg (by decide), if_neg (by decide)]
    rcases cs n 3 (by decide) with h | ⟨m, hm, rfl⟩
    · rw [zb_n h, if_pos rfl, if_neg (out_ne h (k := 0) (by decide) (by decide)), if_neg (out_ne h (k := 1) (by decide) (by decide)), if_neg (out_ne h (k := 2) (by decide) (by decide))]
      exact ⟨_, _, rfl, rfl, rfl, hR⟩
    · rw [zb_y hm (by omega), if_neg (by decide)]
      rcases (show m = 0 ∨ m = 1 ∨ m = 2 by omega) with rfl | rfl | rfl
      · rw [if_pos rfl, if_pos rfl, whoAt_e hv hi (by omega), obs, L_0, whoOn_e hp (by decide) hi (by omega), obs]
        exact ⟨_, _, rfl, rfl, rfl, hR⟩
      · rw [if_neg (by decide), if_neg (by decide), if_pos rfl, if_pos rfl, ald_nI (by omega) (by decide), obs, hv.fd (by omega), L_19, nI_add, aldk _ (by omega), obs, P0.fd hp (by omega)]
        exact ⟨_, _, rfl, rfl, rfl, hR⟩
      · rw [if_neg (by decide), if_neg (by decide), if_neg (by decide), if_neg (by decide), if_pos rfl, frankAt_e hv hi hk, obs, L_0, frankOn_e hp (by decide) hi (by omega), obs]
        exact ⟨_, _, rfl, rfl, rfl, hR⟩
theorem st_roll {F : FS} {M : GS} (hR : Rel F M) (r : Int32) (n : Int32) : ∃ (o : Int32) (o' : Int32), mX7_roll (F.1 0) r n = some o ∧ mX8_roll M r n = some o' ∧ o = o' ∧ Rel F M := by
  obtain ⟨⟨a, hv, hp, hi, hy⟩, -⟩ := id hR
  have hb := hi.nb
  unfold mX7_roll mX8_roll
  rw [hasRoll_e hv hi, obs, isRoll_e hp hi, obs, in_k n 2 (by decide) (by decide), obs]
  rcases cs r (a.2 12) (by omega) with h | ⟨k, hk, rfl⟩
  · rw [zb_n h, if_pos rfl, if_pos rfl]
    exact ⟨_, _, rfl, rfl, rfl, hR⟩
  · rw [zb_y hk (by omega), if_neg (by decide), if_neg (by decide)]
    rcases cs n 2 (by decide) with h | ⟨m, hm, rfl⟩
    · rw [zb_n h, if_pos rfl, if_neg (out_ne h (k := 0) (by decide) (by decide)), if_neg (out_ne h (k := 1) (by decide) (by decide))]
      exact ⟨_, _, rfl, rfl, rfl, hR⟩
    · rw [zb_y hm (by omega), if_neg (by decide), L_31, L_4, pk_mul, nI_add, nI_add]
      rcases (show m = 0 ∨ m = 1 by omega) with rfl | rfl
      · rw [if_pos rfl, ald_nI (by omega) (by decide), obs, hv.ln hk, aldk _ (by omega), obs, show 31 + 4 * 0 + k = 31 + k by omega, P0.ln hp hk]
        exact ⟨_, _, rfl, rfl, rfl, hR⟩
      · rw [if_neg (by decide), if_pos rfl, ald_nI (by omega) (by decide), obs, hv.pr hk, aldk _ (by omega), obs, show 31 + 4 * 1 + k = 35 + k by omega, P0.pr hp hk]
        exact ⟨_, _, rfl, rfl, rfl, hR⟩
/-- the same, where nothing is changed: states that hold what they held -/
theorem Rel.same0 {F : FS} {M : GS} (hR : Rel F M) : Rel (va_up F.1 0 (F.1 0), F.2.1, F.2.2) M := by
  have e : va_up F.1 0 (F.1 0) = F.1 := by
    funext k; rw [up_e]; split
    · rename_i h; rw [h]
    · rfl
  rw [e]; exact hR
theorem Rel.same4 {F : FS} {M : GS} (hR : Rel F M) (j : Nat) : Rel (va_up F.1 j (F.1 j), F.2.1, F.2.2) M := by
  have e : va_up F.1 j (F.1 j) = F.1 := by
    funext k; rw [up_e]; split
    · rename_i h; rw [h]
    · rfl
  rw [e]; exact hR
/-- the page 0 with one place new -/
theorem st_paint {F : FS} {M : GS} (hR : Rel F M) (i : Int32) (x : Int32) : ∃ (o : Int32 × GS) (o' : Int32 × GS), mX7_paint (F.1 0) i x = some o ∧ mX8_paint M i x = some o' ∧ o.1 = o'.1 ∧ Rel ((va_up F.1 0 o.2), F.2.1, F.2.2) o'.2 := by
  obtain ⟨⟨a, hv, hp, hi, hy⟩, -⟩ := id hR
  have hb := hi.nb
  unfold mX7_paint mX8_paint mX8_puts
  rw [hasPlace_e hv hi, obs, isPlace_e hp hi, obs, in_k x 100 (by decide) (by decide), obs]
  rcases cs i (a.2 6) (by omega) with h | ⟨k, hk, rfl⟩
  · rw [zb_n h, if_pos rfl, if_pos rfl, obs, if_pos rfl]
    exact ⟨_, _, rfl, rfl, rfl, hR.same0⟩
  · rw [zb_y hk (by omega), if_neg (by decide), if_neg (by decide)]
    rcases cs x 100 (by decide) with h | ⟨v, hx, rfl⟩
    · rw [zb_n h, if_pos rfl, obs, if_pos rfl]
      by_cases h0 : x < 0
      · rw [if_pos h0]
        exact ⟨_, _, rfl, rfl, rfl, hR.same0⟩
      · rw [if_neg h0, if_neg (by
          obtain ⟨m, hm, rfl⟩ := nI_of h0
          rw [nI_clamp hm] at h
          exact fun z => absurd ((nI_leI (b := 99) hm (by decide)).mp z) (by omega))]
        exact ⟨_, _, rfl, rfl, rfl, hR.same0⟩
    · rw [zb_y hx (by omega), if_neg (show ¬ (1 : Int32) = 0 by decide), obs, if_neg (show ¬ (1 : Int32) = 0 by decide), if_neg (nI_pos (by omega)), if_pos (show nI v ≤ (99 : Int32) from nI_le (b := 99) (by omega) (by decide)), ald_nI (by omega) (by decide), obs, ast_nI (by omega) (by decide), obs, L_19, nI_add, aldk _ (by omega), obs, ast_nI (by omega) (by decide), obs, obs, hv.fd (by omega), P0.fd hp (by omega)]
      refine ⟨_, _, rfl, rfl, ?_, ?_⟩
      · exact (Int32.add_zero _).symm
      · refine hR.hall (g' := sA (F.1 0) 2 (upd ((F.1 0).1 2) k (nI v))) (f' := upd (M.1 0) (19 + k) (nI v - 0)) ?_ ?_
        · refine ⟨(va_up a.1 2 (va_up (a.1 2) k v), a.2), ?_, ?_, ?_, hy⟩
          · refine ⟨fun j hj => hv.kd hj, fun j hj => hv.wm hj, fun j hj => ?_, fun j hj => hv.ln hj, fun j hj => hv.pr hj, hv.b, hv.w, hv.s, hv.wd, hv.re, hv.u, hv.y, hv.r⟩
            show upd ((F.1 0).1 2) k (nI v) j = nI (va_up (a.1 2) k v j)
            rw [upd_e, up_e]
            split
            · rfl
            · exact hv.fd hj
          · refine ⟨fun j hj => ?_, fun j hj => ?_, fun j hj => ?_, fun j hj => ?_, fun j hj => ?_, ?_, ?_, ?_, ?_, ?_, ?_, ?_, ?_⟩
            · have hj : j < a.2 5 := hj
              rw [upd_e, if_neg (by omega)]; exact hp.kd hj
            · have hj : j < a.2 5 := hj
              rw [upd_e, if_neg (by omega)]; exact hp.wm hj
            · show _ = nI (va_up (a.1 2) k v j)
              rw [upd_e, up_e, Int32.sub_zero]
              by_cases e : j = k
              · rw [if_pos (by omega), if_pos e]
              · rw [if_neg (by omega), if_neg e]; exact hp.fd hj
            · have hj : j < a.2 12 := hj
              rw [upd_e, if_neg (by omega)]; exact hp.ln hj
            · have hj : j < a.2 12 := hj
              rw [upd_e, if_neg (by omega)]; exact hp.pr hj
            · rw [upd_e, if_neg (by omega)]; exact hp.b
            · rw [upd_e, if_neg (by omega)]; exact hp.w
            · rw [upd_e, if_neg (by omega)]; exact hp.s
            · rw [upd_e, if_neg (by omega)]; exact hp.wd
            · rw [upd_e, if_neg (by omega)]; exact hp.re
            · rw [upd_e, if_neg (by omega)]; exact hp.u
            · rw [upd_e, if_neg (by omega)]; exact hp.y
            · rw [upd_e, if_neg (by omega)]; exact hp.r
          · refine ⟨hb.1, hb.2.1, hb.2.2.1, hb.2.2.2.1, hb.2.2.2.2.1, hb.2.2.2.2.2.1, hb.2.2.2.2.2.2.1, hb.2.2.2.2.2.2.2.1, hb.2.2.2.2.2.2.2.2, fun j hj => ⟨hi.kd hj, hi.wm hj⟩, fun j hj => ?_, fun j hj => hi.rl hj⟩
            show va_up (a.1 2) k v j ≤ 99
            rw [up_e]
            split
            · omega
            · exact hi.fd hj
        · intro q h1 h2
          rw [upd_e, if_neg (by omega)]
