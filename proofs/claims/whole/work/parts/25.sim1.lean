theorem rows1 {rs : Nat → RowS} {m m' : MSt} {Ls : Nat → List Pk} {t : Nat} (h : ∀ ρ, ρ < 48 → RowR (rs ρ) m ρ (Ls ρ) t) (hb : ∀ ρ, ρ < 48 → sumL (Ls ρ) ≤ 1000) {σ : Nat} {r' : RowS} {L' : List Pk} (hn : RowR r' m' σ L' t) (hf : ∀ (τ : Nat) (C : List Pk), τ ≠ σ → sumL C ≤ 1000 → UR (mSz m) (mOg m) (mBn m) τ C → UR (mSz m') (mOg m') (mBn m') τ C) : ∀ ρ, ρ < 48 → RowR (va_up rs σ r' ρ) m' ρ (va_up Ls σ L' ρ) t := by
  intro ρ hρ
  by_cases e : ρ = σ
  · subst e; rw [va_up_self, va_up_self]; exact hn
  · rw [va_up_ne _ _ e, va_up_ne _ _ e]
    obtain ⟨a, b, c, d⟩ := h ρ hρ
    exact ⟨a, b, hf ρ _ e (hb ρ hρ) c, d⟩
theorem rows2 {rs : Nat → RowS} {m m' : MSt} {Ls : Nat → List Pk} {t : Nat} (h : ∀ ρ, ρ < 48 → RowR (rs ρ) m ρ (Ls ρ) t) (hb : ∀ ρ, ρ < 48 → sumL (Ls ρ) ≤ 1000) {σ1 σ2 : Nat} {r1 r2 : RowS} {L1 L2 : List Pk} (hne : σ1 ≠ σ2) (hn1 : RowR r1 m' σ1 L1 t) (hn2 : RowR r2 m' σ2 L2 t) (hf : ∀ (τ : Nat) (C : List Pk), τ ≠ σ1 → τ ≠ σ2 → sumL C ≤ 1000 → UR (mSz m) (mOg m) (mBn m) τ C → UR (mSz m') (mOg m') (mBn m') τ C) : ∀ ρ, ρ < 48 → RowR (va_up (va_up rs σ1 r1) σ2 r2 ρ) m' ρ (va_up (va_up Ls σ1 L1) σ2 L2 ρ) t := by
  intro ρ hρ
  by_cases e2 : ρ = σ2
  · subst e2; rw [va_up_self, va_up_self]; exact hn2
  · rw [va_up_ne _ _ e2, va_up_ne _ _ e2]
    by_cases e1 : ρ = σ1
    · subst e1; rw [va_up_self, va_up_self]; exact hn1
    · rw [va_up_ne _ _ e1, va_up_ne _ _ e1]
      obtain ⟨a, b, c, d⟩ := h ρ hρ
      exact ⟨a, b, hf ρ _ e1 e2 (hb ρ hρ) c, d⟩
theorem allb {c : CSt} {Ls : Nat → List Pk} (q16 : ∀ ρ, ρ < 32 → sumL (Ls ρ) ≤ 999) (q17 : ∀ w, w < 16 → ∃ a, a ≤ 80 ∧ c.2.2.2.2.2.2.1 w = nI a ∧ sumL (Ls (32 + w)) ≤ a) : ∀ ρ, ρ < 48 → sumL (Ls ρ) ≤ 1000 := by
  intro ρ hρ
  by_cases h : ρ < 32
  · have := q16 ρ h; omega
  · obtain ⟨a, h1, h2, h3⟩ := q17 (ρ - 32) (by omega)
    rw [show 32 + (ρ - 32) = ρ by omega] at h3
    omega
theorem sim_rate (a b d : Int32) {c : CSt} {m : MSt} (h : Rel c m) : ∃ o c' m', F_P_rate a b d c = some (o, c') ∧ F_M_rate a b d m = some ((), m') ∧ m'.1 = cd o ∧ Rel c' m' := by
  rcases spl a (n := 8) (by decide) with h1 | ⟨s, hs, rfl⟩
  · refine ⟨.inl 1, c, (1, m.2), ?_, ?_, rfl, h⟩
    · unfold F_P_rate
      rw [st_bad h1, biE, oxL]
    · unfold F_M_rate F_M_rate_J18 F_M_rate_J36
      rw [min_bad h1 (by rfl), biE, if_pos rfl, if_neg (by decide)]
      all_goals rfl
  rcases spl b (n := 4) (by decide) with h2 | ⟨k, hk, rfl⟩
  · refine ⟨.inl 1, c, (1, m.2), ?_, ?_, rfl, h⟩
    · unfold F_P_rate
      rw [st_ok hs, biE, oxR, kd_bad h2, biE, oxL]
    · unfold F_M_rate F_M_rate_J18 F_M_rate_J36
      rw [min_ok (n := 8) hs (by decide) (by rfl), biE, if_neg (by decide), min_bad h2 (by rfl), biE, if_pos rfl, if_neg (by decide)]
      all_goals rfl
  rcases spl d (n := 32) (by decide) with h3 | ⟨y, hy, rfl⟩
  · refine ⟨.inl 2, c, (2, m.2), ?_, ?_, rfl, h⟩
    · unfold F_P_rate
      rw [st_ok hs, biE, oxR, kd_ok hk, biE, oxR, rg_bad (n := 31) h3 (by decide) (by rfl), biE, oxL]
    · unfold F_M_rate F_M_rate_J36
      rw [min_ok (n := 8) hs (by decide) (by rfl), biE, if_neg (by decide), min_ok (n := 4) hk (by decide) (by rfl), biE, if_neg (by decide), min_bad h3 (by rfl), biE, if_pos rfl, if_neg (by decide)]
      all_goals rfl
  · have g := inbN (show 4 * s + k < 32 by omega) (by decide)
    exact ⟨.inr (), _, _, by
      unfold F_P_rate
      rw [st_ok hs, biE, oxR, kd_ok hk, biE, oxR, rg_ok (n := 31) (by omega) (by decide) (by rfl), biE, oxR, si4, biE, gd_t g, nI_clamp (show 4 * s + k < 2 ^ 31 by omega)], by
      unfold F_M_rate F_M_rate_J36
      rw [min_ok (n := 8) hs (by decide) (by rfl), biE, if_neg (by decide), min_ok (n := 4) hk (by decide) (by rfl), biE, if_neg (by decide), min_ok (n := 32) hy (by decide) (by rfl), biE, if_neg (by decide), if_pos rfl, mi4, gd_t g, nI_clamp (show 4 * s + k < 2 ^ 31 by omega)], by rfl, by
      obtain ⟨Ls, t, mo, ea, sp, q1, q2, q3, q4, q5, q6, q7, q8, q9, q10, q11, q12, q13, q14, q15, q16, q17⟩ := h
      exact ⟨Ls, t, mo, ea, sp, q1, q2, q3, q4, qe_upd q5 _ (by omega), q6, q7, q8, q9, q10, q11, q12, q13, q14, q15, q16, q17⟩⟩
theorem sim_accept (a b : Int32) {c : CSt} {m : MSt} (h : Rel c m) : ∃ o c' m', F_P_accept a b c = some (o, c') ∧ F_M_accept a b m = some ((), m') ∧ m'.1 = cd o ∧ Rel c' m' := by
  rcases spl a (n := 8) (by decide) with h1 | ⟨s, hs, rfl⟩
  · refine ⟨.inl 1, c, (1, m.2), ?_, ?_, rfl, h⟩
    · unfold F_P_accept
      rw [st_bad h1, biE, oxL]
    · unfold F_M_accept F_M_accept_J28
      rw [min_bad h1 (by rfl), biE, if_pos rfl, if_neg (by decide)]
      all_goals rfl
  rcases spl b (n := 16) (by decide) with h2 | ⟨y, hy, rfl⟩
  · refine ⟨.inl 2, c, (2, m.2), ?_, ?_, rfl, h⟩
    · unfold F_P_accept
      rw [st_ok hs, biE, oxR, rg_bad (n := 15) h2 (by decide) (by rfl), biE, oxL]
    · unfold F_M_accept F_M_accept_J28
      rw [min_ok (n := 8) hs (by decide) (by rfl), biE, if_neg (by decide), min_bad h2 (by rfl), biE, if_pos rfl, if_neg (by decide)]
      all_goals rfl
  · have g := inbN (show s < 8 from hs) (by decide)
    exact ⟨.inr (), _, _, by
      unfold F_P_accept
      rw [st_ok hs, biE, oxR, rg_ok (n := 15) (by omega) (by decide) (by rfl), biE, oxR, gd_t g, nI_clamp (show s < 2 ^ 31 by omega)], by
      unfold F_M_accept F_M_accept_J28
      rw [min_ok (n := 8) hs (by decide) (by rfl), biE, if_neg (by decide), min_ok (n := 16) hy (by decide) (by rfl), biE, if_neg (by decide), if_pos rfl, gd_t g, nI_clamp (show s < 2 ^ 31 by omega)], by rfl, by
      obtain ⟨Ls, t, mo, ea, sp, q1, q2, q3, q4, q5, q6, q7, q8, q9, q10, q11, q12, q13, q14, q15, q16, q17⟩ := h
      exact ⟨Ls, t, mo, ea, sp, q1, q2, q3, q4, q5, q6, q7, q8, qe_upd q9 _ (by omega), q10, q11, q12, q13, q14, q15, q16, q17⟩⟩
theorem made_upd {f g : Nat → Int32} (h : ∀ k, k < 32 → g k = f k ∧ (f k = -1 ∨ ∃ a, a < 4 ∧ f k = nI a)) (j : Nat) {v : Int32} (hv : v = -1 ∨ ∃ a, a < 4 ∧ v = nI a) : ∀ k, k < 32 → upd g j v k = upd f j v k ∧ (upd f j v k = -1 ∨ ∃ a, a < 4 ∧ upd f j v k = nI a) := by
  intro k hk
  rw [upd_at, upd_at]
  by_cases e : k = j
  · rw [if_pos e, if_pos e]; exact ⟨rfl, hv⟩
  · rw [if_neg e, if_neg e]; exact h k hk
theorem sim_make (a b d : Int32) {c : CSt} {m : MSt} (h : Rel c m) : ∃ o c' m', F_P_make a b d c = some (o, c') ∧ F_M_make a b d m = some ((), m') ∧ m'.1 = cd o ∧ Rel c' m' := by
  rcases spl a (n := 8) (by decide) with h1 | ⟨s, hs, rfl⟩
  · refine ⟨.inl 1, c, (1, m.2), ?_, ?_, rfl, h⟩
    · unfold F_P_make
      rw [st_bad h1, biE, oxL]
    · unfold F_M_make F_M_make_J18 F_M_make_J40
      rw [min_bad h1 (by rfl), biE, if_pos rfl, if_neg (by decide)]
      all_goals rfl
  rcases spl b (n := 4) (by decide) with h2 | ⟨k, hk, rfl⟩
  · refine ⟨.inl 1, c, (1, m.2), ?_, ?_, rfl, h⟩
    · unfold F_P_make
      rw [st_ok hs, biE, oxR, kd_bad h2, biE, oxL]
    · unfold F_M_make F_M_make_J18 F_M_make_J40
      rw [min_ok (n := 8) hs (by decide) (by rfl), biE, if_neg (by decide), min_bad h2 (by rfl), biE, if_pos rfl, if_neg (by decide)]
      all_goals rfl
  have g := inbN (show 4 * s + k < 32 by omega) (by decide)
  by_cases hd : d = -1
  · exact ⟨.inr (), _, _, by
      unfold F_P_make
      rw [st_ok hs, biE, oxR, kd_ok hk, biE, oxR, if_pos hd, si4, biE, gd_t g, nI_clamp (show 4 * s + k < 2 ^ 31 by omega)], by
      unfold F_M_make F_M_make_J39 F_M_make_J40
      rw [min_ok (n := 8) hs (by decide) (by rfl), biE, if_neg (by decide), min_ok (n := 4) hk (by decide) (by rfl), biE, if_neg (by decide), if_pos hd, if_pos rfl, mi4, gd_t g, nI_clamp (show 4 * s + k < 2 ^ 31 by omega)], by rfl, by
      obtain ⟨Ls, t, mo, ea, sp, q1, q2, q3, q4, q5, q6, q7, q8, q9, q10, q11, q12, q13, q14, q15, q16, q17⟩ := h
      exact ⟨Ls, t, mo, ea, sp, q1, q2, q3, q4, q5, made_upd q6 _ (Or.inl hd), q7, q8, q9, q10, q11, q12, q13, q14, q15, q16, q17⟩⟩
  rcases spl d (n := 4) (by decide) with h3 | ⟨y, hy, rfl⟩
  · refine ⟨.inl 2, c, (2, m.2), ?_, ?_, rfl, h⟩
    · unfold F_P_make
      rw [st_ok hs, biE, oxR, kd_ok hk, biE, oxR, if_neg hd, is4_bad h3, biE, if_pos rfl]
    · unfold F_M_make F_M_make_J40
      rw [min_ok (n := 8) hs (by decide) (by rfl), biE, if_neg (by decide), min_ok (n := 4) hk (by decide) (by rfl), biE, if_neg (by decide), if_neg hd, min_bad h3 (by rfl), biE, if_pos rfl, if_neg (by decide)]
      all_goals rfl
  · exact ⟨.inr (), _, _, by
      unfold F_P_make
      rw [st_ok hs, biE, oxR, kd_ok hk, biE, oxR, if_neg hd, is4_ok hy, biE, if_neg (by decide), si4, biE, gd_t g, nI_clamp (show 4 * s + k < 2 ^ 31 by omega)], by
      unfold F_M_make F_M_make_J39 F_M_make_J40
      rw [min_ok (n := 8) hs (by decide) (by rfl), biE, if_neg (by decide), min_ok (n := 4) hk (by decide) (by rfl), biE, if_neg (by decide), if_neg hd, min_ok (n := 4) hy (by decide) (by rfl), biE, if_neg (by decide), if_pos rfl, mi4, gd_t g, nI_clamp (show 4 * s + k < 2 ^ 31 by omega)], by rfl, by
      obtain ⟨Ls, t, mo, ea, sp, q1, q2, q3, q4, q5, q6, q7, q8, q9, q10, q11, q12, q13, q14, q15, q16, q17⟩ := h
      exact ⟨Ls, t, mo, ea, sp, q1, q2, q3, q4, q5, made_upd q6 _ (Or.inr ⟨y, hy, rfl⟩), q7, q8, q9, q10, q11, q12, q13, q14, q15, q16, q17⟩⟩
theorem tot_ok {r : RowS} {L : List Pk} (h : Gd r L) : F_Row_total r = some (nI (sumL L), ()) := by
  unfold F_Row_total
  rw [h.2.2.1]
theorem c32 (w : Nat) : (32 : Int32) + nI w = nI (32 + w) := by rw [show (32 : Int32) = nI 32 from rfl, nI_add]
theorem sim_wagon (a b d : Int32) {c : CSt} {m : MSt} (h : Rel c m) : ∃ o c' m', F_P_wagon a b d c = some (o, c') ∧ F_M_wagon a b d m = some ((), m') ∧ m'.1 = cd o ∧ Rel c' m' := by
  rcases spl a (n := 16) (by decide) with h1 | ⟨w, hw, rfl⟩
  · refine ⟨.inl 1, c, (1, m.2), ?_, ?_, rfl, h⟩
    · unfold F_P_wagon
      rw [wg_bad h1, biE, oxL]
    · unfold F_M_wagon F_M_wagon_J18 F_M_wagon_J71
      rw [min_bad h1 (by rfl), biE, if_pos rfl, if_neg (by decide)]
      all_goals rfl
  rcases spl b (n := 4) (by decide) with h2 | ⟨k, hk, rfl⟩
  · refine ⟨.inl 1, c, (1, m.2), ?_, ?_, rfl, h⟩
    · unfold F_P_wagon
      rw [wg_ok hw, biE, oxR, kd_bad h2, biE, oxL]
    · unfold F_M_wagon F_M_wagon_J18 F_M_wagon_J71
      rw [min_ok (n := 16) hw (by decide) (by rfl), biE, if_neg (by decide), min_bad h2 (by rfl), biE, if_pos rfl, if_neg (by decide)]
      all_goals rfl
  rcases spl d (n := 81) (by decide) with h3 | ⟨y, hy, rfl⟩
  · refine ⟨.inl 2, c, (2, m.2), ?_, ?_, rfl, h⟩
    · unfold F_P_wagon
      rw [wg_ok hw, biE, oxR, kd_ok hk, biE, oxR, rg_bad (n := 80) h3 (by decide) (by rfl), biE, oxL]
    · unfold F_M_wagon F_M_wagon_J66 F_M_wagon_J71
      rw [min_ok (n := 16) hw (by decide) (by rfl), biE, if_neg (by decide), min_ok (n := 4) hk (by decide) (by rfl), biE, if_neg (by decide), min_bad h3 (by rfl), biE, if_pos rfl, if_neg (by decide)]
      all_goals rfl
  obtain ⟨Ls, t, mo, ea, sp, q1, q2, q3, q4, q5, q6, q7, q8, q9, q10, q11, q12, q13, q14, q15, q16, q17⟩ := id h
  have g := inbN (show w < 16 from hw) (by decide)
  have g' := inbN (show 32 + w < 49 by omega) (by decide)
  have hrow := q15 (32 + w) (by omega)
  have hT := tot_ok hrow.1
  have hS : m.2.2.2.2.2.2.2.2.2.2.2.2.1 (32 + w) = nI (sumL (Ls (32 + w))) := hrow.2.2.1.1
  have hle := allb q16 q17 (32 + w) (by omega)
  have hwk := (q10 w hw).1
  have hw2 : w < 2 ^ 31 := by omega
  have hfin : sumL (Ls (32 + w)) ≤ y → Rel (c.1, c.2.1, c.2.2.1, c.2.2.2.1, c.2.2.2.2.1, (upd c.2.2.2.2.2.1 w (nI k)), (upd c.2.2.2.2.2.2.1 w (nI y)), c.2.2.2.2.2.2.2) ((0 : Int32), m.2.1, m.2.2.1, m.2.2.2.1, m.2.2.2.2.1, m.2.2.2.2.2.1, m.2.2.2.2.2.2.1, m.2.2.2.2.2.2.2.1, m.2.2.2.2.2.2.2.2.1, m.2.2.2.2.2.2.2.2.2.1, (upd m.2.2.2.2.2.2.2.2.2.2.1 w (nI k)), (upd m.2.2.2.2.2.2.2.2.2.2.2.1 w (nI y)), m.2.2.2.2.2.2.2.2.2.2.2.2) := by
    intro hy2
    refine ⟨Ls, t, mo, ea, sp, q1, q2, q3, q4, q5, q6, q7, q8, q9, qe_upd q10 _ (by omega), qe_upd q11 _ (by omega), q12, q13, q14, q15, q16, fun v hv => ?_⟩
    show ∃ a, a ≤ 80 ∧ upd c.2.2.2.2.2.2.1 w (nI y) v = nI a ∧ _
    rw [upd_at]
    by_cases e : v = w
    · subst e; rw [if_pos rfl]; exact ⟨y, by omega, rfl, hy2⟩
    · rw [if_neg e]; exact q17 v hv
  by_cases c1 : sumL (Ls (32 + w)) ≤ y
  · by_cases c2 : sumL (Ls (32 + w)) = 0
    · exact ⟨.inr (), _, _, by
        unfold F_P_wagon
        rw [wg_ok hw, biE, oxR, kd_ok hk, biE, oxR, rg_ok (n := 80) (by omega) (by decide) (by rfl), biE, oxR, gd_t g, nI_clamp hw2, hT, biE, if_pos (by exact nI_le c1 (by omega)), if_pos (by rw [c2]; decide +kernel), gd_t g, gd_t g], by
        unfold F_M_wagon F_M_wagon_J70 F_M_wagon_J71
        rw [min_ok (n := 16) hw (by decide) (by rfl), biE, if_neg (by decide), min_ok (n := 4) hk (by decide) (by rfl), biE, if_neg (by decide), min_ok (n := 81) hy (by decide) (by rfl), biE, if_neg (by decide), c32, gd_t g', nI_clamp (show 32 + w < 2 ^ 31 by omega), hS, if_neg (by exact nI_nlt c1 (by omega)), gd_t g', if_pos (by rw [c2]; decide +kernel), if_pos (by decide), gd_t g, gd_t g, nI_clamp hw2], by rfl, by exact hfin c1⟩
    · by_cases c3 : c.2.2.2.2.2.1 w = nI k
      · exact ⟨.inr (), _, _, by
          unfold F_P_wagon
          rw [wg_ok hw, biE, oxR, kd_ok hk, biE, oxR, rg_ok (n := 80) (by omega) (by decide) (by rfl), biE, oxR, gd_t g, nI_clamp hw2, hT, biE, if_pos (by exact nI_le c1 (by omega)), if_neg (by exact nI_nle (by omega) (by omega)), gd_t g, if_pos c3, gd_t g, gd_t g], by
          unfold F_M_wagon F_M_wagon_J70 F_M_wagon_J71
          rw [min_ok (n := 16) hw (by decide) (by rfl), biE, if_neg (by decide), min_ok (n := 4) hk (by decide) (by rfl), biE, if_neg (by decide), min_ok (n := 81) hy (by decide) (by rfl), biE, if_neg (by decide), c32, gd_t g', nI_clamp (show 32 + w < 2 ^ 31 by omega), hS, if_neg (by exact nI_nlt c1 (by omega)), gd_t g', if_neg (by exact nI_nle (by omega) (by omega)), gd_t g, nI_clamp hw2, hwk, if_pos c3, if_pos (by decide), gd_t g, gd_t g], by rfl, by exact hfin c1⟩
      · refine ⟨.inl 2, c, (2, m.2), ?_, ?_, rfl, h⟩
        · unfold F_P_wagon
          rw [wg_ok hw, biE, oxR, kd_ok hk, biE, oxR, rg_ok (n := 80) (by omega) (by decide) (by rfl), biE, oxR, gd_t g, nI_clamp hw2, hT, biE, if_pos (by exact nI_le c1 (by omega)), if_neg (by exact nI_nle (by omega) (by omega)), gd_t g, if_neg c3]
        · unfold F_M_wagon F_M_wagon_J66 F_M_wagon_J71
          rw [min_ok (n := 16) hw (by decide) (by rfl), biE, if_neg (by decide), min_ok (n := 4) hk (by decide) (by rfl), biE, if_neg (by decide), min_ok (n := 81) hy (by decide) (by rfl), biE, if_neg (by decide), c32, gd_t g', nI_clamp (show 32 + w < 2 ^ 31 by omega), hS, if_neg (by exact nI_nlt c1 (by omega)), gd_t g', if_neg (by exact nI_nle (by omega) (by omega)), gd_t g, nI_clamp hw2, hwk, if_neg c3, if_neg (by decide)]
          all_goals rfl
  · refine ⟨.inl 2, c, (2, m.2), ?_, ?_, rfl, h⟩
    · unfold F_P_wagon
      rw [wg_ok hw, biE, oxR, kd_ok hk, biE, oxR, rg_ok (n := 80) (by omega) (by decide) (by rfl), biE, oxR, gd_t g, nI_clamp hw2, hT, biE, if_neg (by exact nI_ge (by omega) (by omega))]
    · unfold F_M_wagon F_M_wagon_J66 F_M_wagon_J71
      rw [min_ok (n := 16) hw (by decide) (by rfl), biE, if_neg (by decide), min_ok (n := 4) hk (by decide) (by rfl), biE, if_neg (by decide), min_ok (n := 81) hy (by decide) (by rfl), biE, if_neg (by decide), c32, gd_t g', nI_clamp (show 32 + w < 2 ^ 31 by omega), hS, if_pos (by exact nI_lt (by omega) (by omega)), if_neg (by decide)]
      all_goals rfl
