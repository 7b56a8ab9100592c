/-! pour, and unload into a stock -/
theorem fel_same (x : Int32) (c : CSt) : F_P_checkFellows x x c = some (.inl 2, ()) := by
  unfold F_P_checkFellows
  rw [if_pos rfl]
theorem fel_ok {a b : Nat} {c : CSt} (ha : a < 16) (hb : b < 16) (hne : a ≠ b) : F_P_checkFellows (nI a) (nI b) c = some (if c.2.2.2.2.2.1 a = c.2.2.2.2.2.1 b then .inr () else .inl 2, ()) := by
  unfold F_P_checkFellows
  rw [if_neg (by exact fun z => hne ((nI_eq (by omega) (by omega)).mp z)), gd_t (inbN ha (by decide)), gd_t (inbN hb (by decide)), nI_clamp (show a < 2 ^ 31 by omega), nI_clamp (show b < 2 ^ 31 by omega)]
  by_cases h : c.2.2.2.2.2.1 a = c.2.2.2.2.2.1 b
  · rw [if_pos h, if_pos h]
  · rw [if_neg h, if_neg h]
theorem pour_out {u : MSt} {a b : Int32} (f : Nat) (h : ¬ u.1 = 0) : F_M_pour_L89 (f + 1) a b u = some ((), u) := by
  rw [F_M_pour_L89, if_neg h]
theorem pour_L {a b t : Nat} (ha : a < 16) (hb : b < 16) (hne : a ≠ b) : ∀ (k fuel : Nat) (A B : List Pk) (u : MSt), u.1 = 0 → UR (mSz u) (mOg u) (mBn u) (32 + b) A → UR (mSz u) (mOg u) (mBn u) (32 + a) B → Lok t A → Lok t B → sumL A + sumL B ≤ 80 → k = sumL A → k < fuel → ∃ u', F_M_pour_L89 fuel (nI a) (nI b) u = some ((), u') ∧ MvR u u' (32 + b) (32 + a) t (movL k A B).1 (movL k A B).2 := by
  intro k
  induction k with
  | zero =>
    intro fuel A B u h0 ua ub la lb hs hk hf
    obtain ⟨f, rfl⟩ : ∃ f, fuel = f + 1 := ⟨fuel - 1, by omega⟩
    refine ⟨u, ?_, by rw [movL_0]; exact mv_rf ua ub la lb⟩
    rw [F_M_pour_L89, if_pos h0, c32, gd_t (inbN (by omega) (by decide)), nI_clamp (show 32 + b < 2 ^ 31 by omega), show u.2.2.2.2.2.2.2.2.2.2.2.2.1 (32 + b) = nI (sumL A) from ua.1, ← hk, if_pos (by decide +kernel)]
  | succ k ih =>
    intro fuel A B u h0 ua ub la lb hs hk hf
    obtain ⟨f, rfl⟩ : ∃ f, fuel = f + 1 := ⟨fuel - 1, by omega⟩
    obtain ⟨p, l, rfl⟩ := sumL_pos la.2.1 (show 0 < sumL A by omega)
    have hp := la.2.1 p (by simp)
    obtain ⟨u1, e1, et, ⟨sz, og, bn, eu⟩, ua', ub', la', lb', hmv⟩ := mv_step (show 32 + b ≤ 48 by omega) (show 32 + a ≤ 48 by omega) (show 32 + b ≠ 32 + a by omega) ua ub la lb (by omega) (by omega)
    have hts := takeL_sum (t := l) hp
    have hps := sumL_put p.1 p.2.1 1 B lb.1
    obtain ⟨u', e2, hm2⟩ := ih f _ _ u1 (by rw [et]; exact h0) ua' ub' la' lb' (by omega) (by omega) (by omega)
    refine ⟨u', ?_, ?_⟩
    · rw [F_M_pour_L89, if_pos h0, c32, gd_t (inbN (by omega) (by decide)), nI_clamp (show 32 + b < 2 ^ 31 by omega), show u.2.2.2.2.2.2.2.2.2.2.2.2.1 (32 + b) = nI (sumL (p :: l)) from ua.1, if_neg (by exact nI_nle (by omega) (by omega)), c32, e1, biE, e2]
    · rw [movL_succ hp]
      exact hmv u' _ _ hm2
theorem sim_pour (a b : Int32) {c : CSt} {m : MSt} (h : Rel c m) : ∃ o c' m', F_P_pour a b c = some (o, c') ∧ F_M_pour a b m = some ((), m') ∧ m'.1 = cd o ∧ Rel c' m' := by
  rcases spl a (n := 16) (by decide) with h1 | ⟨w, hw, rfl⟩
  · refine ⟨.inl 1, c, (1, m.2), ?_, ?_, rfl, h⟩
    · unfold F_P_pour
      rw [wg_bad h1, biE, oxL]
    · unfold F_M_pour F_M_pour_J22 F_M_pour_J23
      rw [min_bad h1 (by rfl), biE, if_pos rfl, if_pos rfl]
      exact pour_out 1000 (by show ¬ (1 : Int32) = 0; decide)
  rcases spl b (n := 16) (by decide) with h2 | ⟨v, hv, rfl⟩
  · refine ⟨.inl 1, c, (1, m.2), ?_, ?_, rfl, h⟩
    · unfold F_P_pour
      rw [wg_ok hw, biE, oxR, wg_bad h2, biE, oxL]
    · unfold F_M_pour F_M_pour_J22 F_M_pour_J23
      rw [min_ok (n := 16) hw (by decide) (by rfl), biE, if_neg (by decide), min_bad h2 (by rfl), biE, if_pos rfl, if_pos rfl]
      exact pour_out 1000 (by show ¬ (1 : Int32) = 0; decide)
  have hw2 : w < 2 ^ 31 := by omega
  have hv2 : v < 2 ^ 31 := by omega
  by_cases hne : w = v
  · subst hne
    refine ⟨.inl 2, c, (2, m.2), ?_, ?_, rfl, h⟩
    · unfold F_P_pour
      rw [wg_ok hw, biE, oxR, biE, oxR, fel_same, biE, oxL]
    · unfold F_M_pour F_M_pour_J23
      rw [min_ok (n := 16) hw (by decide) (by rfl), biE, if_neg (by decide), biE, if_neg (by decide), if_neg (by decide), if_pos rfl]
      exact pour_out 1000 (by show ¬ (2 : Int32) = 0; decide)
  have hneI : ¬ nI w = nI v := fun z => hne ((nI_eq hw2 hv2).mp z)
  obtain ⟨Ls, t, mo, ea, sp, hR⟩ := id h
  obtain ⟨q1, q2, q3, q4, q5, q6, q7, q8, q9, q10, q11, q12, q13, q14, q15, q16, q17⟩ := id hR
  have gw := inbN (show w < 16 from hw) (by decide)
  have gv := inbN (show v < 16 from hv) (by decide)
  have ew : m.2.2.2.2.2.2.2.2.2.2.1 w = c.2.2.2.2.2.1 w := (q10 w hw).1
  have ev : m.2.2.2.2.2.2.2.2.2.2.1 v = c.2.2.2.2.2.1 v := (q10 v hv).1
  by_cases hkd : c.2.2.2.2.2.1 w = c.2.2.2.2.2.1 v
  · obtain ⟨rm, hrm, hr1, hr2⟩ := q17 w hw
    obtain ⟨rv, hrv, hrv1, hrv2⟩ := q17 v hv
    have hmr : m.2.2.2.2.2.2.2.2.2.2.2.1 w = nI rm := by rw [(q11 w hw).1]; exact hr1
    have rA := q15 (32 + v) (by omega)
    have rB := q15 (32 + w) (by omega)
    have sA : m.2.2.2.2.2.2.2.2.2.2.2.2.1 (32 + v) = nI (sumL (Ls (32 + v))) := rA.2.2.1.1
    have sB : m.2.2.2.2.2.2.2.2.2.2.2.2.1 (32 + w) = nI (sumL (Ls (32 + w))) := rB.2.2.1.1
    have tA := tot_ok rA.1
    have tB := tot_ok rB.1
    have gw' := inbN (show 32 + w < 49 by omega) (by decide)
    have gv' := inbN (show 32 + v < 49 by omega) (by decide)
    have cw' := nI_clamp (show 32 + w < 2 ^ 31 by omega)
    have cv' := nI_clamp (show 32 + v < 2 ^ 31 by omega)
    by_cases hfit : sumL (Ls (32 + w)) + sumL (Ls (32 + v)) ≤ rm
    · obtain ⟨r1, r2, e1, g1, g2⟩ := moveTo_ok rA.1 rB.1 (n := sumL (Ls (32 + v))) (by omega) (show rm < 2 ^ 30 by omega) (by omega) hr2
      rw [show min (sumL (Ls (32 + v))) (min (sumL (Ls (32 + v))) (rm - sumL (Ls (32 + w)))) = sumL (Ls (32 + v)) by omega] at e1 g1 g2
      obtain ⟨u', e2, hmv⟩ := pour_L hw hv hne (t := t) _ 1001 (Ls (32 + v)) (Ls (32 + w)) (0, m.2) rfl rA.2.2.1 rB.2.2.1 (lok_of rA) (lok_of rB) (by omega) rfl (by omega)
      obtain ⟨s1, s2⟩ := movL_sum (Ls (32 + v)) (sumL (Ls (32 + v))) (Ls (32 + w)) (lok_of rA).2.1 (lok_of rB).1 (by omega)
      refine ⟨.inr (), _, u', by
        unfold F_P_pour
        rw [wg_ok hw, biE, oxR, wg_ok hv, biE, oxR, fel_ok hw hv hne, if_pos hkd, biE, oxR, gd_t gv, nI_clamp hv2, tA, biE, gd_t gw, gd_t gw, nI_clamp hw2, tB, biE, hr1, pk_sub hr2, if_pos (by exact nI_le (by omega) (by omega)), gd_t gv, gd_t gw, gd_t gw, gd_t (decide_eq_true (by omega)), e1, biE], by
        unfold F_M_pour F_M_pour_J23
        rw [min_ok (n := 16) hw (by decide) (by rfl), biE, if_neg (by decide), min_ok (n := 16) hv (by decide) (by rfl), biE, if_neg (by decide), if_neg (by decide), if_neg hneI, gd_t gw, gd_t gv, nI_clamp hw2, nI_clamp hv2, ew, ev, if_pos hkd, c32, c32, gd_t gw', gd_t gv', gd_t gw, cw', cv', sA, sB, hmr, nI_add, if_pos (by exact nI_le hfit (by omega))]
        exact e2, ?_, ?_⟩
      · obtain ⟨sz, og, bn, rfl, -⟩ := hmv
        rfl
      · exact rel_mv hR 0 (by omega) hmv g1 g2 (fun z => by omega) (fun z => by omega) (fun j hj z a ha ha2 => by omega) (fun j hj z a ha ha2 => by
          have : j = w := by omega
          subst this
          rw [hr1] at ha
          have := (nI_eq (by omega) (by omega)).mp ha
          omega)
    · refine ⟨.inl 2, c, (2, m.2), ?_, ?_, rfl, h⟩
      · unfold F_P_pour
        rw [wg_ok hw, biE, oxR, wg_ok hv, biE, oxR, fel_ok hw hv hne, if_pos hkd, biE, oxR, gd_t gv, nI_clamp hv2, tA, biE, gd_t gw, gd_t gw, nI_clamp hw2, tB, biE, hr1, pk_sub hr2, if_neg (by exact nI_ge (by omega) (by omega))]
      · unfold F_M_pour F_M_pour_J23
        rw [min_ok (n := 16) hw (by decide) (by rfl), biE, if_neg (by decide), min_ok (n := 16) hv (by decide) (by rfl), biE, if_neg (by decide), if_neg (by decide), if_neg hneI, gd_t gw, gd_t gv, nI_clamp hw2, nI_clamp hv2, ew, ev, if_pos hkd, c32, c32, gd_t gw', gd_t gv', gd_t gw, cw', cv', sA, sB, hmr, nI_add, if_neg (by exact nI_ge (by omega) (by omega))]
        exact pour_out 1000 (by show ¬ (2 : Int32) = 0; decide)
  · refine ⟨.inl 2, c, (2, m.2), ?_, ?_, rfl, h⟩
    · unfold F_P_pour
      rw [wg_ok hw, biE, oxR, wg_ok hv, biE, oxR, fel_ok hw hv hne, if_neg hkd, biE, oxL]
    · unfold F_M_pour F_M_pour_J23
      rw [min_ok (n := 16) hw (by decide) (by rfl), biE, if_neg (by decide), min_ok (n := 16) hv (by decide) (by rfl), biE, if_neg (by decide), if_neg (by decide), if_neg hneI, gd_t gw, gd_t gv, nI_clamp hw2, nI_clamp hv2, ew, ev, if_neg hkd]
      exact pour_out 1000 (by show ¬ (2 : Int32) = 0; decide)
theorem unl_L {s kd w n t : Nat} (hs : s < 8) (hkd : kd < 4) (hw : w < 16) (hn : n < 2 ^ 31) : ∀ (k fuel many : Nat) (A B : List Pk) (u : MSt), UR (mSz u) (mOg u) (mBn u) (32 + w) A → UR (mSz u) (mOg u) (mBn u) (4 * s + kd) B → Lok t A → Lok t B → sumL A ≤ 80 → sumL B ≤ 999 → many ≤ n → k = min (n - many) (min (sumL A) (999 - sumL B)) → k < fuel → ∃ u', F_M_unload_L83 fuel (nI s) (nI n) (nI kd) (nI (32 + w)) 0 (nI many) u = some (nI (many + k), u') ∧ MvR u u' (32 + w) (4 * s + kd) t (movL k A B).1 (movL k A B).2 := by
  intro k
  induction k with
  | zero =>
    intro fuel many A B u ha hb la lb hsa hsb hm hk hf
    obtain ⟨f, rfl⟩ : ∃ f, fuel = f + 1 := ⟨fuel - 1, by omega⟩
    refine ⟨u, ?_, by rw [movL_0]; exact mv_rf ha hb la lb⟩
    rw [F_M_unload_L83]
    by_cases c1 : n ≤ many
    · rw [if_pos (by exact nI_le c1 (by omega))]; rfl
    · rw [if_neg (by exact nI_ge (by omega) (by omega)), gd_t (inbN (by omega) (by decide)), nI_clamp (show 32 + w < 2 ^ 31 by omega), show u.2.2.2.2.2.2.2.2.2.2.2.2.1 (32 + w) = nI (sumL A) from ha.1]
      by_cases c2 : sumL A = 0
      · rw [if_pos (by rw [c2]; decide +kernel)]; rfl
      · rw [if_neg (by exact nI_nle (by omega) (by omega)), if_pos rfl, mi4, gd_t (inbN (by omega) (by decide)), nI_clamp (show 4 * s + kd < 2 ^ 31 by omega), show u.2.2.2.2.2.2.2.2.2.2.2.2.1 (4 * s + kd) = nI (sumL B) from hb.1, if_pos (by exact nI_le (a := 999) (by omega) (by omega))]; rfl
  | succ k ih =>
    intro fuel many A B u ha hb la lb hsa hsb hm hk hf
    obtain ⟨f, rfl⟩ : ∃ f, fuel = f + 1 := ⟨fuel - 1, by omega⟩
    obtain ⟨p, l, rfl⟩ := sumL_pos la.2.1 (show 0 < sumL A by omega)
    have hp := la.2.1 p (by simp)
    obtain ⟨u1, e1, et, ⟨sz, og, bn, eu⟩, ua, ub, la', lb', hmv⟩ := mv_step (show 32 + w ≤ 48 by omega) (show 4 * s + kd ≤ 48 by omega) (show 32 + w ≠ 4 * s + kd by omega) ha hb la lb (by omega) (by omega)
    have hts := takeL_sum (t := l) hp
    have hps := sumL_put p.1 p.2.1 1 B lb.1
    obtain ⟨u', e2, hm2⟩ := ih f (many + 1) _ _ u1 ua ub la' lb' (by omega) (by omega) (by omega) (by omega) (by omega)
    refine ⟨u', ?_, ?_⟩
    · rw [F_M_unload_L83, if_neg (by exact nI_ge (by omega) (by omega)), gd_t (inbN (by omega) (by decide)), nI_clamp (show 32 + w < 2 ^ 31 by omega), show u.2.2.2.2.2.2.2.2.2.2.2.2.1 (32 + w) = nI (sumL (p :: l)) from ha.1, if_neg (by exact nI_nle (by omega) (by omega)), if_pos rfl, mi4, gd_t (inbN (by omega) (by decide)), nI_clamp (show 4 * s + kd < 2 ^ 31 by omega), show u.2.2.2.2.2.2.2.2.2.2.2.2.1 (4 * s + kd) = nI (sumL B) from hb.1, if_neg (by exact nI_ge (b := 999) (by omega) (by omega))]
      unfold F_M_unload_J121
      rw [if_pos rfl, mi4, e1, biE, nI_1, e2, show many + 1 + k = many + (k + 1) by omega]
    · rw [movL_succ hp]
      exact hmv u' _ _ hm2
