theorem rows2q {rs : Nat → RowS} {m m' : MSt} {Ls : Nat → List Pk} {t : Nat} (h : ∀ ρ, ρ < 48 → RowR (rs ρ) m ρ (Ls ρ) t) (hb : ∀ ρ, ρ < 48 → sumL (Ls ρ) ≤ 1000) {σ1 σ2 : Nat} {r1 r2 : RowS} {L1 L2 : List Pk} (hne : σ1 ≠ σ2) (hn1 : RowR r1 m' σ1 L1 t) (hn2 : RowR r2 m' σ2 L2 t) (hf : ∀ (τ : Nat) (C : List Pk), τ < 48 → τ ≠ σ1 → τ ≠ σ2 → sumL C ≤ 1000 → UR (mSz m) (mOg m) (mBn m) τ C → UR (mSz m') (mOg m') (mBn m') τ C) : ∀ ρ, ρ < 48 → RowR (va_up (va_up rs σ1 r1) σ2 r2 ρ) m' ρ (va_up (va_up Ls σ1 L1) σ2 L2 ρ) t := by
  intro ρ hρ
  by_cases e2 : ρ = σ2
  · subst e2; rw [va_up_self, va_up_self]; exact hn2
  · rw [va_up_ne _ _ e2, va_up_ne _ _ e2]
    by_cases e1 : ρ = σ1
    · subst e1; rw [va_up_self, va_up_self]; exact hn1
    · rw [va_up_ne _ _ e1, va_up_ne _ _ e1]
      obtain ⟨a, b, c, d⟩ := h ρ hρ
      exact ⟨a, b, hf ρ _ hρ e1 e2 (hb ρ hρ) c, d⟩
theorem cap2 {c : CSt} {Ls : Nat → List Pk} {ρ σ : Nat} {A' B' : List Pk} (q16 : ∀ ρ, ρ < 32 → sumL (Ls ρ) ≤ 999) (q17 : ∀ w, w < 16 → ∃ a, a ≤ 80 ∧ c.2.2.2.2.2.2.1 w = nI a ∧ sumL (Ls (32 + w)) ≤ a) (b1 : ρ < 32 → sumL A' ≤ 999) (b2 : σ < 32 → sumL B' ≤ 999) (b3 : ∀ w, w < 16 → ρ = 32 + w → ∀ a, c.2.2.2.2.2.2.1 w = nI a → a ≤ 80 → sumL (Ls (32 + w)) ≤ a → sumL A' ≤ a) (b4 : ∀ w, w < 16 → σ = 32 + w → ∀ a, c.2.2.2.2.2.2.1 w = nI a → a ≤ 80 → sumL (Ls (32 + w)) ≤ a → sumL B' ≤ a) :
    (∀ τ, τ < 32 → sumL (va_up (va_up Ls ρ A') σ B' τ) ≤ 999) ∧ (∀ w, w < 16 → ∃ a, a ≤ 80 ∧ c.2.2.2.2.2.2.1 w = nI a ∧ sumL (va_up (va_up Ls ρ A') σ B' (32 + w)) ≤ a) := by
  refine ⟨fun τ hτ => ?_, fun w hw => ?_⟩
  · by_cases e2 : τ = σ
    · subst e2; rw [va_up_self]; exact b2 hτ
    · rw [va_up_ne _ _ e2]
      by_cases e1 : τ = ρ
      · subst e1; rw [va_up_self]; exact b1 hτ
      · rw [va_up_ne _ _ e1]; exact q16 τ hτ
  · obtain ⟨a, h1, h2, h3⟩ := q17 w hw
    refine ⟨a, h1, h2, ?_⟩
    by_cases e2 : 32 + w = σ
    · rw [e2, va_up_self]; exact b4 w hw e2.symm a h2 h1 h3
    · rw [va_up_ne _ _ e2]
      by_cases e1 : 32 + w = ρ
      · rw [e1, va_up_self]; exact b3 w hw e1.symm a h2 h1 h3
      · rw [va_up_ne _ _ e1]; exact h3
theorem toI_sub {a b : Nat} (ha : a < 2 ^ 30) (hb : b < 2 ^ 31) : (nI a - nI b).toInt = (a : Int) - (b : Int) := by
  rw [Int32.toInt_sub, nI_toInt (by omega), nI_toInt (by omega)]
  exact Int.bmod_eq_of_le (by omega) (by omega)
theorem sub_leI {a n r : Nat} (ha : a < 2 ^ 30) (hn : n < 2 ^ 31) (hr : r < 2 ^ 30) : nI a - nI n ≤ nI r ↔ a ≤ r + n := by
  rw [Int32.le_iff_toInt_le, toI_sub ha hn, nI_toInt (by omega)]
  omega
theorem part_ok {a b n t Z : Nat} {A : List Pk} {m : MSt} (ha : a < 16) (hb : b < 16) (hne : a ≠ b) (hn : n < 2 ^ 31) (ua : UR (mSz m) (mOg m) (mBn m) (32 + a) A) (ub : UR (mSz m) (mOg m) (mBn m) (32 + b) []) (la : Lok t A) (hs : sumL A ≤ 80) : ∃ sz og bn, F_M_part_J96 (nI a) (nI n) (nI b) 0 m = some ((), mrow (0, m.2) sz og bn) ∧ UR sz og bn (32 + a) (stayL (min n (sumL A)) A) ∧ UR sz og bn (32 + b) (allL (restL (min n (sumL A)) A) []) ∧ ∀ (τ : Nat) (C : List Pk), τ < 48 → τ ≠ 32 + a → τ ≠ 32 + b → sumL C ≤ 1000 → UR (mSz m) (mOg m) (mBn m) τ C → UR sz og bn τ C := by
  have c48 : (48 : Int32).toNatClampNeg = 48 := nI_clamp (n := 48) (by omega)
  have g48 : inb (48 : Int32) 49 = true := inbN (k := 48) (by omega) (by decide)
  have hs1 : mSz m (32 + a) = nI (sumL A) := ua.1
  obtain ⟨og, bn, e1, e2, e3⟩ := part_c (b := b) (S := min n (sumL A)) ha hs (sumL A - min n (sumL A)) 1001 (min n (sumL A)) 0 (mrow (0, m.2) (upd (mSz m) 48 0) (mOg m) (mBn m)) (by show upd (mSz m) 48 0 (32 + a) = _; rw [upd_at, if_neg (by omega)]; exact hs1) (by show upd (mSz m) 48 0 48 = nI 0; rw [upd_at, if_pos rfl]; rfl) (by omega) (by omega) (by omega)
  have hrs := rest_sum A (min n (sumL A))
  obtain ⟨rl, -⟩ := rest_lok (t := t) A (min n (sumL A)) la
  have h48 : UR (upd (upd (upd (mSz m) 48 0) 48 (nI (0 + (sumL A - min n (sumL A))))) (32 + a) (nI (min n (sumL A)))) og bn 48 (restL (min n (sumL A)) A) := by
    refine ⟨?_, fun k q hk => ?_⟩
    · rw [upd_at, if_neg (by omega), upd_at, if_pos rfl, hrs, Nat.zero_add]
    · have hl : k < sumL (restL (min n (sumL A)) A) := by rw [← ex_len]; exact (List.getElem?_eq_some_iff.mp hk).1
      rw [rest_ex, List.getElem?_drop] at hk
      obtain ⟨b1, b2⟩ := e3 k (by omega)
      rw [show 1000 * 48 + k = 48000 + 0 + k by omega, b1, b2]
      show mOg m _ = _ ∧ mBn m _ = _
      rw [show 1000 * (32 + a) + min n (sumL A) + k = 1000 * (32 + a) + (min n (sumL A) + k) by omega]
      exact ua.2 _ q hk
  have hfr : ∀ (τ : Nat) (C : List Pk), τ < 48 → τ ≠ 32 + a → sumL C ≤ 1000 → UR (mSz m) (mOg m) (mBn m) τ C → UR (upd (upd (upd (mSz m) 48 0) 48 (nI (0 + (sumL A - min n (sumL A))))) (32 + a) (nI (min n (sumL A)))) og bn τ C := by
    intro τ C h1 h2 h3 h4
    refine ⟨?_, fun k q hk => ?_⟩
    · rw [upd_at, if_neg h2, upd_at, if_neg (by omega), upd_at, if_neg (by omega)]; exact h4.1
    · have hl : k < sumL C := by rw [← ex_len]; exact (List.getElem?_eq_some_iff.mp hk).1
      obtain ⟨b1, b2⟩ := e2 (1000 * τ + k) (by omega)
      rw [b1, b2]
      exact h4.2 k q hk
  have hst : UR (upd (upd (upd (mSz m) 48 0) 48 (nI (0 + (sumL A - min n (sumL A))))) (32 + a) (nI (min n (sumL A)))) og bn (32 + a) (stayL (min n (sumL A)) A) := by
    refine ⟨?_, fun k q hk => ?_⟩
    · rw [upd_at, if_pos rfl, stay_sum A _ (by omega)]
    · have hl : k < sumL (stayL (min n (sumL A)) A) := by rw [← ex_len]; exact (List.getElem?_eq_some_iff.mp hk).1
      rw [stay_sum A _ (by omega)] at hl
      rw [stay_ex, List.getElem?_take_of_lt hl] at hk
      obtain ⟨b1, b2⟩ := e2 (1000 * (32 + a) + k) (by omega)
      rw [b1, b2]
      exact ua.2 k q hk
  have hlN : Lok t ([] : List Pk) := ⟨by simp, by simp, trivial, fun q hq => by simp at hq⟩
  obtain ⟨u', e4, sz, og2, bn2, e5, v1, v2, v3, v4, v5⟩ := part_m (t := t) hb (sumL (restL (min n (sumL A)) A)) 1001 (restL (min n (sumL A)) A) [] (mrow (0, m.2) (upd (upd (upd (mSz m) 48 0) 48 (nI (0 + (sumL A - min n (sumL A))))) (32 + a) (nI (min n (sumL A)))) og bn) h48 (hfr _ _ (by omega) (by omega) (by rw [sumL_nil]; omega) ub) rl hlN (by rw [sumL_nil]; omega) rfl (by omega)
  rw [(movL_all _ _ rl.2.1).1] at v2
  refine ⟨sz, og2, bn2, ?_, v5 _ _ (by omega) (by omega) (by rw [stay_sum A _ (by omega)]; omega) hst, v2, fun τ C h1 h2 h3 h4 h5 => v5 τ C (by omega) h3 h4 (hfr τ C h1 h2 h4 h5)⟩
  have fin : F_M_part_L147 1001 (nI a) (nI b) (nI (min n (sumL A))) (nI (min n (sumL A))) (mrow (0, m.2) (upd (mSz m) 48 0) (mOg m) (mBn m)) = some ((), mrow (0, m.2) sz og2 bn2) := by
    refine Eq.trans e1 (Eq.trans e4 ?_)
    rw [e5]
  unfold F_M_part_J96
  rw [if_pos (by decide), c32, gd_t (inbN (by omega) (by decide)), nI_clamp (show 32 + a < 2 ^ 31 by omega), show m.2.2.2.2.2.2.2.2.2.2.2.2.1 (32 + a) = nI (sumL A) from hs1, c48]
  by_cases hle : sumL A ≤ n
  · rw [if_pos (by exact nI_le hle hn), gd_t (inbN (by omega) (by decide)), nmE, gd_t g48]
    rw [Nat.min_eq_right hle] at fin
    exact fin
  · rw [if_neg (by exact nI_ge (by omega) (by omega)), gd_t g48]
    rw [Nat.min_eq_left (by omega)] at fin
    exact fin
theorem sum0 {L : List Pk} (h : ∀ p ∈ L, 1 ≤ p.2.2) (h0 : sumL L = 0) : L = [] := by
  cases L with
  | nil => rfl
  | cons p t => have := h p (by simp); rw [sumL_cons] at h0; omega
theorem part_out (a n b : Int32) {k : Int32} {m : MSt} (h : ¬ k ≤ 0) : F_M_part_J96 a n b k m = some ((), (k, m.2)) := by
  unfold F_M_part_J96
  rw [if_neg h]
theorem sim_part (a d b : Int32) {c : CSt} {m : MSt} (h : Rel c m) : ∃ o c' m', F_P_part a d b c = some (o, c') ∧ F_M_part a d b m = some ((), m') ∧ m'.1 = cd o ∧ Rel c' m' := by
  rcases spl a (n := 16) (by decide) with h1 | ⟨w, hw, rfl⟩
  · refine ⟨.inl 1, c, (1, m.2), ?_, ?_, rfl, h⟩
    · unfold F_P_part
      rw [wg_bad h1, biE, oxL]
    · unfold F_M_part F_M_part_J22 F_M_part_J23
      rw [min_bad h1 (by rfl), biE, if_pos rfl, if_pos rfl, part_out _ _ _ (by decide)]
  rcases spl b (n := 16) (by decide) with h2 | ⟨v, hv, rfl⟩
  · refine ⟨.inl 1, c, (1, m.2), ?_, ?_, rfl, h⟩
    · unfold F_P_part
      rw [wg_ok hw, biE, oxR, wg_bad h2, biE, oxL]
    · unfold F_M_part F_M_part_J22 F_M_part_J23
      rw [min_ok (n := 16) hw (by decide) (by rfl), biE, if_neg (by decide), min_bad h2 (by rfl), biE, if_pos rfl, if_pos rfl, part_out _ _ _ (by decide)]
  have hw2 : w < 2 ^ 31 := by omega
  have hv2 : v < 2 ^ 31 := by omega
  have hM : ∀ x, F_M_part_J23 (nI w) d (nI v) 1 m = x → F_M_part (nI w) d (nI v) m = x := by
    intro x hx
    unfold F_M_part
    rw [min_ok (n := 16) hw (by decide) (by rfl), biE, if_neg (by decide), min_ok (n := 16) hv (by decide) (by rfl), biE, if_neg (by decide), hx]
  by_cases h3 : d < 0
  · refine ⟨.inl 2, c, (2, m.2), ?_, hM _ ?_, rfl, h⟩
    · unfold F_P_part
      rw [wg_ok hw, biE, oxR, wg_ok hv, biE, oxR, nz_bad h3, biE, oxL]
    · unfold F_M_part_J23 F_M_part_J91
      rw [if_neg (by decide), if_pos h3, part_out _ _ _ (by decide)]
  obtain ⟨n, hn, rfl⟩ := nI_of h3
  by_cases hne : w = v
  · subst hne
    refine ⟨.inl 2, c, (2, m.2), ?_, hM _ ?_, rfl, h⟩
    · unfold F_P_part
      rw [wg_ok hw, biE, oxR, biE, oxR, nz_ok hn, biE, oxR, fel_same, biE, oxL]
    · unfold F_M_part_J23 F_M_part_J91
      rw [if_neg (by decide), if_neg h3, if_pos rfl, part_out _ _ _ (by decide)]
  have hneI : ¬ nI w = nI v := fun z => hne ((nI_eq hw2 hv2).mp z)
  obtain ⟨Ls, t, mo, ea, sp, hR⟩ := id h
  obtain ⟨q1, q2, q3, q4, q5, q6, q7, q8, q9, q10, q11, q12, q13, q14, q15, q16, q17⟩ := id hR
  have gw := inbN (show w < 16 from hw) (by decide)
  have gv := inbN (show v < 16 from hv) (by decide)
  have ew : m.2.2.2.2.2.2.2.2.2.2.1 w = c.2.2.2.2.2.1 w := (q10 w hw).1
  have ev : m.2.2.2.2.2.2.2.2.2.2.1 v = c.2.2.2.2.2.1 v := (q10 v hv).1
  obtain ⟨rm, hrm, hr1, hr2⟩ := q17 v hv
  obtain ⟨rw', hrw, hrw1, hrw2⟩ := q17 w hw
  have hmr : m.2.2.2.2.2.2.2.2.2.2.2.1 v = nI rm := by rw [(q11 v hv).1]; exact hr1
  have rA := q15 (32 + w) (by omega)
  have rB := q15 (32 + v) (by omega)
  have sA : m.2.2.2.2.2.2.2.2.2.2.2.2.1 (32 + w) = nI (sumL (Ls (32 + w))) := rA.2.2.1.1
  have sB : m.2.2.2.2.2.2.2.2.2.2.2.2.1 (32 + v) = nI (sumL (Ls (32 + v))) := rB.2.2.1.1
  have tA := tot_ok rA.1
  have tB := tot_ok rB.1
  have gw' := inbN (show 32 + w < 49 by omega) (by decide)
  have gv' := inbN (show 32 + v < 49 by omega) (by decide)
  have cw' := nI_clamp (show 32 + w < 2 ^ 31 by omega)
  have cv' := nI_clamp (show 32 + v < 2 ^ 31 by omega)
  by_cases hkd : c.2.2.2.2.2.1 w = c.2.2.2.2.2.1 v
  · by_cases h0 : sumL (Ls (32 + v)) = 0
    · by_cases hfit : sumL (Ls (32 + w)) ≤ rm + n
      · have hB0 := sum0 rB.1.2.2.2.1 h0
        have rB1 := rB.1
        have rB2 := rB.2.2.1
        rw [hB0] at rB1 rB2
        obtain ⟨r1, r2, e1, g1, g2⟩ := behind_ok rA.1 (lok_of rA) rB1 (by rw [sumL_nil]; omega) hn
        obtain ⟨sz, og, bn, e2, v1, v2, v3⟩ := part_ok (Z := 0) (t := t) hw hv hne hn rA.2.2.1 rB2 (lok_of rA) (by omega)
        obtain ⟨l1, -, -⟩ := stay_lok (t := t) (Ls (32 + w)) (min n (sumL (Ls (32 + w)))) (lok_of rA)
        obtain ⟨l2, -⟩ := rest_lok (t := t) (Ls (32 + w)) (min n (sumL (Ls (32 + w)))) (lok_of rA)
        obtain ⟨l3, s3⟩ := all_lok (t := t) _ [] l2 ⟨by simp, by simp, trivial, fun q hq => by simp at hq⟩
        have s1 := stay_sum (Ls (32 + w)) (min n (sumL (Ls (32 + w)))) (by omega)
        have s2 := rest_sum (Ls (32 + w)) (min n (sumL (Ls (32 + w))))
        rw [sumL_nil, s2] at s3
        obtain ⟨x1, x2⟩ := cap2 (ρ := 32 + w) (σ := 32 + v) (A' := stayL (min n (sumL (Ls (32 + w)))) (Ls (32 + w))) (B' := allL (restL (min n (sumL (Ls (32 + w)))) (Ls (32 + w))) []) q16 q17 (fun z => by omega) (fun z => by omega) (fun j hj z a ha ha2 ha3 => by rw [← z] at ha3; omega) (fun j hj z a ha ha2 ha3 => by
            have : j = v := by omega
            subst this
            rw [hr1] at ha
            have := (nI_eq (by omega) (by omega)).mp ha
            omega)
        refine ⟨.inr (), _, _, by
          unfold F_P_part
          rw [wg_ok hw, biE, oxR, wg_ok hv, biE, oxR, nz_ok hn, biE, oxR, fel_ok hw hv hne, if_pos hkd, biE, oxR, gd_t gv, nI_clamp hv2, tB, biE, if_pos (by rw [h0]; decide +kernel), gd_t gw, nI_clamp hw2, tA, biE, gd_t gv, hr1, if_pos (by exact (sub_leI (by omega) hn (by omega)).mpr hfit), gd_t gw, gd_t gv, gd_t (decide_eq_true (by omega)), e1, biE], hM _ (by
          unfold F_M_part_J23
          rw [if_neg (by decide), if_neg h3, if_neg hneI, c32, gd_t gv', cv', sB, h0, if_neg (by decide +kernel), gd_t gw, gd_t gv, nI_clamp hw2, nI_clamp hv2, ew, ev, if_pos hkd, c32, gd_t gw', gd_t gv, cw', sA, hmr, if_pos (by exact (sub_leI (by omega) hn (by omega)).mpr hfit)]
          exact e2), by rfl, ?_⟩
        exact ⟨_, t, mo, ea, sp, q1, q2, q3, q4, q5, q6, q7, q8, q9, q10, q11, q12, q13, q14, rows2q q15 (allb q16 q17) (by omega) ⟨g1, l1.2.2.1, v1, l1.2.2.2⟩ ⟨g2, l3.2.2.1, v2, l3.2.2.2⟩ v3, x1, x2⟩
      · refine ⟨.inl 2, c, (2, m.2), ?_, hM _ ?_, rfl, h⟩
        · unfold F_P_part
          rw [wg_ok hw, biE, oxR, wg_ok hv, biE, oxR, nz_ok hn, biE, oxR, fel_ok hw hv hne, if_pos hkd, biE, oxR, gd_t gv, nI_clamp hv2, tB, biE, if_pos (by rw [h0]; decide +kernel), gd_t gw, nI_clamp hw2, tA, biE, gd_t gv, hr1, if_neg (by exact fun z => hfit ((sub_leI (by omega) hn (by omega)).mp z))]
        · unfold F_M_part_J23 F_M_part_J91
          rw [if_neg (by decide), if_neg h3, if_neg hneI, c32, gd_t gv', cv', sB, h0, if_neg (by decide +kernel), gd_t gw, gd_t gv, nI_clamp hw2, nI_clamp hv2, ew, ev, if_pos hkd, c32, gd_t gw', gd_t gv, cw', sA, hmr, if_neg (by exact fun z => hfit ((sub_leI (by omega) hn (by omega)).mp z)), part_out _ _ _ (by decide)]
    · refine ⟨.inl 2, c, (2, m.2), ?_, hM _ ?_, rfl, h⟩
      · unfold F_P_part
        rw [wg_ok hw, biE, oxR, wg_ok hv, biE, oxR, nz_ok hn, biE, oxR, fel_ok hw hv hne, if_pos hkd, biE, oxR, gd_t gv, nI_clamp hv2, tB, biE, if_neg (by exact nI_nle (by omega) (by omega))]
      · unfold F_M_part_J23 F_M_part_J91
        rw [if_neg (by decide), if_neg h3, if_neg hneI, c32, gd_t gv', cv', sB, if_pos (by exact nI_lt (a := 0) (by omega) (by omega)), part_out _ _ _ (by decide)]
  · refine ⟨.inl 2, c, (2, m.2), ?_, hM _ ?_, rfl, h⟩
    · unfold F_P_part
      rw [wg_ok hw, biE, oxR, wg_ok hv, biE, oxR, nz_ok hn, biE, oxR, fel_ok hw hv hne, if_neg hkd, biE, oxL]
    · unfold F_M_part_J23 F_M_part_J91
      rw [if_neg (by decide), if_neg h3, if_neg hneI, c32, gd_t gv', cv', sB]
      by_cases h0 : sumL (Ls (32 + v)) = 0
      · rw [h0, if_neg (by decide +kernel), gd_t gw, gd_t gv, nI_clamp hw2, nI_clamp hv2, ew, ev, if_neg hkd, part_out _ _ _ (by decide)]
      · rw [if_pos (by exact nI_lt (a := 0) (by omega) (by omega)), part_out _ _ _ (by decide)]
