/-! pass -/
theorem pe_in {s t mo ea sp : Nat} (hs : s < 8) : ∀ (j kd : Nat) (c : CSt) (m : MSt) (Ls : Nat → List Pk), kd + j = 4 → R0 c m Ls t mo ea sp → ∃ c' m' Ls', (∀ K2 f, j < f → F_P_produceEverywhere_L10 K2 f (nI s) (nI kd) c = K2 (nI (s + 1)) c') ∧ (∀ K41 fm x1 x2, F_M_pass_L71 K41 (fm + j) x1 x2 (nI (4 * s + kd)) m = F_M_pass_L71 K41 fm x1 x2 (nI (4 * s + 4)) m') ∧ R0 c' m' Ls' t mo ea sp ∧ m'.1 = m.1 := by
  intro j
  induction j with
  | zero =>
    intro kd c m Ls hk h
    refine ⟨c, m, Ls, fun K2 f hf => ?_, fun K41 fm x1 x2 => ?_, h, rfl⟩
    · obtain ⟨f, rfl⟩ : ∃ g, f = g + 1 := ⟨f - 1, by omega⟩
      rw [F_P_produceEverywhere_L10, show kd = 4 by omega, if_pos (by decide +kernel), nI_1]
    · rw [show kd = 4 by omega]; rfl
  | succ j ih =>
    intro kd c m Ls hk h
    obtain ⟨c1, m1, Ls1, e1, e2, h1, t1⟩ := sim_prod (s := s) (v := kd) hs (by omega) h
    obtain ⟨c2, m2, Ls2, e3, e4, h2, t2⟩ := ih (kd + 1) c1 m1 Ls1 (by omega) h1
    refine ⟨c2, m2, Ls2, fun K2 f hf => ?_, fun K41 fm x1 x2 => ?_, h2, t2.trans t1⟩
    · obtain ⟨f, rfl⟩ : ∃ g, f = g + 1 := ⟨f - 1, by omega⟩
      rw [F_P_produceEverywhere_L10, if_neg (by exact nI_ge (b := 4) (by omega) (by decide)), si4, biE, gd_t (inbN (by omega) (by decide)), nI_clamp (by omega), e1, biE, nI_1, e3 K2 f (by omega)]
    · rw [show fm + (j + 1) = (fm + j) + 1 by omega, F_M_pass_L71, if_neg (by exact nI_ge (b := 32) (by omega) (by decide)), e2, show 4 * s + kd + 1 = 4 * s + (kd + 1) by omega, e4]
theorem pe_out {t mo ea sp : Nat} : ∀ (j s : Nat) (c : CSt) (m : MSt) (Ls : Nat → List Pk), s + j = 8 → R0 c m Ls t mo ea sp → ∃ c' m' Ls', (∀ f, j < f → F_P_produceEverywhere_L2 f (nI s) c = some ((), c')) ∧ (∀ K41 fm x1 x2, F_M_pass_L71 K41 (fm + 1 + 4 * j) x1 x2 (nI (4 * s)) m = K41 x1 (x2 + 1) m') ∧ R0 c' m' Ls' t mo ea sp ∧ m'.1 = m.1 := by
  intro j
  induction j with
  | zero =>
    intro s c m Ls hk h
    refine ⟨c, m, Ls, fun f hf => ?_, fun K41 fm x1 x2 => ?_, h, rfl⟩
    · obtain ⟨f, rfl⟩ : ∃ g, f = g + 1 := ⟨f - 1, by omega⟩
      rw [F_P_produceEverywhere_L2, show s = 8 by omega, if_pos (by decide +kernel)]
    · rw [show fm + 1 + 4 * 0 = fm + 1 by omega, F_M_pass_L71, show s = 8 by omega, if_pos (by decide +kernel)]
  | succ j ih =>
    intro s c m Ls hk h
    obtain ⟨c1, m1, Ls1, e1, e2, h1, t1⟩ := pe_in (s := s) (by omega) 4 0 c m Ls (by omega) h
    obtain ⟨c2, m2, Ls2, e3, e4, h2, t2⟩ := ih (s + 1) c1 m1 Ls1 (by omega) h1
    refine ⟨c2, m2, Ls2, fun f hf => ?_, fun K41 fm x1 x2 => ?_, h2, t2.trans t1⟩
    · obtain ⟨f, rfl⟩ : ∃ g, f = g + 1 := ⟨f - 1, by omega⟩
      rw [F_P_produceEverywhere_L2, if_neg (by exact nI_ge (b := 8) (by omega) (by decide))]
      exact (e1 _ 5 (by omega)).trans (e3 f (by omega))
    · have := e2 K41 (fm + 1 + 4 * j) x1 x2
      rw [show 4 * s + 0 = 4 * s from rfl] at this
      rw [show fm + 1 + 4 * (j + 1) = fm + 1 + 4 * j + 4 by omega, this, show 4 * s + 4 = 4 * (s + 1) by omega, e4]
abbrev ct (c : CSt) (x : Int32) : CSt := (c.1, c.2.1, c.2.2.1, c.2.2.2.1, c.2.2.2.2.1, c.2.2.2.2.2.1, c.2.2.2.2.2.2.1, c.2.2.2.2.2.2.2.1, c.2.2.2.2.2.2.2.2.1, c.2.2.2.2.2.2.2.2.2.1, x, c.2.2.2.2.2.2.2.2.2.2.2.1, c.2.2.2.2.2.2.2.2.2.2.2.2.1, c.2.2.2.2.2.2.2.2.2.2.2.2.2.1, c.2.2.2.2.2.2.2.2.2.2.2.2.2.2)
theorem r0_time {c : CSt} {m : MSt} {Ls : Nat → List Pk} {t t' mo ea sp : Nat} (h : R0 (ct c (nI t)) m Ls t mo ea sp) (hle : t ≤ t') (h2 : t' ≤ 2000000000) : R0 (ct c (nI t')) (m.1, nI t', m.2.2) Ls t' mo ea sp := by
  obtain ⟨q1, q2, q3, q4, q5, q6, q7, q8, q9, q10, q11, q12, q13, q14, q15, q16, q17⟩ := h
  refine ⟨⟨rfl, rfl, h2⟩, q2, q3, q4, q5, q6, q7, q8, q9, q10, q11, q12, q13, q14, fun ρ hρ => ?_, q16, q17⟩
  obtain ⟨a, b, c, d⟩ := q15 ρ hρ
  refine ⟨a, b, c, fun p hp => ?_⟩
  obtain ⟨d1, b, d2, d3⟩ := d p hp
  exact ⟨d1, b, by omega, d3⟩
theorem rem16 {t : Nat} (h : t < 2 ^ 31) : nI t - nI t / (16 : Int32) * 16 = nI (t % 16) := by
  rw [show (16 : Int32) = nI 16 from rfl, pk_div h (by omega) (by omega), pk_mul, pk_sub (by omega)]
  congr 1
  omega
theorem pass_L {n E : Nat} (hn : n ≤ 2000) (hE : E ≤ 2000000000) : ∀ (r k f1 f2 t T : Nat) (c : CSt) (m : MSt) (Ls : Nat → List Pk) (mo ea sp : Nat), k + r = n → R0 (ct c (nI t)) m Ls t mo ea sp → t + r = E → T % 16 = 0 → t < T → T ≤ t + 16 → 1 ≤ f1 → E < T + 16 * (f1 - 1) → r < f2 →
    ∃ c' m', F_P_pass_L54 f1 (nI E) (nI T) c = some (.inr (nI E), c') ∧ F_M_pass_L41 f2 (nI n) (nI k) m = some (nI E, m') ∧ Rel c' m' ∧ m'.1 = m.1 := by
  intro r
  induction r with
  | zero =>
    intro k f1 f2 t T c m Ls mo ea sp hk h ht hT h1 h2 hf1 hf2 hf
    obtain ⟨f1, rfl⟩ : ∃ g, f1 = g + 1 := ⟨f1 - 1, by omega⟩
    obtain ⟨f2, rfl⟩ : ∃ g, f2 = g + 1 := ⟨f2 - 1, by omega⟩
    have e : t = E := by omega
    subst e
    refine ⟨_, m, by rw [F_P_pass_L54, if_pos (by exact nI_lt h1 (by omega))], ?_, ⟨Ls, t, mo, ea, sp, h⟩, rfl⟩
    rw [F_M_pass_L41, if_pos (by exact nI_le (by omega) (by omega)), h.1.2.1]
  | succ r ih =>
    intro k f1 f2 t T c m Ls mo ea sp hk h ht hT h1 h2 hf1 hf2 hf
    obtain ⟨f2, rfl⟩ : ∃ g, f2 = g + 1 := ⟨f2 - 1, by omega⟩
    have h' := r0_time (t' := t + 1) h (by omega) (by omega)
    have hM : ∀ X, (if nI ((t + 1) % 16) = (0 : Int32) then F_M_pass_L71 (F_M_pass_L41 f2) 2101 (nI n) (nI k) 0 (m.1, nI (t + 1), m.2.2) else F_M_pass_L41 f2 (nI n) (nI (k + 1)) (m.1, nI (t + 1), m.2.2)) = X → F_M_pass_L41 (f2 + 1) (nI n) (nI k) m = X := by
      intro X hX
      rw [F_M_pass_L41, if_neg (by exact nI_ge (by omega) (by omega)), show m.2.1 = nI t from h.1.2.1, nI_1, nI_1, rem16 (by omega)]
      exact hX
    by_cases hm : (t + 1) % 16 = 0
    · have hTe : T = t + 1 := by omega
      subst hTe
      obtain ⟨f1, rfl⟩ : ∃ g, f1 = g + 1 := ⟨f1 - 1, by omega⟩
      obtain ⟨c1, m1, Ls1, e1, e2, h3, t1⟩ := pe_out 8 0 _ _ _ (by omega) h'
      have h4 : R0 (ct c1 (nI (t + 1))) m1 Ls1 (t + 1) mo ea sp := by
        obtain ⟨q1, q2, q3, q4, q5, q6, q7, q8, q9, q10, q11, q12, q13, q14, q15, q16, q17⟩ := h3
        exact ⟨⟨rfl, q1.2⟩, q2, q3, q4, q5, q6, q7, q8, q9, q10, q11, q12, q13, q14, q15, q16, q17⟩
      obtain ⟨c', m', e3, e4, h5, t2⟩ := ih (k + 1) f1 f2 (t + 1) (t + 1 + 16) c1 m1 Ls1 mo ea sp (by omega) h4 (by omega) (by omega) (by omega) (by omega) (by omega) (by omega) (by omega)
      refine ⟨c', m', ?_, hM _ ?_, h5, t2.trans t1⟩
      · rw [F_P_pass_L54, if_neg (by exact nI_nlt (by omega) (by omega))]
        have e1' : F_P_produceEverywhere (ct c (nI (t + 1))) = some ((), c1) := e1 9 (by omega)
        rw [e1', biE, show (16 : Int32) = nI 16 from rfl, nI_add, e3]
      · rw [if_pos (by rw [hm]; rfl)]
        refine (e2 (F_M_pass_L41 f2) 2068 (nI n) (nI k)).trans ?_
        rw [nI_1, e4]
    · obtain ⟨c', m', e3, e4, h5, t2⟩ := ih (k + 1) f1 f2 (t + 1) T c (m.1, nI (t + 1), m.2.2) Ls mo ea sp (by omega) h' (by omega) (by omega) (by omega) (by omega) (by omega) (by omega) (by omega)
      refine ⟨c', m', e3, hM _ ?_, h5, t2⟩
      rw [if_neg (by exact nI_ne0 (by omega) (by omega)), e4]
theorem sim_pass (a : Int32) {c : CSt} {m : MSt} (h : Rel c m) : ∃ o c' v m', F_P_pass a c = some (o, c') ∧ F_M_pass a m = some (v, m') ∧ ((o = .inl 2 ∧ m'.1 = 1) ∨ (o = .inr v ∧ m'.1 = 0)) ∧ Rel c' m' := by
  obtain ⟨Ls, t, mo, ea, sp, hR⟩ := id h
  have ht := hR.1
  rcases spl a (n := 2001) (by decide) with h1 | ⟨n, hn, rfl⟩
  · refine ⟨.inl 2, c, 0, (1, m.2), ?_, ?_, Or.inl ⟨rfl, rfl⟩, h⟩
    · unfold F_P_pass
      rw [rg_bad (n := 2000) h1 (by decide) (by rfl), biE, oxL]
    · unfold F_M_pass F_M_pass_J22
      rw [min_bad h1 (by rfl), biE, if_pos rfl, if_neg (by decide)]
      all_goals rfl
  have e1 : (2000000000 : Int32) - nI t = nI (2000000000 - t) := pk_sub (a := 2000000000) ht.2.2
  by_cases h2 : n ≤ 2000000000 - t
  · have h0 : R0 (ct c (nI t)) (0, m.2) Ls t mo ea sp := by
      obtain ⟨q1, q2, q3, q4, q5, q6, q7, q8, q9, q10, q11, q12, q13, q14, q15, q16, q17⟩ := hR
      exact ⟨⟨rfl, q1.2⟩, q2, q3, q4, q5, q6, q7, q8, q9, q10, q11, q12, q13, q14, q15, q16, q17⟩
    obtain ⟨c', m', e3, e4, h5, t2⟩ := pass_L (n := n) (E := t + n) (by omega) (by omega) n 0 200 2101 t (t - t % 16 + 16) c (0, m.2) Ls mo ea sp (by omega) h0 rfl (by omega) (by omega) (by omega) (by omega) (by omega) (by omega)
    refine ⟨.inr (nI (t + n)), c', nI (t + n), m', ?_, ?_, Or.inr ⟨rfl, t2⟩, h5⟩
    · unfold F_P_pass
      rw [rg_ok (n := 2000) (by omega) (by decide) (by rfl), biE, oxR, ht.1, e1, if_pos (by exact nI_le h2 (by omega)), nmE, nmE, rem16 (by omega), pk_sub (by omega), show (16 : Int32) = nI 16 from rfl, nI_add, nI_add]
      exact e3
    · unfold F_M_pass
      rw [min_ok (n := 2001) hn (by decide) (by rfl), biE, if_neg (by decide), ht.2.1, e1, if_pos (by exact nI_le h2 (by omega)), if_pos (by decide), ← ht.2.1]
      exact e4
  · refine ⟨.inl 2, c, 0, (1, m.2), ?_, ?_, Or.inl ⟨rfl, rfl⟩, h⟩
    · unfold F_P_pass
      rw [rg_ok (n := 2000) (by omega) (by decide) (by rfl), biE, oxR, ht.1, e1, if_neg (by exact nI_ge (by omega) (by omega))]
    · unfold F_M_pass F_M_pass_J22
      rw [min_ok (n := 2001) hn (by decide) (by rfl), biE, if_neg (by decide), ht.2.1, e1, if_neg (by exact nI_ge (by omega) (by omega)), if_neg (by decide), ← ht.2.1]
