def Lok (t : Nat) (L : List Pk) : Prop := L.length ≤ 8 ∧ (∀ p ∈ L, 1 ≤ p.2.2) ∧ Dist L ∧ Org t L
theorem lok_of {r : RowS} {m : MSt} {ρ : Nat} {L : List Pk} {t : Nat} (h : RowR r m ρ L t) : Lok t L := ⟨h.1.1, h.1.2.2.2.1, h.2.1, h.2.2.2⟩
theorem org_put {t : Nat} {o b : Int32} {n : Nat} {L : List Pk} (h : Org t L) (h1 : ∃ a, a < 8 ∧ o = nI a) (h2 : ∃ a, a ≤ t ∧ b = nI a) : Org t (putL o b n L) := by
  unfold putL
  split
  · exact h
  · split
    · intro p hp
      rcases List.mem_append.mp hp with hp | hp
      · exact h p hp
      · rw [List.mem_singleton.mp hp]; exact ⟨h1, h2⟩
    · rcases snoc_cases L with rfl | ⟨M, p, rfl⟩
      · intro p hp; simp [addLast] at hp
      · rw [addLast_app]
        intro q hq
        rcases List.mem_append.mp hq with hq | hq
        · exact h q (List.mem_append.mpr (Or.inl hq))
        · rw [List.mem_singleton.mp hq]
          exact h p (by simp)
theorem lok_put {t : Nat} {o b : Int32} {n : Nat} {L : List Pk} (h : Lok t L) (h1 : ∃ a, a < 8 ∧ o = nI a) (h2 : ∃ a, a ≤ t ∧ b = nI a) : Lok t (putL o b n L) :=
  ⟨putL_len o b n h.1, pos_put o b n L h.2.1, dist_put o b n h.2.2.1, org_put h.2.2.2 h1 h2⟩
theorem lok_take {t n : Nat} {p : Pk} {l : List Pk} (h : Lok t (p :: l)) (hn : n ≤ p.2.2) : Lok t (takeL n (p :: l)) := by
  obtain ⟨a, b, c, d⟩ := h
  refine ⟨?_, ?_, dist_take n c, ?_⟩
  · rw [takeL_cons]; split
    · simp at a; omega
    · simpa using a
  · rw [takeL_cons]; split
    · exact fun q hq => b q (List.mem_cons_of_mem _ hq)
    · intro q hq
      rcases List.mem_cons.mp hq with rfl | hq
      · show 1 ≤ p.2.2 - n; omega
      · exact b q (List.mem_cons_of_mem _ hq)
  · rw [takeL_cons]; split
    · exact fun q hq => d q (List.mem_cons_of_mem _ hq)
    · intro q hq
      rcases List.mem_cons.mp hq with rfl | hq
      · exact d p (by simp)
      · exact d q (List.mem_cons_of_mem _ hq)
theorem movL_succ {k : Nat} {p : Pk} {t B : List Pk} (hp : 1 ≤ p.2.2) : movL (k + 1) (p :: t) B = movL k (takeL 1 (p :: t)) (putL p.1 p.2.1 1 B) := by
  by_cases h1 : 1 = p.2.2
  · rw [takeL_cons, if_pos h1]
    show (if k + 1 = 0 then _ else if p.2.2 ≤ k + 1 then movL (k + 1 - p.2.2) t (putL p.1 p.2.1 p.2.2 B) else _) = _
    rw [if_neg (by omega), if_pos (by omega), ← h1, Nat.add_sub_cancel]
  · rw [takeL_cons, if_neg h1]
    show (if k + 1 = 0 then _ else if p.2.2 ≤ k + 1 then movL (k + 1 - p.2.2) t (putL p.1 p.2.1 p.2.2 B) else ((p.1, p.2.1, p.2.2 - (k + 1)) :: t, putL p.1 p.2.1 (k + 1) B)) = _
    rw [if_neg (by omega)]
    show _ = if k = 0 then _ else if p.2.2 - 1 ≤ k then movL (k - (p.2.2 - 1)) t (putL p.1 p.2.1 (p.2.2 - 1) (putL p.1 p.2.1 1 B)) else ((p.1, p.2.1, p.2.2 - 1 - k) :: t, putL p.1 p.2.1 k (putL p.1 p.2.1 1 B))
    by_cases hk : k = 0
    · subst hk
      rw [if_neg (by omega), if_pos rfl]
    · rw [if_neg hk]
      by_cases hle : p.2.2 ≤ k + 1
      · rw [if_pos hle, if_pos (by omega), ← putL_add, show 1 + (p.2.2 - 1) = p.2.2 by omega, show k + 1 - p.2.2 = k - (p.2.2 - 1) by omega]
      · rw [if_neg hle, if_neg (by omega), ← putL_add, show 1 + k = k + 1 by omega, show p.2.2 - (k + 1) = p.2.2 - 1 - k by omega]
/-- k moves of the reference: what they leave -/
def MvR (u u' : MSt) (ρ σ : Nat) (t : Nat) (A' B' : List Pk) : Prop := ∃ sz og bn, u' = mrow u sz og bn ∧ UR sz og bn ρ A' ∧ UR sz og bn σ B' ∧ Lok t A' ∧ Lok t B' ∧ ∀ (τ : Nat) (C : List Pk), τ ≠ ρ → τ ≠ σ → sumL C ≤ 1000 → UR (mSz u) (mOg u) (mBn u) τ C → UR sz og bn τ C
theorem mv_rf {u : MSt} {ρ σ t : Nat} {A B : List Pk} (ha : UR (mSz u) (mOg u) (mBn u) ρ A) (hb : UR (mSz u) (mOg u) (mBn u) σ B) (la : Lok t A) (lb : Lok t B) : MvR u u ρ σ t A B := ⟨_, _, _, rfl, ha, hb, la, lb, fun _ _ _ _ _ h => h⟩
/-- one move, then the others -/
theorem mv_step {u : MSt} {ρ σ t : Nat} {p : Pk} {l B : List Pk} (hρ : ρ ≤ 48) (hσ : σ ≤ 48) (hne : ρ ≠ σ) (ha : UR (mSz u) (mOg u) (mBn u) ρ (p :: l)) (hb : UR (mSz u) (mOg u) (mBn u) σ B) (la : Lok t (p :: l)) (lb : Lok t B) (hs : sumL (p :: l) ≤ 1000) (hsb : sumL B < 1000) :
    ∃ u1, F_M_move (nI ρ) (nI σ) u = some ((), u1) ∧ u1.1 = u.1 ∧ (∃ sz og bn, u1 = mrow u sz og bn) ∧ UR (mSz u1) (mOg u1) (mBn u1) ρ (takeL 1 (p :: l)) ∧ UR (mSz u1) (mOg u1) (mBn u1) σ (putL p.1 p.2.1 1 B) ∧ Lok t (takeL 1 (p :: l)) ∧ Lok t (putL p.1 p.2.1 1 B) ∧ ∀ (u' : MSt) (A' B' : List Pk), MvR u1 u' ρ σ t A' B' → MvR u u' ρ σ t A' B' := by
  have hp := la.2.1 p (by simp)
  obtain ⟨sz, og, bn, e1, ua, ub, uo⟩ := mmove_ok hρ hσ hne ha hp hs hb lb.2.2.1 lb.2.1 lb.1 hsb
  obtain ⟨o1, o2⟩ := la.2.2.2 p (by simp)
  refine ⟨_, e1, rfl, ⟨_, _, _, rfl⟩, ua, ub, lok_take la hp, lok_put lb o1 o2, fun u' A' B' h => ?_⟩
  obtain ⟨sz2, og2, bn2, e2, a1, a2, a3, a4, a5⟩ := h
  exact ⟨sz2, og2, bn2, e2, a1, a2, a3, a4, fun τ C h1 h2 h3 h4 => a5 τ C h1 h2 h3 (uo τ C h1 h2 h3 h4)⟩
theorem load_L {ρ w n rm t : Nat} (hρ : ρ < 32) (hw : w < 16) (hn : n < 2 ^ 31) (hrm : rm ≤ 80) : ∀ (k fuel many : Nat) (A B : List Pk) (u : MSt), UR (mSz u) (mOg u) (mBn u) ρ A → UR (mSz u) (mOg u) (mBn u) (32 + w) B → Lok t A → Lok t B → sumL A ≤ 999 → sumL B ≤ rm → u.2.2.2.2.2.2.2.2.2.2.2.1 w = nI rm → many ≤ n → k = min (n - many) (min (sumL A) (rm - sumL B)) → k < fuel → ∃ u', F_M_load_L59 fuel (nI w) (nI n) (nI ρ) (nI many) u = some (nI (many + k), u') ∧ MvR u u' ρ (32 + w) t (movL k A B).1 (movL k A B).2 := by
  intro k
  induction k with
  | zero =>
    intro fuel many A B u ha hb la lb hsa hsb hr hm hk hf
    obtain ⟨f, rfl⟩ : ∃ f, fuel = f + 1 := ⟨fuel - 1, by omega⟩
    refine ⟨u, ?_, by rw [movL_0]; exact mv_rf ha hb la lb⟩
    rw [F_M_load_L59]
    by_cases c1 : n ≤ many
    · rw [if_pos (by exact nI_le c1 (by omega))]; rfl
    · rw [if_neg (by exact nI_ge (by omega) (by omega)), gd_t (inbN (by omega) (by decide)), nI_clamp (show ρ < 2 ^ 31 by omega), show u.2.2.2.2.2.2.2.2.2.2.2.2.1 ρ = nI (sumL A) from ha.1]
      by_cases c2 : sumL A = 0
      · rw [if_pos (by rw [c2]; decide +kernel)]; rfl
      · rw [if_neg (by exact nI_nle (by omega) (by omega)), c32, gd_t (inbN (by omega) (by decide)), gd_t (inbN (by omega) (by decide)), nI_clamp (show 32 + w < 2 ^ 31 by omega), nI_clamp (show w < 2 ^ 31 by omega), hr, show u.2.2.2.2.2.2.2.2.2.2.2.2.1 (32 + w) = nI (sumL B) from hb.1, if_pos (by exact nI_le (by omega) (by omega))]; rfl
  | succ k ih =>
    intro fuel many A B u ha hb la lb hsa hsb hr hm hk hf
    obtain ⟨f, rfl⟩ : ∃ f, fuel = f + 1 := ⟨fuel - 1, by omega⟩
    obtain ⟨p, l, rfl⟩ := sumL_pos la.2.1 (show 0 < sumL A by omega)
    have hp := la.2.1 p (by simp)
    obtain ⟨u1, e1, et, ⟨sz, og, bn, eu⟩, ua, ub, la', lb', hmv⟩ := mv_step (show ρ ≤ 48 by omega) (show 32 + w ≤ 48 by omega) (show ρ ≠ 32 + w by omega) ha hb la lb (by omega) (by omega)
    have hts := takeL_sum (t := l) hp
    have hps := sumL_put p.1 p.2.1 1 B lb.1
    obtain ⟨u', e2, hm2⟩ := ih f (many + 1) _ _ u1 ua ub la' lb' (by omega) (by omega) (by rw [eu]; exact hr) (by omega) (by omega) (by omega)
    refine ⟨u', ?_, ?_⟩
    · rw [F_M_load_L59, if_neg (by exact nI_ge (by omega) (by omega)), gd_t (inbN (by omega) (by decide)), nI_clamp (show ρ < 2 ^ 31 by omega), show u.2.2.2.2.2.2.2.2.2.2.2.2.1 ρ = nI (sumL (p :: l)) from ha.1, if_neg (by exact nI_nle (by omega) (by omega)), c32, gd_t (inbN (by omega) (by decide)), gd_t (inbN (by omega) (by decide)), nI_clamp (show 32 + w < 2 ^ 31 by omega), nI_clamp (show w < 2 ^ 31 by omega), hr, show u.2.2.2.2.2.2.2.2.2.2.2.2.1 (32 + w) = nI (sumL B) from hb.1, if_neg (by exact nI_ge (by omega) (by omega)), e1, biE, nI_1, e2, show many + 1 + k = many + (k + 1) by omega]
    · rw [movL_succ hp]
      exact hmv u' _ _ hm2
/-- the relation behind moves between two rows -/
theorem rel_mv {c : CSt} {m u' : MSt} {Ls : Nat → List Pk} {t mo ea sp ρ σ : Nat} {r1 r2 : RowS} {A' B' : List Pk} (h : R0 c m Ls t mo ea sp) (k : Int32) (hne : ρ ≠ σ) (hm : MvR (k, m.2) u' ρ σ t A' B') (g1 : Gd r1 A') (g2 : Gd r2 B') (b1 : ρ < 32 → sumL A' ≤ 999) (b2 : σ < 32 → sumL B' ≤ 999) (b3 : ∀ w, w < 16 → ρ = 32 + w → ∀ a, c.2.2.2.2.2.2.1 w = nI a → a ≤ 80 → sumL A' ≤ a) (b4 : ∀ w, w < 16 → σ = 32 + w → ∀ a, c.2.2.2.2.2.2.1 w = nI a → a ≤ 80 → sumL B' ≤ a) :
    Rel (c.1, c.2.1, c.2.2.1, c.2.2.2.1, c.2.2.2.2.1, c.2.2.2.2.2.1, c.2.2.2.2.2.2.1, c.2.2.2.2.2.2.2.1, c.2.2.2.2.2.2.2.2.1, c.2.2.2.2.2.2.2.2.2.1, c.2.2.2.2.2.2.2.2.2.2.1, c.2.2.2.2.2.2.2.2.2.2.2.1, c.2.2.2.2.2.2.2.2.2.2.2.2.1, c.2.2.2.2.2.2.2.2.2.2.2.2.2.1, va_up (va_up (cRs c) ρ r1) σ r2) u' := by
  obtain ⟨q1, q2, q3, q4, q5, q6, q7, q8, q9, q10, q11, q12, q13, q14, q15, q16, q17⟩ := h
  obtain ⟨sz, og, bn, rfl, a1, a2, a3, a4, a5⟩ := hm
  refine ⟨va_up (va_up Ls ρ A') σ B', t, mo, ea, sp, q1, q2, q3, q4, q5, q6, q7, q8, q9, q10, q11, q12, q13, q14, rows2 q15 (allb q16 q17) hne ⟨g1, a3.2.2.1, a1, a3.2.2.2⟩ ⟨g2, a4.2.2.1, a2, a4.2.2.2⟩ a5, fun τ hτ => ?_, fun w hw => ?_⟩
  · by_cases e2 : τ = σ
    · subst e2; rw [va_up_self]; exact b2 hτ
    · rw [va_up_ne _ _ e2]
      by_cases e1 : τ = ρ
      · subst e1; rw [va_up_self]; exact b1 hτ
      · rw [va_up_ne _ _ e1]; exact q16 τ hτ
  · obtain ⟨a, h1, h2, h3⟩ := q17 w hw
    refine ⟨a, h1, h2, ?_⟩
    by_cases e2 : 32 + w = σ
    · rw [e2, va_up_self]; exact b4 w hw e2.symm a h2 h1
    · rw [va_up_ne _ _ e2]
      by_cases e1 : 32 + w = ρ
      · rw [e1, va_up_self]; exact b3 w hw e1.symm a h2 h1
      · rw [va_up_ne _ _ e1]; exact h3
theorem movL_sum : ∀ (A : List Pk) (k : Nat) (B : List Pk), (∀ p ∈ A, 1 ≤ p.2.2) → B.length ≤ 8 → k ≤ sumL A → sumL (movL k A B).1 = sumL A - k ∧ sumL (movL k A B).2 = sumL B + k := by
  intro A
  induction A with
  | nil => intro k B _ _ hk; simp [sumL] at hk; subst hk; rw [movL_0]; simp
  | cons p l ih =>
    intro k B hp hB hk
    by_cases h0 : k = 0
    · subst h0; rw [movL_0]; simp
    · rw [sumL_cons] at hk ⊢
      by_cases h1 : p.2.2 ≤ k
      · have e : movL k (p :: l) B = movL (k - p.2.2) l (putL p.1 p.2.1 p.2.2 B) := by
          show (if k = 0 then _ else if p.2.2 ≤ k then _ else _) = _
          rw [if_neg h0, if_pos h1]
        obtain ⟨x1, x2⟩ := ih (k - p.2.2) (putL p.1 p.2.1 p.2.2 B) (fun q hq => hp q (List.mem_cons_of_mem _ hq)) (putL_len _ _ _ hB) (by omega)
        rw [e, x1, x2, sumL_put _ _ _ _ hB]
        omega
      · have e : movL k (p :: l) B = ((p.1, p.2.1, p.2.2 - k) :: l, putL p.1 p.2.1 k B) := by
          show (if k = 0 then _ else if p.2.2 ≤ k then _ else _) = _
          rw [if_neg h0, if_neg h1]
        rw [e]
        show sumL ((p.1, p.2.1, p.2.2 - k) :: l) = _ ∧ sumL (putL p.1 p.2.1 k B) = _
        rw [sumL_cons, sumL_put _ _ _ _ hB]
        show p.2.2 - k + sumL l = _ ∧ _
        omega
theorem sim_load (a b d : Int32) {c : CSt} {m : MSt} (h : Rel c m) : ∃ o c' v m', F_P_load a b d c = some (o, c') ∧ F_M_load a b d m = some (v, m') ∧ m'.1 = cd o ∧ (∀ r, o = .inr r → v = r) ∧ Rel c' m' := by
  rcases spl a (n := 16) (by decide) with h1 | ⟨w, hw, rfl⟩
  · refine ⟨.inl 1, c, 0, (1, m.2), ?_, ?_, rfl, fun r hr => by simp at hr, h⟩
    · unfold F_P_load
      rw [wg_bad h1, biE, oxL]
    · unfold F_M_load F_M_load_J19 F_M_load_J32
      rw [min_bad h1 (by rfl), biE, if_pos rfl, if_neg (by decide)]
      all_goals rfl
  rcases spl b (n := 8) (by decide) with h2 | ⟨s, hs, rfl⟩
  · refine ⟨.inl 1, c, 0, (1, m.2), ?_, ?_, rfl, fun r hr => by simp at hr, h⟩
    · unfold F_P_load
      rw [wg_ok hw, biE, oxR, st_bad h2, biE, oxL]
    · unfold F_M_load F_M_load_J19 F_M_load_J32
      rw [min_ok (n := 16) hw (by decide) (by rfl), biE, if_neg (by decide), min_bad h2 (by rfl), biE, if_pos rfl, if_neg (by decide)]
      all_goals rfl
  by_cases h3 : d < 0
  · refine ⟨.inl 2, c, 0, (2, m.2), ?_, ?_, rfl, fun r hr => by simp at hr, h⟩
    · unfold F_P_load
      rw [wg_ok hw, biE, oxR, st_ok hs, biE, oxR, nz_bad h3, biE, oxL]
    · unfold F_M_load F_M_load_J32
      rw [min_ok (n := 16) hw (by decide) (by rfl), biE, if_neg (by decide), min_ok (n := 8) hs (by decide) (by rfl), biE, if_neg (by decide), if_neg (by exact Int32.not_le.mpr h3), if_neg (by decide)]
      all_goals rfl
  obtain ⟨n, hn, rfl⟩ := nI_of h3
  obtain ⟨Ls, t, mo, ea, sp, hR⟩ := id h
  obtain ⟨q1, q2, q3, q4, q5, q6, q7, q8, q9, q10, q11, q12, q13, q14, q15, q16, q17⟩ := id hR
  obtain ⟨hwk, k, hk, hwk2⟩ := q10 w hw
  obtain ⟨rm, hrm, hr1, hr2⟩ := q17 w hw
  have hmr : m.2.2.2.2.2.2.2.2.2.2.2.1 w = nI rm := by rw [(q11 w hw).1]; exact hr1
  have g := inbN (show w < 16 from hw) (by decide)
  have gρ := inbN (show 4 * s + k < 32 by omega) (by decide)
  have hw2 : w < 2 ^ 31 := by omega
  have rA := q15 (4 * s + k) (by omega)
  have rB := q15 (32 + w) (by omega)
  have hA := q16 (4 * s + k) (by omega)
  obtain ⟨r1, r2, e1, g1, g2⟩ := moveTo_ok rA.1 rB.1 hn (show rm < 2 ^ 30 by omega) (by omega) hr2
  obtain ⟨u', e2, hmv⟩ := load_L (ρ := 4 * s + k) (w := w) (n := n) (rm := rm) (t := t) (by omega) hw hn hrm _ 1001 0 (Ls (4 * s + k)) (Ls (32 + w)) (0, m.2) rA.2.2.1 rB.2.2.1 (lok_of rA) (lok_of rB) hA hr2 hmr (by omega) rfl (by omega)
  obtain ⟨s1, s2⟩ := movL_sum (Ls (4 * s + k)) (min n (min (sumL (Ls (4 * s + k))) (rm - sumL (Ls (32 + w))))) (Ls (32 + w)) (lok_of rA).2.1 (lok_of rB).1 (by omega)
  rw [Nat.sub_zero, Nat.zero_add] at e2
  rw [Nat.sub_zero] at hmv
  refine ⟨.inr (nI (min n (min (sumL (Ls (4 * s + k))) (rm - sumL (Ls (32 + w)))))), _, _, u', by
    unfold F_P_load
    rw [wg_ok hw, biE, oxR, st_ok hs, biE, oxR, nz_ok hn, biE, oxR, gd_t g, nI_clamp hw2, hwk2, si4, biE, gd_t gρ, gd_t g, gd_t g, nI_clamp (show 4 * s + k < 2 ^ 31 by omega), gd_t (decide_eq_true (by omega)), hr1, e1, biE], by
    unfold F_M_load F_M_load_J32
    rw [min_ok (n := 16) hw (by decide) (by rfl), biE, if_neg (by decide), min_ok (n := 8) hs (by decide) (by rfl), biE, if_neg (by decide), if_pos (by exact nI_pos' hn), if_pos (by decide), gd_t g, nmE, nI_clamp hw2, hwk, hwk2, mi4]
    exact e2, ?_, fun r hr => Sum.inr.inj hr, ?_⟩
  · obtain ⟨sz, og, bn, rfl, -⟩ := hmv
    rfl
  · exact rel_mv hR 0 (by omega) hmv g1 g2 (fun _ => by omega) (fun z => by omega) (fun v hv z => by omega) (fun v hv z a ha ha2 => by
      have : v = w := by omega
      subst this
      rw [hr1] at ha
      have := (nI_eq (by omega) (by omega)).mp ha
      omega)
