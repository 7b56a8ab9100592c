theorem dtail {j s kd : Nat} {x5 : Int32} {c : CSt} (hs : s < 8) (hk : kd < 4) : F_P_deliverFrom_L18 j 1 (nI s) (nI kd) x5 (nI 0) (nI 8) c = (if c.2.1 (4 * s + kd) = (-1 : Int32) then some (x5, (c.1, c.2.1, c.2.2.1, c.2.2.2.1, c.2.2.2.2.1, c.2.2.2.2.2.1, c.2.2.2.2.2.2.1, c.2.2.2.2.2.2.2.1, upd c.2.2.2.2.2.2.2.2.1 kd (c.2.2.2.2.2.2.2.2.1 kd + x5), c.2.2.2.2.2.2.2.2.2.1, c.2.2.2.2.2.2.2.2.2.2.1, c.2.2.2.2.2.2.2.2.2.2.2.1, c.2.2.2.2.2.2.2.2.2.2.2.2.1, c.2.2.2.2.2.2.2.2.2.2.2.2.2.1, c.2.2.2.2.2.2.2.2.2.2.2.2.2.2)) else bi (F_P_produce (nI s) (c.2.1 (4 * s + kd)) x5 (c.1, c.2.1, c.2.2.1, c.2.2.2.1, c.2.2.2.2.1, c.2.2.2.2.2.1, c.2.2.2.2.2.2.1, c.2.2.2.2.2.2.2.1, upd c.2.2.2.2.2.2.2.2.1 kd (c.2.2.2.2.2.2.2.2.1 kd + x5), c.2.2.2.2.2.2.2.2.2.1, c.2.2.2.2.2.2.2.2.2.2.1, c.2.2.2.2.2.2.2.2.2.2.2.1, c.2.2.2.2.2.2.2.2.2.2.2.2.1, c.2.2.2.2.2.2.2.2.2.2.2.2.2.1, c.2.2.2.2.2.2.2.2.2.2.2.2.2.2)) (fun _ u14 => some (x5, u14))) := by
  have g4 := inbN (show kd < 4 from hk) (by decide)
  rw [F_P_deliverFrom_L18, if_pos (by decide +kernel), gd_t g4, gd_t g4, si4, biE, gd_t (inbN (by omega) (by decide)), nmE, nI_clamp (show 4 * s + kd < 2 ^ 31 by omega), nI_clamp (show kd < 2 ^ 31 by omega)]
theorem sim_unload (a b d : Int32) {c : CSt} {m : MSt} (h : Rel c m) : ∃ o c' v m', F_P_unload a b d c = some (o, c') ∧ F_M_unload a b d m = some (v, m') ∧ m'.1 = cd o ∧ (∀ r, o = .inr r → v = r) ∧ Rel c' m' := by
  rcases spl a (n := 16) (by decide) with h1 | ⟨w, hw, rfl⟩
  · refine ⟨.inl 1, c, 0, (1, m.2), ?_, ?_, rfl, fun r hr => by simp at hr, h⟩
    · unfold F_P_unload
      rw [wg_bad h1, biE, oxL]
    · unfold F_M_unload F_M_unload_J19 F_M_unload_J32
      rw [min_bad h1 (by rfl), biE, if_pos rfl, if_neg (by decide)]
      all_goals rfl
  rcases spl b (n := 8) (by decide) with h2 | ⟨s, hs, rfl⟩
  · refine ⟨.inl 1, c, 0, (1, m.2), ?_, ?_, rfl, fun r hr => by simp at hr, h⟩
    · unfold F_P_unload
      rw [wg_ok hw, biE, oxR, st_bad h2, biE, oxL]
    · unfold F_M_unload F_M_unload_J19 F_M_unload_J32
      rw [min_ok (n := 16) hw (by decide) (by rfl), biE, if_neg (by decide), min_bad h2 (by rfl), biE, if_pos rfl, if_neg (by decide)]
      all_goals rfl
  by_cases h3 : d < 0
  · refine ⟨.inl 2, c, 0, (2, m.2), ?_, ?_, rfl, fun r hr => by simp at hr, h⟩
    · unfold F_P_unload
      rw [wg_ok hw, biE, oxR, st_ok hs, biE, oxR, nz_bad h3, biE, oxL]
    · unfold F_M_unload F_M_unload_J32
      rw [min_ok (n := 16) hw (by decide) (by rfl), biE, if_neg (by decide), min_ok (n := 8) hs (by decide) (by rfl), biE, if_neg (by decide), if_neg (by exact Int32.not_le.mpr h3), if_neg (by decide)]
      all_goals rfl
  obtain ⟨n, hn, rfl⟩ := nI_of h3
  obtain ⟨Ls, t, mo, ea, sp, hR⟩ := id h
  obtain ⟨q1, q2, q3, q4, q5, q6, q7, q8, q9, q10, q11, q12, q13, q14, q15, q16, q17⟩ := id hR
  obtain ⟨hwk, k, hk, hwk2⟩ := q10 w hw
  obtain ⟨rm, hrm, hr1, hr2⟩ := q17 w hw
  have g := inbN (show w < 16 from hw) (by decide)
  have g8 := inbN (show s < 8 from hs) (by decide)
  have gρ := inbN (show 4 * s + k < 32 by omega) (by decide)
  have hw2 : w < 2 ^ 31 := by omega
  have hs2 : s < 2 ^ 31 := by omega
  have rA := q15 (32 + w) (by omega)
  have hac : m.2.2.2.2.2.2.2.1 s = c.2.2.2.2.1 s := (q9 s hs).1
  have hM : ∀ X, (if ((c.2.2.2.2.1 s >>> (nI k &&& 31)) &&& (1 : Int32)) = (1 : Int32) then F_M_unload_L83 1001 (nI s) (nI n) (nI k) (nI (32 + w)) 1 0 (0, m.2) else F_M_unload_L83 1001 (nI s) (nI n) (nI k) (nI (32 + w)) 0 0 (0, m.2)) = X → F_M_unload (nI w) (nI s) (nI n) m = X := by
    intro X hX
    unfold F_M_unload F_M_unload_J32
    rw [min_ok (n := 16) hw (by decide) (by rfl), biE, if_neg (by decide), min_ok (n := 8) hs (by decide) (by rfl), biE, if_neg (by decide), if_pos (by exact nI_pos' hn), if_pos (by decide), gd_t g, nmE, nmE, gd_t g8, nI_clamp hw2, nI_clamp hs2, hwk, hwk2, c32, hac]
    exact hX
  by_cases hacc : ((c.2.2.2.2.1 s >>> (nI k &&& 31)) &&& (1 : Int32)) = (1 : Int32)
  · -- delivered
    obtain ⟨r1, e1, g1⟩ := del_C (j := 32 + w) (kd := k) (x5 := nI (min n (sumL (Ls (32 + w))))) hs q1.2.2 9 (min n (sumL (Ls (32 + w)))) 0 mo ea (Ls (32 + w)) c rA.1 rA.2.2.2 (fun k hk => (q7 k hk).2) (fun k hk => (q8 k hk).2) q1.1 q2.1 q3.1 q2.2.2 q3.2.2 (by omega) (by omega) (Or.inr (by have := rA.1.1; omega)) (by omega) (by omega)
    obtain ⟨rl, -⟩ := rest_lok (t := t) (Ls (32 + w)) (min n (sumL (Ls (32 + w)))) (lok_of rA)
    have hrs := rest_sum (Ls (32 + w)) (min n (sumL (Ls (32 + w))))
    have hP : ∀ X c', F_P_deliverFrom_L18 (32 + w) 1 (nI s) (nI k) (nI (min n (sumL (Ls (32 + w))))) (nI 0) (nI 8) (dst c (nI (mo + min (payL (payY c.2.2.1 c.2.2.2.1 t s) (min n (sumL (Ls (32 + w)))) (Ls (32 + w))) (min (2000000000 - mo) (2000000000 - ea)))) (nI (ea + min (payL (payY c.2.2.1 c.2.2.2.1 t s) (min n (sumL (Ls (32 + w)))) (Ls (32 + w))) (min (2000000000 - mo) (2000000000 - ea)))) (va_up (cRs c) (32 + w) r1)) = some (X, c') → F_P_unload (nI w) (nI s) (nI n) c = some (.inr X, c') := by
      intro X c' hX
      unfold F_P_unload
      rw [wg_ok hw, biE, oxR, st_ok hs, biE, oxR, nz_ok hn, biE, oxR, gd_t g, nmE, gd_t g8, nI_clamp hw2, nI_clamp hs2, hwk2, if_pos hacc, gd_t g]
      unfold F_P_deliverFrom
      rw [show F_Row_total (c.2.2.2.2.2.2.2.2.2.2.2.2.2.2 (32 + w)) = _ from tot_ok rA.1, biE, nmE, minI (by omega) hn, show F_P_deliverFrom_L18 (32 + w) 9 (nI s) (nI k) (nI (min n (sumL (Ls (32 + w))))) (nI (min n (sumL (Ls (32 + w))))) 0 c = _ from e1, hX, biE]
    rw [dtail hs (by omega)] at hP
    obtain ⟨em, hmd⟩ := q6 (4 * s + k) (by omega)
    have hcap : ∀ L' : List Pk, sumL L' ≤ sumL (Ls (32 + w)) → ∀ v, v < 16 → 32 + w = 32 + v → ∀ a, c.2.2.2.2.2.2.1 v = nI a → a ≤ 80 → sumL (Ls (32 + v)) ≤ a → sumL L' ≤ a := by
      intro L' hL v hv e a h1 h2 h3
      rw [← e] at h3; omega
    have hde : ∀ d' : Nat → Int32, (∀ j, d' j = if j = k then mDe m k + nI (min n (sumL (Ls (32 + w)))) else mDe m j) → ∀ j, j < 4 → d' j = upd c.2.2.2.2.2.2.2.2.1 k (c.2.2.2.2.2.2.2.2.1 k + nI (min n (sumL (Ls (32 + w))))) j := by
      intro d' hd j hj
      rw [hd, upd_at, ← q13 k (by omega)]
      by_cases e : j = k
      · rw [if_pos e, if_pos e]
      · rw [if_neg e, if_neg e]; exact q13 j hj
    rcases hmd with hmd | ⟨v, hv, hmd⟩
    · -- nothing is made
      have rB := q15 (4 * s + 0) (by omega)
      obtain ⟨ep, pr, hp2, hpr⟩ := q12 0 (by omega)
      obtain ⟨sz, og, bn, p', d', e2, u1, u2, u3, kp, kdd⟩ := del_M (f := c.2.2.1) (g := c.2.2.2.1) (s := s) (kd := k) (w := w) (n := n) (t := t) (v := 0) false hs (by omega) hw (by omega) hn q1.2.2 (min n (sumL (Ls (32 + w)))) 1001 0 mo ea pr (Ls (32 + w)) (Ls (4 * s + 0)) (0, m.2) rA.2.2.1 rB.2.2.1 (lok_of rA) (lok_of rB) (by omega) (q16 _ (by omega)) q7 q8 q1.2.1 q2.2.1 q3.2.1 q2.2.2 q3.2.2 (ep.trans hpr) hp2 (em.trans hmd) (by omega) (by omega) (by omega)
      rw [Nat.zero_add] at e2
      rw [if_pos hmd] at hP
      refine ⟨_, _, _, _, hP _ _ (by rfl), hM _ (by rw [if_pos hacc]; exact e2), by rfl, fun r hr => Sum.inr.inj hr, ?_⟩
      have u3' : ∀ (τ : Nat) (C : List Pk), τ ≠ 32 + w → sumL C ≤ 1000 → UR (mSz m) (mOg m) (mBn m) τ C → UR sz og bn τ C := by
        intro τ C z1 z2 z3
        by_cases e : τ = 4 * s + 0
        · subst e
          rw [if_neg (by decide), putL_0] at u2
          have hc0 : sz (4 * s + 0) = mSz m (4 * s + 0) := u2.1.trans rB.2.2.1.1.symm
          have hcs : sumL C = sumL (Ls (4 * s + 0)) := (nI_eq (by omega) (by have := q16 (4 * s + 0) (by omega); omega)).mp (z3.1.symm.trans rB.2.2.1.1)
          refine ⟨by rw [hc0]; exact z3.1, fun j q hj => ?_⟩
          have hl : j < sumL C := by rw [← ex_len]; exact (List.getElem?_eq_some_iff.mp hj).1
          have hj2 : (ex (Ls (4 * s + 0)))[j]? = some ((ex (Ls (4 * s + 0)))[j]'(by rw [ex_len]; omega)) := List.getElem?_eq_getElem _
          obtain ⟨y1, y2⟩ := u2.2 j _ hj2
          obtain ⟨y3, y4⟩ := rB.2.2.1.2 j _ hj2
          obtain ⟨y5, y6⟩ := z3.2 j q hj
          rw [y1, y2, ← y3, ← y4]
          exact ⟨y5, y6⟩
        · exact u3 τ C z1 e z2 z3
      refine ⟨va_up Ls (32 + w) (restL (min n (sumL (Ls (32 + w)))) (Ls (32 + w))), t, mo + min (payL (payY c.2.2.1 c.2.2.2.1 t s) (min n (sumL (Ls (32 + w)))) (Ls (32 + w))) (min (2000000000 - mo) (2000000000 - ea)), ea + min (payL (payY c.2.2.1 c.2.2.2.1 t s) (min n (sumL (Ls (32 + w)))) (Ls (32 + w))) (min (2000000000 - mo) (2000000000 - ea)), sp, q1, ⟨rfl, rfl, by have := q2.2.2; omega⟩, ⟨rfl, rfl, by have := q3.2.2; omega⟩, q4, q5, q6, q7, q8, q9, q10, q11, fun j hj => ?_, hde d' kdd, q14, rows1 q15 (allb q16 q17) ⟨g1, rl.2.2.1, u1, rl.2.2.2⟩ u3', fun τ hτ => ?_, fun v hv => ?_⟩
      · obtain ⟨y1, y2⟩ := q12 j hj
        refine ⟨?_, y2⟩
        show p' j = _
        rw [kp, if_neg (show ¬ false = true by decide), Nat.add_zero]
        by_cases e : j = 0
        · rw [if_pos e, e]; exact hpr.symm
        · rw [if_neg e]; exact y1
      · rw [va_up_ne _ _ (show τ ≠ 32 + w by omega)]; exact q16 τ hτ
      · obtain ⟨a, a1, a2, a3⟩ := q17 v hv
        refine ⟨a, a1, a2, ?_⟩
        by_cases e : 32 + v = 32 + w
        · rw [e, va_up_self, hrs]; rw [e] at a3; omega
        · rw [va_up_ne _ _ e]; exact a3
    · -- another kind is made
      have rB := q15 (4 * s + v) (by omega)
      have hsB := q16 (4 * s + v) (by omega)
      obtain ⟨ep, pr, hp2, hpr⟩ := q12 v hv
      obtain ⟨sz, og, bn, p', d', e2, u1, u2, u3, kp, kdd⟩ := del_M (f := c.2.2.1) (g := c.2.2.2.1) (s := s) (kd := k) (w := w) (n := n) (t := t) (v := v) true hs (by omega) hw hv hn q1.2.2 (min n (sumL (Ls (32 + w)))) 1001 0 mo ea pr (Ls (32 + w)) (Ls (4 * s + v)) (0, m.2) rA.2.2.1 rB.2.2.1 (lok_of rA) (lok_of rB) (by omega) (q16 _ (by omega)) q7 q8 q1.2.1 q2.2.1 q3.2.1 q2.2.2 q3.2.2 (ep.trans hpr) hp2 (em.trans hmd) (by omega) (by omega) (by omega)
      rw [Nat.zero_add] at e2
      rw [if_pos rfl] at u2
      obtain ⟨r2, e3, g3⟩ := cprod_ok (c := ((dst c (nI (mo + min (payL (payY c.2.2.1 c.2.2.2.1 t s) (min n (sumL (Ls (32 + w)))) (Ls (32 + w))) (min (2000000000 - mo) (2000000000 - ea)))) (nI (ea + min (payL (payY c.2.2.1 c.2.2.2.1 t s) (min n (sumL (Ls (32 + w)))) (Ls (32 + w))) (min (2000000000 - mo) (2000000000 - ea)))) (va_up (cRs c) (32 + w) r1)).1, c.2.1, c.2.2.1, c.2.2.2.1, c.2.2.2.2.1, c.2.2.2.2.2.1, c.2.2.2.2.2.2.1, c.2.2.2.2.2.2.2.1, upd c.2.2.2.2.2.2.2.2.1 k (c.2.2.2.2.2.2.2.2.1 k + nI (min n (sumL (Ls (32 + w))))), c.2.2.2.2.2.2.2.2.2.1, c.2.2.2.2.2.2.2.2.2.2.1, nI (mo + min (payL (payY c.2.2.1 c.2.2.2.1 t s) (min n (sumL (Ls (32 + w)))) (Ls (32 + w))) (min (2000000000 - mo) (2000000000 - ea))), nI (ea + min (payL (payY c.2.2.1 c.2.2.2.1 t s) (min n (sumL (Ls (32 + w)))) (Ls (32 + w))) (min (2000000000 - mo) (2000000000 - ea))), c.2.2.2.2.2.2.2.2.2.2.2.2.2.1, va_up (cRs c) (32 + w) r1)) (t := t) (pr := pr) (n := min n (sumL (Ls (32 + w)))) (B := Ls (4 * s + v)) hs hv (by show Gd (va_up (cRs c) (32 + w) r1 (4 * s + v)) _; rw [va_up_ne _ _ (by omega)]; exact rB.1) hsB q1.1 hpr hp2 (by omega)
      rw [if_neg (by show ¬ c.2.1 (4 * s + k) = -1; rw [hmd]; exact nIm1 (by omega))] at hP
      have lB := lok_put (n := min (min n (sumL (Ls (32 + w)))) (min (999 - sumL (Ls (4 * s + v))) (2000000000 - pr))) (lok_of rB) ⟨s, hs, rfl⟩ ⟨t, Nat.le_refl _, rfl⟩
      have hps := sumL_put (nI s) (nI t) (min (min n (sumL (Ls (32 + w)))) (min (999 - sumL (Ls (4 * s + v))) (2000000000 - pr))) (Ls (4 * s + v)) rB.1.1
      obtain ⟨x1, x2⟩ := cap2 (ρ := 32 + w) (σ := 4 * s + v) (A' := restL (min n (sumL (Ls (32 + w)))) (Ls (32 + w))) (B' := putL (nI s) (nI t) (min (min n (sumL (Ls (32 + w)))) (min (999 - sumL (Ls (4 * s + v))) (2000000000 - pr))) (Ls (4 * s + v))) q16 q17 (fun z => by omega) (fun z => by omega) (hcap _ (by omega)) (fun j hj z => by omega)
      refine ⟨_, _, _, _, hP _ _ (by
        show bi (F_P_produce (nI s) (c.2.1 (4 * s + k)) _ _) _ = _
        rw [hmd]
        refine Eq.trans (congrArg (fun z => bi z _) e3) ?_
        rfl), hM _ (by rw [if_pos hacc]; exact e2), by rfl, fun r hr => Sum.inr.inj hr, ?_⟩
      refine ⟨_, t, mo + min (payL (payY c.2.2.1 c.2.2.2.1 t s) (min n (sumL (Ls (32 + w)))) (Ls (32 + w))) (min (2000000000 - mo) (2000000000 - ea)), ea + min (payL (payY c.2.2.1 c.2.2.2.1 t s) (min n (sumL (Ls (32 + w)))) (Ls (32 + w))) (min (2000000000 - mo) (2000000000 - ea)), sp, q1, ⟨rfl, rfl, by have := q2.2.2; omega⟩, ⟨rfl, rfl, by have := q3.2.2; omega⟩, q4, q5, q6, q7, q8, q9, q10, q11, fun j hj => ?_, hde d' kdd, q14, rows2 q15 (allb q16 q17) (by omega) ⟨g1, rl.2.2.1, u1, rl.2.2.2⟩ ⟨g3, lB.2.2.1, u2, lB.2.2.2⟩ u3, x1, x2⟩
      show p' j = upd _ v _ j ∧ ∃ a, a ≤ _ ∧ upd _ v _ j = nI a
      rw [kp, upd_at, if_pos (show true = true from rfl)]
      by_cases e : j = v
      · rw [if_pos e, if_pos e]; exact ⟨rfl, _, by omega, rfl⟩
      · rw [if_neg e, if_neg e]; exact q12 j hj
  · -- into the stock
    have rB := q15 (4 * s + k) (by omega)
    have hB := q16 (4 * s + k) (by omega)
    obtain ⟨r1, r2, e1, g1, g2⟩ := moveTo_ok rA.1 rB.1 hn (show 999 < 2 ^ 30 by omega) (by omega) hB
    obtain ⟨u', e2, hmv⟩ := unl_L (s := s) (kd := k) (w := w) (n := n) (t := t) hs (by omega) hw hn _ 1001 0 (Ls (32 + w)) (Ls (4 * s + k)) (0, m.2) rA.2.2.1 rB.2.2.1 (lok_of rA) (lok_of rB) (by omega) hB (by omega) rfl (by omega)
    obtain ⟨s1, s2⟩ := movL_sum (Ls (32 + w)) (min n (min (sumL (Ls (32 + w))) (999 - sumL (Ls (4 * s + k))))) (Ls (4 * s + k)) (lok_of rA).2.1 (lok_of rB).1 (by omega)
    rw [Nat.sub_zero, Nat.zero_add] at e2
    rw [Nat.sub_zero] at hmv
    refine ⟨.inr (nI (min n (min (sumL (Ls (32 + w))) (999 - sumL (Ls (4 * s + k)))))), _, _, u', by
      unfold F_P_unload
      rw [wg_ok hw, biE, oxR, st_ok hs, biE, oxR, nz_ok hn, biE, oxR, gd_t g, nmE, gd_t g8, nI_clamp hw2, nI_clamp hs2, hwk2, if_neg hacc, gd_t g, si4, biE, gd_t gρ, nI_clamp (show 4 * s + k < 2 ^ 31 by omega), gd_t (decide_eq_true (by omega)), show F_Row_moveTo (nI n) (999 : Int32) (c.2.2.2.2.2.2.2.2.2.2.2.2.2.2 (32 + w), c.2.2.2.2.2.2.2.2.2.2.2.2.2.2 (4 * s + k)) = _ from e1, biE], hM _ (by rw [if_neg hacc]; exact e2), ?_, fun r hr => Sum.inr.inj hr, ?_⟩
    · obtain ⟨sz, og, bn, rfl, -⟩ := hmv
      rfl
    · exact rel_mv hR 0 (by omega) hmv g1 g2 (fun z => by omega) (fun z => by omega) (fun v hv z a ha ha2 => by
        have : v = w := by omega
        subst this
        rw [hr1] at ha
        have := (nI_eq (by omega) (by omega)).mp ha
        omega) (fun v hv z => by omega)
