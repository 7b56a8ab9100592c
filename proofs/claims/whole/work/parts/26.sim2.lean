theorem sim_spend (a : Int32) {c : CSt} {m : MSt} (h : Rel c m) : ∃ r c' m', F_P_spend a c = some (r, c') ∧ F_M_spend a m = some (r, m') ∧ Rel c' m' := by
  obtain ⟨Ls, t, mo, ea, sp, q1, q2, q3, q4, q5, q6, q7, q8, q9, q10, q11, q12, q13, q14, q15, q16, q17⟩ := id h
  unfold F_P_spend F_M_spend
  rw [q2.1, q2.2.1, q4.1, q4.2.1]
  by_cases c1 : a < 0
  · rw [if_pos c1, if_pos c1]
    exact ⟨0, c, (0, m.2), rfl, by rw [← q2.2.1, ← q4.2.1], h⟩
  · rw [if_neg c1, if_neg c1]
    obtain ⟨j, hj, rfl⟩ := nI_of c1
    by_cases c2 : nI mo < nI j
    · rw [if_pos c2, if_pos c2]
      exact ⟨0, c, (0, m.2), rfl, by rw [← q2.2.1, ← q4.2.1], h⟩
    · rw [if_neg c2, if_neg c2]
      have hjm : j ≤ mo := Nat.le_of_not_lt (fun z => c2 (nI_lt z hj))
      have e1 : (2000000000 : Int32) - nI sp = nI (2000000000 - sp) := pk_sub (a := 2000000000) q4.2.2
      rw [e1]
      by_cases c3 : nI j ≤ nI (2000000000 - sp)
      · rw [if_pos c3, if_pos c3]
        have hjs := (nI_leI hj (by omega)).mp c3
        refine ⟨1, _, _, rfl, rfl, Ls, t, mo - j, ea, sp + j, q1, ⟨pk_sub hjm, pk_sub hjm, by omega⟩, q3, ⟨nI_add sp j, nI_add sp j, by omega⟩, q5, q6, q7, q8, q9, q10, q11, q12, q13, q14, q15, q16, q17⟩
      · rw [if_neg c3, if_neg c3]
        exact ⟨0, c, (0, m.2), rfl, by rw [← q2.2.1, ← q4.2.1], h⟩
theorem sim_sum (a : Int32) {c : CSt} {m : MSt} (h : Rel c m) : ∃ r m', F_P_sum a c = some (r, ()) ∧ F_M_sum a m = some (r, m') ∧ Rel c m' := by
  obtain ⟨Ls, t, mo, ea, sp, q1, q2, q3, q4, -⟩ := id h
  unfold F_P_sum F_M_sum
  rw [q1.1, q1.2.1, q2.1, q2.2.1, q3.1, q3.2.1, q4.1, q4.2.1]
  by_cases c0 : a = 0
  · rw [if_pos c0, if_pos c0]; exact ⟨_, (0, m.2), rfl, by rw [← q1.2.1, ← q3.2.1, ← q4.2.1, ← q2.2.1], h⟩
  rw [if_neg c0, if_neg c0]
  by_cases c1 : a = 1
  · rw [if_pos c1, if_pos c1]; exact ⟨_, (0, m.2), rfl, by rw [← q1.2.1, ← q2.2.1, ← q4.2.1, ← q3.2.1], h⟩
  rw [if_neg c1, if_neg c1]
  by_cases c2 : a = 2
  · rw [if_pos c2, if_pos c2]; exact ⟨_, (0, m.2), rfl, by rw [← q1.2.1, ← q2.2.1, ← q3.2.1, ← q4.2.1], h⟩
  rw [if_neg c2, if_neg c2]
  by_cases c3 : a = 3
  · rw [if_pos c3, if_pos c3]; exact ⟨_, (0, m.2), rfl, by rw [← q2.2.1, ← q3.2.1, ← q4.2.1, ← q1.2.1], h⟩
  rw [if_neg c3, if_neg c3]
  exact ⟨_, (0, m.2), rfl, by rw [← q1.2.1, ← q2.2.1, ← q3.2.1, ← q4.2.1], h⟩
theorem eq_upd4 {f g : Nat → Int32} (h : ∀ k, k < 4 → g k = f k) (j : Nat) (hj : j < 4) (v : Int32) : ∀ k, k < 4 → upd g j (g j + v) k = upd f j (f j + v) k := by
  intro k hk
  rw [upd_at, upd_at, h j hj]
  by_cases e : k = j
  · rw [if_pos e, if_pos e]
  · rw [if_neg e, if_neg e]; exact h k hk
theorem sim_dump (a : Int32) {c : CSt} {m : MSt} (h : Rel c m) : ∃ o c' b m', F_P_dump a c = some (o, c') ∧ F_M_dump a m = some (b, m') ∧ m'.1 = cd o ∧ (∀ e, o = .inl e → e = 1) ∧ (∀ r, o = .inr r → b = r) ∧ Rel c' m' := by
  rcases spl a (n := 16) (by decide) with h1 | ⟨w, hw, rfl⟩
  · refine ⟨.inl 1, c, 0, (1, m.2), ?_, ?_, rfl, fun e he => (Sum.inl.inj he).symm, fun r hr => by simp at hr, h⟩
    · unfold F_P_dump
      rw [wg_bad h1, biE, oxL]
    · unfold F_M_dump F_M_dump_J15
      rw [min_bad h1 (by rfl), biE, if_pos rfl, if_neg (by decide)]
      all_goals rfl
  obtain ⟨Ls, t, mo, ea, sp, q1, q2, q3, q4, q5, q6, q7, q8, q9, q10, q11, q12, q13, q14, q15, q16, q17⟩ := id h
  have g := inbN (show w < 16 from hw) (by decide)
  have g' := inbN (show 32 + w < 49 by omega) (by decide)
  have hrow := q15 (32 + w) (by omega)
  have hT := tot_ok hrow.1
  have hS : m.2.2.2.2.2.2.2.2.2.2.2.2.1 (32 + w) = nI (sumL (Ls (32 + w))) := hrow.2.2.1.1
  obtain ⟨hwk, k, hk, hwk2⟩ := q10 w hw
  have hw2 : w < 2 ^ 31 := by omega
  have gk := inbN (show k < 4 by omega) (by decide)
  have hcl : F_Row_clear (cRs c (32 + w)) = some ((), ((cRs c (32 + w)).1, (cRs c (32 + w)).2.1, (cRs c (32 + w)).2.2.1, 0, 0)) := rfl
  refine ⟨.inr (nI (sumL (Ls (32 + w)))), _, nI (sumL (Ls (32 + w))), _, by
    unfold F_P_dump
    rw [wg_ok hw, biE, oxR, gd_t g, nI_clamp hw2, hT, biE, gd_t g, hcl, biE, gd_t g, hwk2, gd_t gk, gd_t gk, nI_clamp (show k < 2 ^ 31 by omega)], by
    unfold F_M_dump F_M_dump_J15
    rw [min_ok (n := 16) hw (by decide) (by rfl), biE, if_neg (by decide), if_pos (by decide), c32, gd_t g', nmE, gd_t g, nI_clamp hw2, hwk, hwk2, gd_t gk, gd_t gk, gd_t g', nI_clamp (show 32 + w < 2 ^ 31 by omega), hS, nI_clamp (show k < 2 ^ 31 by omega)], by rfl, fun e he => by simp at he, fun r hr => Sum.inr.inj hr, ?_⟩
  refine ⟨va_up Ls (32 + w) [], t, mo, ea, sp, q1, q2, q3, q4, q5, q6, q7, q8, q9, q10, q11, q12, q13, eq_upd4 q14 k (by omega) _, ?_, fun ρ hρ => ?_, fun v hv => ?_⟩
  · refine rows1 q15 (allb q16 q17) ⟨⟨by simp, rfl, rfl, fun p hp => by simp at hp, fun j p hj => by simp at hj⟩, trivial, ⟨?_, fun k q hk => by simp [ex] at hk⟩, fun p hp => by simp at hp⟩ (fun τ C h1 h2 h3 => ⟨?_, h3.2⟩)
    · show upd _ (32 + w) 0 (32 + w) = _
      rw [upd_at, if_pos rfl]; rfl
    · show upd _ (32 + w) 0 τ = _
      rw [upd_at, if_neg h1]; exact h3.1
  · rw [va_up_ne _ _ (show ρ ≠ 32 + w by omega)]; exact q16 ρ hρ
  · obtain ⟨a, a1, a2, a3⟩ := q17 v hv
    refine ⟨a, a1, a2, ?_⟩
    by_cases e : 32 + v = 32 + w
    · rw [e, va_up_self, sumL_nil]; omega
    · rw [va_up_ne _ _ e]; exact a3
theorem rowOf_ok {x k : Int32} {u : MSt} : (∃ ρ, ρ < 48 ∧ F_M_rowOf x k u = some (nI ρ, ()) ∧ ∀ c : CSt, F_P_rowAt x k c = some (some ρ, ())) ∨ (F_M_rowOf x k u = some (-1, ()) ∧ ∀ c : CSt, F_P_rowAt x k c = some (none, ())) := by
  rcases spl x (n := 8) (by decide) with h1 | ⟨s, hs, rfl⟩
  · have hin : F_M_in x 8 () = some (0, ()) := min_bad h1 (by rfl)
    have hj17 : F_M_rowOf_J17 x k u = some (-1, ()) := by
      unfold F_M_rowOf_J17
      rw [hin, biE, if_pos rfl]
    rcases spl x (n := 24) (by decide) with h2 | ⟨v, hv, rfl⟩
    · right
      refine ⟨?_, fun c => ?_⟩
      · unfold F_M_rowOf
        by_cases c1 : x < (8 : Int32)
        · rw [if_pos c1, hj17]
        · rw [if_neg c1, if_pos (by
            rcases h2 with h2 | h2
            · exact absurd (Int32.lt_trans h2 (by decide)) c1
            · exact h2), hj17]
      · unfold F_P_rowAt
        rw [is8_bad h1, biE, if_pos rfl]
        by_cases c1 : x < (8 : Int32)
        · rw [if_pos c1]
        · rw [if_neg c1, if_neg (by
            rcases h2 with h2 | h2
            · exact absurd (Int32.lt_trans h2 (by decide)) c1
            · exact Int32.not_lt.mpr h2)]
    · have hv8 : 8 ≤ v := by
        rcases h1 with h1 | h1
        · exact absurd h1 (nI_pos (by omega))
        · exact (nI_leI (a := 8) (by decide) (by omega)).mp h1
      left
      refine ⟨24 + v, by omega, ?_, fun c => ?_⟩
      · unfold F_M_rowOf
        rw [if_neg (by exact nI_nlt (b := 8) hv8 (by omega)), if_neg (by exact nI_ge (b := 24) hv (by decide)), show (24 : Int32) = nI 24 from rfl, nI_add]
      · unfold F_P_rowAt
        rw [is8_bad h1, biE, if_pos rfl, if_neg (by exact nI_nlt (b := 8) hv8 (by omega)), if_pos (by exact nI_lt (b := 24) hv (by decide)), show nI v - (8 : Int32) = nI (v - 8) from pk_sub (b := 8) hv8, gd_t (inbN (by omega) (by decide)), nI_clamp (by omega), show 32 + (v - 8) = 24 + v by omega]
  · have e8 : nI s < (8 : Int32) := nI_lt (b := 8) hs (by decide)
    rcases spl k (n := 4) (by decide) with h2 | ⟨q, hq, rfl⟩
    · right
      refine ⟨?_, fun c => ?_⟩
      · unfold F_M_rowOf F_M_rowOf_J17
        rw [if_pos e8, min_ok (n := 8) hs (by decide) (by rfl), biE, if_neg (by decide), min_bad h2 (by rfl), biE, if_pos rfl]
      · unfold F_P_rowAt
        rw [is8_ok hs, biE, if_neg (by decide), is4_bad h2, biE, if_pos rfl]
    · left
      refine ⟨4 * s + q, by omega, ?_, fun c => ?_⟩
      · unfold F_M_rowOf F_M_rowOf_J17
        rw [if_pos e8, min_ok (n := 8) hs (by decide) (by rfl), biE, if_neg (by decide), min_ok (n := 4) hq (by decide) (by rfl), biE, if_neg (by decide), mi4]
      · unfold F_P_rowAt
        rw [is8_ok hs, biE, if_neg (by decide), is4_ok hq, biE, if_neg (by decide), si4, biE, gd_t (inbN (by omega) (by decide)), nI_clamp (by omega)]
theorem nIm1 {ρ : Nat} (h : ρ < 2 ^ 31) : ¬ nI ρ = (-1 : Int32) := by
  intro e
  have h1 := congrArg Int32.toInt e
  rw [nI_toInt h] at h1
  have h2 : (-1 : Int32).toInt = -1 := by decide +kernel
  omega
theorem oqN {α : Type} (kn : α) (k : Nat → α) : oq none kn k = kn := rfl
theorem oqS {α : Type} (j : Nat) (kn : α) (k : Nat → α) : oq (some j) kn k = k j := rfl
theorem sim_units (a b : Int32) {c : CSt} {m : MSt} (h : Rel c m) : ∃ r m', F_P_units a b c = some (r, ()) ∧ F_M_units a b m = some (r, m') ∧ Rel c m' := by
  obtain ⟨Ls, t, mo, ea, sp, q1, q2, q3, q4, q5, q6, q7, q8, q9, q10, q11, q12, q13, q14, q15, q16, q17⟩ := id h
  rcases rowOf_ok (x := a) (k := b) (u := (0, m.2)) with ⟨ρ, hρ, e1, e2⟩ | ⟨e1, e2⟩
  · have hrow := q15 ρ hρ
    have hS : m.2.2.2.2.2.2.2.2.2.2.2.2.1 ρ = nI (sumL (Ls ρ)) := hrow.2.2.1.1
    refine ⟨nI (sumL (Ls ρ)), (0, m.2), ?_, ?_, h⟩
    · unfold F_P_units
      rw [e2 c, biE, oqS, gd_t (decide_eq_true hρ), show F_Row_total (c.2.2.2.2.2.2.2.2.2.2.2.2.2.2 ρ) = _ from tot_ok hrow.1, biE]
    · unfold F_M_units
      rw [show F_M_rowOf a b ((0 : Int32), m.2.1, m.2.2.1, m.2.2.2.1, m.2.2.2.2.1, m.2.2.2.2.2.1, m.2.2.2.2.2.2.1, m.2.2.2.2.2.2.2.1, m.2.2.2.2.2.2.2.2.1, m.2.2.2.2.2.2.2.2.2.1, m.2.2.2.2.2.2.2.2.2.2.1, m.2.2.2.2.2.2.2.2.2.2.2.1, m.2.2.2.2.2.2.2.2.2.2.2.2.1, m.2.2.2.2.2.2.2.2.2.2.2.2.2.1, m.2.2.2.2.2.2.2.2.2.2.2.2.2.2.1, m.2.2.2.2.2.2.2.2.2.2.2.2.2.2.2.1, m.2.2.2.2.2.2.2.2.2.2.2.2.2.2.2.2.1, m.2.2.2.2.2.2.2.2.2.2.2.2.2.2.2.2.2) = some (nI ρ, ()) from e1, biE, if_neg (nIm1 (by omega)), gd_t (inbN (by omega) (by decide)), nI_clamp (by omega), hS]
      all_goals rfl
  · refine ⟨-1, (0, m.2), ?_, ?_, h⟩
    · unfold F_P_units
      rw [e2 c, biE, oqN]
    · unfold F_M_units
      rw [show F_M_rowOf a b ((0 : Int32), m.2.1, m.2.2.1, m.2.2.2.1, m.2.2.2.2.1, m.2.2.2.2.2.1, m.2.2.2.2.2.2.1, m.2.2.2.2.2.2.2.1, m.2.2.2.2.2.2.2.2.1, m.2.2.2.2.2.2.2.2.2.1, m.2.2.2.2.2.2.2.2.2.2.1, m.2.2.2.2.2.2.2.2.2.2.2.1, m.2.2.2.2.2.2.2.2.2.2.2.2.1, m.2.2.2.2.2.2.2.2.2.2.2.2.2.1, m.2.2.2.2.2.2.2.2.2.2.2.2.2.2.1, m.2.2.2.2.2.2.2.2.2.2.2.2.2.2.2.1, m.2.2.2.2.2.2.2.2.2.2.2.2.2.2.2.2.1, m.2.2.2.2.2.2.2.2.2.2.2.2.2.2.2.2.2) = some (-1, ()) from e1, biE, if_pos rfl]
      all_goals rfl
