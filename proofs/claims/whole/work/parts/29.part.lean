/-! part -/
def stayL (n : Nat) (A : List Pk) : List Pk := match A with
  | [] => []
  | p :: t => if n = 0 then [] else if p.2.2 ≤ n then p :: stayL (n - p.2.2) t else [(p.1, p.2.1, n)]
def restL (n : Nat) (A : List Pk) : List Pk := match A with
  | [] => []
  | p :: t => if p.2.2 ≤ n then restL (n - p.2.2) t else (p.1, p.2.1, p.2.2 - n) :: t
def allL (A B : List Pk) : List Pk := match A with
  | [] => B
  | p :: t => allL t (putL p.1 p.2.1 p.2.2 B)
theorem stayL_c (n : Nat) (p : Pk) (t : List Pk) : stayL n (p :: t) = if n = 0 then [] else if p.2.2 ≤ n then p :: stayL (n - p.2.2) t else [(p.1, p.2.1, n)] := rfl
theorem restL_c (n : Nat) (p : Pk) (t : List Pk) : restL n (p :: t) = if p.2.2 ≤ n then restL (n - p.2.2) t else (p.1, p.2.1, p.2.2 - n) :: t := rfl
theorem allL_c (p : Pk) (t B : List Pk) : allL (p :: t) B = allL t (putL p.1 p.2.1 p.2.2 B) := rfl
theorem stayL_0 (A : List Pk) : stayL 0 A = [] := by
  cases A with
  | nil => rfl
  | cons p t => rw [stayL_c, if_pos rfl]
theorem restL_0 {A : List Pk} (h : ∀ p ∈ A, 1 ≤ p.2.2) : restL 0 A = A := by
  cases A with
  | nil => rfl
  | cons p t => rw [restL_c, if_neg (by have := h p (by simp); omega)]; rfl
theorem movL_all : ∀ (A B : List Pk), (∀ p ∈ A, 1 ≤ p.2.2) → (movL (sumL A) A B).2 = allL A B ∧ (movL (sumL A) A B).1 = [] := by
  intro A
  induction A with
  | nil => intro B _; exact ⟨rfl, rfl⟩
  | cons p t ih =>
    intro B h
    have hp := h p (by simp)
    have e : movL (sumL (p :: t)) (p :: t) B = movL (sumL t) t (putL p.1 p.2.1 p.2.2 B) := by
      rw [sumL_cons]
      show (if p.2.2 + sumL t = 0 then _ else if p.2.2 ≤ p.2.2 + sumL t then movL (p.2.2 + sumL t - p.2.2) t (putL p.1 p.2.1 p.2.2 B) else _) = _
      rw [if_neg (by omega), if_pos (by omega), Nat.add_sub_cancel_left]
    rw [e, allL_c]
    exact ih _ (fun q hq => h q (List.mem_cons_of_mem _ hq))
theorem stay_sum : ∀ (A : List Pk) (n : Nat), n ≤ sumL A → sumL (stayL n A) = n := by
  intro A
  induction A with
  | nil => intro n h; rw [sumL_nil] at h; rw [show n = 0 by omega]; rfl
  | cons p t ih =>
    intro n h
    rw [sumL_cons] at h
    rw [stayL_c]
    by_cases h0 : n = 0
    · rw [if_pos h0, h0]; rfl
    · rw [if_neg h0]
      by_cases h1 : p.2.2 ≤ n
      · rw [if_pos h1, sumL_cons, ih _ (by omega)]; omega
      · rw [if_neg h1, sumL_one]
theorem rest_sum : ∀ (A : List Pk) (n : Nat), sumL (restL n A) = sumL A - n := by
  intro A
  induction A with
  | nil => intro n; show sumL [] = _; rw [sumL_nil]; omega
  | cons p t ih =>
    intro n
    rw [restL_c, sumL_cons]
    by_cases h1 : p.2.2 ≤ n
    · rw [if_pos h1, ih]; omega
    · rw [if_neg h1, sumL_cons]; show p.2.2 - n + sumL t = _; omega
theorem stay_ex : ∀ (A : List Pk) (n : Nat), ex (stayL n A) = (ex A).take n := by
  intro A
  induction A with
  | nil => intro n; show ex [] = _; simp [ex]
  | cons p t ih =>
    intro n
    rw [stayL_c, ex_cons]
    by_cases h0 : n = 0
    · rw [if_pos h0, h0]; simp [ex]
    · rw [if_neg h0]
      by_cases h1 : p.2.2 ≤ n
      · rw [if_pos h1, ex_cons, ih, List.take_append, List.length_replicate, List.take_of_length_le (l := List.replicate p.2.2 (p.1, p.2.1)) (by simpa using h1)]
      · rw [if_neg h1, ex_one, List.take_append, List.length_replicate, show n - p.2.2 = 0 by omega, List.take_replicate]
        simp
        omega
theorem rest_ex : ∀ (A : List Pk) (n : Nat), ex (restL n A) = (ex A).drop n := by
  intro A
  induction A with
  | nil => intro n; show ex [] = _; simp [ex]
  | cons p t ih =>
    intro n
    rw [restL_c, ex_cons]
    by_cases h1 : p.2.2 ≤ n
    · rw [if_pos h1, ih, List.drop_append, List.length_replicate, List.drop_of_length_le (l := List.replicate p.2.2 (p.1, p.2.1)) (by simpa using h1)]
      rfl
    · rw [if_neg h1, ex_cons, List.drop_append, List.length_replicate, show n - p.2.2 = 0 by omega, List.drop_replicate]
      rfl
theorem stay_lok {t : Nat} : ∀ (A : List Pk) (n : Nat), Lok t A → Lok t (stayL n A) ∧ (stayL n A).length ≤ A.length ∧ (∀ q l, stayL n A = q :: l → ∃ q' l', A = q' :: l' ∧ q.1 = q'.1 ∧ q.2.1 = q'.2.1) := by
  intro A
  induction A with
  | nil => intro n h; exact ⟨h, Nat.le_refl _, fun q l e => by simp [stayL] at e⟩
  | cons p T ih =>
    intro n h
    obtain ⟨h8, hpos, hd, ho⟩ := h
    have hT : Lok t T := ⟨by simp at h8; omega, fun q hq => hpos q (List.mem_cons_of_mem _ hq), hd.2, fun q hq => ho q (List.mem_cons_of_mem _ hq)⟩
    obtain ⟨⟨i1, i2, i3, i4⟩, i5, i6⟩ := ih (n - p.2.2) hT
    rw [stayL_c]
    by_cases h0 : n = 0
    · rw [if_pos h0]
      exact ⟨⟨by simp, by simp, trivial, fun q hq => by simp at hq⟩, by simp, fun q l e => by simp at e⟩
    · rw [if_neg h0]
      by_cases h1 : p.2.2 ≤ n
      · rw [if_pos h1]
        refine ⟨⟨by simp at h8 ⊢; omega, fun q hq => ?_, ⟨fun q l e => ?_, i3⟩, fun q hq => ?_⟩, by simpa using i5, fun q l e => ⟨p, T, rfl, by rw [(List.cons.inj e).1], by rw [(List.cons.inj e).1]⟩⟩
        · rcases List.mem_cons.mp hq with rfl | hq
          · exact hpos _ (by simp)
          · exact i2 q hq
        · obtain ⟨q', l', e', k1, k2⟩ := i6 q l e
          rw [k1, k2]
          exact hd.1 q' l' e'
        · rcases List.mem_cons.mp hq with rfl | hq
          · exact ho _ (by simp)
          · exact i4 q hq
      · rw [if_neg h1]
        refine ⟨⟨by simp, fun q hq => ?_, ⟨fun q l e => by simp at e, trivial⟩, fun q hq => ?_⟩, by simp, fun q l e => ⟨p, T, rfl, by rw [← (List.cons.inj e).1], by rw [← (List.cons.inj e).1]⟩⟩
        · rw [List.mem_singleton.mp hq]; show 1 ≤ n; omega
        · rw [List.mem_singleton.mp hq]; exact ho p (by simp)
theorem rest_lok {t : Nat} : ∀ (A : List Pk) (n : Nat), Lok t A → Lok t (restL n A) ∧ (restL n A).length ≤ A.length := by
  intro A
  induction A with
  | nil => intro n h; exact ⟨h, Nat.le_refl _⟩
  | cons p T ih =>
    intro n h
    obtain ⟨h8, hpos, hd, ho⟩ := id h
    have hT : Lok t T := ⟨by simp at h8; omega, fun q hq => hpos q (List.mem_cons_of_mem _ hq), hd.2, fun q hq => ho q (List.mem_cons_of_mem _ hq)⟩
    rw [restL_c]
    by_cases h1 : p.2.2 ≤ n
    · rw [if_pos h1]
      obtain ⟨i1, i2⟩ := ih (n - p.2.2) hT
      exact ⟨i1, by simp; omega⟩
    · rw [if_neg h1]
      refine ⟨⟨by simpa using h8, fun q hq => ?_, ⟨fun q l e => hd.1 q l e, hd.2⟩, fun q hq => ?_⟩, by simp⟩
      · rcases List.mem_cons.mp hq with rfl | hq
        · show 1 ≤ p.2.2 - n; omega
        · exact hpos q (List.mem_cons_of_mem _ hq)
      · rcases List.mem_cons.mp hq with rfl | hq
        · exact ho p (by simp)
        · exact ho q (List.mem_cons_of_mem _ hq)
theorem all_lok {t : Nat} : ∀ (A B : List Pk), Lok t A → Lok t B → Lok t (allL A B) ∧ sumL (allL A B) = sumL B + sumL A := by
  intro A
  induction A with
  | nil => intro B _ hb; exact ⟨hb, by show sumL B = _; rw [sumL_nil]; rfl⟩
  | cons p T ih =>
    intro B h hb
    obtain ⟨h8, hpos, hd, ho⟩ := id h
    have hT : Lok t T := ⟨by simp at h8; omega, fun q hq => hpos q (List.mem_cons_of_mem _ hq), hd.2, fun q hq => ho q (List.mem_cons_of_mem _ hq)⟩
    obtain ⟨o1, o2⟩ := ho p (by simp)
    obtain ⟨i1, i2⟩ := ih (putL p.1 p.2.1 p.2.2 B) hT (lok_put hb o1 o2)
    rw [allL_c]
    refine ⟨i1, ?_⟩
    rw [i2, sumL_put _ _ _ _ hb.1, sumL_cons]; omega
/-- the class's loop -/
theorem behind_L {x3 : Int32} : ∀ (T B : List Pk) (fuel j left kept : Nat) (r1 r2 : RowS), r1.2.2.2.1 = nI (j + T.length) → j + T.length ≤ 8 → (∀ i p, T[i]? = some p → r1.1 (j + i) = p.1 ∧ r1.2.2.1 (j + i) = p.2.1 ∧ r1.2.1 (j + i) = nI p.2.2) → (∀ p ∈ T, 1 ≤ p.2.2) → Gd r2 B → sumL T + sumL B < 2 ^ 30 → (left = 0 ∨ kept = j) → left < 2 ^ 31 → T.length < fuel → ∃ r1' r2', F_Row_moveAllBehind_L18 fuel x3 (nI left) (nI kept) (nI j) (r1, r2) = some ((), (r1', r2')) ∧ Gd r2' (allL (restL left T) B) ∧ r1'.2.2.2.1 = nI (kept + (stayL left T).length) ∧ r1'.2.2.2.2 = x3 ∧ (∀ i p, (stayL left T)[i]? = some p → r1'.1 (j + i) = p.1 ∧ r1'.2.2.1 (j + i) = p.2.1 ∧ r1'.2.1 (j + i) = nI p.2.2) ∧ ∀ i, i < j → r1'.1 i = r1.1 i ∧ r1'.2.2.1 i = r1.2.2.1 i ∧ r1'.2.1 i = r1.2.1 i := by
  intro T
  induction T with
  | nil =>
    intro B fuel j left kept r1 r2 h1 h2 h3 h4 g2 hs hk hl hf
    obtain ⟨f, rfl⟩ : ∃ f, fuel = f + 1 := ⟨fuel - 1, by omega⟩
    rw [F_Row_moveAllBehind_L18, if_pos (by rw [show (r1, r2).1.2.2.2.1 = nI (j + 0) from h1]; exact Int32.le_refl _)]
    exact ⟨_, _, rfl, g2, rfl, rfl, fun i p e => by simp [stayL] at e, fun i _ => ⟨rfl, rfl, rfl⟩⟩
  | cons p T ih =>
    intro B fuel j left kept r1 r2 h1 h2 h3 h4 g2 hs hk hl hf
    obtain ⟨f, rfl⟩ : ∃ f, fuel = f + 1 := ⟨fuel - 1, by omega⟩
    have hlen : j + (T.length + 1) ≤ 8 := by simpa using h2
    have hp := h4 p (by simp)
    obtain ⟨a1, a2, a3⟩ := h3 0 p rfl
    rw [Nat.add_zero] at a1 a2 a3
    rw [sumL_cons] at hs
    have gj := inbN (show j < 8 by omega) (by decide)
    have cj := nI_clamp (show j < 2 ^ 31 by omega)
    have h1' : r1.2.2.2.1 = nI (j + 1 + T.length) := by rw [h1, List.length_cons]; congr 1; omega
    have a3' : (r1, r2).1.2.1 j = nI p.2.2 := a3
    obtain ⟨r2', e2, g2'⟩ := put_ok g2 p.1 p.2.1 (n := p.2.2 - min left p.2.2) (by omega)
    have hps := sumL_put p.1 p.2.1 (p.2.2 - min left p.2.2) B g2.1
    -- the row behind this packet
    have hnext : ∀ kept', (left - min left p.2.2 = 0 ∨ kept' = j + 1) → ∃ r1' r2'', F_Row_moveAllBehind_L18 f x3 (nI (left - min left p.2.2)) (nI kept') (nI (j + 1)) ((r1.1, upd r1.2.1 j (nI (min left p.2.2)), r1.2.2.1, r1.2.2.2.1, r1.2.2.2.2), r2') = some ((), (r1', r2'')) ∧ Gd r2'' (allL (restL (left - min left p.2.2) T) (putL p.1 p.2.1 (p.2.2 - min left p.2.2) B)) ∧ r1'.2.2.2.1 = nI (kept' + (stayL (left - min left p.2.2) T).length) ∧ r1'.2.2.2.2 = x3 ∧ (∀ i q, (stayL (left - min left p.2.2) T)[i]? = some q → r1'.1 (j + 1 + i) = q.1 ∧ r1'.2.2.1 (j + 1 + i) = q.2.1 ∧ r1'.2.1 (j + 1 + i) = nI q.2.2) ∧ ∀ i, i < j + 1 → r1'.1 i = r1.1 i ∧ r1'.2.2.1 i = r1.2.2.1 i ∧ r1'.2.1 i = upd r1.2.1 j (nI (min left p.2.2)) i := by
      intro kept' hk'
      refine ih _ f (j + 1) _ kept' (r1.1, upd r1.2.1 j (nI (min left p.2.2)), r1.2.2.1, r1.2.2.2.1, r1.2.2.2.2) r2' h1' (by omega) (fun i q hq => ?_) (fun q hq => h4 q (List.mem_cons_of_mem _ hq)) g2' (by omega) hk' (by omega) (by simp at hf; omega)
      obtain ⟨b1, b2, b3⟩ := h3 (i + 1) q (by simpa using hq)
      rw [show j + (i + 1) = j + 1 + i by omega] at b1 b2 b3
      refine ⟨b1, b2, ?_⟩
      show upd r1.2.1 j _ (j + 1 + i) = _
      rw [upd_at, if_neg (by omega)]
      exact b3
    have hgo : ∀ kept', (left - min left p.2.2 = 0 ∨ kept' = j + 1) → kept' = (if min left p.2.2 = 0 then kept else j + 1) → ∃ r1' r2', F_Row_moveAllBehind_L18 (f + 1) x3 (nI left) (nI kept) (nI j) (r1, r2) = some ((), (r1', r2')) ∧ Gd r2' (allL (restL (left - min left p.2.2) T) (putL p.1 p.2.1 (p.2.2 - min left p.2.2) B)) ∧ r1'.2.2.2.1 = nI (kept' + (stayL (left - min left p.2.2) T).length) ∧ r1'.2.2.2.2 = x3 ∧ (∀ i q, (stayL (left - min left p.2.2) T)[i]? = some q → r1'.1 (j + 1 + i) = q.1 ∧ r1'.2.2.1 (j + 1 + i) = q.2.1 ∧ r1'.2.1 (j + 1 + i) = nI q.2.2) ∧ ∀ i, i < j + 1 → r1'.1 i = r1.1 i ∧ r1'.2.2.1 i = r1.2.2.1 i ∧ r1'.2.1 i = upd r1.2.1 j (nI (min left p.2.2)) i := by
      intro kept' hk' hkk
      obtain ⟨r1', r2'', e3, rest⟩ := hnext kept' hk'
      refine ⟨r1', r2'', ?_, rest⟩
      rw [F_Row_moveAllBehind_L18, if_neg (by rw [show (r1, r2).1.2.2.2.1 = nI (j + 1 + T.length) from h1']; exact nI_ge (by omega) (by omega)), gd_t gj, nmE, gd_t gj, gd_t gj, gd_t gj, cj, a3', minI (by omega) (by omega), show (r1, r2).1.1 j = p.1 from a1, show (r1, r2).1.2.2.1 j = p.2.1 from a2, pk_sub (by omega), show F_Row_putBehind p.1 p.2.1 (nI (p.2.2 - min left p.2.2)) (r1, r2).2 = some ((), r2') from e2, biE, gd_t gj, nmE, pk_sub (by omega), nI_1]
      by_cases hm0 : min left p.2.2 = 0
      · rw [if_pos hm0] at hkk
        subst hkk
        rw [if_pos (by rw [hm0]; decide +kernel)]
        exact e3
      · rw [if_neg hm0] at hkk
        subst hkk
        rw [if_neg (by exact nI_nle (by omega) (by omega)), nmE]
        exact e3
    by_cases hl0 : left = 0
    · subst hl0
      rw [Nat.zero_min, Nat.sub_zero] at hgo
      obtain ⟨r1', r2', e3, f1, f2, f3, f4, f5⟩ := hgo kept (Or.inl rfl) (by rw [if_pos rfl])
      refine ⟨r1', r2', e3, ?_, ?_, f3, fun i q e => by rw [stayL_0] at e; simp at e, fun i hi => ?_⟩
      · rw [restL_c, if_neg (by omega), Nat.sub_zero, allL_c]
        rw [restL_0 (fun q hq => h4 q (List.mem_cons_of_mem _ hq))] at f1
        exact f1
      · rw [f2, stayL_0, stayL_0]
      · obtain ⟨g1, g2, g3⟩ := f5 i (by omega)
        rw [upd_at, if_neg (by omega)] at g3
        exact ⟨g1, g2, g3⟩
    · have hkj : kept = j := hk.resolve_left hl0
      obtain ⟨r1', r2', e3, f1, f2, f3, f4, f5⟩ := hgo (j + 1) (Or.inr rfl) (by rw [if_neg (by omega)])
      have f6 : ∀ i, i < j → r1'.1 i = r1.1 i ∧ r1'.2.2.1 i = r1.2.2.1 i ∧ r1'.2.1 i = r1.2.1 i := by
        intro i hi
        obtain ⟨g1, g2, g3⟩ := f5 i (by omega)
        rw [upd_at, if_neg (by omega)] at g3
        exact ⟨g1, g2, g3⟩
      obtain ⟨k1, k2, k3⟩ := f5 j (by omega)
      rw [upd_at, if_pos rfl] at k3
      by_cases hle : p.2.2 ≤ left
      · rw [Nat.min_eq_right hle] at f1 f2 f4 k3
        rw [Nat.sub_self, putL_0] at f1
        refine ⟨r1', r2', e3, ?_, ?_, f3, fun i q e => ?_, f6⟩
        · rw [restL_c, if_pos hle]; exact f1
        · rw [f2, stayL_c, if_neg hl0, if_pos hle, List.length_cons, hkj]; congr 1; omega
        · rw [stayL_c, if_neg hl0, if_pos hle] at e
          cases i with
          | zero =>
            simp at e; subst e
            rw [Nat.add_zero, k1, k2, k3]
            exact ⟨a1, a2, rfl⟩
          | succ i =>
            have := f4 i q (by simpa using e)
            rw [show j + 1 + i = j + (i + 1) by omega] at this
            exact this
      · have hmin : min left p.2.2 = left := by omega
        rw [hmin] at f1 f2 f4 k3
        rw [Nat.sub_self] at f1 f2 f4
        refine ⟨r1', r2', e3, ?_, ?_, f3, fun i q e => ?_, f6⟩
        · rw [restL_c, if_neg hle, allL_c]
          rw [restL_0 (fun q hq => h4 q (List.mem_cons_of_mem _ hq))] at f1
          exact f1
        · rw [f2, stayL_0, stayL_c, if_neg hl0, if_neg hle, hkj]; rfl
        · rw [stayL_c, if_neg hl0, if_neg hle] at e
          cases i with
          | zero =>
            simp at e; subst e
            rw [Nat.add_zero, k1, k2, k3]
            exact ⟨a1, a2, rfl⟩
          | succ i => simp at e
theorem behind_ok {r1 r2 : RowS} {A B : List Pk} {t : Nat} (g1 : Gd r1 A) (la : Lok t A) (g2 : Gd r2 B) (hs : sumL A + sumL B < 2 ^ 30) {n : Nat} (hn : n < 2 ^ 31) : ∃ r1' r2', F_Row_moveAllBehind (nI n) (r1, r2) = some ((), (r1', r2')) ∧ Gd r1' (stayL (min n (sumL A)) A) ∧ Gd r2' (allL (restL (min n (sumL A)) A) B) := by
  obtain ⟨h8, hpk, htot, hpos, hat⟩ := g1
  obtain ⟨r1', r2', e, f1, f2, f3, f4, -⟩ := behind_L (x3 := nI (min n (sumL A))) A B 9 0 (min n (sumL A)) 0 r1 r2 (by rw [hpk, Nat.zero_add]) (by omega) (fun i p hp => by rw [Nat.zero_add]; exact hat i p hp) hpos g2 hs (Or.inr rfl) (by omega) (by omega)
  obtain ⟨l1, l2, -⟩ := stay_lok (t := t) A (min n (sumL A)) la
  refine ⟨r1', r2', ?_, ⟨l1.1, by rw [f2, Nat.zero_add], by rw [f3, stay_sum A _ (by omega)], l1.2.1, fun j p hj => ?_⟩, f1⟩
  · unfold F_Row_moveAllBehind
    rw [nmE, show (r1, r2).1.2.2.2.2 = nI (sumL A) from htot, minI (by omega) hn]
    exact e
  · have := f4 j p hj
    rw [Nat.zero_add] at this
    exact this
/-- the reference's first loop: units k .. of the row 32 + a, laid into the row 48 -/
theorem part_c {a b S Z : Nat} (ha : a < 16) (hZ : Z ≤ 80) : ∀ (r fuel k c : Nat) (u : MSt), mSz u (32 + a) = nI Z → mSz u 48 = nI c → k + r = Z → c ≤ k → r < fuel → ∃ og bn, F_M_part_L147 fuel (nI a) (nI b) (nI S) (nI k) u = F_M_part_L251 1001 (nI b) (mrow u (upd (upd (mSz u) 48 (nI (c + r))) (32 + a) (nI S)) og bn) ∧ (∀ j, j < 48000 + c → og j = mOg u j ∧ bn j = mBn u j) ∧ ∀ i, i < r → og (48000 + c + i) = mOg u (1000 * (32 + a) + k + i) ∧ bn (48000 + c + i) = mBn u (1000 * (32 + a) + k + i) := by
  intro r
  induction r with
  | zero =>
    intro fuel k c u h1 h2 hk hc hf
    obtain ⟨f, rfl⟩ : ∃ f, fuel = f + 1 := ⟨fuel - 1, by omega⟩
    refine ⟨mOg u, mBn u, ?_, fun _ _ => ⟨rfl, rfl⟩, fun i hi => by omega⟩
    have hup : upd (mSz u) 48 (nI (c + 0)) = mSz u := by
      funext j
      rw [upd_at]
      by_cases e : j = 48
      · rw [if_pos e, e, h2]; rfl
      · rw [if_neg e]
    rw [hup, F_M_part_L147, c32, gd_t (inbN (by omega) (by decide)), nI_clamp (show 32 + a < 2 ^ 31 by omega), show u.2.2.2.2.2.2.2.2.2.2.2.2.1 (32 + a) = nI Z from h1, if_pos (by exact nI_le (by omega) (by omega)), gd_t (inbN (by omega) (by decide))]
  | succ r ih =>
    intro fuel k c u h1 h2 hk hc hf
    obtain ⟨f, rfl⟩ : ∃ f, fuel = f + 1 := ⟨fuel - 1, by omega⟩
    have c48 : (48 : Int32).toNatClampNeg = 48 := nI_clamp (n := 48) (by omega)
    have g48 : inb (48 : Int32) 49 = true := inbN (k := 48) (by omega) (by decide)
    have e48 : (48000 : Int32) + nI c = nI (48000 + c) := nI_add 48000 c
    obtain ⟨og, bn, e1, e2, e3⟩ := ih f (k + 1) (c + 1) (mrow u (upd (mSz u) 48 (nI (c + 1))) (upd (mOg u) (48000 + c) (mOg u (1000 * (32 + a) + k))) (upd (mBn u) (48000 + c) (mBn u (1000 * (32 + a) + k)))) (by show upd (mSz u) 48 _ (32 + a) = _; rw [upd_at, if_neg (by omega)]; exact h1) (by show upd (mSz u) 48 (nI (c + 1)) 48 = nI (c + 1); rw [upd_at, if_pos rfl]) (by omega) (by omega) (by omega)
    have hup : upd (upd (mSz u) 48 (nI (c + 1))) 48 (nI (c + 1 + r)) = upd (mSz u) 48 (nI (c + (r + 1))) := by
      funext j
      rw [upd_at, upd_at, upd_at]
      by_cases e : j = 48
      · rw [if_pos e, if_pos e]; congr 1; omega
      · rw [if_neg e, if_neg e, if_neg e]
    refine ⟨og, bn, ?_, fun j hj => ?_, fun i hi => ?_⟩
    · rw [F_M_part_L147, c32, gd_t (inbN (by omega) (by decide)), nI_clamp (show 32 + a < 2 ^ 31 by omega), show u.2.2.2.2.2.2.2.2.2.2.2.2.1 (32 + a) = nI Z from h1, if_neg (by exact nI_ge (by omega) (by omega)), gd_t g48, ix, gd_t (inbN (by omega) (by decide)), c48, show u.2.2.2.2.2.2.2.2.2.2.2.2.1 48 = nI c from h2, e48, gd_t (inbN (by omega) (by decide)), gd_t g48, gd_t (inbN (by omega) (by decide)), gd_t (inbN (by omega) (by decide)), gd_t g48, gd_t g48, nI_1, nI_1, nI_clamp (show 48000 + c < 2 ^ 31 by omega), nI_clamp (show 1000 * (32 + a) + k < 2 ^ 31 by omega)]
      refine Eq.trans e1 ?_
      show F_M_part_L251 1001 (nI b) (mrow u (upd (upd (upd (mSz u) 48 (nI (c + 1))) 48 (nI (c + 1 + r))) (32 + a) (nI S)) og bn) = _
      rw [hup]
    · obtain ⟨a1, a2⟩ := e2 j (by omega)
      rw [a1, a2]
      show upd (mOg u) (48000 + c) _ j = _ ∧ upd (mBn u) (48000 + c) _ j = _
      rw [upd_at, upd_at, if_neg (by omega), if_neg (by omega)]
      exact ⟨rfl, rfl⟩
    · cases i with
      | zero =>
        obtain ⟨a1, a2⟩ := e2 (48000 + c) (by omega)
        rw [Nat.add_zero, Nat.add_zero, a1, a2]
        show upd (mOg u) (48000 + c) _ (48000 + c) = _ ∧ upd (mBn u) (48000 + c) _ (48000 + c) = _
        rw [upd_at, upd_at, if_pos rfl, if_pos rfl]
        exact ⟨rfl, rfl⟩
      | succ i =>
        obtain ⟨a1, a2⟩ := e3 i (by omega)
        rw [show 48000 + c + (i + 1) = 48000 + (c + 1) + i by omega, a1, a2]
        show upd (mOg u) (48000 + c) _ _ = _ ∧ upd (mBn u) (48000 + c) _ _ = _
        rw [upd_at, upd_at, if_neg (by omega), if_neg (by omega), show 1000 * (32 + a) + (k + 1) + i = 1000 * (32 + a) + k + (i + 1) by omega]
        exact ⟨rfl, rfl⟩
theorem part_m {b t : Nat} (hb : b < 16) : ∀ (k fuel : Nat) (A B : List Pk) (u : MSt), UR (mSz u) (mOg u) (mBn u) 48 A → UR (mSz u) (mOg u) (mBn u) (32 + b) B → Lok t A → Lok t B → sumL A + sumL B ≤ 80 → k = sumL A → k < fuel → ∃ u', F_M_part_L251 fuel (nI b) u = some ((), u') ∧ MvR u u' 48 (32 + b) t (movL k A B).1 (movL k A B).2 := by
  have c48 : (48 : Int32).toNatClampNeg = 48 := nI_clamp (n := 48) (by omega)
  have g48 : inb (48 : Int32) 49 = true := inbN (k := 48) (by omega) (by decide)
  intro k
  induction k with
  | zero =>
    intro fuel A B u ua ub la lb hs hk hf
    obtain ⟨f, rfl⟩ : ∃ f, fuel = f + 1 := ⟨fuel - 1, by omega⟩
    refine ⟨u, ?_, by rw [movL_0]; exact mv_rf ua ub la lb⟩
    rw [F_M_part_L251, gd_t g48, c48, show u.2.2.2.2.2.2.2.2.2.2.2.2.1 48 = nI (sumL A) from ua.1, ← hk, if_pos (by decide +kernel)]
  | succ k ih =>
    intro fuel A B u ua ub la lb hs hk hf
    obtain ⟨f, rfl⟩ : ∃ f, fuel = f + 1 := ⟨fuel - 1, by omega⟩
    obtain ⟨p, l, rfl⟩ := sumL_pos la.2.1 (show 0 < sumL A by omega)
    have hp := la.2.1 p (by simp)
    obtain ⟨u1, e1, et, ⟨sz, og, bn, eu⟩, ua', ub', la', lb', hmv⟩ := mv_step (show 48 ≤ 48 by omega) (show 32 + b ≤ 48 by omega) (show 48 ≠ 32 + b by omega) ua ub la lb (by omega) (by omega)
    have hts := takeL_sum (t := l) hp
    have hps := sumL_put p.1 p.2.1 1 B lb.1
    obtain ⟨u', e2, hm2⟩ := ih f _ _ u1 ua' ub' la' lb' (by omega) (by omega) (by omega)
    refine ⟨u', ?_, ?_⟩
    · rw [F_M_part_L251, gd_t g48, c48, show u.2.2.2.2.2.2.2.2.2.2.2.2.1 48 = nI (sumL (p :: l)) from ua.1, if_neg (by exact nI_nle (by omega) (by omega)), c32, show (48 : Int32) = nI 48 from rfl, e1, biE, e2]
    · rw [movL_succ hp]
      exact hmv u' _ _ hm2
