theorem drop_L : ∀ (fuel i n : Nat) (u : RowS), u.2.2.2.1 = nI n → 1 ≤ i → i ≤ n → n ≤ 8 → n - i < fuel → ∃ u', F_Row_dropFirst_L2 fuel (nI i) u = some ((), u') ∧ u'.2.2.2.1 = nI (n - 1) ∧ u'.2.2.2.2 = u.2.2.2.2 ∧ ∀ j, (i ≤ j + 1 → j + 1 < n → u'.1 j = u.1 (j + 1) ∧ u'.2.1 j = u.2.1 (j + 1) ∧ u'.2.2.1 j = u.2.2.1 (j + 1)) ∧ (j + 1 < i → u'.1 j = u.1 j ∧ u'.2.1 j = u.2.1 j ∧ u'.2.2.1 j = u.2.2.1 j) := by
  intro fuel
  induction fuel with
  | zero => intro i n u h1 h2 h3 h4 h5; omega
  | succ fuel ih =>
    intro i n u hpk hi hin hn8 hf
    rw [F_Row_dropFirst_L2, hpk]
    by_cases hni : n ≤ i
    · have hin' : i = n := by omega
      subst hin'
      rw [if_pos (nI_le (Nat.le_refl _) (by omega)), nIs1 (by omega)]
      refine ⟨_, rfl, rfl, rfl, fun j => ⟨fun h1 h2 => ?_, fun h1 => ⟨rfl, rfl, rfl⟩⟩⟩
      omega
    · have hlt : i < n := by omega
      rw [if_neg (fun q => hni ((nI_leI (by omega) (by omega)).mp q)), nIs1 (by omega), nI_clamp (show i < 2 ^ 31 by omega), nI_clamp (show i - 1 < 2 ^ 31 by omega), nI_1]
      have g1 := inbN (show i < 8 by omega) (by decide)
      have g2 := inbN (show i - 1 < 8 by omega) (by decide)
      rw [gd_t g1, gd_t g2, gd_t g1, gd_t g2, gd_t g1, gd_t g2]
      obtain ⟨u', e1, e2, e3, e4⟩ := ih (i + 1) n (upd u.1 (i - 1) (u.1 i), upd u.2.1 (i - 1) (u.2.1 i), upd u.2.2.1 (i - 1) (u.2.2.1 i), nI n, u.2.2.2.2) rfl (by omega) (by omega) hn8 (by omega)
      refine ⟨u', e1, e2, e3, fun j => ⟨fun h1 h2 => ?_, fun h1 => ?_⟩⟩
      · by_cases hj : i ≤ j
        · obtain ⟨a1, a2, a3⟩ := (e4 j).1 (by omega) h2
          rw [a1, a2, a3]
          simp only [upd_at]
          rw [if_neg (by omega), if_neg (by omega), if_neg (by omega)]
          exact ⟨rfl, rfl, rfl⟩
        · have hj' : j = i - 1 := by omega
          obtain ⟨a1, a2, a3⟩ := (e4 j).2 (by omega)
          rw [a1, a2, a3]
          simp only [upd_at]
          rw [if_pos hj', if_pos hj', if_pos hj', show j + 1 = i by omega]
          exact ⟨rfl, rfl, rfl⟩
      · obtain ⟨a1, a2, a3⟩ := (e4 j).2 (by omega)
        rw [a1, a2, a3]
        simp only [upd_at]
        rw [if_neg (by omega), if_neg (by omega), if_neg (by omega)]
        exact ⟨rfl, rfl, rfl⟩
theorem in0 : inb (0 : Int32) 8 = true := by decide +kernel
theorem takeL_cons (n : Nat) (p : Pk) (t : List Pk) : takeL n (p :: t) = if n = p.2.2 then t else (p.1, p.2.1, p.2.2 - n) :: t := rfl
theorem take_ok {r : RowS} {p : Pk} {t : List Pk} (h : Gd r (p :: t)) {n : Nat} (hn : n ≤ p.2.2) (hs : sumL (p :: t) < 2 ^ 31) : ∃ r', F_Row_takeFromFirst (nI n) r = some ((), r') ∧ Gd r' (takeL n (p :: t)) := by
  obtain ⟨h8, hpk, htot, hpos, hat⟩ := h
  obtain ⟨a1, a2, a3⟩ := hat 0 p rfl
  rw [sumL_cons] at hs htot
  have hsub : r.2.2.2.2 - nI n = nI (p.2.2 - n + sumL t) := by rw [htot, pk_sub (by omega)]; congr 1; omega
  have ham : r.2.1 0 - nI n = nI (p.2.2 - n) := by rw [a3, pk_sub hn]
  unfold F_Row_takeFromFirst
  rw [show (0 : Int32).toNatClampNeg = 0 from sb_cl0, gd_t in0, gd_t in0, gd_t in0]
  rw [upd_at, if_pos rfl, ham, hsub]
  by_cases hnp : n = p.2.2
  · subst hnp
    rw [Nat.sub_self, if_pos (by exact nI_0)]
    obtain ⟨u', e1, e2, e3, e4⟩ := drop_L 9 1 (t.length + 1) (r.1, upd r.2.1 0 (nI 0), r.2.2.1, r.2.2.2.1, nI (0 + sumL t)) (by rw [show (r.1, upd r.2.1 0 (nI 0), r.2.2.1, r.2.2.2.1, nI (0 + sumL t)).2.2.2.1 = r.2.2.2.1 from rfl, hpk]; simp) (by omega) (by omega) (by simpa using h8) (by simp at h8; omega)
    have e1' : F_Row_dropFirst (r.1, upd r.2.1 0 (nI 0), r.2.2.1, r.2.2.2.1, nI (0 + sumL t)) = some ((), u') := e1
    rw [e1', biE]
    refine ⟨u', rfl, ?_⟩
    have et : takeL p.2.2 (p :: t) = t := by simp [takeL]
    rw [et]
    refine ⟨by simp at h8; omega, by rw [e2]; simp, by rw [e3]; simp, fun q hq => hpos q (List.mem_cons_of_mem _ hq), fun j q hj => ?_⟩
    have hjl : j < t.length := (List.getElem?_eq_some_iff.mp hj).1
    obtain ⟨b1, b2, b3⟩ := (e4 j).1 (by omega) (by omega)
    obtain ⟨c1, c2, c3⟩ := hat (j + 1) q (by simpa using hj)
    rw [b1, b2, b3]
    show r.1 (j + 1) = _ ∧ r.2.2.1 (j + 1) = _ ∧ upd r.2.1 0 (nI 0) (j + 1) = _
    rw [upd_at, if_neg (by omega)]
    exact ⟨c1, c2, c3⟩
  · rw [if_neg (by exact nI_ne0 (by omega) (by omega))]
    refine ⟨_, rfl, ?_⟩
    have et : takeL n (p :: t) = (p.1, p.2.1, p.2.2 - n) :: t := by simp [takeL, hnp]
    rw [et]
    refine ⟨by simpa using h8, by rw [show _ = r.2.2.2.1 from rfl, hpk]; simp, by rw [sumL_cons], fun q hq => ?_, fun j q hj => ?_⟩
    · rcases List.mem_cons.mp hq with rfl | hq
      · show 1 ≤ p.2.2 - n; omega
      · exact hpos q (List.mem_cons_of_mem _ hq)
    · show r.1 j = _ ∧ r.2.2.1 j = _ ∧ upd r.2.1 0 (nI (p.2.2 - n)) j = _
      rw [upd_at]
      cases j with
      | zero => simp at hj; subst hj; rw [if_pos rfl]; exact ⟨a1, a2, rfl⟩
      | succ j => rw [if_neg (by omega)]; exact hat (j + 1) q (by simpa using hj)
/-- k units from A, the first ones first, put behind B -/
def movL (k : Nat) (A B : List Pk) : List Pk × List Pk := match A with
  | [] => ([], B)
  | p :: t => if k = 0 then (p :: t, B) else if p.2.2 ≤ k then movL (k - p.2.2) t (putL p.1 p.2.1 p.2.2 B) else ((p.1, p.2.1, p.2.2 - k) :: t, putL p.1 p.2.1 k B)
theorem movL_0 (A B : List Pk) : movL 0 A B = (A, B) := by
  cases A with
  | nil => rfl
  | cons p t => simp [movL]
theorem movL_step {k : Nat} {p : Pk} {t B : List Pk} (hk : k ≠ 0) (hp : 1 ≤ p.2.2) : movL k (p :: t) B = movL (k - min k p.2.2) (takeL (min k p.2.2) (p :: t)) (putL p.1 p.2.1 (min k p.2.2) B) := by
  by_cases h : p.2.2 ≤ k
  · rw [Nat.min_eq_right h]
    simp [movL, takeL, hk, h]
  · rw [Nat.min_eq_left (by omega), Nat.sub_self, movL_0]
    simp [movL, takeL, hk, h, show ¬ k = p.2.2 by omega]
theorem minI {a b : Nat} (ha : a < 2 ^ 31) (hb : b < 2 ^ 31) : (if nI a < nI b then nI a else nI b) = nI (min b a) := by
  by_cases h : a < b
  · rw [if_pos ((nI_ltI ha hb).mpr h), Nat.min_eq_right (by omega)]
  · rw [if_neg (fun q => h ((nI_ltI ha hb).mp q)), Nat.min_eq_left (by omega)]
theorem takeL_sum {n : Nat} {p : Pk} {t : List Pk} (h : n ≤ p.2.2) : sumL (takeL n (p :: t)) = sumL (p :: t) - n := by
  rw [takeL_cons]
  by_cases hn : n = p.2.2
  · rw [if_pos hn, sumL_cons]; omega
  · rw [if_neg hn, sumL_cons, sumL_cons]; show p.2.2 - n + sumL t = p.2.2 + sumL t - n; omega
theorem move_L : ∀ (fuel left turn : Nat) (x4 : Int32) (r1 r2 : RowS) (A B : List Pk), Gd r1 A → Gd r2 B → left ≤ sumL A → sumL A + sumL B < 2 ^ 31 → (left = 0 ∨ turn + A.length ≤ 8) → turn ≤ 8 → 8 - turn < fuel → ∃ r1' r2', F_Row_moveTo_L26 fuel x4 (nI left) (nI turn) (r1, r2) = some (x4, (r1', r2')) ∧ Gd r1' (movL left A B).1 ∧ Gd r2' (movL left A B).2 := by
  intro fuel
  induction fuel with
  | zero => intro left turn x4 r1 r2 A B _ _ _ _ _ _ h; omega
  | succ fuel ih =>
    intro left turn x4 r1 r2 A B g1 g2 hl hs ht ht8 hf
    rw [F_Row_moveTo_L26]
    by_cases hl0 : left = 0
    · subst hl0
      rw [movL_0]
      by_cases h8 : 8 ≤ turn
      · rw [if_pos (by exact (nI_leI (a := 8) (by decide) (by omega)).mpr h8)]
        exact ⟨r1, r2, rfl, g1, g2⟩
      · rw [if_neg (by exact fun q => h8 ((nI_leI (a := 8) (by decide) (by omega)).mp q)), if_pos (by decide +kernel)]
        exact ⟨r1, r2, rfl, g1, g2⟩
    · obtain ⟨p, t, rfl⟩ := sumL_pos g1.2.2.2.1 (show 0 < sumL A by omega)
      have hlen : turn + (t.length + 1) ≤ 8 := by rcases ht with h | h; exact absurd h hl0; simpa using h
      have h8 : ¬ 8 ≤ turn := by omega
      have hp1 : 1 ≤ p.2.2 := g1.2.2.2.1 p (by simp)
      rw [if_neg (by exact fun q => h8 ((nI_leI (a := 8) (by decide) (by omega)).mp q)), if_neg (by exact nI_nle (by omega) (by omega))]
      obtain ⟨a1, a2, a3⟩ := g1.2.2.2.2 0 p rfl
      rw [sumL_cons] at hl hs
      rw [show (0 : Int32).toNatClampNeg = 0 from sb_cl0, gd_t in0]
      unfold nm
      show ∃ r1' r2', gd _ (gd _ (bi (F_Row_putBehind (r1.1 0) (r1.2.2.1 0) _ r2) _)) = _ ∧ _
      rw [gd_t in0, gd_t in0, show (r1, r2).1.2.1 0 = nI p.2.2 from a3, minI (by omega) (by omega), a1, a2]
      obtain ⟨r2', e2, g2'⟩ := put_ok g2 p.1 p.2.1 (n := min left p.2.2) (by omega)
      obtain ⟨r1', e1, g1'⟩ := take_ok g1 (n := min left p.2.2) (by omega) (by rw [sumL_cons]; omega)
      rw [e2, biE, show F_Row_takeFromFirst (nI (min left p.2.2)) (r1, r2).1 = some ((), r1') from e1, biE]
      show ∃ r1'' r2'', F_Row_moveTo_L26 fuel x4 (nI left - nI (min left p.2.2)) (nI turn + (1 : Int32)) (r1', r2') = _ ∧ _
      rw [pk_sub (by omega), nI_1, movL_step hl0 hp1]
      have hts := takeL_sum (t := t) (show min left p.2.2 ≤ p.2.2 by omega)
      have hps := sumL_put p.1 p.2.1 (min left p.2.2) B g2.1
      rw [sumL_cons] at hts
      refine ih _ _ x4 r1' r2' _ _ g1' g2' (by omega) (by omega) ?_ (by omega) (by omega)
      by_cases hle : p.2.2 ≤ left
      · right
        rw [Nat.min_eq_right hle]
        simp [takeL]; omega
      · left; omega
theorem moveTo_ok {r1 r2 : RowS} {A B : List Pk} (g1 : Gd r1 A) (g2 : Gd r2 B) {n most : Nat} (hn : n < 2 ^ 31) (hm : most < 2 ^ 30) (hs : sumL A + sumL B < 2 ^ 30) (hb : sumL B ≤ most) : ∃ r1' r2', F_Row_moveTo (nI n) (nI most) (r1, r2) = some (nI (min n (min (sumL A) (most - sumL B))), (r1', r2')) ∧ Gd r1' (movL (min n (min (sumL A) (most - sumL B))) A B).1 ∧ Gd r2' (movL (min n (min (sumL A) (most - sumL B))) A B).2 := by
  unfold F_Row_moveTo nm
  show ∃ r1' r2', F_Row_moveTo_L26 9 _ _ _ _ = _ ∧ _
  rw [show (r1, r2).2.2.2.2.2 = nI (sumL B) from g2.2.2.1, show (r1, r2).1.2.2.2.2 = nI (sumL A) from g1.2.2.1, pk_sub hb, minI (by omega) (by omega), minI (by omega) hn]
  exact move_L 9 _ 0 _ r1 r2 A B g1 g2 (by omega) (by omega) (Or.inr (by simpa using g1.1)) (by omega) (by omega)
