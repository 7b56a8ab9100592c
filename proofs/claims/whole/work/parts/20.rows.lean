/-! rows of packets as lists: origin, born, units -/
abbrev Pk : Type := Int32 × Int32 × Nat
def sumL (L : List Pk) : Nat := (L.map (fun p => p.2.2)).sum
def lastEq (o b : Int32) (L : List Pk) : Bool := match L.getLast? with
  | none => false
  | some p => decide (p.1 = o) && decide (p.2.1 = b)
def addLast (n : Nat) (L : List Pk) : List Pk := match L.getLast? with
  | none => []
  | some p => L.dropLast ++ [(p.1, p.2.1, p.2.2 + n)]
def putL (o b : Int32) (n : Nat) (L : List Pk) : List Pk := if n = 0 then L else if L.length < 8 ∧ lastEq o b L = false then L ++ [(o, b, n)] else addLast n L
def takeL (n : Nat) (L : List Pk) : List Pk := match L with
  | [] => []
  | p :: t => if n = p.2.2 then t else (p.1, p.2.1, p.2.2 - n) :: t
theorem sumL_nil : sumL [] = 0 := rfl
theorem sumL_cons (p : Pk) (L : List Pk) : sumL (p :: L) = p.2.2 + sumL L := by simp [sumL]
theorem sumL_app (L M : List Pk) : sumL (L ++ M) = sumL L + sumL M := by simp [sumL]
theorem sumL_one (p : Pk) : sumL [p] = p.2.2 := by simp [sumL]
theorem lastEq_app (o b : Int32) (L : List Pk) (p : Pk) : lastEq o b (L ++ [p]) = (decide (p.1 = o) && decide (p.2.1 = b)) := by simp [lastEq]
theorem addLast_app (n : Nat) (L : List Pk) (p : Pk) : addLast n (L ++ [p]) = L ++ [(p.1, p.2.1, p.2.2 + n)] := by simp [addLast]
theorem putL_0 (o b : Int32) (L : List Pk) : putL o b 0 L = L := by simp [putL]
theorem snoc_cases (L : List Pk) : L = [] ∨ ∃ M p, L = M ++ [p] := by
  rcases List.eq_nil_or_concat L with h | ⟨M, p, h⟩
  · exact Or.inl h
  · exact Or.inr ⟨M, p, by simpa using h⟩
theorem putL_nil (o b : Int32) {n : Nat} (h : n ≠ 0) : putL o b n [] = [(o, b, n)] := by simp [putL, h, lastEq]
theorem putL_len (o b : Int32) (n : Nat) {L : List Pk} (h : L.length ≤ 8) : (putL o b n L).length ≤ 8 := by
  unfold putL
  split
  · exact h
  · split
    · rename_i h1; simp; omega
    · rcases snoc_cases L with rfl | ⟨M, p, rfl⟩
      · simp [addLast]
      · rw [addLast_app]; simpa using h
theorem putL_ne (o b : Int32) {n : Nat} (h : n ≠ 0) (L : List Pk) : putL o b n L ≠ [] := by
  unfold putL
  rw [if_neg h]
  split
  · simp
  · rename_i h1
    rcases snoc_cases L with rfl | ⟨M, p, rfl⟩
    · exact absurd ⟨by simp, by simp [lastEq]⟩ h1
    · rw [addLast_app]; simp
/-- units put one behind the other are units put together -/
theorem putL_add (o b : Int32) (n m : Nat) (L : List Pk) : putL o b (n + m) L = putL o b m (putL o b n L) := by
  by_cases hn : n = 0
  · subst hn; rw [Nat.zero_add, putL_0]
  by_cases hm : m = 0
  · subst hm; rw [Nat.add_zero, putL_0]
  rcases snoc_cases L with rfl | ⟨M, p, rfl⟩
  · rw [putL_nil o b (by omega), putL_nil o b hn]
    have h1 : ([(o, b, n)] : List Pk) = [] ++ [(o, b, n)] := rfl
    unfold putL
    rw [if_neg hm, h1, lastEq_app, addLast_app]
    simp
  · unfold putL
    rw [if_neg hn, if_neg hm, if_neg (show ¬ n + m = 0 by omega)]
    by_cases h : (M ++ [p]).length < 8 ∧ lastEq o b (M ++ [p]) = false
    · rw [if_pos h, if_pos h, lastEq_app, addLast_app]
      simp
    · rw [if_neg h, if_neg h, addLast_app, addLast_app, addLast_app]
      have h2 : ¬ ((M ++ [(p.1, p.2.1, p.2.2 + n)]).length < 8 ∧ lastEq o b (M ++ [(p.1, p.2.1, p.2.2 + n)]) = false) := by
        rw [lastEq_app] at h ⊢
        simpa using h
      rw [if_neg h2]
      simp [Nat.add_assoc]
theorem sumL_put (o b : Int32) (n : Nat) (L : List Pk) (h : L.length ≤ 8) : sumL (putL o b n L) = sumL L + n := by
  unfold putL
  split
  · omega
  · split
    · rw [sumL_app, sumL_one]
    · rename_i h1 h2
      rcases snoc_cases L with rfl | ⟨M, p, rfl⟩
      · exact absurd ⟨by simp, by simp [lastEq]⟩ h2
      · rw [addLast_app, sumL_app, sumL_app, sumL_one, sumL_one]; show sumL M + (p.2.2 + n) = sumL M + p.2.2 + n; omega
theorem sumL_pos {L : List Pk} (h : ∀ p ∈ L, 1 ≤ p.2.2) (hs : 0 < sumL L) : ∃ p t, L = p :: t := by
  cases L with
  | nil => simp [sumL] at hs
  | cons p t => exact ⟨p, t, rfl⟩
theorem pos_put (o b : Int32) (n : Nat) (L : List Pk) (h : ∀ p ∈ L, 1 ≤ p.2.2) : ∀ p ∈ putL o b n L, 1 ≤ p.2.2 := by
  unfold putL
  split
  · exact h
  · rename_i h0
    split
    · intro p hp
      rcases List.mem_append.mp hp with hp | hp
      · exact h p hp
      · rw [List.mem_singleton.mp hp]; show 1 ≤ n; omega
    · rcases snoc_cases L with rfl | ⟨M, p, rfl⟩
      · intro p hp; simp [addLast] at hp
      · rw [addLast_app]
        intro q hq
        rcases List.mem_append.mp hq with hq | hq
        · exact h q (List.mem_append.mpr (Or.inl hq))
        · rw [List.mem_singleton.mp hq]
          have := h p (by simp)
          show 1 ≤ p.2.2 + n; omega
/-- the row r holds the packets L -/
def Gd (r : RowS) (L : List Pk) : Prop := L.length ≤ 8 ∧ r.2.2.2.1 = nI L.length ∧ r.2.2.2.2 = nI (sumL L) ∧ (∀ p ∈ L, 1 ≤ p.2.2) ∧ ∀ (j : Nat) (p : Pk), L[j]? = some p → r.1 j = p.1 ∧ r.2.2.1 j = p.2.1 ∧ r.2.1 j = nI p.2.2
theorem sumL_ge {L : List Pk} {j : Nat} {p : Pk} (h : L[j]? = some p) : p.2.2 ≤ sumL L := by
  induction L generalizing j with
  | nil => simp at h
  | cons q t ih =>
    cases j with
    | zero => simp at h; subst h; rw [sumL_cons]; omega
    | succ j => simp at h; rw [sumL_cons]; have := ih h; omega
theorem nmE {α β : Type} (x : α) (k : α → Option β) : nm x k = k x := rfl
theorem biE {α β γ : Type} (x : α) (y : β) (k : α → β → Option γ) : bi (some (x, y)) k = k x y := rfl
theorem oxR {α ρ : Type} (r : ρ) (kx : Nat → α) (k : ρ → α) : ox (.inr r) kx k = k r := rfl
theorem oxL {α ρ : Type} (e : Nat) (kx : Nat → α) (k : ρ → α) : ox (.inl e) kx k = kx e := rfl
theorem inbN {k n : Nat} (h : k < n) (hn : n < 2 ^ 31) : inb (nI k) n = true := inb_of (vp_in_nI h hn)
theorem nIs1 {k : Nat} (h : 0 < k) : nI k - (1 : Int32) = nI (k - 1) := pk_sub (a := k) (b := 1) h
theorem upd_at (f : Nat → Int32) (k : Nat) (x : Int32) (j : Nat) : upd f k x j = if j = k then x else f j := rfl
theorem lastIs_ok {r : RowS} {L : List Pk} (h : Gd r L) (o b : Int32) : F_Row_lastIs o b r = some (if lastEq o b L = true then 1 else 0, ()) := by
  obtain ⟨h8, hpk, htot, hpos, hat⟩ := h
  unfold F_Row_lastIs
  rw [nmE, hpk]
  rcases snoc_cases L with rfl | ⟨M, p, rfl⟩
  · rw [if_pos (by decide +kernel)]; simp [lastEq]
  · have hl : (M ++ [p]).length = M.length + 1 := by simp
    rw [hl] at h8 ⊢
    have hM : M.length < 8 := by omega
    have hM2 : M.length < 2 ^ 31 := by omega
    rw [nIs1 (by omega), Nat.add_sub_cancel, if_neg (nI_pos hM2), gd_t (inbN hM (by decide)), nI_clamp hM2, gd_t (inbN hM (by decide))]
    obtain ⟨a1, a2, a3⟩ := hat M.length p (by simp)
    rw [a1, a2, lastEq_app]
    by_cases c1 : p.1 = o
    · by_cases c2 : p.2.1 = b
      · rw [if_pos c1, if_pos c2]; simp [c1, c2]
      · rw [if_pos c1, if_neg c2]; simp [c1, c2]
    · rw [if_neg c1]; simp [c1]
theorem put_ok {r : RowS} {L : List Pk} (h : Gd r L) (o b : Int32) {n : Nat} (hn : sumL L + n < 2 ^ 31) : ∃ r', F_Row_putBehind o b (nI n) r = some ((), r') ∧ Gd r' (putL o b n L) := by
  have hli := lastIs_ok h o b
  obtain ⟨h8, hpk, htot, hpos, hat⟩ := id h
  by_cases hn0 : n = 0
  · subst hn0
    refine ⟨r, ?_, by rw [putL_0]; exact h⟩
    unfold F_Row_putBehind
    rw [if_neg (by decide +kernel)]
  have hp0 : (0 : Int32) < nI n := (nI_ltI (a := 0) (by decide) (by omega)).mpr (by omega)
  have hpos' := pos_put o b n L hpos
  have hlen' := putL_len o b n h8
  have hsum' := sumL_put o b n L h8
  have htot' : r.2.2.2.2 + nI n = nI (sumL (putL o b n L)) := by rw [htot, nI_add, hsum']
  -- one more in the last packet
  have last : (∃ M p, L = M ++ [p]) → ¬ (L.length < 8 ∧ lastEq o b L = false) → gd (inb (r.2.2.2.1 - (1 : Int32)) 8) (gd (inb (r.2.2.2.1 - (1 : Int32)) 8) (some ((), (r.1, (upd r.2.1 (r.2.2.2.1 - (1 : Int32)).toNatClampNeg ((r.2.1 (r.2.2.2.1 - (1 : Int32)).toNatClampNeg) + nI n)), r.2.2.1, r.2.2.2.1, (r.2.2.2.2 + nI n))) : Option (Unit × RowS))) = some ((), (r.1, (upd r.2.1 (L.length - 1) ((r.2.1 (L.length - 1)) + nI n)), r.2.2.1, r.2.2.2.1, (r.2.2.2.2 + nI n))) ∧ Gd (r.1, (upd r.2.1 (L.length - 1) ((r.2.1 (L.length - 1)) + nI n)), r.2.2.1, r.2.2.2.1, (r.2.2.2.2 + nI n)) (putL o b n L) := by
    rintro ⟨M, p, rfl⟩ hnot
    have hl : (M ++ [p]).length = M.length + 1 := by simp
    have hM : M.length < 8 := by omega
    have e1 : putL o b n (M ++ [p]) = M ++ [(p.1, p.2.1, p.2.2 + n)] := by unfold putL; rw [if_neg hn0, if_neg hnot, addLast_app]
    rw [hpk, hl, nIs1 (by omega), Nat.add_sub_cancel, nI_clamp (by omega), gd_t (inbN hM (by decide)), gd_t (inbN hM (by decide))]
    refine ⟨rfl, hlen', ?_, htot', hpos', fun j q hj => ?_⟩
    · show nI (M.length + 1) = _
      rw [e1]; simp
    · rw [e1] at hj
      show r.1 j = q.1 ∧ r.2.2.1 j = q.2.1 ∧ upd r.2.1 M.length _ j = nI q.2.2
      obtain ⟨a1, a2, a3⟩ := hat M.length p (by simp)
      rw [upd_at]
      by_cases hjM : j = M.length
      · subst hjM
        rw [List.getElem?_append_right (Nat.le_refl _)] at hj
        simp at hj
        subst hj
        rw [if_pos rfl, a3, nI_add]
        exact ⟨a1, a2, rfl⟩
      · rw [if_neg hjM]
        have hjl : j < M.length := by
          have := (List.getElem?_eq_some_iff.mp hj).1
          simp at this
          omega
        rw [List.getElem?_append_left hjl] at hj
        exact hat j q (by rw [List.getElem?_append_left hjl]; exact hj)
  unfold F_Row_putBehind
  rw [if_pos hp0]
  by_cases hfull : 8 ≤ L.length
  · rw [if_pos (by rw [hpk]; exact (nI_leI (a := 8) (by decide) (by omega)).mpr hfull)]
    have hex : ∃ M p, L = M ++ [p] := by
      rcases snoc_cases L with rfl | h1
      · simp at hfull
      · exact h1
    exact ⟨_, last hex (fun q => by omega)⟩
  · rw [if_neg (by rw [hpk]; exact fun q => hfull ((nI_leI (a := 8) (by decide) (by omega)).mp q)), hli]
    rw [biE]
    by_cases hle : lastEq o b L = true
    · rw [if_neg (by rw [if_pos hle]; decide +kernel)]
      have hex : ∃ M p, L = M ++ [p] := by
        rcases snoc_cases L with rfl | h1
        · simp [lastEq] at hle
        · exact h1
      exact ⟨_, last hex (fun q => by rw [hle] at q; exact absurd q.2 (by decide))⟩
    · rw [if_pos (by rw [if_neg hle])]
      have hlt : L.length < 8 := by omega
      have e2 : nI L.length + (1 : Int32) - (1 : Int32) = nI L.length := by rw [nI_1, nI_pred]
      rw [hpk, e2, nI_clamp (by omega), gd_t (inbN hlt (by decide)), gd_t (inbN hlt (by decide)), gd_t (inbN hlt (by decide)), gd_t (inbN hlt (by decide)), gd_t (inbN hlt (by decide))]
      have e1 : putL o b n L = L ++ [(o, b, n)] := by
        unfold putL
        rw [if_neg hn0, if_pos ⟨hlt, by simpa using hle⟩]
      refine ⟨_, rfl, hlen', ?_, htot', hpos', fun j q hj => ?_⟩
      · show nI L.length + 1 = _
        rw [e1, nI_1]; simp
      · rw [e1] at hj
        show upd r.1 L.length o j = q.1 ∧ upd r.2.2.1 L.length b j = q.2.1 ∧ upd (upd r.2.1 L.length 0) L.length (upd r.2.1 L.length 0 L.length + nI n) j = nI q.2.2
        simp only [upd_at]
        by_cases hjL : j = L.length
        · subst hjL
          rw [List.getElem?_append_right (Nat.le_refl _)] at hj
          simp at hj
          subst hj
          simp
        · have hjl : j < L.length := by
            have := (List.getElem?_eq_some_iff.mp hj).1
            simp at this
            omega
          rw [List.getElem?_append_left hjl] at hj
          simp only [if_neg hjL]
          exact hat j q hj
