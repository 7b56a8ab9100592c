/-! the relation between the class's state and the reference's; the plain calls -/
def Qe (n B : Nat) (f g : Nat → Int32) : Prop := ∀ k, k < n → g k = f k ∧ ∃ a, a ≤ B ∧ f k = nI a
theorem qe_upd {n B : Nat} {f g : Nat → Int32} (h : Qe n B f g) (k : Nat) {a : Nat} (ha : a ≤ B) : Qe n B (upd f k (nI a)) (upd g k (nI a)) := by
  intro j hj
  rw [upd_at, upd_at]
  by_cases hk : j = k
  · rw [if_pos hk, if_pos hk]; exact ⟨rfl, a, ha, rfl⟩
  · rw [if_neg hk, if_neg hk]; exact h j hj
def Org (t : Nat) (L : List Pk) : Prop := ∀ p ∈ L, (∃ a, a < 8 ∧ p.1 = nI a) ∧ ∃ b, b ≤ t ∧ p.2.1 = nI b
def RowR (r : RowS) (m : MSt) (ρ : Nat) (L : List Pk) (t : Nat) : Prop := Gd r L ∧ Dist L ∧ UR (mSz m) (mOg m) (mBn m) ρ L ∧ Org t L
abbrev cRs (c : CSt) : Nat → RowS := c.2.2.2.2.2.2.2.2.2.2.2.2.2.2
def R0 (c : CSt) (m : MSt) (Ls : Nat → List Pk) (t mo ea sp : Nat) : Prop :=
  (c.2.2.2.2.2.2.2.2.2.2.1 = nI t ∧ m.2.1 = nI t ∧ t ≤ 2000000000) ∧
  (c.2.2.2.2.2.2.2.2.2.2.2.1 = nI mo ∧ m.2.2.1 = nI mo ∧ mo ≤ 2000000000) ∧
  (c.2.2.2.2.2.2.2.2.2.2.2.2.1 = nI ea ∧ m.2.2.2.1 = nI ea ∧ ea ≤ 2000000000) ∧
  (c.2.2.2.2.2.2.2.2.2.2.2.2.2.1 = nI sp ∧ m.2.2.2.2.1 = nI sp ∧ sp ≤ 2000000000) ∧
  Qe 32 31 c.1 m.2.2.2.2.2.2.2.2.1 ∧
  (∀ k, k < 32 → m.2.2.2.2.2.2.2.2.2.1 k = c.2.1 k ∧ (c.2.1 k = -1 ∨ ∃ a, a < 4 ∧ c.2.1 k = nI a)) ∧
  Qe 8 99 c.2.2.1 m.2.2.2.2.2.1 ∧ Qe 8 99 c.2.2.2.1 m.2.2.2.2.2.2.1 ∧ Qe 8 15 c.2.2.2.2.1 m.2.2.2.2.2.2.2.1 ∧
  Qe 16 3 c.2.2.2.2.2.1 m.2.2.2.2.2.2.2.2.2.2.1 ∧ Qe 16 80 c.2.2.2.2.2.2.1 m.2.2.2.2.2.2.2.2.2.2.2.1 ∧
  Qe 4 2000000000 c.2.2.2.2.2.2.2.1 m.2.2.2.2.2.2.2.2.2.2.2.2.2.2.2.1 ∧
  (∀ k, k < 4 → m.2.2.2.2.2.2.2.2.2.2.2.2.2.2.2.2.1 k = c.2.2.2.2.2.2.2.2.1 k) ∧
  (∀ k, k < 4 → m.2.2.2.2.2.2.2.2.2.2.2.2.2.2.2.2.2 k = c.2.2.2.2.2.2.2.2.2.1 k) ∧
  (∀ ρ, ρ < 48 → RowR (cRs c ρ) m ρ (Ls ρ) t) ∧ (∀ ρ, ρ < 32 → sumL (Ls ρ) ≤ 999) ∧
  (∀ w, w < 16 → ∃ a, a ≤ 80 ∧ c.2.2.2.2.2.2.1 w = nI a ∧ sumL (Ls (32 + w)) ≤ a)
def Rel (c : CSt) (m : MSt) : Prop := ∃ Ls t mo ea sp, R0 c m Ls t mo ea sp
/-- the code that the law's helper answers -/
def cd {ρ : Type} (o : Nat ⊕ ρ) : Int32 := ox o (fun e => if e = 1 then 1 else 2) (fun _ => 0)
theorem spl (x : Int32) {n : Nat} (hn : n < 2 ^ 31) : (x < 0 ∨ nI n ≤ x) ∨ ∃ j, j < n ∧ x = nI j := by
  rcases pk_ix x hn with h | h | h
  · exact Or.inl (Or.inl h)
  · exact Or.inl (Or.inr h)
  · exact Or.inr h
theorem min_ok {j n : Nat} {N : Int32} (h : j < n) (hn : n < 2 ^ 31) (hN : N = nI n) : F_M_in (nI j) N () = some (1, ()) := by
  unfold F_M_in
  rw [hN, if_neg (nI_pos (by omega)), if_neg (nI_ge h hn)]
theorem min_bad {x N : Int32} {n : Nat} (h : x < 0 ∨ nI n ≤ x) (hN : N = nI n) : F_M_in x N () = some (0, ()) := by
  unfold F_M_in
  rw [hN]
  by_cases c : x < 0
  · rw [if_pos c]
  · rw [if_neg c, if_pos (h.resolve_left c)]
theorem is8_ok {j : Nat} (h : j < 8) : F_P_isStation (nI j) () = some (1, ()) := by
  unfold F_P_isStation
  rw [if_neg (nI_pos (by omega)), if_neg (by exact nI_ge (b := 8) h (by decide))]
theorem is8_bad {x : Int32} (h : x < 0 ∨ nI 8 ≤ x) : F_P_isStation x () = some (0, ()) := by
  unfold F_P_isStation
  by_cases c : x < 0
  · rw [if_pos c]
  · rw [if_neg c, if_pos (by exact h.resolve_left c)]
theorem is4_ok {j : Nat} (h : j < 4) : F_P_isKind (nI j) () = some (1, ()) := by
  unfold F_P_isKind
  rw [if_neg (nI_pos (by omega)), if_neg (by exact nI_ge (b := 4) h (by decide))]
theorem is4_bad {x : Int32} (h : x < 0 ∨ nI 4 ≤ x) : F_P_isKind x () = some (0, ()) := by
  unfold F_P_isKind
  by_cases c : x < 0
  · rw [if_pos c]
  · rw [if_neg c, if_pos (by exact h.resolve_left c)]
theorem st_ok {j : Nat} (h : j < 8) : F_P_checkStation (nI j) () = some (.inr (), ()) := by
  unfold F_P_checkStation
  rw [is8_ok h, biE, if_neg (by decide)]
theorem st_bad {x : Int32} (h : x < 0 ∨ nI 8 ≤ x) : F_P_checkStation x () = some (.inl 1, ()) := by
  unfold F_P_checkStation
  rw [is8_bad h, biE, if_pos rfl]
theorem kd_ok {j : Nat} (h : j < 4) : F_P_checkKind (nI j) () = some (.inr (), ()) := by
  unfold F_P_checkKind
  rw [is4_ok h, biE, if_neg (by decide)]
theorem kd_bad {x : Int32} (h : x < 0 ∨ nI 4 ≤ x) : F_P_checkKind x () = some (.inl 1, ()) := by
  unfold F_P_checkKind
  rw [is4_bad h, biE, if_pos rfl]
theorem wg_ok {j : Nat} (h : j < 16) : F_P_checkWagon (nI j) () = some (.inr (), ()) := by
  unfold F_P_checkWagon
  rw [if_neg (nI_pos (by omega)), if_pos (by exact nI_lt (b := 16) h (by decide))]
theorem wg_bad {x : Int32} (h : x < 0 ∨ nI 16 ≤ x) : F_P_checkWagon x () = some (.inl 1, ()) := by
  unfold F_P_checkWagon
  by_cases c : x < 0
  · rw [if_pos c]
  · rw [if_neg c, if_neg (by exact Int32.not_lt.mpr (h.resolve_left c))]
theorem rg_ok {j n : Nat} {M : Int32} (h : j ≤ n) (hn : n < 2 ^ 31) (hM : M = nI n) : F_P_checkRange (nI j) M () = some (.inr (), ()) := by
  unfold F_P_checkRange
  rw [hM, if_neg (nI_pos (by omega)), if_pos (nI_le h hn)]
theorem rg_bad {x M : Int32} {n : Nat} (h : x < 0 ∨ nI (n + 1) ≤ x) (hn : n + 1 < 2 ^ 31) (hM : M = nI n) : F_P_checkRange x M () = some (.inl 2, ()) := by
  unfold F_P_checkRange
  rw [hM]
  by_cases c : x < 0
  · rw [if_pos c]
  · rw [if_neg c, if_neg (fun h2 => absurd (Int32.le_trans (h.resolve_left c) h2) (nI_ge (by omega) hn))]
theorem nz_ok {j : Nat} (h : j < 2 ^ 31) : F_P_checkNotBelowZero (nI j) () = some (.inr (), ()) := by
  unfold F_P_checkNotBelowZero
  rw [if_pos (nI_pos' h)]
theorem nz_bad {x : Int32} (h : x < 0) : F_P_checkNotBelowZero x () = some (.inl 2, ()) := by
  unfold F_P_checkNotBelowZero
  rw [if_neg (Int32.not_le.mpr h)]
theorem si4 {s k : Nat} : F_P_stockIndex (nI s) (nI k) () = some (nI (4 * s + k), ()) := by
  unfold F_P_stockIndex
  rw [show (4 : Int32) = nI 4 from rfl, pk_mul, nI_add, Nat.mul_comm]
theorem mi4 (s k : Nat) : (4 : Int32) * nI s + nI k = nI (4 * s + k) := by
  rw [show (4 : Int32) = nI 4 from rfl, pk_mul, nI_add]
theorem rel_th {c : CSt} {m : MSt} (k : Int32) (h : Rel c m) : Rel c (k, m.2) := h
theorem sim_place (a b d : Int32) {c : CSt} {m : MSt} (h : Rel c m) : ∃ o c' m', F_P_place a b d c = some (o, c') ∧ F_M_place a b d m = some ((), m') ∧ m'.1 = cd o ∧ Rel c' m' := by
  rcases spl a (n := 8) (by decide) with h1 | ⟨s, hs, rfl⟩
  · refine ⟨.inl 1, c, (1, m.2), ?_, ?_, ?_, h⟩
    · unfold F_P_place
      rw [st_bad h1, biE, oxL]
    · unfold F_M_place F_M_place_J37
      rw [min_bad h1 (by rfl), biE, if_pos rfl, if_neg (by decide)]
      all_goals rfl
    · rfl
  rcases spl b (n := 100) (by decide) with h2 | ⟨x, hx, rfl⟩
  · refine ⟨.inl 2, c, (2, m.2), ?_, ?_, ?_, h⟩
    · unfold F_P_place
      rw [st_ok hs, biE, oxR, rg_bad (n := 99) h2 (by decide) (by rfl), biE, oxL]
    · unfold F_M_place F_M_place_J32 F_M_place_J37
      rw [min_ok (n := 8) hs (by decide) (by rfl), biE, if_neg (by decide), min_bad h2 (by rfl), biE, if_pos rfl, if_neg (by decide)]
      all_goals rfl
    · rfl
  rcases spl d (n := 100) (by decide) with h3 | ⟨y, hy, rfl⟩
  · refine ⟨.inl 2, c, (2, m.2), ?_, ?_, ?_, h⟩
    · unfold F_P_place
      rw [st_ok hs, biE, oxR, rg_ok (n := 99) (by omega) (by decide) (by rfl), biE, oxR, rg_bad (n := 99) h3 (by decide) (by rfl), biE, oxL]
    · unfold F_M_place F_M_place_J32 F_M_place_J37
      rw [min_ok (n := 8) hs (by decide) (by rfl), biE, if_neg (by decide), min_ok (n := 100) hx (by decide) (by rfl), biE, if_neg (by decide), min_bad h3 (by rfl), biE, if_pos rfl, if_neg (by decide)]
      all_goals rfl
    · rfl
  · have g := inbN (show s < 8 from hs) (by decide)
    exact ⟨.inr (), _, _, by
      unfold F_P_place
      rw [st_ok hs, biE, oxR, rg_ok (n := 99) (by omega) (by decide) (by rfl), biE, oxR, rg_ok (n := 99) (by omega) (by decide) (by rfl), biE, oxR, gd_t g, gd_t g, nI_clamp (show s < 2 ^ 31 by omega)], by
      unfold F_M_place F_M_place_J37
      rw [min_ok (n := 8) hs (by decide) (by rfl), biE, if_neg (by decide), min_ok (n := 100) hx (by decide) (by rfl), biE, if_neg (by decide), min_ok (n := 100) hy (by decide) (by rfl), biE, if_neg (by decide), if_pos (by decide), gd_t g, gd_t g, nI_clamp (show s < 2 ^ 31 by omega)], by rfl, by
      obtain ⟨Ls, t, mo, ea, sp, q1, q2, q3, q4, q5, q6, q7, q8, q9, q10, q11, q12, q13, q14, q15, q16, q17⟩ := h
      exact ⟨Ls, t, mo, ea, sp, q1, q2, q3, q4, q5, q6, qe_upd q7 s (by omega), qe_upd q8 s (by omega), q9, q10, q11, q12, q13, q14, q15, q16, q17⟩⟩
