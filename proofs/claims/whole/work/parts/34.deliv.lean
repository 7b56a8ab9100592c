/-! what is paid and delivered -/
def apN (a b : Nat) : Nat := (a - b) + (b - a)
def payY (f g : Nat → Int32) (t s : Nat) (o b : Int32) : Nat := (apN (f o.toNatClampNeg).toNatClampNeg (f s).toNatClampNeg + apN (g o.toNatClampNeg).toNatClampNeg (g s).toNatClampNeg) * max 1 (64 - (t - b.toNatClampNeg) / 64)
theorem apN_le {a b : Nat} (ha : a ≤ 99) (hb : b ≤ 99) : apN a b ≤ 99 := by unfold apN; omega
theorem absI {a b : Nat} (ha : a ≤ 99) (hb : b ≤ 99) : (if 0 ≤ nI a - nI b then nI a - nI b else 0 - (nI a - nI b)) = nI (apN a b) := by
  unfold apN
  by_cases h : b ≤ a
  · rw [pk_sub h, if_pos (nI_pos' (by omega)), show a - b + (b - a) = a - b by omega]
  · rw [if_neg (by rw [Int32.le_iff_toInt_le, toI_sub (by omega) (by omega)]; show ¬ (0 : Int32).toInt ≤ _; rw [show (0 : Int32).toInt = 0 by decide +kernel]; omega), Int32.zero_sub, Int32.neg_sub, pk_sub (by omega), show a - b + (b - a) = b - a by omega]
theorem apI {a b : Nat} (ha : a ≤ 99) (hb : b ≤ 99) : F_M_apart (nI a) (nI b) () = some (nI (apN a b), ()) := by
  unfold F_M_apart apN
  by_cases h : b ≤ a
  · rw [if_pos (nI_le h (by omega)), pk_sub h, show a - b + (b - a) = a - b by omega]
  · rw [if_neg (nI_ge (by omega) (by omega)), pk_sub (by omega), show a - b + (b - a) = b - a by omega]
theorem facI {q : Nat} (hq : q < 2 ^ 30) : (64 : Int32) - nI q = nI (64 - q) ∧ q ≤ 63 ∨ (64 ≤ q ∧ ¬ (1 : Int32) ≤ (64 : Int32) - nI q) := by
  by_cases h : q ≤ 63
  · exact Or.inl ⟨pk_sub (a := 64) (by omega), h⟩
  · refine Or.inr ⟨by omega, ?_⟩
    rw [Int32.le_iff_toInt_le, show (64 : Int32) - nI q = nI 64 - nI q from rfl, toI_sub (by omega) (by omega), show (1 : Int32).toInt = 1 by decide +kernel]
    omega
theorem payY_le {f g : Nat → Int32} {t s a β : Nat} (hf : ∀ k, k < 8 → ∃ a, a ≤ 99 ∧ f k = nI a) (hg : ∀ k, k < 8 → ∃ a, a ≤ 99 ∧ g k = nI a) (hs : s < 8) (ha : a < 8) : payY f g t s (nI a) (nI β) ≤ 12672 := by
  obtain ⟨f1, h1, e1⟩ := hf a ha
  obtain ⟨f2, h2, e2⟩ := hf s hs
  obtain ⟨g1, h3, e3⟩ := hg a ha
  obtain ⟨g2, h4, e4⟩ := hg s hs
  unfold payY
  rw [nI_clamp (show a < 2 ^ 31 by omega), e1, e2, e3, e4, nI_clamp (show f1 < 2 ^ 31 by omega), nI_clamp (show f2 < 2 ^ 31 by omega), nI_clamp (show g1 < 2 ^ 31 by omega), nI_clamp (show g2 < 2 ^ 31 by omega)]
  have x1 := apN_le h1 h2
  have x2 := apN_le h3 h4
  exact Nat.mul_le_mul (show _ ≤ 198 by omega) (show _ ≤ 64 by omega)
theorem payC {c : CSt} {t s a β : Nat} (hf : ∀ k, k < 8 → ∃ a, a ≤ 99 ∧ c.2.2.1 k = nI a) (hg : ∀ k, k < 8 → ∃ a, a ≤ 99 ∧ c.2.2.2.1 k = nI a) (ht : c.2.2.2.2.2.2.2.2.2.2.1 = nI t) (ht2 : t ≤ 2000000000) (hs : s < 8) (ha : a < 8) (hβ : β ≤ t) : F_P_payOfOne (nI a) (nI β) (nI s) c = some (nI (payY c.2.2.1 c.2.2.2.1 t s (nI a) (nI β)), ()) := by
  obtain ⟨f1, h1, e1⟩ := hf a ha
  obtain ⟨f2, h2, e2⟩ := hf s hs
  obtain ⟨g1, h3, e3⟩ := hg a ha
  obtain ⟨g2, h4, e4⟩ := hg s hs
  have ga := inbN (show a < 8 from ha) (by decide)
  have gs := inbN (show s < 8 from hs) (by decide)
  unfold payY F_P_payOfOne
  rw [gd_t ga, gd_t gs, nmE, gd_t ga, gd_t gs, nmE, nmE, nI_clamp (show a < 2 ^ 31 by omega), nI_clamp (show s < 2 ^ 31 by omega), nI_clamp (show β < 2 ^ 31 by omega), e1, e2, e3, e4, absI h1 h2, absI h3 h4, nI_clamp (show f1 < 2 ^ 31 by omega), nI_clamp (show f2 < 2 ^ 31 by omega), nI_clamp (show g1 < 2 ^ 31 by omega), nI_clamp (show g2 < 2 ^ 31 by omega), ht, pk_sub hβ, nI_add]
  rw [show nI (t - β) / (64 : Int32) = nI ((t - β) / 64) from pk_div (d := 64) (by omega) (by omega) (by omega)]
  rcases facI (q := (t - β) / 64) (by omega) with ⟨e, h⟩ | ⟨h, e⟩
  · rw [e]
    by_cases h1 : 1 < 64 - (t - β) / 64
    · rw [if_pos (by exact nI_lt (a := 1) h1 (by omega)), pk_mul, show max 1 (64 - (t - β) / 64) = 64 - (t - β) / 64 by omega]
    · rw [if_neg (by exact nI_nlt (b := 64 - (t - β) / 64) (a := 1) (by omega) (by omega)), show max 1 (64 - (t - β) / 64) = 1 by omega, show (1 : Int32) = nI 1 from rfl, pk_mul]
  · rw [if_neg (fun z => e (Int32.le_of_lt z)), show max 1 (64 - (t - β) / 64) = 1 by omega, show (1 : Int32) = nI 1 from rfl, pk_mul]
theorem earnC {c : CSt} {mo ea p : Nat} (h1 : c.2.2.2.2.2.2.2.2.2.2.2.1 = nI mo) (h2 : c.2.2.2.2.2.2.2.2.2.2.2.2.1 = nI ea) (hm : mo ≤ 2000000000) (he : ea ≤ 2000000000) (hp : p < 2 ^ 31) : F_P_earn (nI p) c = some ((), (c.1, c.2.1, c.2.2.1, c.2.2.2.1, c.2.2.2.2.1, c.2.2.2.2.2.1, c.2.2.2.2.2.2.1, c.2.2.2.2.2.2.2.1, c.2.2.2.2.2.2.2.2.1, c.2.2.2.2.2.2.2.2.2.1, c.2.2.2.2.2.2.2.2.2.2.1, nI (mo + min p (min (2000000000 - mo) (2000000000 - ea))), nI (ea + min p (min (2000000000 - mo) (2000000000 - ea))), c.2.2.2.2.2.2.2.2.2.2.2.2.2.1, c.2.2.2.2.2.2.2.2.2.2.2.2.2.2)) := by
  unfold F_P_earn
  rw [h1, h2, show (2000000000 : Int32) - nI ea = nI (2000000000 - ea) from pk_sub (a := 2000000000) he, show (2000000000 : Int32) - nI mo = nI (2000000000 - mo) from pk_sub (a := 2000000000) hm, nmE, minI (by omega) (by omega), nmE, minI (by omega) hp, nI_add, nI_add]
theorem payM {u : MSt} {f g : Nat → Int32} {t s a β mo ea : Nat} (hf : ∀ k, k < 8 → u.2.2.2.2.2.1 k = f k ∧ ∃ a, a ≤ 99 ∧ f k = nI a) (hg : ∀ k, k < 8 → u.2.2.2.2.2.2.1 k = g k ∧ ∃ a, a ≤ 99 ∧ g k = nI a) (ht : u.2.1 = nI t) (ht2 : t ≤ 2000000000) (h1 : u.2.2.1 = nI mo) (h2 : u.2.2.2.1 = nI ea) (hm : mo ≤ 2000000000) (he : ea ≤ 2000000000) (hs : s < 8) (ha : a < 8) (hβ : β ≤ t) :
    F_M_pay (nI a) (nI β) (nI s) u = some ((), mst u (nI (mo + min (payY f g t s (nI a) (nI β)) (min (2000000000 - mo) (2000000000 - ea)))) (nI (ea + min (payY f g t s (nI a) (nI β)) (min (2000000000 - mo) (2000000000 - ea)))) (mSz u) (mOg u) (mBn u) (mPr u) (mDe u)) := by
  have hyl := payY_le (t := t) (β := β) (fun k hk => (hf k hk).2) (fun k hk => (hg k hk).2) hs ha
  obtain ⟨k1, f1, l1, e1⟩ := hf a ha
  obtain ⟨k2, f2, l2, e2⟩ := hf s hs
  obtain ⟨k3, g1, l3, e3⟩ := hg a ha
  obtain ⟨k4, g2, l4, e4⟩ := hg s hs
  have ga := inbN (show a < 8 from ha) (by decide)
  have gs := inbN (show s < 8 from hs) (by decide)
  have hJ : ∀ F : Nat, F = max 1 (64 - (t - β) / 64) → F_M_pay_J26 (nI a) (nI s) (nI F) u = some ((), mst u (nI (mo + min (payY f g t s (nI a) (nI β)) (min (2000000000 - mo) (2000000000 - ea)))) (nI (ea + min (payY f g t s (nI a) (nI β)) (min (2000000000 - mo) (2000000000 - ea)))) (mSz u) (mOg u) (mBn u) (mPr u) (mDe u)) := by
    intro F hF
    have hy : (apN f1 f2 + apN g1 g2) * F = payY f g t s (nI a) (nI β) := by
      unfold payY
      rw [hF, nI_clamp (show a < 2 ^ 31 by omega), nI_clamp (show β < 2 ^ 31 by omega), e1, e2, e3, e4, nI_clamp (show f1 < 2 ^ 31 by omega), nI_clamp (show f2 < 2 ^ 31 by omega), nI_clamp (show g1 < 2 ^ 31 by omega), nI_clamp (show g2 < 2 ^ 31 by omega)]
    generalize payY f g t s (nI a) (nI β) = y at hy hyl
    have hJ114 : ∀ d : Nat, d = min y (min (2000000000 - mo) (2000000000 - ea)) → F_M_pay_J114 (nI d) u = some ((), mst u (nI (mo + min y (min (2000000000 - mo) (2000000000 - ea)))) (nI (ea + min y (min (2000000000 - mo) (2000000000 - ea)))) (mSz u) (mOg u) (mBn u) (mPr u) (mDe u)) := by
      intro d hd
      unfold F_M_pay_J114
      rw [h1, h2, nI_add, nI_add, hd]
    have hJ88 : ∀ d : Nat, d = min y (2000000000 - mo) → F_M_pay_J88 (nI d) u = some ((), mst u (nI (mo + min y (min (2000000000 - mo) (2000000000 - ea)))) (nI (ea + min y (min (2000000000 - mo) (2000000000 - ea)))) (mSz u) (mOg u) (mBn u) (mPr u) (mDe u)) := by
      intro d hd
      unfold F_M_pay_J88
      rw [h2, show (2000000000 : Int32) - nI ea = nI (2000000000 - ea) from pk_sub (a := 2000000000) he]
      by_cases c1 : d ≤ 2000000000 - ea
      · rw [if_pos (by exact nI_le c1 (by omega))]
        exact hJ114 d (by omega)
      · rw [if_neg (by exact nI_ge (by omega) (by omega))]
        exact hJ114 _ (by omega)
    unfold F_M_pay_J26
    rw [gd_t ga, gd_t gs, nI_clamp (show a < 2 ^ 31 by omega), nI_clamp (show s < 2 ^ 31 by omega), k1, k2, e1, e2, apI l1 l2, biE, gd_t ga, gd_t gs, k3, k4, e3, e4, apI l3 l4, biE, nmE, nI_add, pk_mul, hy, h1, show (2000000000 : Int32) - nI mo = nI (2000000000 - mo) from pk_sub (a := 2000000000) hm]
    by_cases c1 : y ≤ 2000000000 - mo
    · rw [if_pos (by exact nI_le c1 (by omega))]
      exact hJ88 y (by omega)
    · rw [if_neg (by exact nI_ge (by omega) (by omega))]
      exact hJ88 _ (by omega)
  unfold F_M_pay
  rw [nmE, ht, pk_sub hβ, show nI (t - β) / (64 : Int32) = nI ((t - β) / 64) from pk_div (d := 64) (by omega) (by omega) (by omega)]
  rcases facI (q := (t - β) / 64) (by omega) with ⟨e, h⟩ | ⟨h, e⟩
  · rw [e, if_pos (by exact nI_le (a := 1) (by omega) (by omega))]
    exact hJ _ (by omega)
  · rw [if_neg e]
    exact hJ 1 (by omega)
def payL (Y : Int32 → Int32 → Nat) (k : Nat) (A : List Pk) : Nat := match A with
  | [] => 0
  | p :: t => if p.2.2 ≤ k then p.2.2 * Y p.1 p.2.1 + payL Y (k - p.2.2) t else k * Y p.1 p.2.1
theorem payL_c (Y : Int32 → Int32 → Nat) (k : Nat) (p : Pk) (t : List Pk) : payL Y k (p :: t) = if p.2.2 ≤ k then p.2.2 * Y p.1 p.2.1 + payL Y (k - p.2.2) t else k * Y p.1 p.2.1 := rfl
theorem payL_0 (Y : Int32 → Int32 → Nat) {A : List Pk} (h : ∀ p ∈ A, 1 ≤ p.2.2) : payL Y 0 A = 0 := by
  cases A with
  | nil => rfl
  | cons p t => rw [payL_c, if_neg (by have := h p (by simp); omega), Nat.zero_mul]
theorem payL_step (Y : Int32 → Int32 → Nat) {k : Nat} {p : Pk} {t : List Pk} : payL Y k (p :: t) = min k p.2.2 * Y p.1 p.2.1 + payL Y (k - min k p.2.2) (takeL (min k p.2.2) (p :: t)) := by
  by_cases h : p.2.2 ≤ k
  · rw [Nat.min_eq_right h, payL_c, if_pos h, takeL_cons, if_pos rfl]
  · rw [Nat.min_eq_left (by omega), payL_c, if_neg h, takeL_cons, if_neg (by omega), Nat.sub_self, payL_c, if_neg (by show ¬ p.2.2 - k ≤ 0; omega), Nat.zero_mul, Nat.add_zero]
theorem payL_succ (Y : Int32 → Int32 → Nat) {k : Nat} {p : Pk} {t : List Pk} (hp : 1 ≤ p.2.2) : payL Y (k + 1) (p :: t) = Y p.1 p.2.1 + payL Y k (takeL 1 (p :: t)) := by
  rw [takeL_cons, payL_c]
  by_cases h1 : 1 = p.2.2
  · rw [if_pos h1, if_pos (by omega), ← h1, Nat.one_mul, Nat.add_sub_cancel]
  · rw [if_neg h1, payL_c]
    obtain ⟨n, hn⟩ : ∃ n, p.2.2 = n + 1 := ⟨p.2.2 - 1, by omega⟩
    rw [hn]
    show _ = Y p.1 p.2.1 + (if n + 1 - 1 ≤ k then (n + 1 - 1) * Y p.1 p.2.1 + payL Y (k - (n + 1 - 1)) t else k * Y p.1 p.2.1)
    rw [Nat.add_sub_cancel]
    by_cases h2 : n ≤ k
    · rw [if_pos (by omega), if_pos h2, Nat.succ_mul, show k + 1 - (n + 1) = k - n by omega]; omega
    · rw [if_neg (by omega), if_neg h2, Nat.succ_mul]; omega
theorem restL_step {k : Nat} {p : Pk} {t : List Pk} : restL k (p :: t) = restL (k - min k p.2.2) (takeL (min k p.2.2) (p :: t)) := by
  by_cases h : p.2.2 ≤ k
  · rw [Nat.min_eq_right h, restL_c, if_pos h, takeL_cons, if_pos rfl]
  · rw [Nat.min_eq_left (by omega), restL_c, if_neg h, takeL_cons, if_neg (by omega), Nat.sub_self, restL_c, if_neg (by show ¬ p.2.2 - k ≤ 0; omega)]
    rfl
theorem restL_succ {k : Nat} {p : Pk} {t : List Pk} (hp : 1 ≤ p.2.2) : restL (k + 1) (p :: t) = restL k (takeL 1 (p :: t)) := by
  rw [takeL_cons, restL_c]
  by_cases h1 : 1 = p.2.2
  · rw [if_pos h1, if_pos (by omega), ← h1, Nat.add_sub_cancel]
  · rw [if_neg h1, restL_c]
    obtain ⟨n, hn⟩ : ∃ n, p.2.2 = n + 1 := ⟨p.2.2 - 1, by omega⟩
    rw [hn]
    show _ = (if n + 1 - 1 ≤ k then restL (k - (n + 1 - 1)) t else (p.1, p.2.1, n + 1 - 1 - k) :: t)
    rw [Nat.add_sub_cancel]
    by_cases h2 : n ≤ k
    · rw [if_pos (by omega), if_pos h2, show k + 1 - (n + 1) = k - n by omega]
    · rw [if_neg (by omega), if_neg h2, show n + 1 - (k + 1) = n - k by omega]
theorem up_up {α : Type} (f : Nat → α) (j : Nat) (a b : α) : va_up (va_up f j a) j b = va_up f j b := by
  funext k
  by_cases e : k = j
  · rw [e, va_up_self, va_up_self]
  · rw [va_up_ne _ _ e, va_up_ne _ _ e, va_up_ne _ _ e]
