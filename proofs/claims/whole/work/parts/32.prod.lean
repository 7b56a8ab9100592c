/-! what is produced -/
abbrev mPr (u : MSt) : Nat → Int32 := u.2.2.2.2.2.2.2.2.2.2.2.2.2.2.2.1
abbrev mDe (u : MSt) : Nat → Int32 := u.2.2.2.2.2.2.2.2.2.2.2.2.2.2.2.2.1
abbrev mst (u : MSt) (mo ea : Int32) (sz og bn pr de : Nat → Int32) : MSt := (u.1, u.2.1, mo, ea, u.2.2.2.2.1, u.2.2.2.2.2.1, u.2.2.2.2.2.2.1, u.2.2.2.2.2.2.2.1, u.2.2.2.2.2.2.2.2.1, u.2.2.2.2.2.2.2.2.2.1, u.2.2.2.2.2.2.2.2.2.2.1, u.2.2.2.2.2.2.2.2.2.2.2.1, sz, og, bn, pr, de, u.2.2.2.2.2.2.2.2.2.2.2.2.2.2.2.2.2)
theorem mprod_ok {u : MSt} {s v pr t : Nat} {B : List Pk} (hs : s < 8) (hv : v < 4) (ub : UR (mSz u) (mOg u) (mBn u) (4 * s + v) B) (lb : Lok t B) (hsb : sumL B ≤ 999) (ht : u.2.1 = nI t) (hpr : mPr u v = nI pr) (hp2 : pr ≤ 2000000000) :
    ∃ sz og bn p', F_M_produce (nI s) (nI v) u = some ((), mst u u.2.2.1 u.2.2.2.1 sz og bn p' (mDe u)) ∧ UR sz og bn (4 * s + v) (putL (nI s) (nI t) (min 1 (min (999 - sumL B) (2000000000 - pr))) B) ∧ Fr (4 * s + v) (mSz u) (mOg u) (mBn u) sz og bn ∧ ∀ j, p' j = if j = v then nI (pr + min 1 (min (999 - sumL B) (2000000000 - pr))) else mPr u j := by
  have g49 := inbN (show 4 * s + v < 49 by omega) (by decide)
  have cσ := nI_clamp (show 4 * s + v < 2 ^ 31 by omega)
  have g4 := inbN (show v < 4 from hv) (by decide)
  have cv := nI_clamp (show v < 2 ^ 31 by omega)
  have hz : u.2.2.2.2.2.2.2.2.2.2.2.2.1 (4 * s + v) = nI (sumL B) := ub.1
  have same : min 1 (min (999 - sumL B) (2000000000 - pr)) = 0 → ∃ sz og bn p', some ((), u) = some ((), mst u u.2.2.1 u.2.2.2.1 sz og bn p' (mDe u)) ∧ UR sz og bn (4 * s + v) (putL (nI s) (nI t) (min 1 (min (999 - sumL B) (2000000000 - pr))) B) ∧ Fr (4 * s + v) (mSz u) (mOg u) (mBn u) sz og bn ∧ ∀ j, p' j = if j = v then nI (pr + min 1 (min (999 - sumL B) (2000000000 - pr))) else mPr u j := by
    intro h0
    rw [h0]
    refine ⟨mSz u, mOg u, mBn u, mPr u, rfl, by rw [putL_0]; exact ub, fr_rf _ _ _ _, fun j => ?_⟩
    by_cases e : j = v
    · rw [if_pos e, e]; exact hpr
    · rw [if_neg e]
  unfold F_M_produce
  rw [mi4, gd_t g49, cσ, hz, gd_t g4, cv, show u.2.2.2.2.2.2.2.2.2.2.2.2.2.2.2.1 v = nI pr from hpr, gd_t g4, gd_t g4]
  by_cases h1 : sumL B = 999
  · rw [if_pos (by rw [h1]; rfl)]
    exact same (by omega)
  rw [if_neg (by exact fun z => h1 ((nI_eq (b := 999) (by omega) (by decide)).mp z))]
  by_cases h2 : pr = 2000000000
  · rw [if_pos (by rw [h2]; rfl)]
    exact same (by omega)
  rw [if_neg (by exact fun z => h2 ((nI_eq (b := 2000000000) (by omega) (by decide)).mp z)), nI_1]
  obtain ⟨sz, og, bn, e1, e2, e3⟩ := mput_ok (u := mst u u.2.2.1 u.2.2.2.1 (mSz u) (mOg u) (mBn u) (upd (mPr u) v (nI (pr + 1))) (mDe u)) (nI s) (nI t) (show 4 * s + v ≤ 48 by omega) ub lb.2.2.1 lb.2.1 lb.1 (by omega)
  have e1' : F_M_put (nI (4 * s + v)) (nI s) u.2.1 (mst u u.2.2.1 u.2.2.2.1 (mSz u) (mOg u) (mBn u) (upd (mPr u) v (nI (pr + 1))) (mDe u)) = some ((), mst u u.2.2.1 u.2.2.2.1 sz og bn (upd (mPr u) v (nI (pr + 1))) (mDe u)) := by
    rw [ht]
    exact e1
  rw [e1', biE]
  rw [show min 1 (min (999 - sumL B) (2000000000 - pr)) = 1 by omega]
  refine ⟨sz, og, bn, _, rfl, e2, e3, fun j => ?_⟩
  rw [upd_at]
theorem cprod_ok {c : CSt} {s v pr t n : Nat} {B : List Pk} (hs : s < 8) (hv : v < 4) (hg : Gd (cRs c (4 * s + v)) B) (hsb : sumL B ≤ 999) (ht : c.2.2.2.2.2.2.2.2.2.2.1 = nI t) (hpr : c.2.2.2.2.2.2.2.1 v = nI pr) (hp2 : pr ≤ 2000000000) (hn : n < 2 ^ 31) :
    ∃ r', F_P_produce (nI s) (nI v) (nI n) c = some ((), (c.1, c.2.1, c.2.2.1, c.2.2.2.1, c.2.2.2.2.1, c.2.2.2.2.2.1, c.2.2.2.2.2.2.1, upd c.2.2.2.2.2.2.2.1 v (nI (pr + min n (min (999 - sumL B) (2000000000 - pr)))), c.2.2.2.2.2.2.2.2.1, c.2.2.2.2.2.2.2.2.2.1, c.2.2.2.2.2.2.2.2.2.2.1, c.2.2.2.2.2.2.2.2.2.2.2.1, c.2.2.2.2.2.2.2.2.2.2.2.2.1, c.2.2.2.2.2.2.2.2.2.2.2.2.2.1, va_up (cRs c) (4 * s + v) r')) ∧ Gd r' (putL (nI s) (nI t) (min n (min (999 - sumL B) (2000000000 - pr))) B) := by
  obtain ⟨r', e1, g1⟩ := put_ok hg (nI s) (nI t) (n := min n (min (999 - sumL B) (2000000000 - pr))) (by omega)
  refine ⟨r', ?_, g1⟩
  have g4 := inbN (show v < 4 from hv) (by decide)
  have cv := nI_clamp (show v < 2 ^ 31 by omega)
  have hT := tot_ok hg
  unfold F_P_produce
  rw [si4, biE, gd_t (inbN (by omega) (by decide)), nI_clamp (show 4 * s + v < 2 ^ 31 by omega), hT, biE, gd_t g4, nmE, cv, hpr, show (2000000000 : Int32) - nI pr = nI (2000000000 - pr) from pk_sub (a := 2000000000) hp2, show (999 : Int32) - nI (sumL B) = nI (999 - sumL B) from pk_sub (a := 999) hsb, minI (by omega) (by omega), nmE, minI (by omega) hn, ht, e1, biE, gd_t g4, gd_t g4, nI_add]
theorem mprod_n {s v rt t : Nat} (hs : s < 8) (hv : v < 4) (hrt : rt ≤ 31) : ∀ (r fuel e pr : Nat) (B : List Pk) (u : MSt), UR (mSz u) (mOg u) (mBn u) (4 * s + v) B → Lok t B → sumL B ≤ 999 → u.2.1 = nI t → mPr u v = nI pr → pr ≤ 2000000000 → u.2.2.2.2.2.2.2.2.1 (4 * s + v) = nI rt → e + r = rt → r < fuel →
    ∃ sz og bn p', (∀ K x1 x2, F_M_pass_L80 K fuel x1 x2 (nI (4 * s + v)) (nI e) u = K x1 x2 (nI (4 * s + v + 1)) (mst u u.2.2.1 u.2.2.2.1 sz og bn p' (mDe u))) ∧ UR sz og bn (4 * s + v) (putL (nI s) (nI t) (min r (min (999 - sumL B) (2000000000 - pr))) B) ∧ Fr (4 * s + v) (mSz u) (mOg u) (mBn u) sz og bn ∧ ∀ j, p' j = if j = v then nI (pr + min r (min (999 - sumL B) (2000000000 - pr))) else mPr u j := by
  have g32 := inbN (show 4 * s + v < 32 by omega) (by decide)
  have cσ := nI_clamp (show 4 * s + v < 2 ^ 31 by omega)
  have hq : nI (4 * s + v) / (4 : Int32) = nI s := by
    rw [show (4 : Int32) = nI 4 from rfl, pk_div (by omega) (by omega) (by omega), show (4 * s + v) / 4 = s by omega]
  have hm : nI (4 * s + v) - nI s * (4 : Int32) = nI v := by
    rw [show (4 : Int32) = nI 4 from rfl, pk_mul, pk_sub (by omega), show 4 * s + v - s * 4 = v by omega]
  intro r
  induction r with
  | zero =>
    intro fuel e pr B u ub lb hsb ht hpr hp2 hru he hf
    obtain ⟨f, rfl⟩ : ∃ f, fuel = f + 1 := ⟨fuel - 1, by omega⟩
    rw [Nat.zero_min, putL_0]
    refine ⟨mSz u, mOg u, mBn u, mPr u, fun K x1 x2 => ?_, ub, fr_rf _ _ _ _, fun j => ?_⟩
    · rw [F_M_pass_L80, gd_t g32, cσ, hru, if_pos (by exact nI_le (by omega) (by omega)), nI_1]
    · by_cases e : j = v
      · rw [if_pos e, e]; exact hpr
      · rw [if_neg e]
  | succ r ih =>
    intro fuel e pr B u ub lb hsb ht hpr hp2 hru he hf
    obtain ⟨f, rfl⟩ : ∃ f, fuel = f + 1 := ⟨fuel - 1, by omega⟩
    obtain ⟨sz, og, bn, p', e1, u1, f1, k1⟩ := mprod_ok hs hv ub lb hsb ht hpr hp2
    have hps := sumL_put (nI s) (nI t) (min 1 (min (999 - sumL B) (2000000000 - pr))) B lb.1
    obtain ⟨sz2, og2, bn2, p2, e2, u2, f2, k2⟩ := ih f (e + 1) (pr + min 1 (min (999 - sumL B) (2000000000 - pr))) (putL (nI s) (nI t) (min 1 (min (999 - sumL B) (2000000000 - pr))) B) (mst u u.2.2.1 u.2.2.2.1 sz og bn p' (mDe u)) u1 (lok_put lb ⟨s, hs, rfl⟩ ⟨t, Nat.le_refl _, rfl⟩) (by omega) ht (by show p' v = _; rw [k1, if_pos rfl]) (by omega) hru (by omega) (by omega)
    rw [hps] at u2 k2
    have hc : min 1 (min (999 - sumL B) (2000000000 - pr)) + min r (min (999 - (sumL B + min 1 (min (999 - sumL B) (2000000000 - pr)))) (2000000000 - (pr + min 1 (min (999 - sumL B) (2000000000 - pr))))) = min (r + 1) (min (999 - sumL B) (2000000000 - pr)) := by omega
    refine ⟨sz2, og2, bn2, p2, fun K x1 x2 => ?_, ?_, fr_tr f1 f2, fun j => ?_⟩
    · rw [F_M_pass_L80, gd_t g32, cσ, hru, if_neg (by exact nI_ge (by omega) (by omega)), hq, hm, e1, biE, nI_1]
      exact e2 K x1 x2
    · rw [← putL_add, hc] at u2
      exact u2
    · rw [k2, Nat.add_assoc, hc]
      show (if j = v then _ else p' j) = _
      by_cases e : j = v
      · rw [if_pos e, if_pos e]
      · rw [if_neg e, if_neg e, k1, if_neg e]
theorem sim_prod {c : CSt} {m : MSt} {Ls : Nat → List Pk} {t mo ea sp s v : Nat} (hs : s < 8) (hv : v < 4) (h : R0 c m Ls t mo ea sp) : ∃ c' m' Ls', F_P_produce (nI s) (nI v) (c.1 (4 * s + v)) c = some ((), c') ∧ (∀ K x1 x2, F_M_pass_L80 K 2101 x1 x2 (nI (4 * s + v)) 0 m = K x1 x2 (nI (4 * s + v + 1)) m') ∧ R0 c' m' Ls' t mo ea sp ∧ m'.1 = m.1 := by
  obtain ⟨q1, q2, q3, q4, q5, q6, q7, q8, q9, q10, q11, q12, q13, q14, q15, q16, q17⟩ := h
  obtain ⟨er, rt, hrt, hrt2⟩ := q5 (4 * s + v) (by omega)
  obtain ⟨ep, pr, hp2, hpr⟩ := q12 v hv
  have rB := q15 (4 * s + v) (by omega)
  have hsb := q16 (4 * s + v) (by omega)
  obtain ⟨r', e1, g1⟩ := cprod_ok (n := rt) hs hv rB.1 hsb q1.1 hpr hp2 (by omega)
  obtain ⟨sz, og, bn, p', e2, u2, f2, k2⟩ := mprod_n (t := t) hs hv hrt rt 2101 0 pr (Ls (4 * s + v)) m rB.2.2.1 (lok_of rB) hsb q1.2.1 (by rw [show mPr m v = _ from ep]; exact hpr) hp2 (by rw [er]; exact hrt2) (by omega) (by omega)
  have lB := lok_put (n := min rt (min (999 - sumL (Ls (4 * s + v))) (2000000000 - pr))) (lok_of rB) ⟨s, hs, rfl⟩ ⟨t, Nat.le_refl _, rfl⟩
  have hps := sumL_put (nI s) (nI t) (min rt (min (999 - sumL (Ls (4 * s + v))) (2000000000 - pr))) (Ls (4 * s + v)) rB.1.1
  rw [hrt2]
  refine ⟨_, _, va_up Ls (4 * s + v) (putL (nI s) (nI t) (min rt (min (999 - sumL (Ls (4 * s + v))) (2000000000 - pr))) (Ls (4 * s + v))), e1, e2, ⟨q1, q2, q3, q4, q5, q6, q7, q8, q9, q10, q11, fun k hk => ?_, q13, q14, rows1 q15 (allb q16 q17) ⟨g1, lB.2.2.1, u2, lB.2.2.2⟩ (fun τ C h1 h2 h3 => ur_fr h3 f2 h1 h2), fun ρ hρ => ?_, fun w hw => ?_⟩, rfl⟩
  · show p' k = upd _ v _ k ∧ ∃ a, a ≤ _ ∧ upd _ v _ k = nI a
    rw [k2, upd_at]
    by_cases e : k = v
    · rw [if_pos e, if_pos e]; exact ⟨rfl, _, by omega, rfl⟩
    · rw [if_neg e, if_neg e]; exact q12 k hk
  · by_cases e : ρ = 4 * s + v
    · rw [e, va_up_self, hps]; omega
    · rw [va_up_ne _ _ e]; exact q16 ρ hρ
  · rw [va_up_ne _ _ (show 32 + w ≠ 4 * s + v by omega)]; exact q17 w hw
