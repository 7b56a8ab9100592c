abbrev dst (c : CSt) (mo ea : Int32) (rs : Nat → RowS) : CSt := (c.1, c.2.1, c.2.2.1, c.2.2.2.1, c.2.2.2.2.1, c.2.2.2.2.2.1, c.2.2.2.2.2.2.1, c.2.2.2.2.2.2.2.1, c.2.2.2.2.2.2.2.2.1, c.2.2.2.2.2.2.2.2.2.1, c.2.2.2.2.2.2.2.2.2.2.1, mo, ea, c.2.2.2.2.2.2.2.2.2.2.2.2.2.1, rs)
theorem look0 {r : RowS} {p : Pk} {l : List Pk} (h : Gd r (p :: l)) : F_Row_look 0 0 r = some (p.1, ()) ∧ F_Row_look 0 1 r = some (nI p.2.2, ()) ∧ F_Row_look 0 2 r = some (p.2.1, ()) := by
  obtain ⟨a1, a2, a3⟩ := h.2.2.2.2 0 p rfl
  have h1 : (0 : Int32) < r.2.2.2.1 := by
    rw [h.2.1]
    exact nI_lt (a := 0) (by simp) (by have := h.1; omega)
  have hz : ¬ (0 : Int32) < 0 := by decide
  refine ⟨?_, ?_, ?_⟩
  · unfold F_Row_look
    rw [if_neg hz, if_pos h1, if_pos rfl, gd_t in0, show (0 : Int32).toNatClampNeg = 0 from sb_cl0, a1]
  · unfold F_Row_look
    rw [if_neg hz, if_pos h1, if_neg (by decide), if_pos rfl, gd_t in0, show (0 : Int32).toNatClampNeg = 0 from sb_cl0, a3]
  · unfold F_Row_look
    rw [if_neg hz, if_pos h1, if_neg (by decide), if_neg (by decide), if_pos rfl, gd_t in0, show (0 : Int32).toNatClampNeg = 0 from sb_cl0, a2]
theorem del_end {j : Nat} {s kd : Nat} {x5 : Int32} {c : CSt} (f turn : Nat) (ht : turn ≤ 8) : F_P_deliverFrom_L18 j (f + 1) (nI s) (nI kd) x5 (nI 0) (nI turn) c = F_P_deliverFrom_L18 j 1 (nI s) (nI kd) x5 (nI 0) (nI 8) c := by
  rw [F_P_deliverFrom_L18, F_P_deliverFrom_L18]
  by_cases h : 8 ≤ turn
  · rw [if_pos (by exact nI_le (a := 8) h (by omega)), if_pos (by decide +kernel)]
  · rw [if_neg (by exact nI_ge (b := 8) (by omega) (by omega)), if_pos (by decide +kernel), if_pos (by decide +kernel)]
theorem del_C {j s kd t : Nat} {x5 : Int32} (hs : s < 8) (ht2 : t ≤ 2000000000) : ∀ (fuel left turn mo ea : Nat) (A : List Pk) (c : CSt), Gd (cRs c j) A → Org t A → (∀ k, k < 8 → ∃ a, a ≤ 99 ∧ c.2.2.1 k = nI a) → (∀ k, k < 8 → ∃ a, a ≤ 99 ∧ c.2.2.2.1 k = nI a) → c.2.2.2.2.2.2.2.2.2.2.1 = nI t → c.2.2.2.2.2.2.2.2.2.2.2.1 = nI mo → c.2.2.2.2.2.2.2.2.2.2.2.2.1 = nI ea → mo ≤ 2000000000 → ea ≤ 2000000000 → left ≤ sumL A → sumL A ≤ 80 → (left = 0 ∨ turn + A.length ≤ 8) → turn ≤ 8 → 8 - turn < fuel →
    ∃ r', F_P_deliverFrom_L18 j fuel (nI s) (nI kd) x5 (nI left) (nI turn) c = F_P_deliverFrom_L18 j 1 (nI s) (nI kd) x5 (nI 0) (nI 8) (dst c (nI (mo + min (payL (payY c.2.2.1 c.2.2.2.1 t s) left A) (min (2000000000 - mo) (2000000000 - ea)))) (nI (ea + min (payL (payY c.2.2.1 c.2.2.2.1 t s) left A) (min (2000000000 - mo) (2000000000 - ea)))) (va_up (cRs c) j r')) ∧ Gd r' (restL left A) := by
  intro fuel
  induction fuel with
  | zero => intro left turn mo ea A c _ _ _ _ _ _ _ _ _ _ _ _ _ h; omega
  | succ fuel ih =>
    intro left turn mo ea A c g1 ho hf hg ht hmo hea hm he hl hsa hta ht8 hfu
    by_cases hl0 : left = 0
    · subst hl0
      refine ⟨cRs c j, ?_, by rw [restL_0 g1.2.2.2.1]; exact g1⟩
      rw [del_end fuel turn ht8, payL_0 _ g1.2.2.2.1, Nat.zero_min, Nat.add_zero, Nat.add_zero]
      have e : va_up (cRs c) j (cRs c j) = cRs c := by
        funext k
        by_cases e : k = j
        · rw [e, va_up_self]
        · rw [va_up_ne _ _ e]
      rw [e, ← hmo, ← hea]
    · obtain ⟨p, l, rfl⟩ := sumL_pos g1.2.2.2.1 (show 0 < sumL A by omega)
      have hlen : turn + (l.length + 1) ≤ 8 := by rcases hta with h | h; exact absurd h hl0; simpa using h
      have hp1 : 1 ≤ p.2.2 := g1.2.2.2.1 p (by simp)
      obtain ⟨⟨a, ha, ea1⟩, β, hβ, eb1⟩ := ho p (by simp)
      obtain ⟨k1, k2, k3⟩ := look0 g1
      have hyl := payY_le (t := t) (β := β) hf hg hs ha
      have hpay := payC hf hg ht ht2 hs ha hβ
      have hsc := hl
      rw [sumL_cons] at hsc
      have hsc2 := hsa
      rw [sumL_cons] at hsc2
      have hprod : min left p.2.2 * payY c.2.2.1 c.2.2.2.1 t s (nI a) (nI β) ≤ 80 * 12672 := Nat.mul_le_mul (by omega) hyl
      have hearn := earnC (p := min left p.2.2 * payY c.2.2.1 c.2.2.2.1 t s (nI a) (nI β)) hmo hea hm he (by omega)
      obtain ⟨r1, e1, g1'⟩ := take_ok g1 (n := min left p.2.2) (by omega) (by omega)
      have hts := takeL_sum (t := l) (show min left p.2.2 ≤ p.2.2 by omega)
      have lor : Org t (takeL (min left p.2.2) (p :: l)) := by
        rw [takeL_cons]; split
        · exact fun q hq => ho q (List.mem_cons_of_mem _ hq)
        · intro q hq
          rcases List.mem_cons.mp hq with rfl | hq
          · exact ho p (by simp)
          · exact ho q (List.mem_cons_of_mem _ hq)
      have hst := payL_step (payY c.2.2.1 c.2.2.2.1 t s) (k := left) (p := p) (t := l)
      rw [ea1, eb1] at hst
      generalize hD : min (min left p.2.2 * payY c.2.2.1 c.2.2.2.1 t s (nI a) (nI β)) (min (2000000000 - mo) (2000000000 - ea)) = d at hearn
      obtain ⟨r2, e2, g2⟩ := ih (left - min left p.2.2) (turn + 1) (mo + d) (ea + d) _ (dst c (nI (mo + d)) (nI (ea + d)) (va_up (cRs c) j r1)) (by show Gd (va_up (cRs c) j r1 j) _; rw [va_up_self]; exact g1') lor hf hg ht rfl rfl (by omega) (by omega) (by omega) (by omega) (by
        by_cases hle : p.2.2 ≤ left
        · right
          rw [Nat.min_eq_right hle, takeL_cons, if_pos rfl]; omega
        · left; omega) (by omega) (by omega)
      refine ⟨r2, ?_, by rw [restL_step]; exact g2⟩
      rw [F_P_deliverFrom_L18, if_neg (by exact nI_ge (b := 8) (by omega) (by omega)), if_neg (by exact nI_nle (by omega) (by omega)), show F_Row_look 0 1 (c.2.2.2.2.2.2.2.2.2.2.2.2.2.2 j) = _ from k2, biE, nmE, show F_Row_look 0 0 (c.2.2.2.2.2.2.2.2.2.2.2.2.2.2 j) = _ from k1, biE, show F_Row_look 0 2 (c.2.2.2.2.2.2.2.2.2.2.2.2.2.2 j) = _ from k3, biE, ea1, eb1, hpay, biE, minI (by omega) (by omega), pk_mul, hearn, biE]
      show bi (F_Row_takeFromFirst (nI (min left p.2.2)) (cRs c j)) _ = _
      rw [e1, biE, nmE, pk_sub (by omega), nI_1]
      refine Eq.trans e2 ?_
      rw [up_up]
      show F_P_deliverFrom_L18 j 1 (nI s) (nI kd) x5 (nI 0) (nI 8) (dst c (nI (mo + d + min (payL (payY c.2.2.1 c.2.2.2.1 t s) (left - min left p.2.2) (takeL (min left p.2.2) (p :: l))) (min (2000000000 - (mo + d)) (2000000000 - (ea + d))))) (nI (ea + d + min (payL (payY c.2.2.1 c.2.2.2.1 t s) (left - min left p.2.2) (takeL (min left p.2.2) (p :: l))) (min (2000000000 - (mo + d)) (2000000000 - (ea + d))))) (va_up (cRs c) j r2)) = _
      rw [hst]
      generalize payL (payY c.2.2.1 c.2.2.2.1 t s) (left - min left p.2.2) (takeL (min left p.2.2) (p :: l)) = P
      generalize min left p.2.2 * payY c.2.2.1 c.2.2.2.1 t s (nI a) (nI β) = Q at hD
      rw [show mo + d + min P (min (2000000000 - (mo + d)) (2000000000 - (ea + d))) = mo + min (Q + P) (min (2000000000 - mo) (2000000000 - ea)) by omega, show ea + d + min P (min (2000000000 - (mo + d)) (2000000000 - (ea + d))) = ea + min (Q + P) (min (2000000000 - mo) (2000000000 - ea)) by omega]
/-- one unit delivered by the reference -/
theorem del_1 {u : MSt} {f g : Nat → Int32} {s kd w t mo ea v pr : Nat} {p : Pk} {l B : List Pk} (G : Bool) (hs : s < 8) (hkd : kd < 4) (hw : w < 16) (hv : v < 4) (ht2 : t ≤ 2000000000) (ua : UR (mSz u) (mOg u) (mBn u) (32 + w) (p :: l)) (ub : UR (mSz u) (mOg u) (mBn u) (4 * s + v) B) (la : Lok t (p :: l)) (lb : Lok t B) (hsa : sumL (p :: l) ≤ 80) (hsb : sumL B ≤ 999)
    (hf : ∀ k, k < 8 → u.2.2.2.2.2.1 k = f k ∧ ∃ a, a ≤ 99 ∧ f k = nI a) (hg : ∀ k, k < 8 → u.2.2.2.2.2.2.1 k = g k ∧ ∃ a, a ≤ 99 ∧ g k = nI a) (ht : u.2.1 = nI t) (h1 : u.2.2.1 = nI mo) (h2 : u.2.2.2.1 = nI ea) (hm : mo ≤ 2000000000) (he : ea ≤ 2000000000) (hpr : mPr u v = nI pr) (hp2 : pr ≤ 2000000000) (hmade : u.2.2.2.2.2.2.2.2.2.1 (4 * s + kd) = if G then nI v else -1) :
    ∃ sz og bn p' d', (∀ K x3 x7, F_M_unload_J121 K (nI s) x3 (nI kd) (nI (32 + w)) 1 x7 u = K (nI s) x3 (nI kd) (nI (32 + w)) 1 (x7 + 1) (mst u (nI (mo + min (payY f g t s p.1 p.2.1) (min (2000000000 - mo) (2000000000 - ea)))) (nI (ea + min (payY f g t s p.1 p.2.1) (min (2000000000 - mo) (2000000000 - ea)))) sz og bn p' d')) ∧ UR sz og bn (32 + w) (takeL 1 (p :: l)) ∧ UR sz og bn (4 * s + v) (putL (nI s) (nI t) (if G then min 1 (min (999 - sumL B) (2000000000 - pr)) else 0) B) ∧ (∀ (τ : Nat) (C : List Pk), τ ≠ 32 + w → τ ≠ 4 * s + v → sumL C ≤ 1000 → UR (mSz u) (mOg u) (mBn u) τ C → UR sz og bn τ C) ∧ (∀ j, p' j = if j = v then nI (pr + (if G then min 1 (min (999 - sumL B) (2000000000 - pr)) else 0)) else mPr u j) ∧ ∀ j, d' j = if j = kd then mDe u kd + 1 else mDe u j := by
  have hp := la.2.1 p (by simp)
  obtain ⟨⟨a, ha, ea1⟩, β, hβ, eb1⟩ := la.2.2.2 p (by simp)
  have h0 : (ex (p :: l))[0]? = some (p.1, p.2.1) := by rw [ex_take1 hp]; rfl
  obtain ⟨o1, o2⟩ := ua.2 0 _ h0
  rw [Nat.add_zero] at o1 o2
  have hpay := payM (a := a) (β := β) hf hg ht ht2 h1 h2 hm he hs ha hβ
  rw [ea1, eb1]
  rw [show (p.1, p.2.1).1 = nI a from ea1] at o1
  rw [show (p.1, p.2.1).2 = nI β from eb1] at o2
  generalize payY f g t s (nI a) (nI β) = y at hpay
  obtain ⟨sz, og, bn, e1, u1, f1⟩ := mdrop_ok (u := mst u (nI (mo + min y (min (2000000000 - mo) (2000000000 - ea)))) (nI (ea + min y (min (2000000000 - mo) (2000000000 - ea)))) (mSz u) (mOg u) (mBn u) (mPr u) (mDe u)) (show 32 + w ≤ 48 by omega) ua hp (by omega)
  have hx : (1000 : Int32) * nI (32 + w) = nI (1000 * (32 + w)) := by rw [show (1000 : Int32) = nI 1000 from rfl, pk_mul]
  have gx := inbN (show 1000 * (32 + w) < 49000 by omega) (by decide)
  have gk := inbN (show kd < 4 from hkd) (by decide)
  have gσ := inbN (show 4 * s + kd < 32 by omega) (by decide)
  have ub1 := ur_fr ub f1 (show 4 * s + v ≠ 32 + w by omega) (by omega)
  have hts := takeL_sum (t := l) hp
  -- up to what is made
  have hgo : ∀ K x3 x7, F_M_unload_J121 K (nI s) x3 (nI kd) (nI (32 + w)) 1 x7 u = if (if G then nI v else (-1 : Int32)) = -1 then K (nI s) x3 (nI kd) (nI (32 + w)) 1 (x7 + 1) (mst u (nI (mo + min y (min (2000000000 - mo) (2000000000 - ea)))) (nI (ea + min y (min (2000000000 - mo) (2000000000 - ea)))) sz og bn (mPr u) (upd (mDe u) kd (mDe u kd + 1))) else bi (F_M_produce (nI s) (if G then nI v else -1) (mst u (nI (mo + min y (min (2000000000 - mo) (2000000000 - ea)))) (nI (ea + min y (min (2000000000 - mo) (2000000000 - ea)))) sz og bn (mPr u) (upd (mDe u) kd (mDe u kd + 1)))) (fun _ u32 => K (nI s) x3 (nI kd) (nI (32 + w)) 1 (x7 + 1) u32) := by
    intro K x3 x7
    unfold F_M_unload_J121
    rw [if_neg (by decide), hx, gd_t gx, gd_t gx, nI_clamp (show 1000 * (32 + w) < 2 ^ 31 by omega), show u.2.2.2.2.2.2.2.2.2.2.2.2.2.1 (1000 * (32 + w)) = nI a from o1, show u.2.2.2.2.2.2.2.2.2.2.2.2.2.2.1 (1000 * (32 + w)) = nI β from o2, hpay, biE, e1, biE, gd_t gk, gd_t gk, mi4, gd_t gσ, nmE, nI_clamp (show 4 * s + kd < 2 ^ 31 by omega), nI_clamp (show kd < 2 ^ 31 by omega)]
    show (if u.2.2.2.2.2.2.2.2.2.1 (4 * s + kd) = -1 then _ else bi (F_M_produce (nI s) (u.2.2.2.2.2.2.2.2.2.1 (4 * s + kd)) _) _) = _
    rw [hmade]
  cases G with
  | false =>
    refine ⟨sz, og, bn, mPr u, upd (mDe u) kd (mDe u kd + 1), fun K x3 x7 => ?_, u1, ?_, fun τ C h1 h2 h3 h4 => ur_fr h4 f1 h1 h3, fun j => ?_, fun j => ?_⟩
    · rw [hgo K x3 x7, if_pos (by rfl)]
    · rw [if_neg (by decide), putL_0]; exact ub1
    · rw [if_neg (show ¬ false = true by decide), Nat.add_zero]
      by_cases e : j = v
      · rw [if_pos e, e]; exact hpr
      · rw [if_neg e]
    · rw [upd_at]
  | true =>
    obtain ⟨sz2, og2, bn2, p', e2, u2, f2, k2⟩ := mprod_ok (u := mst u (nI (mo + min y (min (2000000000 - mo) (2000000000 - ea)))) (nI (ea + min y (min (2000000000 - mo) (2000000000 - ea)))) sz og bn (mPr u) (upd (mDe u) kd (mDe u kd + 1))) hs hv ub1 lb hsb ht hpr hp2
    refine ⟨sz2, og2, bn2, p', upd (mDe u) kd (mDe u kd + 1), fun K x3 x7 => ?_, ur_fr u1 f2 (by omega) (by omega), ?_, fun τ C h1 h2 h3 h4 => ur_fr (ur_fr h4 f1 h1 h3) f2 h2 h3, fun j => ?_, fun j => ?_⟩
    · rw [hgo K x3 x7, if_neg (by exact nIm1 (by omega))]
      rw [show (if true = true then nI v else (-1 : Int32)) = nI v from rfl, e2, biE]
    · exact u2
    · exact k2 j
    · rw [upd_at]
theorem del_M {f g : Nat → Int32} {s kd w n t v : Nat} (G : Bool) (hs : s < 8) (hkd : kd < 4) (hw : w < 16) (hv : v < 4) (hn : n < 2 ^ 31) (ht2 : t ≤ 2000000000) : ∀ (k fuel many mo ea pr : Nat) (A B : List Pk) (u : MSt), UR (mSz u) (mOg u) (mBn u) (32 + w) A → UR (mSz u) (mOg u) (mBn u) (4 * s + v) B → Lok t A → Lok t B → sumL A ≤ 80 → sumL B ≤ 999 → (∀ k, k < 8 → u.2.2.2.2.2.1 k = f k ∧ ∃ a, a ≤ 99 ∧ f k = nI a) → (∀ k, k < 8 → u.2.2.2.2.2.2.1 k = g k ∧ ∃ a, a ≤ 99 ∧ g k = nI a) → u.2.1 = nI t → u.2.2.1 = nI mo → u.2.2.2.1 = nI ea → mo ≤ 2000000000 → ea ≤ 2000000000 → mPr u v = nI pr → pr ≤ 2000000000 → u.2.2.2.2.2.2.2.2.2.1 (4 * s + kd) = (if G then nI v else -1) → many ≤ n → k = min (n - many) (sumL A) → k < fuel →
    ∃ sz og bn p' d', F_M_unload_L83 fuel (nI s) (nI n) (nI kd) (nI (32 + w)) 1 (nI many) u = some (nI (many + k), mst u (nI (mo + min (payL (payY f g t s) k A) (min (2000000000 - mo) (2000000000 - ea)))) (nI (ea + min (payL (payY f g t s) k A) (min (2000000000 - mo) (2000000000 - ea)))) sz og bn p' d') ∧ UR sz og bn (32 + w) (restL k A) ∧ UR sz og bn (4 * s + v) (putL (nI s) (nI t) (if G then min k (min (999 - sumL B) (2000000000 - pr)) else 0) B) ∧ (∀ (τ : Nat) (C : List Pk), τ ≠ 32 + w → τ ≠ 4 * s + v → sumL C ≤ 1000 → UR (mSz u) (mOg u) (mBn u) τ C → UR sz og bn τ C) ∧ (∀ j, p' j = if j = v then nI (pr + (if G then min k (min (999 - sumL B) (2000000000 - pr)) else 0)) else mPr u j) ∧ ∀ j, d' j = if j = kd then mDe u kd + nI k else mDe u j := by
  intro k
  induction k with
  | zero =>
    intro fuel many mo ea pr A B u ua ub la lb hsa hsb hf hg ht h1 h2 hm he hpr hp2 hmade hmn hk hfu
    obtain ⟨f, rfl⟩ : ∃ f, fuel = f + 1 := ⟨fuel - 1, by omega⟩
    have hG0 : (if G then min 0 (min (999 - sumL B) (2000000000 - pr)) else 0) = 0 := by cases G <;> simp
    rw [hG0, putL_0, payL_0 _ la.2.1, Nat.zero_min, Nat.add_zero, Nat.add_zero, Nat.add_zero, Nat.add_zero, restL_0 la.2.1]
    refine ⟨mSz u, mOg u, mBn u, mPr u, mDe u, ?_, ua, ub, fun _ _ _ _ _ h => h, fun j => ?_, fun j => ?_⟩
    · show _ = some (nI many, mst u (nI mo) (nI ea) (mSz u) (mOg u) (mBn u) (mPr u) (mDe u))
      rw [← h1, ← h2, F_M_unload_L83]
      by_cases c1 : n ≤ many
      · rw [if_pos (by exact nI_le c1 (by omega))]
      · rw [if_neg (by exact nI_ge (by omega) (by omega)), gd_t (inbN (by omega) (by decide)), nI_clamp (show 32 + w < 2 ^ 31 by omega), show u.2.2.2.2.2.2.2.2.2.2.2.2.1 (32 + w) = nI (sumL A) from ua.1, show sumL A = 0 by omega, if_pos (by decide +kernel)]
    · by_cases e : j = v
      · rw [if_pos e, e]; exact hpr
      · rw [if_neg e]
    · by_cases e : j = kd
      · rw [if_pos e, e, nI_0, Int32.add_zero]
      · rw [if_neg e]
  | succ k ih =>
    intro fuel many mo ea pr A B u ua ub la lb hsa hsb hf hg ht h1 h2 hm he hpr hp2 hmade hmn hk hfu
    obtain ⟨f', rfl⟩ : ∃ f, fuel = f + 1 := ⟨fuel - 1, by omega⟩
    obtain ⟨p, l, rfl⟩ := sumL_pos la.2.1 (show 0 < sumL A by omega)
    have hp := la.2.1 p (by simp)
    obtain ⟨sz, og, bn, p', d', e1, ua', ub', ho, kp, kd1⟩ := del_1 G hs hkd hw hv ht2 ua ub la lb hsa hsb hf hg ht h1 h2 hm he hpr hp2 hmade
    have hts := takeL_sum (t := l) hp
    have hps := sumL_put (nI s) (nI t) (if G then min 1 (min (999 - sumL B) (2000000000 - pr)) else 0) B lb.1
    have hst := payL_succ (payY f g t s) (k := k) (t := l) hp
    generalize hC : (if G then min 1 (min (999 - sumL B) (2000000000 - pr)) else 0) = c1 at *
    have hc1 : c1 ≤ 999 - sumL B ∧ c1 ≤ 2000000000 - pr := by
      rw [← hC]; cases G
      · simp
      · simp only [if_true]; omega
    generalize hD : min (payY f g t s p.1 p.2.1) (min (2000000000 - mo) (2000000000 - ea)) = d at *
    obtain ⟨sz2, og2, bn2, p2, d2, e2, ua2, ub2, ho2, kp2, kd2⟩ := ih f' (many + 1) (mo + d) (ea + d) (pr + c1) _ _ (mst u (nI (mo + d)) (nI (ea + d)) sz og bn p' d') ua' ub' (lok_take la hp) (lok_put lb ⟨s, hs, rfl⟩ ⟨t, Nat.le_refl _, rfl⟩) (by omega) (by omega) hf hg ht rfl rfl (by omega) (by omega) (by show p' v = _; rw [kp, if_pos rfl]) (by omega) hmade (by omega) (by omega) (by omega)
    have hcc : c1 + (if G then min k (min (999 - (sumL B + c1)) (2000000000 - (pr + c1))) else 0) = (if G then min (k + 1) (min (999 - sumL B) (2000000000 - pr)) else 0) := by
      rw [← hC]; cases G
      · simp
      · simp only [if_true]; omega
    rw [hps] at ub2 kp2
    rw [← putL_add, hcc] at ub2
    refine ⟨sz2, og2, bn2, p2, d2, ?_, ?_, ub2, fun τ C z1 z2 z3 z4 => ho2 τ C z1 z2 z3 (ho τ C z1 z2 z3 z4), fun j => ?_, fun j => ?_⟩
    · rw [F_M_unload_L83, if_neg (by exact nI_ge (by omega) (by omega)), gd_t (inbN (by omega) (by decide)), nI_clamp (show 32 + w < 2 ^ 31 by omega), show u.2.2.2.2.2.2.2.2.2.2.2.2.1 (32 + w) = nI (sumL (p :: l)) from ua.1, if_neg (by exact nI_nle (by omega) (by omega)), if_neg (by decide), e1, nI_1, e2, hst]
      generalize payL (payY f g t s) k (takeL 1 (p :: l)) = P
      generalize payY f g t s p.1 p.2.1 = Q at hD
      rw [show mo + d + min P (min (2000000000 - (mo + d)) (2000000000 - (ea + d))) = mo + min (Q + P) (min (2000000000 - mo) (2000000000 - ea)) by omega, show ea + d + min P (min (2000000000 - (mo + d)) (2000000000 - (ea + d))) = ea + min (Q + P) (min (2000000000 - mo) (2000000000 - ea)) by omega, show many + 1 + k = many + (k + 1) by omega]
    · rw [restL_succ hp]; exact ua2
    · rw [kp2, Nat.add_assoc, hcc]
      show (if j = v then _ else p' j) = _
      by_cases e : j = v
      · rw [if_pos e, if_pos e]
      · rw [if_neg e, if_neg e, kp, if_neg e]
    · rw [kd2]
      show (if j = kd then d' kd + nI k else d' j) = _
      by_cases e : j = kd
      · rw [if_pos e, if_pos e, kd1, if_pos rfl, Int32.add_assoc, show (1 : Int32) = nI 1 from rfl, nI_add, show 1 + k = k + 1 by omega]
      · rw [if_neg e, if_neg e, kd1, if_neg e]
