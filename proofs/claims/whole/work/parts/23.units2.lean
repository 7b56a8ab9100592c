theorem ex_put1 (o b : Int32) {L : List Pk} : ∃ q : Un, ex (putL o b 1 L) = ex L ++ [q] ∧ ((L = [] ∧ q = (o, b)) ∨ ∃ M p, L = M ++ [p] ∧ ((p.1 = o ∧ p.2.1 = b ∧ q = (o, b)) ∨ (¬ (p.1 = o ∧ p.2.1 = b) ∧ ((L.length < 8 ∧ q = (o, b)) ∨ (¬ L.length < 8 ∧ q = (p.1, p.2.1)))))) := by
  rcases snoc_cases L with rfl | ⟨M, p, rfl⟩
  · refine ⟨(o, b), ?_, Or.inl ⟨rfl, rfl⟩⟩
    rw [putL_nil o b (by decide)]
    simp [ex]
  · have hadd : ex (addLast 1 (M ++ [p])) = ex (M ++ [p]) ++ [(p.1, p.2.1)] := by
      rw [addLast_app, ex_app, ex_app, ex_one, ex_one, List.append_assoc]
      congr 1
      show List.replicate (p.2.2 + 1) (p.1, p.2.1) = _
      rw [List.replicate_succ']
    by_cases hk : p.1 = o ∧ p.2.1 = b
    · refine ⟨(o, b), ?_, Or.inr ⟨M, p, rfl, Or.inl ⟨hk.1, hk.2, rfl⟩⟩⟩
      have hle : ¬ ((M ++ [p]).length < 8 ∧ lastEq o b (M ++ [p]) = false) := by
        rw [lastEq_app]; simp [hk.1, hk.2]
      unfold putL
      rw [if_neg (by decide), if_neg hle, hadd, hk.1, hk.2]
    · have hle : lastEq o b (M ++ [p]) = false := by
        rw [lastEq_app]
        by_cases c1 : p.1 = o
        · have c2 : ¬ p.2.1 = b := fun c2 => hk ⟨c1, c2⟩
          simp [c1, c2]
        · simp [c1]
      by_cases h8 : (M ++ [p]).length < 8
      · refine ⟨(o, b), ?_, Or.inr ⟨M, p, rfl, Or.inr ⟨hk, Or.inl ⟨h8, rfl⟩⟩⟩⟩
        unfold putL
        rw [if_neg (by decide), if_pos ⟨h8, hle⟩, ex_app (M ++ [p]), ex_one]
        rfl
      · refine ⟨(p.1, p.2.1), ?_, Or.inr ⟨M, p, rfl, Or.inr ⟨hk, Or.inr ⟨h8, rfl⟩⟩⟩⟩
        unfold putL
        rw [if_neg (by decide), if_neg (fun q => h8 q.1), hadd]
theorem s_a (x : Int32) : x - 1 + 1 = x := by rw [Int32.sub_add_cancel]
theorem mput_st {u : MSt} {ρ : Nat} {L : List Pk} (o b : Int32) (hu : UR (mSz u) (mOg u) (mBn u) ρ L) (hs : sumL L < 1000) {q : Un} (hq : ex (putL o b 1 L) = ex L ++ [q]) (h8 : L.length ≤ 8) :
    UR (upd (mSz u) ρ (mSz u ρ + 1)) (upd (mOg u) (1000 * ρ + sumL L) q.1) (upd (mBn u) (1000 * ρ + sumL L) q.2) ρ (putL o b 1 L) ∧ Fr ρ (mSz u) (mOg u) (mBn u) (upd (mSz u) ρ (mSz u ρ + 1)) (upd (mOg u) (1000 * ρ + sumL L) q.1) (upd (mBn u) (1000 * ρ + sumL L) q.2) := by
  refine ⟨⟨?_, fun k v hk => ?_⟩, fun j hj => ?_, fun k hk => ?_⟩
  · rw [upd_at, if_pos rfl, hu.1, nI_1, sumL_put o b 1 L h8]
  · rw [hq] at hk
    have hl := (List.getElem?_eq_some_iff.mp hk).1
    rw [List.length_append, ex_len] at hl
    simp at hl
    rw [upd_at, upd_at]
    by_cases hkl : k = sumL L
    · subst hkl
      rw [List.getElem?_append_right (by rw [ex_len]; omega), ex_len] at hk
      simp at hk
      subst hk
      rw [if_pos rfl, if_pos rfl]
      exact ⟨rfl, rfl⟩
    · rw [List.getElem?_append_left (by rw [ex_len]; omega)] at hk
      rw [if_neg (by omega), if_neg (by omega)]
      exact hu.2 k v hk
  · rw [upd_at, if_neg hj]
  · rw [upd_at, upd_at, if_neg (by omega), if_neg (by omega)]
    exact ⟨rfl, rfl⟩
theorem mput_ok {u : MSt} {ρ : Nat} {L : List Pk} (o b : Int32) (hρ : ρ ≤ 48) (hu : UR (mSz u) (mOg u) (mBn u) ρ L) (hd : Dist L) (hpos : ∀ q ∈ L, 1 ≤ q.2.2) (h8 : L.length ≤ 8) (hs : sumL L < 1000) :
    ∃ sz og bn, F_M_put (nI ρ) o b u = some ((), mrow u sz og bn) ∧ UR sz og bn ρ (putL o b 1 L) ∧ Fr ρ (mSz u) (mOg u) (mBn u) sz og bn := by
  obtain ⟨q, hq, hc⟩ := ex_put1 o b (L := L)
  obtain ⟨hst, hfr⟩ := mput_st o b hu hs hq h8
  refine ⟨_, _, _, ?_, hst, hfr⟩
  have hpk := packets_ok hρ hu hd hpos (by omega)
  have hρ2 : ρ < 2 ^ 31 := by omega
  have gρ := inbN (show ρ < 49 by omega) (by decide)
  have g1 : inb (nI (1000 * ρ + sumL L)) 49000 = true := inbN (by omega) (by decide)
  have c1 : (nI (1000 * ρ + sumL L)).toNatClampNeg = 1000 * ρ + sumL L := nI_clamp (by omega)
  -- both ends
  have put0 : F_M_put_J61 (nI ρ) o b (nI (1000 * ρ + sumL L) - 1) u = some ((), mrow u (upd (mSz u) ρ (mSz u ρ + 1)) (upd (mOg u) (1000 * ρ + sumL L) o) (upd (mBn u) (1000 * ρ + sumL L) b)) := by
    unfold F_M_put_J61 F_M_put_J62
    rw [if_pos rfl]
    unfold F_M_put_J88
    rw [s_a, gd_t g1, if_pos rfl]
    unfold F_M_put_J113
    rw [gd_t g1, gd_t gρ, gd_t gρ, c1, nI_clamp hρ2]
  unfold F_M_put
  rw [gd_t gρ, nmE, nI_clamp hρ2, gd_t gρ, show u.2.2.2.2.2.2.2.2.2.2.2.2.1 ρ = nI (sumL L) from hu.1, ix]
  rcases hc with ⟨rfl, rfl⟩ | ⟨M, p, rfl, hc⟩
  · rw [if_pos (by decide +kernel)]
    exact put0
  · have hp : 1 ≤ p.2.2 := hpos p (by simp)
    have hsum : sumL (M ++ [p]) = sumL M + p.2.2 := by rw [sumL_app, sumL_one]
    have g2 : inb (nI (1000 * ρ + sumL (M ++ [p]) - 1)) 49000 = true := inbN (by omega) (by decide)
    have c2 : (nI (1000 * ρ + sumL (M ++ [p]) - 1)).toNatClampNeg = 1000 * ρ + sumL (M ++ [p]) - 1 := nI_clamp (by omega)
    have e1 : (ex (M ++ p :: []))[sumL M + (p.2.2 - 1)]? = some (p.1, p.2.1) := ex_at (by omega)
    obtain ⟨f1, f2⟩ := hu.2 _ _ e1
    have ei : 1000 * ρ + (sumL M + (p.2.2 - 1)) = 1000 * ρ + sumL (M ++ [p]) - 1 := by omega
    rw [ei] at f1 f2
    rw [if_neg (by exact nI_nle (by omega) (by omega)), nIs1 (by omega), gd_t g2, c2, show u.2.2.2.2.2.2.2.2.2.2.2.2.2.1 (1000 * ρ + sumL (M ++ [p]) - 1) = p.1 from f1, gd_t g2, show u.2.2.2.2.2.2.2.2.2.2.2.2.2.2.1 (1000 * ρ + sumL (M ++ [p]) - 1) = p.2.1 from f2]
    rw [nIs1 (by omega)] at put0
    have put47 : ¬ (p.1 = o ∧ p.2.1 = b) → F_M_put_J47 (nI ρ) o b (nI (1000 * ρ + sumL (M ++ [p]) - 1)) u = some ((), mrow u (upd (mSz u) ρ (mSz u ρ + 1)) (upd (mOg u) (1000 * ρ + sumL (M ++ [p])) q.1) (upd (mBn u) (1000 * ρ + sumL (M ++ [p])) q.2)) := by
      intro hne
      unfold F_M_put_J47
      rw [hpk, biE]
      rcases hc with ⟨k1, k2, -⟩ | ⟨-, ⟨h9, rfl⟩ | ⟨h9, rfl⟩⟩
      · exact absurd ⟨k1, k2⟩ hne
      · rw [if_neg (by exact fun z => absurd ((nI_eq (b := 8) (by omega) (by decide)).mp z) (by omega))]
        exact put0
      · rw [if_pos (by rw [show (M ++ [p]).length = 8 by omega]; rfl)]
        unfold F_M_put_J62
        rw [if_neg (by decide), gd_t g2]
        unfold F_M_put_J88
        rw [nI_1, show 1000 * ρ + sumL (M ++ [p]) - 1 + 1 = 1000 * ρ + sumL (M ++ [p]) by omega, gd_t g1, if_neg (by decide), gd_t g2]
        unfold F_M_put_J113
        rw [gd_t g1, gd_t gρ, gd_t gρ, c1, c2, nI_clamp hρ2, show u.2.2.2.2.2.2.2.2.2.2.2.2.2.1 (1000 * ρ + sumL (M ++ [p]) - 1) = p.1 from f1, show u.2.2.2.2.2.2.2.2.2.2.2.2.2.2.1 (1000 * ρ + sumL (M ++ [p]) - 1) = p.2.1 from f2]
    by_cases k1 : p.1 = o
    · rw [if_pos k1]
      by_cases k2 : p.2.1 = b
      · rw [if_pos k2]
        rcases hc with ⟨-, -, rfl⟩ | ⟨hne, -⟩
        · exact put0
        · exact absurd ⟨k1, k2⟩ hne
      · rw [if_neg k2]
        exact put47 (fun z => k2 z.2)
    · rw [if_neg k1]
      exact put47 (fun z => k1 z.1)
theorem mdrop_L {ρ n : Nat} (hρ : ρ ≤ 48) (hn : n < 1000) : ∀ (fuel k : Nat) (u : MSt), mSz u ρ = nI n → k ≤ n → n - k < fuel → ∃ og bn, F_M_drop_L16 fuel (nI ρ) (nI (1000 * ρ + k)) u = some ((), mrow u (mSz u) og bn) ∧ ∀ j, (1000 * ρ + k ≤ j → j < 1000 * ρ + n → og j = mOg u (j + 1) ∧ bn j = mBn u (j + 1)) ∧ ((j < 1000 * ρ + k ∨ 1000 * ρ + n ≤ j) → og j = mOg u j ∧ bn j = mBn u j) := by
  intro fuel
  induction fuel with
  | zero => intro k u _ h1 h2; omega
  | succ fuel ih =>
    intro k u hsz hk hf
    rw [F_M_drop_L16, gd_t (inbN (show ρ < 49 by omega) (by decide)), nI_clamp (show ρ < 2 ^ 31 by omega), show u.2.2.2.2.2.2.2.2.2.2.2.2.1 ρ = nI n from hsz, ix]
    by_cases hkn : n ≤ k
    · rw [if_pos (by exact nI_le (by omega) (by omega))]
      exact ⟨_, _, rfl, fun j => ⟨fun h1 h2 => by omega, fun _ => ⟨rfl, rfl⟩⟩⟩
    · rw [if_neg (by exact fun z => absurd ((nI_leI (by omega) (by omega)).mp z) (by omega)), nI_1, gd_t (inbN (by omega) (by decide)), gd_t (inbN (by omega) (by decide)), gd_t (inbN (by omega) (by decide)), gd_t (inbN (by omega) (by decide)), nI_clamp (show 1000 * ρ + k + 1 < 2 ^ 31 by omega), nI_clamp (show 1000 * ρ + k < 2 ^ 31 by omega)]
      obtain ⟨og, bn, e1, e2⟩ := ih (k + 1) (mrow u (mSz u) (upd (mOg u) (1000 * ρ + k) (mOg u (1000 * ρ + k + 1))) (upd (mBn u) (1000 * ρ + k) (mBn u (1000 * ρ + k + 1)))) hsz (by omega) (by omega)
      refine ⟨og, bn, e1, fun j => ⟨fun h1 h2 => ?_, fun h1 => ?_⟩⟩
      · by_cases hj : j = 1000 * ρ + k
        · obtain ⟨a, b⟩ := (e2 j).2 (by omega)
          rw [a, b]
          show upd (mOg u) (1000 * ρ + k) _ j = _ ∧ upd (mBn u) (1000 * ρ + k) _ j = _
          rw [upd_at, upd_at, if_pos hj, if_pos hj, hj]
          exact ⟨rfl, rfl⟩
        · obtain ⟨a, b⟩ := (e2 j).1 (by omega) h2
          rw [a, b]
          show upd (mOg u) (1000 * ρ + k) _ (j + 1) = _ ∧ upd (mBn u) (1000 * ρ + k) _ (j + 1) = _
          rw [upd_at, upd_at, if_neg (by omega), if_neg (by omega)]
          exact ⟨rfl, rfl⟩
      · obtain ⟨a, b⟩ := (e2 j).2 (by omega)
        rw [a, b]
        show upd (mOg u) (1000 * ρ + k) _ j = _ ∧ upd (mBn u) (1000 * ρ + k) _ j = _
        rw [upd_at, upd_at, if_neg (by omega), if_neg (by omega)]
        exact ⟨rfl, rfl⟩
theorem ex_take1 {p : Pk} {t : List Pk} (hp : 1 ≤ p.2.2) : ex (p :: t) = (p.1, p.2.1) :: ex (takeL 1 (p :: t)) := by
  rw [takeL_cons, ex_cons]
  obtain ⟨n, hn⟩ : ∃ n, p.2.2 = n + 1 := ⟨p.2.2 - 1, by omega⟩
  by_cases h1 : 1 = p.2.2
  · rw [if_pos h1, ← h1]; rfl
  · rw [if_neg h1, ex_cons, hn, List.replicate_succ]
    rfl
theorem mdrop_ok {u : MSt} {ρ : Nat} {p : Pk} {t : List Pk} (hρ : ρ ≤ 48) (hu : UR (mSz u) (mOg u) (mBn u) ρ (p :: t)) (hp : 1 ≤ p.2.2) (hs : sumL (p :: t) ≤ 1000) :
    ∃ sz og bn, F_M_drop (nI ρ) u = some ((), mrow u sz og bn) ∧ UR sz og bn ρ (takeL 1 (p :: t)) ∧ Fr ρ (mSz u) (mOg u) (mBn u) sz og bn := by
  have hts := takeL_sum (t := t) (show 1 ≤ p.2.2 from hp)
  have hpos : 1 ≤ sumL (p :: t) := by rw [sumL_cons]; omega
  obtain ⟨og, bn, e1, e2⟩ := mdrop_L hρ (n := sumL (p :: t) - 1) (by omega) 1001 0 (mrow u (upd (mSz u) ρ (nI (sumL (p :: t) - 1))) (mOg u) (mBn u)) (by show upd (mSz u) ρ _ ρ = _; rw [upd_at, if_pos rfl]) (by omega) (by omega)
  refine ⟨upd (mSz u) ρ (nI (sumL (p :: t) - 1)), og, bn, ?_, ⟨?_, fun k q hk => ?_⟩, fun j hj => ?_, fun k hk => ?_⟩
  · unfold F_M_drop
    rw [gd_t (inbN (show ρ < 49 by omega) (by decide)), gd_t (inbN (show ρ < 49 by omega) (by decide)), nmE, nI_clamp (show ρ < 2 ^ 31 by omega), show u.2.2.2.2.2.2.2.2.2.2.2.2.1 ρ = nI (sumL (p :: t)) from hu.1, nIs1 (by omega)]
    rw [Nat.add_zero] at e1
    rw [show (1000 : Int32) * nI ρ = nI (1000 * ρ) from by rw [show (1000 : Int32) = nI 1000 from rfl, pk_mul]]
    exact e1
  · rw [upd_at, if_pos rfl, hts]
  · have hk' : (ex (p :: t))[k + 1]? = some q := by rw [ex_take1 hp]; simpa using hk
    have hl : k < sumL (takeL 1 (p :: t)) := by rw [← ex_len]; exact (List.getElem?_eq_some_iff.mp hk).1
    obtain ⟨a, b⟩ := (e2 (1000 * ρ + k)).1 (by omega) (by omega)
    rw [a, b]
    exact hu.2 (k + 1) q hk'
  · rw [upd_at, if_neg hj]
  · exact (e2 k).2 (by omega)
/-- one unit goes from the row ρ to the row σ -/
theorem mmove_ok {u : MSt} {ρ σ : Nat} {p : Pk} {t B : List Pk} (hρ : ρ ≤ 48) (hσ : σ ≤ 48) (hne : ρ ≠ σ) (hu : UR (mSz u) (mOg u) (mBn u) ρ (p :: t)) (hp : 1 ≤ p.2.2) (hs : sumL (p :: t) ≤ 1000) (hb : UR (mSz u) (mOg u) (mBn u) σ B) (hd : Dist B) (hpos : ∀ q ∈ B, 1 ≤ q.2.2) (h8 : B.length ≤ 8) (hsb : sumL B < 1000) :
    ∃ sz og bn, F_M_move (nI ρ) (nI σ) u = some ((), mrow u sz og bn) ∧ UR sz og bn ρ (takeL 1 (p :: t)) ∧ UR sz og bn σ (putL p.1 p.2.1 1 B) ∧ ∀ (τ : Nat) (C : List Pk), τ ≠ ρ → τ ≠ σ → sumL C ≤ 1000 → UR (mSz u) (mOg u) (mBn u) τ C → UR sz og bn τ C := by
  obtain ⟨sz, og, bn, e1, u1, f1⟩ := mdrop_ok hρ hu hp hs
  have hts := takeL_sum (t := t) (show 1 ≤ p.2.2 from hp)
  obtain ⟨sz2, og2, bn2, e2, u2, f2⟩ := mput_ok (u := mrow u sz og bn) p.1 p.2.1 hσ (ur_fr hb f1 (fun z => hne z.symm) (by omega)) hd hpos h8 hsb
  have h0 : (ex (p :: t))[0]? = some (p.1, p.2.1) := by rw [ex_take1 hp]; rfl
  obtain ⟨a, b⟩ := hu.2 0 _ h0
  rw [Nat.add_zero] at a b
  refine ⟨sz2, og2, bn2, ?_, ur_fr u1 f2 hne (by omega), u2, fun τ C h1 h2 h3 h4 => ur_fr (ur_fr h4 f1 h1 h3) f2 h2 h3⟩
  unfold F_M_move
  rw [show (1000 : Int32) * nI ρ = nI (1000 * ρ) from by rw [show (1000 : Int32) = nI 1000 from rfl, pk_mul], gd_t (inbN (by omega) (by decide)), nmE, gd_t (inbN (by omega) (by decide)), nmE, nI_clamp (show 1000 * ρ < 2 ^ 31 by omega), show u.2.2.2.2.2.2.2.2.2.2.2.2.2.1 (1000 * ρ) = p.1 from a, show u.2.2.2.2.2.2.2.2.2.2.2.2.2.2.1 (1000 * ρ) = p.2.1 from b, e1, biE, e2, biE]
