/-! packet, count -/
theorem look_in {u : MSt} {ρ : Nat} {A B : List Pk} {p : Pk} {x4 : Int32} (hρ : ρ ≤ 48) (hu : UR (mSz u) (mOg u) (mBn u) ρ (A ++ p :: B)) (hd : Dist (A ++ p :: B)) (hpos : ∀ q ∈ A ++ p :: B, 1 ≤ q.2.2) (hs : sumL (A ++ p :: B) ≤ 1000) : ∀ (r : Nat) (fuel e c : Nat), e + r = p.2.2 → 1 ≤ e → 1 ≤ c → c < 2 ^ 31 → F_M_packet_L55 (fuel + r) x4 (nI ρ) (nI (sumL A + e)) (nI c) u = F_M_packet_L55 fuel x4 (nI ρ) (nI (sumL A + p.2.2)) (nI c) u := by
  intro r
  induction r with
  | zero => intro fuel e c h1 h2 h3 h4; rw [show e = p.2.2 by omega]; rfl
  | succ r ih =>
    intro fuel e c h1 h2 h3 h4
    have hs' := hs
    rw [sumL_app, sumL_cons] at hs'
    rw [show fuel + (r + 1) = (fuel + r) + 1 by omega, F_M_packet_L55, gd_t (inbN (by omega) (by decide)), nI_clamp (show ρ < 2 ^ 31 by omega), show u.2.2.2.2.2.2.2.2.2.2.2.2.1 ρ = nI (sumL (A ++ p :: B)) from hu.1, sumL_app, sumL_cons, if_neg (by exact fun q => absurd ((nI_leI (by omega) (by omega)).mp q) (by omega)), if_neg (by exact nI_nle (by omega) h4), isFirst_ok hρ hu hd hpos hs (show e < p.2.2 by omega), biE, if_neg (show ¬ e = 0 by omega), if_pos rfl, nI_1, show sumL A + e + 1 = sumL A + (e + 1) by omega]
    exact ih fuel (e + 1) c (by omega) (by omega) h3 h4
theorem m1 {c : Nat} (h : 1 ≤ c) : nI c + (-1 : Int32) = nI (c - 1) := by
  rw [show nI c + (-1 : Int32) = nI c - 1 from (Int32.sub_eq_add_neg _ _).symm]
  exact nIs1 h
theorem look_0 {u : MSt} {ρ : Nat} {x4 : Int32} {e : Nat} (hρ : ρ ≤ 48) (he : 1 ≤ e) (f : Nat) : F_M_packet_L55 (f + 1) x4 (nI ρ) (nI e) (nI 0) u = F_M_packet_L105 1001 x4 (nI ρ) (nI (e - 1)) 1 u := by
  have h0 : nI 0 ≤ (0 : Int32) := by decide +kernel
  rw [F_M_packet_L55, gd_t (inbN (by omega) (by decide)), if_pos h0, if_pos h0, m1 he]
  split <;> rfl
theorem look_L {u : MSt} {ρ : Nat} {x4 : Int32} (hρ : ρ ≤ 48) : ∀ (B A : List Pk) (fuel c : Nat), UR (mSz u) (mOg u) (mBn u) ρ (A ++ B) → Dist (A ++ B) → (∀ q ∈ A ++ B, 1 ≤ q.2.2) → sumL (A ++ B) ≤ 1000 → sumL B + 1 < fuel → 1 ≤ c → c < 2 ^ 31 → (B.length < c → F_M_packet_L55 fuel x4 (nI ρ) (nI (sumL A)) (nI c) u = some (-1, u)) ∧ ∀ B1 p B2, B = B1 ++ p :: B2 → c = B1.length + 1 → F_M_packet_L55 fuel x4 (nI ρ) (nI (sumL A)) (nI c) u = F_M_packet_L105 1001 x4 (nI ρ) (nI (sumL (A ++ B1))) 1 u := by
  intro B
  induction B with
  | nil =>
    intro A fuel c hu hd hpos hs hf hc hc2
    rw [List.append_nil] at hu
    obtain ⟨f, rfl⟩ : ∃ f, fuel = f + 1 := ⟨fuel - 1, by omega⟩
    refine ⟨fun _ => ?_, fun B1 p B2 e => by simp at e⟩
    rw [F_M_packet_L55, gd_t (inbN (by omega) (by decide)), nI_clamp (show ρ < 2 ^ 31 by omega), show u.2.2.2.2.2.2.2.2.2.2.2.2.1 ρ = nI (sumL A) from hu.1, if_pos (by exact Int32.le_refl _), if_neg (by exact nI_nle (by omega) hc2)]
  | cons p B ih =>
    intro A fuel c hu hd hpos hs hf hc hc2
    have hs' := hs
    rw [sumL_app, sumL_cons] at hs'
    rw [sumL_cons] at hf
    have hp : 1 ≤ p.2.2 := hpos p (by simp)
    obtain ⟨f, rfl⟩ : ∃ f, fuel = (f + (p.2.2 - 1)) + 1 := ⟨fuel - p.2.2, by omega⟩
    have hfi := isFirst_ok hρ hu hd hpos hs (show 0 < p.2.2 by omega)
    rw [Nat.add_zero, if_pos rfl] at hfi
    have e1 : A ++ p :: B = (A ++ [p]) ++ B := by simp
    have e2 : sumL A + p.2.2 = sumL (A ++ [p]) := by rw [sumL_app, sumL_one]
    have st : F_M_packet_L55 ((f + (p.2.2 - 1)) + 1) x4 (nI ρ) (nI (sumL A)) (nI c) u = F_M_packet_L55 (f + (p.2.2 - 1)) x4 (nI ρ) (nI (sumL A + 1)) (nI (c - 1)) u := by
      rw [F_M_packet_L55, gd_t (inbN (by omega) (by decide)), nI_clamp (show ρ < 2 ^ 31 by omega), show u.2.2.2.2.2.2.2.2.2.2.2.2.1 ρ = nI (sumL (A ++ p :: B)) from hu.1, sumL_app, sumL_cons, if_neg (by exact fun q => absurd ((nI_leI (by omega) (by omega)).mp q) (by omega)), if_neg (by exact nI_nle (by omega) hc2), hfi, biE, if_neg (by decide), nI_1, m1 hc]
    by_cases c1 : c = 1
    · subst c1
      refine ⟨fun h => by simp at h, fun B1 q B2 e ec => ?_⟩
      have hB1 : B1 = [] := List.eq_nil_of_length_eq_zero (by omega)
      subst hB1
      obtain ⟨f', hf'⟩ : ∃ f', f + (p.2.2 - 1) = f' + 1 := ⟨f + (p.2.2 - 1) - 1, by omega⟩
      rw [st, hf', Nat.sub_self, look_0 hρ (by omega), Nat.add_sub_cancel, List.append_nil]
    · rw [st, look_in hρ hu hd hpos hs (p.2.2 - 1) f 1 (c - 1) (by omega) (by omega) (by omega) (by omega), e2]
      obtain ⟨i1, i2⟩ := ih (A ++ [p]) f (c - 1) (by rw [← e1]; exact hu) (by rw [← e1]; exact hd) (by rw [← e1]; exact hpos) (by rw [← e1]; exact hs) (by omega) (by omega) (by omega)
      refine ⟨fun h => i1 (by simp at h; omega), fun B1 q B2 e ec => ?_⟩
      cases B1 with
      | nil => simp at ec; exact absurd ec c1
      | cons b B1 =>
        have e' := List.cons.inj e
        rw [i2 B1 q B2 e'.2 (by simp at ec; omega), ← e'.1, List.append_assoc]
        rfl
theorem amt_L {u : MSt} {ρ : Nat} {A B : List Pk} {p : Pk} {x4 : Int32} (hρ : ρ ≤ 48) (hu : UR (mSz u) (mOg u) (mBn u) ρ (A ++ p :: B)) (hd : Dist (A ++ p :: B)) (hpos : ∀ q ∈ A ++ p :: B, 1 ≤ q.2.2) (hs : sumL (A ++ p :: B) ≤ 1000) : ∀ (r fuel e : Nat), e + r = p.2.2 → 1 ≤ e → r < fuel → F_M_packet_L105 fuel x4 (nI ρ) (nI (sumL A)) (nI e) u = F_M_packet_J140 x4 (nI ρ) (nI (sumL A)) (nI p.2.2) u := by
  have hs' := hs
  rw [sumL_app, sumL_cons] at hs'
  intro r
  induction r with
  | zero =>
    intro fuel e h1 h2 hf
    obtain ⟨f, rfl⟩ : ∃ f, fuel = f + 1 := ⟨fuel - 1, by omega⟩
    have he : e = p.2.2 := by omega
    subst he
    rw [F_M_packet_L105, gd_t (inbN (by omega) (by decide)), nI_clamp (show ρ < 2 ^ 31 by omega), show u.2.2.2.2.2.2.2.2.2.2.2.2.1 ρ = nI (sumL (A ++ p :: B)) from hu.1, nI_add, sumL_app, sumL_cons]
    cases B with
    | nil => rw [sumL_nil, Nat.add_zero, if_pos (by exact Int32.le_refl _)]
    | cons q B =>
      have e1 : A ++ p :: q :: B = (A ++ [p]) ++ q :: B := by simp
      have hq : 1 ≤ q.2.2 := hpos q (by simp)
      have hfi := isFirst_ok (A := A ++ [p]) (p := q) (B := B) (e := 0) hρ (by rw [← e1]; exact hu) (by rw [← e1]; exact hd) (by rw [← e1]; exact hpos) (by rw [← e1]; exact hs) (by omega)
      rw [Nat.add_zero, if_pos rfl, sumL_app, sumL_one] at hfi
      rw [sumL_cons] at hs' ⊢
      rw [if_neg (by exact nI_ge (by omega) (by omega)), hfi, biE, if_neg (by decide)]
  | succ r ih =>
    intro fuel e h1 h2 hf
    obtain ⟨f, rfl⟩ : ∃ f, fuel = f + 1 := ⟨fuel - 1, by omega⟩
    rw [F_M_packet_L105, gd_t (inbN (by omega) (by decide)), nI_clamp (show ρ < 2 ^ 31 by omega), show u.2.2.2.2.2.2.2.2.2.2.2.2.1 ρ = nI (sumL (A ++ p :: B)) from hu.1, nI_add, sumL_app, sumL_cons, if_neg (by exact nI_ge (by omega) (by omega)), isFirst_ok hρ hu hd hpos hs (show e < p.2.2 by omega), biE, if_neg (show ¬ e = 0 by omega), if_pos rfl, nI_1]
    exact ih f (e + 1) (by omega) (by omega) (by omega)
theorem len_sum {L : List Pk} (h : ∀ p ∈ L, 1 ≤ p.2.2) : L.length ≤ sumL L := by
  induction L with
  | nil => simp
  | cons p t ih =>
    have h1 := h p (by simp)
    have h2 := ih (fun q hq => h q (List.mem_cons_of_mem _ hq))
    rw [sumL_cons, List.length_cons]; omega
theorem what3 (x : Int32) : (x < 0 ∨ ¬ x ≤ 2) ∨ x = 0 ∨ x = 1 ∨ x = 2 := by
  rcases spl x (n := 3) (by decide) with h | ⟨j, hj, rfl⟩
  · left
    rcases h with h | h
    · exact Or.inl h
    · right
      exact Int32.not_le.mpr (Int32.lt_of_lt_of_le (by decide +kernel : (2 : Int32) < nI 3) h)
  · right
    rcases (by omega : j = 0 ∨ j = 1 ∨ j = 2) with rfl | rfl | rfl
    · exact Or.inl rfl
    · exact Or.inr (Or.inl rfl)
    · exact Or.inr (Or.inr rfl)
theorem what3n {x : Int32} (h : x < 0 ∨ ¬ x ≤ 2) : ¬ x = 0 ∧ ¬ x = 1 ∧ ¬ x = 2 := by
  refine ⟨?_, ?_, ?_⟩ <;> rintro rfl <;> revert h <;> decide +kernel
theorem look_bad {j w : Int32} {r : RowS} (h : w < 0 ∨ ¬ w ≤ 2) : F_Row_look j w r = some (-1, ()) := by
  obtain ⟨h0, h1, h2⟩ := what3n h
  unfold F_Row_look
  by_cases c1 : j < 0
  · rw [if_pos c1]
  · rw [if_neg c1]
    by_cases c2 : j < r.2.2.2.1
    · rw [if_pos c2, if_neg h0, if_neg h1, if_neg h2]
    · rw [if_neg c2]
theorem sim_packet (a b d e : Int32) {c : CSt} {m : MSt} (h : Rel c m) : ∃ r m', F_P_packet a b d e c = some (r, ()) ∧ F_M_packet a b d e m = some (r, m') ∧ Rel c m' := by
  obtain ⟨Ls, t, mo, ea, sp, q1, q2, q3, q4, q5, q6, q7, q8, q9, q10, q11, q12, q13, q14, q15, q16, q17⟩ := id h
  rcases rowOf_ok (x := a) (k := b) (u := (0, m.2)) with ⟨ρ, hρ, e1, e2⟩ | ⟨e1, e2⟩
  · have hrow := q15 ρ hρ
    have hS : m.2.2.2.2.2.2.2.2.2.2.2.2.1 ρ = nI (sumL (Ls ρ)) := hrow.2.2.1.1
    have hsz := allb q16 q17 ρ hρ
    have hpos := hrow.1.2.2.2.1
    have hls := len_sum hpos
    have hs9 : sumL (Ls ρ) ≤ 999 := by
      by_cases h32 : ρ < 32
      · exact q16 ρ h32
      · obtain ⟨a, z1, z2, z3⟩ := q17 (ρ - 32) (by omega)
        rw [show 32 + (ρ - 32) = ρ by omega] at z3
        omega
    have hP : ∀ x, F_Row_look d e (cRs c ρ) = some (x, ()) → F_P_packet a b d e c = some (x, ()) := by
      intro x hx
      unfold F_P_packet
      rw [e2 c, biE, oqS, gd_t (decide_eq_true hρ), show F_Row_look d e (c.2.2.2.2.2.2.2.2.2.2.2.2.2.2 ρ) = _ from hx, biE]
    -- the reference, up to its loop
    have hM : ∀ X, (if d < 0 then some ((-1 : Int32), ((0 : Int32), m.2)) else if nI (sumL (Ls ρ)) ≤ d then some ((-1 : Int32), ((0 : Int32), m.2)) else if e < 0 then some ((-1 : Int32), ((0 : Int32), m.2)) else if e ≤ 2 then F_M_packet_L55 1001 e (nI ρ) 0 (d + 1) (0, m.2) else some ((-1 : Int32), ((0 : Int32), m.2))) = X → F_M_packet a b d e m = X := by
      intro X hX
      unfold F_M_packet
      rw [show F_M_rowOf a b ((0 : Int32), m.2.1, m.2.2.1, m.2.2.2.1, m.2.2.2.2.1, m.2.2.2.2.2.1, m.2.2.2.2.2.2.1, m.2.2.2.2.2.2.2.1, m.2.2.2.2.2.2.2.2.1, m.2.2.2.2.2.2.2.2.2.1, m.2.2.2.2.2.2.2.2.2.2.1, m.2.2.2.2.2.2.2.2.2.2.2.1, m.2.2.2.2.2.2.2.2.2.2.2.2.1, m.2.2.2.2.2.2.2.2.2.2.2.2.2.1, m.2.2.2.2.2.2.2.2.2.2.2.2.2.2.1, m.2.2.2.2.2.2.2.2.2.2.2.2.2.2.2.1, m.2.2.2.2.2.2.2.2.2.2.2.2.2.2.2.2.1, m.2.2.2.2.2.2.2.2.2.2.2.2.2.2.2.2.2) = some (nI ρ, ()) from e1, biE, if_neg (nIm1 (by omega)), gd_t (inbN (by omega) (by decide)), nI_clamp (by omega), hS, nmE]
      exact hX
    by_cases c1 : d < 0
    · refine ⟨-1, (0, m.2), hP _ ?_, hM _ ?_, h⟩
      · unfold F_Row_look; rw [if_pos c1]
      · rw [if_pos c1]
    obtain ⟨j, hj, rfl⟩ := nI_of c1
    rcases what3 e with hw | hw
    · refine ⟨-1, (0, m.2), hP _ (look_bad hw), hM _ ?_, h⟩
      rw [if_neg c1]
      by_cases c2 : nI (sumL (Ls ρ)) ≤ nI j
      · rw [if_pos c2]
      · rw [if_neg c2]
        by_cases c3 : e < 0
        · rw [if_pos c3]
        · rw [if_neg c3, if_neg (hw.resolve_left c3)]
    have he0 : ¬ e < 0 := by rcases hw with rfl | rfl | rfl <;> decide +kernel
    have he2 : e ≤ 2 := by rcases hw with rfl | rfl | rfl <;> decide +kernel
    by_cases c2 : j < (Ls ρ).length
    · have hL : Ls ρ = (Ls ρ).take j ++ (Ls ρ)[j] :: (Ls ρ).drop (j + 1) := by rw [List.getElem_cons_drop, List.take_append_drop]
      have hl1 : ((Ls ρ).take j).length = j := by rw [List.length_take]; omega
      have hg := hrow.1.2.2.2.2 j (Ls ρ)[j] (List.getElem?_eq_getElem c2)
      obtain ⟨i1, i2⟩ := look_L (u := (0, m.2)) (ρ := ρ) (x4 := e) (by omega) (Ls ρ) [] 1001 (j + 1) hrow.2.2.1 hrow.2.1 hpos hsz (by omega) (by omega) (by omega)
      have i3 := i2 _ _ _ hL (by rw [hl1])
      rw [List.nil_append, sumL_nil] at i3
      have hu2 := hrow.2.2.1
      have hd2 := hrow.2.1
      have hp2 := hpos
      have hs2 := hsz
      rw [hL] at hu2 hd2 hp2 hs2
      have i4 := amt_L (u := (0, m.2)) (x4 := e) (show ρ ≤ 48 by omega) hu2 hd2 hp2 hs2 ((Ls ρ)[j].2.2 - 1) 1001 1 (by have := hpos _ (List.getElem_mem c2); omega) (by omega) (by rw [sumL_app, sumL_cons] at hs2; omega)
      have hfin : F_M_packet a b (nI j) e m = F_M_packet_J140 e (nI ρ) (nI (sumL ((Ls ρ).take j))) (nI (Ls ρ)[j].2.2) (0, m.2) := by
        refine hM _ ?_
        rw [if_neg c1, if_neg (by exact nI_ge (by omega) (by omega)), if_neg he0, if_pos he2, nI_1]
        exact i3.trans i4
      have hat := hu2.2 (sumL ((Ls ρ).take j)) ((Ls ρ)[j].1, (Ls ρ)[j].2.1) (by have := ex_at (A := (Ls ρ).take j) (B := (Ls ρ).drop (j + 1)) (p := (Ls ρ)[j]) (e := 0) (by have := hpos _ (List.getElem_mem c2); omega); rw [Nat.add_zero] at this; exact this)
      have hss : sumL ((Ls ρ).take j) ≤ 1000 - 1 := by
        rw [sumL_app, sumL_cons] at hs2
        have := hpos _ (List.getElem_mem c2)
        omega
      have gj := inbN (show j < 8 by have := hrow.1.1; omega) (by decide)
      have hlk : ∀ x, (if e = 0 then some ((cRs c ρ).1 j, ()) else if e = 1 then some ((cRs c ρ).2.1 j, ()) else if e = 2 then some ((cRs c ρ).2.2.1 j, ()) else some ((-1 : Int32), ())) = some (x, ()) → F_Row_look (nI j) e (cRs c ρ) = some (x, ()) := by
        intro x hx
        unfold F_Row_look
        rw [if_neg c1, show (cRs c ρ).2.2.2.1 = nI (Ls ρ).length from hrow.1.2.1, if_pos (by exact nI_lt c2 (by have := hrow.1.1; omega)), gd_t gj, gd_t gj, gd_t gj, nI_clamp hj]
        exact hx
      have hj1 : F_M_packet_J140 e (nI ρ) (nI (sumL ((Ls ρ).take j))) (nI (Ls ρ)[j].2.2) (0, m.2) = if e = 0 then some ((Ls ρ)[j].1, (0, m.2)) else if e = 1 then some (nI (Ls ρ)[j].2.2, (0, m.2)) else some ((Ls ρ)[j].2.1, (0, m.2)) := by
        unfold F_M_packet_J140
        rw [ix, gd_t (inbN (by omega) (by decide)), gd_t (inbN (by omega) (by decide)), nI_clamp (by omega)]
        show (if e = 0 then some (mOg m _, _) else if e = 1 then _ else some (mBn m _, _)) = _
        rw [hat.1, hat.2]
      rcases hw with rfl | rfl | rfl
      · refine ⟨(Ls ρ)[j].1, (0, m.2), hP _ (hlk _ ?_), hfin.trans (hj1.trans ?_), h⟩
        · rw [if_pos rfl, hg.1]
        · rw [if_pos rfl]
      · refine ⟨nI (Ls ρ)[j].2.2, (0, m.2), hP _ (hlk _ ?_), hfin.trans (hj1.trans ?_), h⟩
        · rw [if_neg (by decide), if_pos rfl, hg.2.2]
        · rw [if_neg (by decide), if_pos rfl]
      · refine ⟨(Ls ρ)[j].2.1, (0, m.2), hP _ (hlk _ ?_), hfin.trans (hj1.trans ?_), h⟩
        · rw [if_neg (by decide), if_neg (by decide), if_pos rfl, hg.2.1]
        · rw [if_neg (by decide), if_neg (by decide)]
    · refine ⟨-1, (0, m.2), hP _ ?_, hM _ ?_, h⟩
      · unfold F_Row_look
        rw [if_neg c1, show (cRs c ρ).2.2.2.1 = nI (Ls ρ).length from hrow.1.2.1, if_neg (by exact nI_nlt (by omega) hj)]
      · rw [if_neg c1]
        by_cases c3 : sumL (Ls ρ) ≤ j
        · rw [if_pos (by exact nI_le c3 hj)]
        · rw [if_neg (by exact nI_ge (by omega) (by omega)), if_neg he0, if_pos he2, nI_1]
          exact (look_L (u := (0, m.2)) (ρ := ρ) (x4 := e) (by omega) (Ls ρ) [] 1001 (j + 1) hrow.2.2.1 hrow.2.1 hpos hsz (by omega) (by omega) (by omega)).1 (by omega)
  · refine ⟨-1, (0, m.2), ?_, ?_, h⟩
    · unfold F_P_packet
      rw [e2 c, biE, oqN]
    · unfold F_M_packet
      rw [show F_M_rowOf a b ((0 : Int32), m.2.1, m.2.2.1, m.2.2.2.1, m.2.2.2.2.1, m.2.2.2.2.2.1, m.2.2.2.2.2.2.1, m.2.2.2.2.2.2.2.1, m.2.2.2.2.2.2.2.2.1, m.2.2.2.2.2.2.2.2.2.1, m.2.2.2.2.2.2.2.2.2.2.1, m.2.2.2.2.2.2.2.2.2.2.2.1, m.2.2.2.2.2.2.2.2.2.2.2.2.1, m.2.2.2.2.2.2.2.2.2.2.2.2.2.1, m.2.2.2.2.2.2.2.2.2.2.2.2.2.2.1, m.2.2.2.2.2.2.2.2.2.2.2.2.2.2.2.1, m.2.2.2.2.2.2.2.2.2.2.2.2.2.2.2.2.1, m.2.2.2.2.2.2.2.2.2.2.2.2.2.2.2.2.2) = some (-1, ()) from e1, biE, if_pos rfl]
      all_goals rfl
theorem cnt3 {kd : Nat} {c : CSt} {m : MSt} {Ls : Nat → List Pk} {t : Nat} (hk : kd < 4) (q15 : ∀ ρ, ρ < 48 → RowR (cRs c ρ) m ρ (Ls ρ) t) : ∀ (r k : Nat) (n f1 f2 : Nat) (x : Int32), k + r = 8 → r < f1 → r < f2 → ∃ y, F_P_unitsInStocks_L4 f1 (nI kd) x (nI k) c = some (y, ()) ∧ F_M_count_L67 f2 (nI kd) 3 x (nI k) m = some (y, m) := by
  intro r
  induction r with
  | zero =>
    intro k n f1 f2 x hkr h1 h2
    obtain ⟨g1, rfl⟩ : ∃ g, f1 = g + 1 := ⟨f1 - 1, by omega⟩
    obtain ⟨g2, rfl⟩ : ∃ g, f2 = g + 1 := ⟨f2 - 1, by omega⟩
    have e : k = 8 := by omega
    subst e
    refine ⟨x, ?_, ?_⟩
    · rw [F_P_unitsInStocks_L4, if_pos (by decide +kernel)]
    · rw [F_M_count_L67, if_pos (by decide +kernel), F_M_count_L102, if_neg (by decide), if_neg (by decide)]
  | succ r ih =>
    intro k n f1 f2 x hkr h1 h2
    obtain ⟨g1, rfl⟩ : ∃ g, f1 = g + 1 := ⟨f1 - 1, by omega⟩
    obtain ⟨g2, rfl⟩ : ∃ g, f2 = g + 1 := ⟨f2 - 1, by omega⟩
    have hrow := q15 (4 * k + kd) (by omega)
    obtain ⟨y, e1, e2⟩ := ih (k + 1) n g1 g2 (x + nI (sumL (Ls (4 * k + kd)))) (by omega) (by omega) (by omega)
    refine ⟨y, ?_, ?_⟩
    · rw [F_P_unitsInStocks_L4, if_neg (by exact nI_ge (b := 8) (by omega) (by decide)), si4, biE, gd_t (inbN (by omega) (by decide)), nI_clamp (by omega), show F_Row_total (c.2.2.2.2.2.2.2.2.2.2.2.2.2.2 (4 * k + kd)) = _ from tot_ok hrow.1, biE, nmE, nI_1, e1]
    · rw [F_M_count_L67, if_neg (by exact nI_ge (b := 8) (by omega) (by decide)), if_pos rfl, mi4, gd_t (inbN (by omega) (by decide)), nmE, nI_clamp (by omega), show m.2.2.2.2.2.2.2.2.2.2.2.2.1 (4 * k + kd) = _ from hrow.2.2.1.1, nI_1, e2]
theorem cnt4 {kd : Nat} {c : CSt} {m : MSt} {Ls : Nat → List Pk} {t : Nat} (q10 : Qe 16 3 c.2.2.2.2.2.1 m.2.2.2.2.2.2.2.2.2.2.1) (q15 : ∀ ρ, ρ < 48 → RowR (cRs c ρ) m ρ (Ls ρ) t) : ∀ (r k f1 f2 : Nat) (x : Int32), k + r = 16 → r < f1 → r < f2 → ∃ y, F_P_unitsInWagons_L4 f1 (nI kd) x (nI k) c = some (y, ()) ∧ F_M_count_L102 f2 (nI kd) 4 x (nI k) m = some (y, m) := by
  intro r
  induction r with
  | zero =>
    intro k f1 f2 x hkr h1 h2
    obtain ⟨g1, rfl⟩ : ∃ g, f1 = g + 1 := ⟨f1 - 1, by omega⟩
    obtain ⟨g2, rfl⟩ : ∃ g, f2 = g + 1 := ⟨f2 - 1, by omega⟩
    have e : k = 16 := by omega
    subst e
    refine ⟨x, ?_, ?_⟩
    · rw [F_P_unitsInWagons_L4, if_pos (by decide +kernel)]
    · rw [F_M_count_L102, if_pos (by decide +kernel)]
  | succ r ih =>
    intro k f1 f2 x hkr h1 h2
    obtain ⟨g1, rfl⟩ : ∃ g, f1 = g + 1 := ⟨f1 - 1, by omega⟩
    obtain ⟨g2, rfl⟩ : ∃ g, f2 = g + 1 := ⟨f2 - 1, by omega⟩
    have hrow := q15 (32 + k) (by omega)
    have gk := inbN (show k < 16 by omega) (by decide)
    have ek : m.2.2.2.2.2.2.2.2.2.2.1 k = c.2.2.2.2.2.1 k := (q10 k (by omega)).1
    by_cases hkd : c.2.2.2.2.2.1 k = nI kd
    · obtain ⟨y, e1, e2⟩ := ih (k + 1) g1 g2 (x + nI (sumL (Ls (32 + k)))) (by omega) (by omega) (by omega)
      refine ⟨y, ?_, ?_⟩
      · rw [F_P_unitsInWagons_L4, if_neg (by exact nI_ge (b := 16) (by omega) (by decide)), gd_t gk, nI_clamp (by omega), if_pos hkd, gd_t gk, show F_Row_total (c.2.2.2.2.2.2.2.2.2.2.2.2.2.2 (32 + k)) = _ from tot_ok hrow.1, biE, nmE, nI_1, e1]
      · rw [F_M_count_L102, if_neg (by exact nI_ge (b := 16) (by omega) (by decide)), if_pos rfl, gd_t gk, nI_clamp (show k < 2 ^ 31 by omega), ek, if_pos hkd, c32, gd_t (inbN (by omega) (by decide)), nmE, nI_clamp (by omega), show m.2.2.2.2.2.2.2.2.2.2.2.2.1 (32 + k) = _ from hrow.2.2.1.1, nI_1, e2]
    · obtain ⟨y, e1, e2⟩ := ih (k + 1) g1 g2 x (by omega) (by omega) (by omega)
      refine ⟨y, ?_, ?_⟩
      · rw [F_P_unitsInWagons_L4, if_neg (by exact nI_ge (b := 16) (by omega) (by decide)), gd_t gk, nI_clamp (by omega), if_neg hkd, nI_1, e1]
      · rw [F_M_count_L102, if_neg (by exact nI_ge (b := 16) (by omega) (by decide)), if_pos rfl, gd_t gk, nI_clamp (show k < 2 ^ 31 by omega), ek, if_neg hkd, nmE, Int32.add_zero, nI_1, e2]
theorem sim_count (a b : Int32) {c : CSt} {m : MSt} (h : Rel c m) : ∃ r m', F_P_count a b c = some (r, ()) ∧ F_M_count a b m = some (r, m') ∧ Rel c m' := by
  obtain ⟨Ls, t, mo, ea, sp, q1, q2, q3, q4, q5, q6, q7, q8, q9, q10, q11, q12, q13, q14, q15, q16, q17⟩ := id h
  rcases spl a (n := 4) (by decide) with h1 | ⟨kd, hk, rfl⟩
  · refine ⟨-1, (0, m.2), ?_, ?_, h⟩
    · unfold F_P_count
      rw [is4_bad h1, biE, if_pos rfl]
    · unfold F_M_count
      rw [min_bad h1 (by rfl), biE, if_pos rfl]
      all_goals rfl
  have gk := inbN (show kd < 4 from hk) (by decide)
  have ck := nI_clamp (show kd < 2 ^ 31 by omega)
  rcases spl b (n := 5) (by decide) with h2 | ⟨w, hw, rfl⟩
  · have hne : ∀ j : Nat, j < 5 → ¬ b = nI j := by
      rintro j hj rfl
      rcases h2 with h2 | h2
      · exact nI_pos (by omega) h2
      · exact nI_ge hj (by decide) h2
    refine ⟨-1, (0, m.2), ?_, ?_, h⟩
    · unfold F_P_count
      rw [is4_ok hk, biE, if_neg (by decide), if_neg (by exact hne 0 (by omega)), if_neg (by exact hne 1 (by omega)), if_neg (by exact hne 2 (by omega)), if_neg (by exact hne 3 (by omega)), if_neg (by exact hne 4 (by omega))]
    · unfold F_M_count
      rw [min_ok (n := 4) hk (by decide) (by rfl), biE, if_neg (by decide), min_bad h2 (by rfl), biE, if_pos rfl]
      all_goals rfl
  have hP : ∀ X, (if nI w = (0 : Int32) then some (c.2.2.2.2.2.2.2.1 kd, ()) else if nI w = (1 : Int32) then some (c.2.2.2.2.2.2.2.2.1 kd, ()) else if nI w = (2 : Int32) then some (c.2.2.2.2.2.2.2.2.2.1 kd, ()) else if nI w = (3 : Int32) then bi (F_P_unitsInStocks (nI kd) c) (fun r13 u12 => some (r13, ())) else if nI w = (4 : Int32) then bi (F_P_unitsInWagons (nI kd) c) (fun r17 u16 => some (r17, ())) else some ((-1 : Int32), ())) = X → F_P_count (nI kd) (nI w) c = X := by
    intro X hX
    unfold F_P_count
    rw [is4_ok hk, biE, if_neg (by decide), gd_t gk, gd_t gk, gd_t gk, ck]
    exact hX
  have hM : ∀ X, (if (3 : Int32) ≤ nI w then F_M_count_L67 101 (nI kd) (nI w) 0 0 (0, m.2) else if nI w = (0 : Int32) then some (m.2.2.2.2.2.2.2.2.2.2.2.2.2.2.2.1 kd, ((0 : Int32), m.2)) else if nI w = (1 : Int32) then some (m.2.2.2.2.2.2.2.2.2.2.2.2.2.2.2.2.1 kd, ((0 : Int32), m.2)) else some (m.2.2.2.2.2.2.2.2.2.2.2.2.2.2.2.2.2 kd, ((0 : Int32), m.2))) = X → F_M_count (nI kd) (nI w) m = X := by
    intro X hX
    unfold F_M_count
    rw [min_ok (n := 4) hk (by decide) (by rfl), biE, if_neg (by decide), min_ok (n := 5) hw (by decide) (by rfl), biE, if_neg (by decide), gd_t gk, gd_t gk, gd_t gk, ck]
    exact hX
  rcases (by omega : w = 0 ∨ w = 1 ∨ w = 2 ∨ w = 3 ∨ w = 4) with rfl | rfl | rfl | rfl | rfl
  · refine ⟨_, (0, m.2), hP _ (by rw [if_pos (by decide +kernel)]), hM _ (by rw [if_neg (by decide +kernel), if_pos (by decide +kernel), (q12 kd hk).1]), h⟩
  · refine ⟨_, (0, m.2), hP _ (by rw [if_neg (by decide +kernel), if_pos (by decide +kernel)]), hM _ (by rw [if_neg (by decide +kernel), if_neg (by decide +kernel), if_pos (by decide +kernel), q13 kd hk]), h⟩
  · refine ⟨_, (0, m.2), hP _ (by rw [if_neg (by decide +kernel), if_neg (by decide +kernel), if_pos (by decide +kernel)]), hM _ (by rw [if_neg (by decide +kernel), if_neg (by decide +kernel), if_neg (by decide +kernel), q14 kd hk]), h⟩
  · obtain ⟨y, e1, e2⟩ := cnt3 (m := (0, m.2)) (t := t) hk q15 8 0 0 9 101 0 (by omega) (by omega) (by omega)
    refine ⟨y, (0, m.2), hP _ (by
      rw [if_neg (by decide +kernel), if_neg (by decide +kernel), if_neg (by decide +kernel), if_pos (by decide +kernel), show F_P_unitsInStocks (nI kd) c = some (y, ()) from e1, biE]), hM _ (by
      rw [if_pos (by decide +kernel)]
      exact e2), h⟩
  · obtain ⟨y, e1, e2⟩ := cnt4 (m := (0, m.2)) (kd := kd) (t := t) q10 q15 16 0 17 101 0 (by omega) (by omega) (by omega)
    refine ⟨y, (0, m.2), hP _ (by
      rw [if_neg (by decide +kernel), if_neg (by decide +kernel), if_neg (by decide +kernel), if_neg (by decide +kernel), if_pos (by decide +kernel), show F_P_unitsInWagons (nI kd) c = some (y, ()) from e1, biE]), hM _ (by
      rw [if_pos (by decide +kernel), F_M_count_L67, if_neg (by decide), if_neg (by decide +kernel)]
      exact e2), h⟩
