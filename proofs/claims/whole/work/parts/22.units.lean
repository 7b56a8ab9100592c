/-! the reference's rows: units one by one -/
abbrev Un : Type := Int32 × Int32
def ex (L : List Pk) : List Un := L.flatMap (fun p => List.replicate p.2.2 (p.1, p.2.1))
theorem ex_cons (p : Pk) (t : List Pk) : ex (p :: t) = List.replicate p.2.2 (p.1, p.2.1) ++ ex t := by simp [ex]
theorem ex_app (A B : List Pk) : ex (A ++ B) = ex A ++ ex B := by simp [ex]
theorem ex_one (p : Pk) : ex [p] = List.replicate p.2.2 (p.1, p.2.1) := by simp [ex]
theorem ex_len (L : List Pk) : (ex L).length = sumL L := by
  induction L with
  | nil => rfl
  | cons p t ih => rw [ex_cons, sumL_cons, List.length_append, List.length_replicate, ih]
theorem ex_at {A B : List Pk} {p : Pk} {e : Nat} (he : e < p.2.2) : (ex (A ++ p :: B))[sumL A + e]? = some (p.1, p.2.1) := by
  rw [ex_app, List.getElem?_append_right (by rw [ex_len]; omega), ex_len, Nat.add_sub_cancel_left, ex_cons, List.getElem?_append_left (by simpa using he), List.getElem?_replicate, if_pos he]
def Dist : List Pk → Prop
  | [] => True
  | p :: t => (∀ (q : Pk) (t' : List Pk), t = q :: t' → ¬ (p.1 = q.1 ∧ p.2.1 = q.2.1)) ∧ Dist t
theorem dist_mid {A B : List Pk} {p q : Pk} (h : Dist (A ++ p :: q :: B)) : ¬ (p.1 = q.1 ∧ p.2.1 = q.2.1) := by
  induction A with
  | nil => exact h.1 q B rfl
  | cons a t ih => exact ih h.2
theorem dist_snoc {M : List Pk} {p : Pk} (h : Dist M) (hl : lastEq p.1 p.2.1 M = false) : Dist (M ++ [p]) := by
  induction M with
  | nil => exact ⟨fun q t' e => by simp at e, trivial⟩
  | cons a t ih =>
    cases t with
    | nil =>
      have h1 : lastEq p.1 p.2.1 ([] ++ [a]) = false := hl
      rw [lastEq_app] at h1
      refine ⟨fun q t' e => ?_, fun q t' e => by simp at e, trivial⟩
      simp at e
      obtain ⟨rfl, -⟩ := e
      simpa using h1
    | cons b t2 =>
      refine ⟨fun q t' e => ?_, ih h.2 ?_⟩
      · have e' : b :: (t2 ++ [p]) = q :: t' := e
        exact h.1 q t2 (by rw [(List.cons.inj e').1])
      · have h1 := hl
        unfold lastEq at h1 ⊢
        rw [List.getLast?_cons_cons] at h1
        exact h1
theorem dist_key {M : List Pk} {p p' : Pk} (h1 : p'.1 = p.1) (h2 : p'.2.1 = p.2.1) (h : Dist (M ++ [p])) : Dist (M ++ [p']) := by
  induction M with
  | nil => exact ⟨fun q t' e => by simp at e, trivial⟩
  | cons a t ih =>
    refine ⟨fun q t' e => ?_, ih h.2⟩
    cases t with
    | nil =>
      simp at e
      obtain ⟨rfl, -⟩ := e
      rw [h1, h2]
      exact h.1 p [] rfl
    | cons b t2 =>
      have e' : b :: (t2 ++ [p']) = q :: t' := e
      exact h.1 q (t2 ++ [p]) (by rw [← (List.cons.inj e').1]; rfl)
theorem dist_put (o b : Int32) (n : Nat) {L : List Pk} (h : Dist L) : Dist (putL o b n L) := by
  unfold putL
  split
  · exact h
  · split
    · rename_i h1
      exact dist_snoc h h1.2
    · rcases snoc_cases L with rfl | ⟨M, p, rfl⟩
      · simp [addLast, Dist]
      · rw [addLast_app]
        exact dist_key (p := p) (by rfl) (by rfl) h
theorem dist_take (n : Nat) {L : List Pk} (h : Dist L) : Dist (takeL n L) := by
  cases L with
  | nil => exact h
  | cons p t =>
    rw [takeL_cons]
    split
    · exact h.2
    · exact ⟨fun q t' e => h.1 q t' e, h.2⟩
/-- the units of a row in the reference's arrays -/
def UR (sz og bn : Nat → Int32) (ρ : Nat) (L : List Pk) : Prop := sz ρ = nI (sumL L) ∧ ∀ (k : Nat) (q : Un), (ex L)[k]? = some q → og (1000 * ρ + k) = q.1 ∧ bn (1000 * ρ + k) = q.2
/-- nothing but the row ρ has changed -/
def Fr (ρ : Nat) (sz og bn sz' og' bn' : Nat → Int32) : Prop := (∀ j, j ≠ ρ → sz' j = sz j) ∧ ∀ k, (k < 1000 * ρ ∨ 1000 * ρ + 1000 ≤ k) → og' k = og k ∧ bn' k = bn k
theorem fr_rf (ρ : Nat) (sz og bn : Nat → Int32) : Fr ρ sz og bn sz og bn := ⟨fun _ _ => rfl, fun _ _ => ⟨rfl, rfl⟩⟩
theorem fr_tr {ρ : Nat} {sz og bn sz1 og1 bn1 sz2 og2 bn2 : Nat → Int32} (h1 : Fr ρ sz og bn sz1 og1 bn1) (h2 : Fr ρ sz1 og1 bn1 sz2 og2 bn2) : Fr ρ sz og bn sz2 og2 bn2 :=
  ⟨fun j hj => (h2.1 j hj).trans (h1.1 j hj), fun k hk => ⟨(h2.2 k hk).1.trans (h1.2 k hk).1, (h2.2 k hk).2.trans (h1.2 k hk).2⟩⟩
theorem ur_fr {ρ ρ' : Nat} {sz og bn sz' og' bn' : Nat → Int32} {L : List Pk} (h : UR sz og bn ρ' L) (hf : Fr ρ sz og bn sz' og' bn') (hn : ρ' ≠ ρ) (hs : sumL L ≤ 1000) : UR sz' og' bn' ρ' L := by
  refine ⟨by rw [hf.1 ρ' hn]; exact h.1, fun k q hk => ?_⟩
  have hk' : k < sumL L := by rw [← ex_len]; exact (List.getElem?_eq_some_iff.mp hk).1
  obtain ⟨a, b⟩ := hf.2 (1000 * ρ' + k) (by omega)
  rw [a, b]
  exact h.2 k q hk
abbrev mSz (u : MSt) : Nat → Int32 := u.2.2.2.2.2.2.2.2.2.2.2.2.1
abbrev mOg (u : MSt) : Nat → Int32 := u.2.2.2.2.2.2.2.2.2.2.2.2.2.1
abbrev mBn (u : MSt) : Nat → Int32 := u.2.2.2.2.2.2.2.2.2.2.2.2.2.2.1
abbrev mrow (u : MSt) (sz og bn : Nat → Int32) : MSt := (u.1, u.2.1, u.2.2.1, u.2.2.2.1, u.2.2.2.2.1, u.2.2.2.2.2.1, u.2.2.2.2.2.2.1, u.2.2.2.2.2.2.2.1, u.2.2.2.2.2.2.2.2.1, u.2.2.2.2.2.2.2.2.2.1, u.2.2.2.2.2.2.2.2.2.2.1, u.2.2.2.2.2.2.2.2.2.2.2.1, sz, og, bn, u.2.2.2.2.2.2.2.2.2.2.2.2.2.2.2.1, u.2.2.2.2.2.2.2.2.2.2.2.2.2.2.2.2.1, u.2.2.2.2.2.2.2.2.2.2.2.2.2.2.2.2.2)
theorem ix (ρ k : Nat) : (1000 : Int32) * nI ρ + nI k = nI (1000 * ρ + k) := by
  rw [show (1000 : Int32) = nI 1000 from rfl, pk_mul, nI_add]
theorem isFirst_ok {u : MSt} {ρ : Nat} {A B : List Pk} {p : Pk} {e : Nat} (hρ : ρ ≤ 48) (hu : UR (mSz u) (mOg u) (mBn u) ρ (A ++ p :: B)) (hd : Dist (A ++ p :: B)) (hpos : ∀ q ∈ A ++ p :: B, 1 ≤ q.2.2) (hs : sumL (A ++ p :: B) ≤ 1000) (he : e < p.2.2) : F_M_isFirst (nI ρ) (nI (sumL A + e)) u = some (if e = 0 then 1 else 0, ()) := by
  have hs' := hs
  rw [sumL_app, sumL_cons] at hs'
  obtain ⟨g1, g2⟩ := hu.2 (sumL A + e) (p.1, p.2.1) (ex_at he)
  unfold F_M_isFirst
  by_cases h0 : sumL A + e = 0
  · rw [h0, if_pos (by exact nI_0), if_pos (by omega)]
  · rw [if_neg (by exact nI_ne0 (by omega) (by omega)), ix, nIs1 (by omega), gd_t (inbN (by omega) (by decide)), gd_t (inbN (by omega) (by decide)), nI_clamp (show 1000 * ρ + (sumL A + e) < 2 ^ 31 by omega), nI_clamp (show 1000 * ρ + (sumL A + e) - 1 < 2 ^ 31 by omega), gd_t (inbN (by omega) (by decide)), gd_t (inbN (by omega) (by decide))]
    rw [show u.2.2.2.2.2.2.2.2.2.2.2.2.2.1 (1000 * ρ + (sumL A + e)) = p.1 from g1, show u.2.2.2.2.2.2.2.2.2.2.2.2.2.2.1 (1000 * ρ + (sumL A + e)) = p.2.1 from g2]
    by_cases he0 : e = 0
    · rw [if_pos he0]
      rcases snoc_cases A with rfl | ⟨A', q, rfl⟩
      · exact absurd (by rw [sumL_nil, he0]) h0
      · have hq : 1 ≤ q.2.2 := hpos q (by simp)
        have e1 : (ex ((A' ++ [q]) ++ p :: B))[sumL A' + (q.2.2 - 1)]? = some (q.1, q.2.1) := by
          rw [List.append_assoc]; exact ex_at (by omega)
        obtain ⟨f1, f2⟩ := hu.2 _ _ e1
        rw [sumL_app, sumL_one] at hs'
        have ei : 1000 * ρ + (sumL (A' ++ [q]) + e) - 1 = 1000 * ρ + (sumL A' + (q.2.2 - 1)) := by rw [sumL_app, sumL_one]; omega
        rw [ei, show u.2.2.2.2.2.2.2.2.2.2.2.2.2.1 (1000 * ρ + (sumL A' + (q.2.2 - 1))) = q.1 from f1, show u.2.2.2.2.2.2.2.2.2.2.2.2.2.2.1 (1000 * ρ + (sumL A' + (q.2.2 - 1))) = q.2.1 from f2]
        have hne := dist_mid (A := A') (p := q) (q := p) (B := B) (by rw [List.append_assoc] at hd; exact hd)
        by_cases c1 : p.1 = q.1
        · rw [if_pos c1, if_neg (fun c2 => hne ⟨c1.symm, c2.symm⟩)]
        · rw [if_neg c1]
    · rw [if_neg he0]
      have e1 : (ex (A ++ p :: B))[sumL A + (e - 1)]? = some (p.1, p.2.1) := ex_at (by omega)
      obtain ⟨f1, f2⟩ := hu.2 _ _ e1
      have ei : 1000 * ρ + (sumL A + e) - 1 = 1000 * ρ + (sumL A + (e - 1)) := by omega
      rw [ei, show u.2.2.2.2.2.2.2.2.2.2.2.2.2.1 (1000 * ρ + (sumL A + (e - 1))) = p.1 from f1, show u.2.2.2.2.2.2.2.2.2.2.2.2.2.2.1 (1000 * ρ + (sumL A + (e - 1))) = p.2.1 from f2, if_pos rfl, if_pos rfl]
/-- the packets are counted -/
theorem packets_in {u : MSt} {ρ : Nat} {A B : List Pk} {p : Pk} (hρ : ρ ≤ 48) (hu : UR (mSz u) (mOg u) (mBn u) ρ (A ++ p :: B)) (hd : Dist (A ++ p :: B)) (hpos : ∀ q ∈ A ++ p :: B, 1 ≤ q.2.2) (hs : sumL (A ++ p :: B) ≤ 1000) : ∀ (r : Nat) (fuel e c : Nat), e + r = p.2.2 → 1 ≤ e → F_M_packets_L4 (fuel + r) (nI ρ) (nI c) (nI (sumL A + e)) u = F_M_packets_L4 fuel (nI ρ) (nI c) (nI (sumL A + p.2.2)) u := by
  intro r
  induction r with
  | zero => intro fuel e c h1 h2; rw [show e = p.2.2 by omega]; rfl
  | succ r ih =>
    intro fuel e c h1 h2
    have hs' := hs
    rw [sumL_app, sumL_cons] at hs'
    rw [show fuel + (r + 1) = (fuel + r) + 1 by omega, F_M_packets_L4, gd_t (inbN (by omega) (by decide)), nI_clamp (show ρ < 2 ^ 31 by omega), show u.2.2.2.2.2.2.2.2.2.2.2.2.1 ρ = nI (sumL (A ++ p :: B)) from hu.1, sumL_app, sumL_cons, if_neg (by exact fun q => absurd ((nI_leI (by omega) (by omega)).mp q) (by omega)), isFirst_ok hρ hu hd hpos hs (show e < p.2.2 by omega), biE, if_neg (show ¬ e = 0 by omega), if_pos rfl, nI_1, show sumL A + e + 1 = sumL A + (e + 1) by omega]
    exact ih fuel (e + 1) c (by omega) (by omega)
theorem packets_L {u : MSt} {ρ : Nat} (hρ : ρ ≤ 48) : ∀ (B A : List Pk) (fuel c : Nat), UR (mSz u) (mOg u) (mBn u) ρ (A ++ B) → Dist (A ++ B) → (∀ q ∈ A ++ B, 1 ≤ q.2.2) → sumL (A ++ B) ≤ 1000 → sumL B < fuel → F_M_packets_L4 fuel (nI ρ) (nI c) (nI (sumL A)) u = some (nI (c + B.length), ()) := by
  intro B
  induction B with
  | nil =>
    intro A fuel c hu hd hpos hs hf
    rw [List.append_nil] at hu
    obtain ⟨f, rfl⟩ : ∃ f, fuel = f + 1 := ⟨fuel - 1, by omega⟩
    rw [F_M_packets_L4, gd_t (inbN (by omega) (by decide)), nI_clamp (show ρ < 2 ^ 31 by omega), show u.2.2.2.2.2.2.2.2.2.2.2.2.1 ρ = nI (sumL A) from hu.1, if_pos (by exact Int32.le_refl _)]
    rfl
  | cons p B ih =>
    intro A fuel c hu hd hpos hs hf
    have hs' := hs
    rw [sumL_app, sumL_cons] at hs'
    rw [sumL_cons] at hf
    have hp : 1 ≤ p.2.2 := hpos p (by simp)
    obtain ⟨f, rfl⟩ : ∃ f, fuel = (f + (p.2.2 - 1)) + 1 := ⟨fuel - p.2.2, by omega⟩
    have hfi := isFirst_ok hρ hu hd hpos hs (show 0 < p.2.2 by omega)
    rw [Nat.add_zero, if_pos rfl] at hfi
    rw [F_M_packets_L4, gd_t (inbN (by omega) (by decide)), nI_clamp (show ρ < 2 ^ 31 by omega), show u.2.2.2.2.2.2.2.2.2.2.2.2.1 ρ = nI (sumL (A ++ p :: B)) from hu.1, sumL_app, sumL_cons, if_neg (by exact fun q => absurd ((nI_leI (by omega) (by omega)).mp q) (by omega)), hfi, biE, if_neg (by decide), nI_1, nI_1, packets_in hρ hu hd hpos hs (p.2.2 - 1) f 1 (c + 1) (by omega) (by omega)]
    have e1 : A ++ p :: B = (A ++ [p]) ++ B := by simp
    have e2 : sumL A + p.2.2 = sumL (A ++ [p]) := by rw [sumL_app, sumL_one]
    rw [e2, ih (A ++ [p]) f (c + 1) (by rw [← e1]; exact hu) (by rw [← e1]; exact hd) (by rw [← e1]; exact hpos) (by rw [← e1]; exact hs) (by omega)]
    rw [List.length_cons, show c + 1 + B.length = c + (B.length + 1) by omega]
theorem packets_ok {u : MSt} {ρ : Nat} {L : List Pk} (hρ : ρ ≤ 48) (hu : UR (mSz u) (mOg u) (mBn u) ρ L) (hd : Dist L) (hpos : ∀ q ∈ L, 1 ≤ q.2.2) (hs : sumL L ≤ 1000) : F_M_packets (nI ρ) u = some (nI L.length, ()) := by
  have h := packets_L hρ L [] 1001 0 hu hd hpos hs (by omega)
  rw [Nat.zero_add] at h
  exact h
