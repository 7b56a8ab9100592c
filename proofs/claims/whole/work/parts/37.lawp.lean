/-! the law's loop: every answer alike -/
theorem l5 {L i : Nat} (hL : L ≤ 2560) (hi : 5 * i ≤ 2600) : (Int32.ofNat L - 5 : Int32) < nI (5 * i) ↔ L < 5 * i + 5 := by
  rw [Int32.lt_iff_toInt_lt, show (Int32.ofNat L - 5 : Int32) = nI L - nI 5 from rfl, toI_sub (by omega) (by omega), nI_toInt (by omega)]
  omega
theorem hl7 {c' : CSt} (o : Nat ⊕ Unit) : bi (some (o, c')) (fun or2 u1 => ox or2 (fun e_4 => (if e_4 = 1 then some ((1 : Int32), u1) else some ((2 : Int32), u1))) (fun _ => some ((0 : Int32), u1))) = some (cd o, c') := by
  rw [biE]
  cases o with
  | inl e =>
    rw [oxL]
    unfold cd
    rw [oxL]
    by_cases h : e = 1
    · rw [if_pos h, if_pos h]
    · rw [if_neg h, if_neg h]
  | inr r => rfl
theorem thr_ok (m : MSt) : F_M_thrown m = some (m.1, ()) := rfl
theorem i01 : inb (0 : Int32) 1 = true := by decide +kernel
theorem lgc (x : Int64) : lg_cmp x x = 0 := by
  unfold lg_cmp
  simp
theorem hl3 {c' : CSt} {w : Nat → Int64} {X : Int32 → CSt × (Nat → Int64) → Option Int32} (o : Nat ⊕ Int32) {v : Int32} (hv : ∀ r, o = .inr r → v = r) {Y : CSt → (Nat → Int64) → Option Int32} (hX : ∀ r u, X r u = (if r = 0 then gd (inb (0 : Int32) 1) (if lg_cmp (u.2 (0 : Int32).toNatClampNeg) v.toInt64 = 0 then Y u.1 u.2 else some 0) else Y u.1 u.2)) (hY : ∀ w, Y c' w = some 1) : bi (bi (some (o, c')) (fun or2 u1 => ox or2 (fun e_4 => (if e_4 = 1 then some ((1 : Int32), (u1, w)) else some ((2 : Int32), (u1, w)))) (fun r2 => gd (inb (0 : Int32) 1) (some ((0 : Int32), (u1, (vp_updL w (0 : Int32).toNatClampNeg r2.toInt64))))))) (fun r u => if cd o = r then X r u else some 0) = some 1 := by
  rw [biE]
  cases o with
  | inl e =>
    rw [oxL]
    unfold cd
    rw [oxL]
    by_cases h : e = 1
    · rw [if_pos h, if_pos h, biE, if_pos rfl, hX, if_neg (by decide)]; exact hY _
    · rw [if_neg h, if_neg h, biE, if_pos rfl, hX, if_neg (by decide)]; exact hY _
  | inr r =>
    rw [oxR, gd_t i01, biE]
    unfold cd
    rw [oxR, if_pos rfl, hX, if_pos rfl, gd_t i01, hv r rfl]
    show (if lg_cmp (vp_updL w (0 : Int32).toNatClampNeg r.toInt64 (0 : Int32).toNatClampNeg) r.toInt64 = 0 then _ else _) = _
    rw [show vp_updL w (0 : Int32).toNatClampNeg r.toInt64 (0 : Int32).toNatClampNeg = r.toInt64 from if_pos rfl, if_pos (lgc _)]
    exact hY _
theorem pass_h {a : Int32} {c c' : CSt} {w : Nat → Int64} {o : Nat ⊕ Int32} {v : Int32} {m' : MSt} {X : Int32 → CSt × (Nat → Int64) → Option Int32} {Y : CSt → (Nat → Int64) → Option Int32} (e1 : F_P_pass a c = some (o, c')) (h : (o = .inl 2 ∧ m'.1 = 1) ∨ (o = .inr v ∧ m'.1 = 0)) (hX : ∀ r u, X r u = (if r = 0 then gd (inb (0 : Int32) 1) (if lg_cmp (u.2 (0 : Int32).toNatClampNeg) v.toInt64 = 0 then Y u.1 u.2 else some 0) else Y u.1 u.2)) (hY : ∀ w, Y c' w = some 1) : bi (F_L_pass a (c, w)) (fun r u => if m'.1 = r then X r u else some 0) = some 1 := by
  unfold F_L_pass
  rw [show F_P_pass a (c, w).1 = some (o, c') from e1, biE]
  rcases h with ⟨rfl, hm⟩ | ⟨rfl, hm⟩
  · rw [oxL, if_neg (by decide), biE, if_pos hm, hX, if_neg (by decide)]; exact hY _
  · rw [oxR, gd_t i01, biE, if_pos hm, hX, if_pos rfl, gd_t i01]
    show (if lg_cmp (vp_updL w (0 : Int32).toNatClampNeg v.toInt64 (0 : Int32).toNatClampNeg) v.toInt64 = 0 then _ else _) = _
    rw [show vp_updL w (0 : Int32).toNatClampNeg v.toInt64 (0 : Int32).toNatClampNeg = v.toInt64 from if_pos rfl, if_pos (lgc _)]
    exact hY _
theorem dump_h {a : Int32} {c c' : CSt} {w : Nat → Int64} {o : Nat ⊕ Int32} {v : Int32} {m' : MSt} {X : Int32 → CSt × (Nat → Int64) → Option Int32} {Y : CSt → (Nat → Int64) → Option Int32} (e1 : F_P_dump a c = some (o, c')) (h1 : m'.1 = cd o) (h2 : ∀ e, o = .inl e → e = 1) (h3 : ∀ r, o = .inr r → v = r) (hX : ∀ r u, X r u = (if r = 0 then gd (inb (0 : Int32) 1) (if lg_cmp (u.2 (0 : Int32).toNatClampNeg) v.toInt64 = 0 then Y u.1 u.2 else some 0) else Y u.1 u.2)) (hY : ∀ w, Y c' w = some 1) : bi (F_L_dump a (c, w)) (fun r u => if m'.1 = r then X r u else some 0) = some 1 := by
  unfold F_L_dump
  rw [show F_P_dump a (c, w).1 = some (o, c') from e1, biE, h1]
  cases o with
  | inl e =>
    rw [h2 e rfl, oxL, if_pos rfl, biE, if_pos (by rfl), hX, if_neg (by decide)]; exact hY _
  | inr r =>
    rw [oxR, gd_t i01, biE, if_pos (by rfl), hX, if_pos rfl, gd_t i01, h3 r rfl]
    show (if lg_cmp (vp_updL w (0 : Int32).toNatClampNeg r.toInt64 (0 : Int32).toNatClampNeg) r.toInt64 = 0 then _ else _) = _
    rw [show vp_updL w (0 : Int32).toNatClampNeg r.toInt64 (0 : Int32).toNatClampNeg = r.toInt64 from if_pos rfl, if_pos (lgc _)]
    exact hY _
theorem law_all {xs : Nat → Int32} {L : Nat} (hL : L ≤ 2560) : ∀ (n i : Nat) (u : LSt), Rel u.1 u.2.1 → 1 ≤ n → L < 5 * (i + n) → 5 * i ≤ L → F_law_L xs L n (nI (5 * i)) u = some 1 := by
  intro n
  induction n with
  | zero => intro i u _ h; omega
  | succ n ih =>
    intro i u h hn hLn hiL
    rw [F_law_L]
    by_cases hend : L < 5 * i + 5
    · rw [if_pos ((l5 hL (by omega)).mpr hend)]
    rw [if_neg (fun z => hend ((l5 hL (by omega)).mp z))]
    have hnx : ∀ c' m' w, Rel c' m' → F_law_L xs L n (nI (5 * i) + 5) (c', m', w) = some 1 := by
      intro c' m' w hr
      rw [show nI (5 * i) + (5 : Int32) = nI (5 * (i + 1)) from nI_add (5 * i) 5]
      exact ih (i + 1) (c', m', w) hr (by omega) (by omega) (by omega)
    have k1 : nI (5 * i) + (1 : Int32) = nI (5 * i + 1) := nI_add (5 * i) 1
    have k2 : nI (5 * i) + (2 : Int32) = nI (5 * i + 2) := nI_add (5 * i) 2
    have k3 : nI (5 * i) + (3 : Int32) = nI (5 * i + 3) := nI_add (5 * i) 3
    have k4 : nI (5 * i) + (4 : Int32) = nI (5 * i + 4) := nI_add (5 * i) 4
    have g0 := inbN (show 5 * i < L by omega) (by omega)
    have g1 := inbN (show 5 * i + 1 < L by omega) (by omega)
    have g2 := inbN (show 5 * i + 2 < L by omega) (by omega)
    have g3 := inbN (show 5 * i + 3 < L by omega) (by omega)
    have g4 := inbN (show 5 * i + 4 < L by omega) (by omega)
    rw [k1, k2, k3, k4, gd_t g0]
    obtain ⟨j, hj, ej⟩ := pk_andE (xs (nI (5 * i)).toNatClampNeg) (m := (15 : Int32)) 4 (by decide +kernel)
    rw [ej]
    rcases (by omega : j = 0 ∨ j = 1 ∨ j = 2 ∨ j = 3 ∨ j = 4 ∨ j = 5 ∨ j = 6 ∨ j = 7 ∨ j = 8 ∨ j = 9 ∨ j = 10 ∨ j = 11 ∨ j = 12 ∨ j = 13 ∨ j = 14 ∨ j = 15) with rfl | rfl | rfl | rfl | rfl | rfl | rfl | rfl | rfl | rfl | rfl | rfl | rfl | rfl | rfl | rfl
    · obtain ⟨o, c', m', e1, e2, e3, e4⟩ := sim_place (xs (nI (5 * i + 1)).toNatClampNeg) (xs (nI (5 * i + 2)).toNatClampNeg) (xs (nI (5 * i + 3)).toNatClampNeg) h
      have e5 : F_L_place (xs (nI (5 * i + 1)).toNatClampNeg) (xs (nI (5 * i + 2)).toNatClampNeg) (xs (nI (5 * i + 3)).toNatClampNeg) u.1 = some (cd o, c') := by
        unfold F_L_place
        rw [e1]
        exact hl7 o
      rw [if_pos (by decide +kernel), gd_t g1, gd_t g2, gd_t g3, e5, biE, gd_t g1, gd_t g2, gd_t g3, e2, biE, thr_ok, biE, if_pos e3]
      exact hnx c' m' _ e4
    · obtain ⟨o, c', m', e1, e2, e3, e4⟩ := sim_rate (xs (nI (5 * i + 1)).toNatClampNeg) (xs (nI (5 * i + 2)).toNatClampNeg) (xs (nI (5 * i + 3)).toNatClampNeg) h
      have e5 : F_L_rate (xs (nI (5 * i + 1)).toNatClampNeg) (xs (nI (5 * i + 2)).toNatClampNeg) (xs (nI (5 * i + 3)).toNatClampNeg) u.1 = some (cd o, c') := by
        unfold F_L_rate
        rw [e1]
        exact hl7 o
      rw [if_neg (by decide +kernel), if_pos (by decide +kernel), gd_t g1, gd_t g2, gd_t g3, e5, biE, gd_t g1, gd_t g2, gd_t g3, e2, biE, thr_ok, biE, if_pos e3]
      exact hnx c' m' _ e4
    · obtain ⟨o, c', m', e1, e2, e3, e4⟩ := sim_accept (xs (nI (5 * i + 1)).toNatClampNeg) (xs (nI (5 * i + 2)).toNatClampNeg) h
      have e5 : F_L_accept (xs (nI (5 * i + 1)).toNatClampNeg) (xs (nI (5 * i + 2)).toNatClampNeg) u.1 = some (cd o, c') := by
        unfold F_L_accept
        rw [e1]
        exact hl7 o
      rw [if_neg (by decide +kernel), if_neg (by decide +kernel), if_pos (by decide +kernel), gd_t g1, gd_t g2, e5, biE, gd_t g1, gd_t g2, e2, biE, thr_ok, biE, if_pos e3]
      exact hnx c' m' _ e4
    · obtain ⟨o, c', m', e1, e2, e3, e4⟩ := sim_make (xs (nI (5 * i + 1)).toNatClampNeg) (xs (nI (5 * i + 2)).toNatClampNeg) (xs (nI (5 * i + 3)).toNatClampNeg) h
      have e5 : F_L_make (xs (nI (5 * i + 1)).toNatClampNeg) (xs (nI (5 * i + 2)).toNatClampNeg) (xs (nI (5 * i + 3)).toNatClampNeg) u.1 = some (cd o, c') := by
        unfold F_L_make
        rw [e1]
        exact hl7 o
      rw [if_neg (by decide +kernel), if_neg (by decide +kernel), if_neg (by decide +kernel), if_pos (by decide +kernel), gd_t g1, gd_t g2, gd_t g3, e5, biE, gd_t g1, gd_t g2, gd_t g3, e2, biE, thr_ok, biE, if_pos e3]
      exact hnx c' m' _ e4
    · obtain ⟨o, c', m', e1, e2, e3, e4⟩ := sim_wagon (xs (nI (5 * i + 1)).toNatClampNeg) (xs (nI (5 * i + 2)).toNatClampNeg) (xs (nI (5 * i + 3)).toNatClampNeg) h
      have e5 : F_L_wagon (xs (nI (5 * i + 1)).toNatClampNeg) (xs (nI (5 * i + 2)).toNatClampNeg) (xs (nI (5 * i + 3)).toNatClampNeg) u.1 = some (cd o, c') := by
        unfold F_L_wagon
        rw [e1]
        exact hl7 o
      rw [if_neg (by decide +kernel), if_neg (by decide +kernel), if_neg (by decide +kernel), if_neg (by decide +kernel), if_pos (by decide +kernel), gd_t g1, gd_t g2, gd_t g3, e5, biE, gd_t g1, gd_t g2, gd_t g3, e2, biE, thr_ok, biE, if_pos e3]
      exact hnx c' m' _ e4
    · obtain ⟨o, c', v, m', e1, e2, e3, e4⟩ := sim_pass (xs (nI (5 * i + 1)).toNatClampNeg) h
      rw [if_neg (by decide +kernel), if_neg (by decide +kernel), if_neg (by decide +kernel), if_neg (by decide +kernel), if_neg (by decide +kernel), if_pos (by decide +kernel)]
      simp only [gd_t g1, e2, biE, thr_ok]
      exact pass_h e1 e3 (Y := fun c w => F_law_L xs L n (nI (5 * i) + 5) (c, m', w)) (fun r u => rfl) (fun w => hnx c' m' w e4)
    · obtain ⟨o, c', v, m', e1, e2, e3, e5, e4⟩ := sim_load (xs (nI (5 * i + 1)).toNatClampNeg) (xs (nI (5 * i + 2)).toNatClampNeg) (xs (nI (5 * i + 3)).toNatClampNeg) h
      rw [if_neg (by decide +kernel), if_neg (by decide +kernel), if_neg (by decide +kernel), if_neg (by decide +kernel), if_neg (by decide +kernel), if_neg (by decide +kernel), if_pos (by decide +kernel)]
      simp only [gd_t g1, gd_t g2, gd_t g3, e2, biE, thr_ok, e3]
      unfold F_L_load
      rw [show F_P_load (xs (nI (5 * i + 1)).toNatClampNeg) (xs (nI (5 * i + 2)).toNatClampNeg) (xs (nI (5 * i + 3)).toNatClampNeg) (u.1, u.2.2).1 = some (o, c') from e1]
      exact hl3 o e5 (Y := fun c w => F_law_L xs L n (nI (5 * i) + 5) (c, m', w)) (fun r u => rfl) (fun w => hnx c' m' w e4)
    · obtain ⟨o, c', v, m', e1, e2, e3, e5, e4⟩ := sim_unload (xs (nI (5 * i + 1)).toNatClampNeg) (xs (nI (5 * i + 2)).toNatClampNeg) (xs (nI (5 * i + 3)).toNatClampNeg) h
      rw [if_neg (by decide +kernel), if_neg (by decide +kernel), if_neg (by decide +kernel), if_neg (by decide +kernel), if_neg (by decide +kernel), if_neg (by decide +kernel), if_neg (by decide +kernel), if_pos (by decide +kernel)]
      simp only [gd_t g1, gd_t g2, gd_t g3, e2, biE, thr_ok, e3]
      unfold F_L_unload
      rw [show F_P_unload (xs (nI (5 * i + 1)).toNatClampNeg) (xs (nI (5 * i + 2)).toNatClampNeg) (xs (nI (5 * i + 3)).toNatClampNeg) (u.1, u.2.2).1 = some (o, c') from e1]
      exact hl3 o e5 (Y := fun c w => F_law_L xs L n (nI (5 * i) + 5) (c, m', w)) (fun r u => rfl) (fun w => hnx c' m' w e4)
    · obtain ⟨o, c', m', e1, e2, e3, e4⟩ := sim_pour (xs (nI (5 * i + 1)).toNatClampNeg) (xs (nI (5 * i + 2)).toNatClampNeg) h
      have e5 : F_L_pour (xs (nI (5 * i + 1)).toNatClampNeg) (xs (nI (5 * i + 2)).toNatClampNeg) u.1 = some (cd o, c') := by
        unfold F_L_pour
        rw [e1]
        exact hl7 o
      rw [if_neg (by decide +kernel), if_neg (by decide +kernel), if_neg (by decide +kernel), if_neg (by decide +kernel), if_neg (by decide +kernel), if_neg (by decide +kernel), if_neg (by decide +kernel), if_neg (by decide +kernel), if_pos (by decide +kernel), gd_t g1, gd_t g2, e5, biE, gd_t g1, gd_t g2, e2, biE, thr_ok, biE, if_pos e3]
      exact hnx c' m' _ e4
    · obtain ⟨o, c', m', e1, e2, e3, e4⟩ := sim_part (xs (nI (5 * i + 1)).toNatClampNeg) (xs (nI (5 * i + 2)).toNatClampNeg) (xs (nI (5 * i + 3)).toNatClampNeg) h
      have e5 : F_L_part (xs (nI (5 * i + 1)).toNatClampNeg) (xs (nI (5 * i + 2)).toNatClampNeg) (xs (nI (5 * i + 3)).toNatClampNeg) u.1 = some (cd o, c') := by
        unfold F_L_part
        rw [e1]
        exact hl7 o
      rw [if_neg (by decide +kernel), if_neg (by decide +kernel), if_neg (by decide +kernel), if_neg (by decide +kernel), if_neg (by decide +kernel), if_neg (by decide +kernel), if_neg (by decide +kernel), if_neg (by decide +kernel), if_neg (by decide +kernel), if_pos (by decide +kernel), gd_t g1, gd_t g2, gd_t g3, e5, biE, gd_t g1, gd_t g2, gd_t g3, e2, biE, thr_ok, biE, if_pos e3]
      exact hnx c' m' _ e4
    · obtain ⟨o, c', v, m', e1, e2, e3, e6, e5, e4⟩ := sim_dump (xs (nI (5 * i + 1)).toNatClampNeg) h
      rw [if_neg (by decide +kernel), if_neg (by decide +kernel), if_neg (by decide +kernel), if_neg (by decide +kernel), if_neg (by decide +kernel), if_neg (by decide +kernel), if_neg (by decide +kernel), if_neg (by decide +kernel), if_neg (by decide +kernel), if_neg (by decide +kernel), if_pos (by decide +kernel)]
      simp only [gd_t g1, e2, biE, thr_ok]
      exact dump_h e1 e3 e6 e5 (Y := fun c w => F_law_L xs L n (nI (5 * i) + 5) (c, m', w)) (fun r u => rfl) (fun w => hnx c' m' w e4)
    · obtain ⟨r, c', m', e1, e2, e4⟩ := sim_spend (xs (nI (5 * i + 1)).toNatClampNeg) h
      rw [if_neg (by decide +kernel), if_neg (by decide +kernel), if_neg (by decide +kernel), if_neg (by decide +kernel), if_neg (by decide +kernel), if_neg (by decide +kernel), if_neg (by decide +kernel), if_neg (by decide +kernel), if_neg (by decide +kernel), if_neg (by decide +kernel), if_neg (by decide +kernel), if_pos (by decide +kernel), gd_t g1, e1, biE, gd_t g1, e2, biE, if_pos rfl]
      exact hnx c' m' _ e4
    · obtain ⟨r, m', e1, e2, e4⟩ := sim_packet (xs (nI (5 * i + 1)).toNatClampNeg) (xs (nI (5 * i + 2)).toNatClampNeg) (xs (nI (5 * i + 3)).toNatClampNeg) (xs (nI (5 * i + 4)).toNatClampNeg) h
      rw [if_neg (by decide +kernel), if_neg (by decide +kernel), if_neg (by decide +kernel), if_neg (by decide +kernel), if_neg (by decide +kernel), if_neg (by decide +kernel), if_neg (by decide +kernel), if_neg (by decide +kernel), if_neg (by decide +kernel), if_neg (by decide +kernel), if_neg (by decide +kernel), if_neg (by decide +kernel), if_pos (by decide +kernel), gd_t g1, gd_t g2, gd_t g3, gd_t g4, e1, biE, gd_t g1, gd_t g2, gd_t g3, gd_t g4, e2, biE, if_pos rfl]
      exact hnx u.1 m' _ e4
    · obtain ⟨r, m', e1, e2, e4⟩ := sim_units (xs (nI (5 * i + 1)).toNatClampNeg) (xs (nI (5 * i + 2)).toNatClampNeg) h
      rw [if_neg (by decide +kernel), if_neg (by decide +kernel), if_neg (by decide +kernel), if_neg (by decide +kernel), if_neg (by decide +kernel), if_neg (by decide +kernel), if_neg (by decide +kernel), if_neg (by decide +kernel), if_neg (by decide +kernel), if_neg (by decide +kernel), if_neg (by decide +kernel), if_neg (by decide +kernel), if_neg (by decide +kernel), if_pos (by decide +kernel), gd_t g1, gd_t g2, e1, biE, gd_t g1, gd_t g2, e2, biE, if_pos rfl]
      exact hnx u.1 m' _ e4
    · obtain ⟨r, m', e1, e2, e4⟩ := sim_count (xs (nI (5 * i + 1)).toNatClampNeg) (xs (nI (5 * i + 2)).toNatClampNeg) h
      rw [if_neg (by decide +kernel), if_neg (by decide +kernel), if_neg (by decide +kernel), if_neg (by decide +kernel), if_neg (by decide +kernel), if_neg (by decide +kernel), if_neg (by decide +kernel), if_neg (by decide +kernel), if_neg (by decide +kernel), if_neg (by decide +kernel), if_neg (by decide +kernel), if_neg (by decide +kernel), if_neg (by decide +kernel), if_neg (by decide +kernel), if_pos (by decide +kernel), gd_t g1, gd_t g2, e1, biE, gd_t g1, gd_t g2, e2, biE, if_pos rfl]
      exact hnx u.1 m' _ e4
    · obtain ⟨r, m', e1, e2, e4⟩ := sim_sum (xs (nI (5 * i + 1)).toNatClampNeg) h
      rw [if_neg (by decide +kernel), if_neg (by decide +kernel), if_neg (by decide +kernel), if_neg (by decide +kernel), if_neg (by decide +kernel), if_neg (by decide +kernel), if_neg (by decide +kernel), if_neg (by decide +kernel), if_neg (by decide +kernel), if_neg (by decide +kernel), if_neg (by decide +kernel), if_neg (by decide +kernel), if_neg (by decide +kernel), if_neg (by decide +kernel), if_neg (by decide +kernel), if_pos (by decide +kernel), gd_t g1, e1, biE, gd_t g1, e2, biE, if_pos rfl]
      exact hnx u.1 m' _ e4
