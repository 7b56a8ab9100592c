theorem arrV_cg {cA : ClassId} {N : Nat} {f g : Nat → Value} (h : ∀ k, k < N → f k = g k) : arrV cA N f = arrV cA N g := by
  unfold arrV
  rw [show (fun j : Fin N => f j.val) = fun j => g j.val from funext fun j => h j.val j.isLt]
abbrev uz (mk : Nat → Int32) : CSt := ((fun _ => 0), mk, (fun _ => 0), (fun _ => 0), (fun _ => 0), (fun _ => 0), (fun _ => 0), (fun _ => 0), (fun _ => 0), (fun _ => 0), 0, 10000, 0, 0, fun _ => rz)
theorem gx_cw {D : va_G} {cI cR : ClassId} {ca qa : Nat → Nat} {f g : Nat → Option Nat} {mk : Nat → Int32} {H : Heap} (hf : ∀ k, k < 32 → f k = some (qa (4 * k))) (hg : ∀ k, k < 16 → g k = some (qa (4 * (32 + k)))) (hP : va_P D vwCl (GX cI cR ca f g mk ++ rowsN cI qa 48) H) : va_P D vwCl (CW cI cR ca qa (uz mk)) H := by
  have h : va_P D vwCl (GX cI cR ca (fun k => some (qa (4 * k))) (fun k => some (qa (4 * (32 + k)))) mk ++ rowsN cI qa 48) H := by
    intro k q hk
    match k, hk with
    | 0, hk => exact hP 0 q hk
    | 1, hk =>
      have h1 := hP 1 _ rfl
      cases hk
      show H[ca 1]? = some (vp_cell cR (32, .inr (.inr (.inr (.inr (fun k => some (qa (4 * k))))))))
      have h2 : H[ca 1]? = some (vp_cell cR (32, .inr (.inr (.inr (.inr f))))) := h1
      rw [h2, vp_cell_q, vp_cell_q, arrV_cg (fun k hk => by rw [hf k hk])]
    | 2, hk => exact hP 2 q hk
    | 3, hk => exact hP 3 q hk
    | 4, hk => exact hP 4 q hk
    | 5, hk => exact hP 5 q hk
    | 6, hk => exact hP 6 q hk
    | 7, hk =>
      have h1 := hP 7 _ rfl
      cases hk
      show H[ca 7]? = some (vp_cell cR (16, .inr (.inr (.inr (.inr (fun k => some (qa (4 * (32 + k)))))))))
      have h2 : H[ca 7]? = some (vp_cell cR (16, .inr (.inr (.inr (.inr g))))) := h1
      rw [h2, vp_cell_q, vp_cell_q, arrV_cg (fun k hk => by rw [hg k hk])]
    | 8, hk => exact hP 8 q hk
    | 9, hk => exact hP 9 q hk
    | 10, hk => exact hP 10 q hk
    | 11, hk => exact hP 11 q hk
    | 12, hk => exact hP 12 q hk
    | k + 13, hk => exact hP (k + 13) q hk
  exact h
theorem gx_cwD {A : Nat → Prop} {cI cR : ClassId} {ca qa : Nat → Nat} {f g : Nat → Option Nat} {mk : Nat → Int32} (hD : va_D A (GX cI cR ca f g mk ++ rowsN cI qa 48)) : va_D A (CW cI cR ca qa (uz mk)) := by
  have h : va_D A (GX cI cR ca (fun k => some (qa (4 * k))) (fun k => some (qa (4 * (32 + k)))) mk ++ rowsN cI qa 48) := jn_D (jn_id (W0 := GX cI cR ca f g mk ++ rowsN cI qa 48) rfl) hD
  exact h
theorem sb_rot (X : va_W) (e : Nat × va_E) : Sb (X ++ [e]) ([e] ++ X) (fun k => if k = 0 then X.length else k - 1) := by
  refine ⟨fun k q h => ?_, fun i j hi hj h => ?_⟩
  · show (X ++ [e])[if k = 0 then X.length else k - 1]? = some q
    cases k with
    | zero =>
      rw [if_pos rfl, List.getElem?_append_right (Nat.le_refl _), Nat.sub_self]
      exact h
    | succ k =>
      have h1 : X[k]? = some q := h
      rw [if_neg (by omega), Nat.add_sub_cancel, List.getElem?_append_left (List.getElem?_eq_some_iff.mp h1).1]
      exact h1
  · have h9 : (if i = 0 then X.length else i - 1) = (if j = 0 then X.length else j - 1) := h
    have hi' : i < X.length + 1 := by simpa using hi
    have hj' : j < X.length + 1 := by simpa using hj
    split at h9 <;> split at h9 <;> omega
/-- both systems as they begin -/
theorem rel0 {mk fm : Nat → Int32} (hmk : ∀ k, k < 32 → mk k = -1) (hfm : ∀ k, k < 32 → fm k = -1) : Rel (uz mk) (mz fm) := by
  refine ⟨fun _ => [], 0, 10000, 0, 0, ⟨rfl, rfl, by omega⟩, ⟨rfl, rfl, by omega⟩, ⟨rfl, rfl, by omega⟩, ⟨rfl, rfl, by omega⟩, fun k _ => ⟨rfl, 0, by omega, rfl⟩, fun k hk => ⟨(hfm k hk).trans (hmk k hk).symm, Or.inl (hmk k hk)⟩, fun k _ => ⟨rfl, 0, by omega, rfl⟩, fun k _ => ⟨rfl, 0, by omega, rfl⟩, fun k _ => ⟨rfl, 0, by omega, rfl⟩, fun k _ => ⟨rfl, 0, by omega, rfl⟩, fun k _ => ⟨rfl, 0, by omega, rfl⟩, fun k _ => ⟨rfl, 0, by omega, rfl⟩, fun k _ => rfl, fun k _ => rfl, fun ρ _ => ⟨⟨by simp, rfl, rfl, by simp, fun j p h => by simp at h⟩, trivial, ⟨rfl, fun k q h => by simp [ex] at h⟩, fun p hp => by simp at hp⟩, fun ρ _ => by rw [sumL_nil]; omega, fun w _ => ⟨0, by omega, rfl, by rw [sumL_nil]; omega⟩⟩
theorem prep_blind {D : va_G} {h sz : Nat} {av : List Value} : FrameBlind (va_Pc av (PREP D h sz)) := by
  intro a U g mk q
  obtain ⟨q0, q1, q2, q3⟩ := q
  exact ⟨q0, (pre_blind (av := av) a U g mk ⟨q0, q1⟩).2, va_AO.moved (u := U) (U := U.calling g mk a) (Vm.Alike.refl U.vm) q2, va_Nw.same rfl rfl q3⟩
set_option maxHeartbeats 4000000 in
set_option maxRecDepth 100000 in
/-- from the entry, for every script of at most 2560 ints, the law comes to its end with true -/
theorem whole_start {p : Program} {e : Env} {s : State} {m : MethodId} {below : List Frame} {meth : Method} {c : Code} (l : Launch) (hl9 : l.stackTraces = false) {b L : Nat} {xs : Nat → Int32} (hL : L ≤ 2560) (C0 : lw_At p s m meth c b L xs) : W p l e room_1 s m #[Value.ref b] below meth c s.heap [] 0 0 (lw_Z below #[Value.ref b] s) (entryFrame m ([Value.ref b] : List Value).toArray 7) := by
  obtain ⟨hx, hb, hr, hml, hown, hts0, hX, hbl, hlocks, hgv⟩ := id C0
  obtain ⟨sa, hXK⟩ := xk_start hts0 hgv
  have hAO : va_AO RX0 s := va_AO.of (hts0 _ ew_ao)
  have hNw : va_Nw nestW s := va_Nw.of rfl (hts0 _ ew_nest)
  have hts : ∀ w ∈ wsL_law, w.before #[Value.ref b] s = true := fun w h => by
    rcases List.mem_cons.mp h with rfl | h
    · exact hts0 _ (cw_in _ mw_0)
    · exact hts0 w (cw_in w h)
  generalize hAe : (fun q : Nat => s.heap.size ≤ q) = A at hXK
  have hA : ∀ q : Nat, s.heap.size ≤ q → A q := fun q h => by rw [← hAe]; exact h
  have hAs : ∀ q : Nat, A q → s.heap.size ≤ q := fun q h => by rw [← hAe] at h; exact h
  have hbA : ¬ A b := fun h => absurd (hAs b h) (Nat.not_le.mpr hbl)
  obtain ⟨c0, iS0, hKn0⟩ := u_known (C := RX0) (T := TX0) (N := 5) (n := 5) hts (fun w h => cwc w (in_X0 w h)) (hts _ (cwc _ mw_19))
  obtain ⟨c1, iS1, hKn1⟩ := u_known (C := RX1) (T := TX1) (N := 16) (n := 16) hts (fun w h => cwc w (in_X1 w h)) (hts _ (cwc _ mw_11))
  obtain ⟨c2, iS2, hKn2⟩ := u_known (C := RX2) (T := TX2) (N := 18) (n := 18) hts (fun w h => cwc w (in_X2 w h)) (hts _ (cwc _ mw_329))
  obtain ⟨D, hK⟩ : ∃ D : va_G, va_K D vwCl [] s := by
    refine ⟨(fun k => if k = 0 then c0 else if k = 1 then c1 else c2, fun k => if k = 0 then iS0 else if k = 1 then iS1 else iS2), fun k q hq => ?_, fun k q h => by simp at h⟩
    match k, hq with
    | 0, hq => cases hq; exact hKn0
    | 1, hq => cases hq; exact hKn1
    | 2, hq => cases hq; exact hKn2
    | k + 3, hq => simp [vwCl] at hq
  have hS : va_S A s.heap s.heap [] := va_S.rf
  have hP : va_P D vwCl [] s.heap := fun k q h => by simp at h
  have hD : va_D A [] := ⟨fun i j p q h => by simp at h, fun k q h => by simp at h⟩
  have hl := lv_entry ([.ref b]) (n := 7) (Nat.le_of_ble_eq_true rfl)
  rw [lg_entry_eq]
  generalize (lg_sl ([.ref b]) ++ List.replicate (7 - (lg_sl ([.ref b])).length) Slot.unset).toArray = ls at hl ⊢
  replace hl : lv_has ls 7 [(0, .ref b)] := hl
  refine va_new (ci := 1) (fs := [.null, .null, .null, .null, .null, .null, .null, .null, .null, .null, .null, .null, .int 0, .int 0, .int 0, .int 0]) (C := RX1) (T := TX1) (N := 16) hx hb hts (fun w h => cwc w (in_X1 w h)) tyX1 tyX1_ok hown (hts _ (cwc _ mw_10)) (hts _ (cwc _ mw_11)) (hts _ (cwc _ mw_1)) hK hP hD hS hA rfl (fun j hj => by rcases (show j = 0 ∨ j = 1 ∨ j = 2 ∨ j = 3 ∨ j = 4 ∨ j = 5 ∨ j = 6 ∨ j = 7 ∨ j = 8 ∨ j = 9 ∨ j = 10 ∨ j = 11 ∨ j = 12 ∨ j = 13 ∨ j = 14 ∨ j = 15 by omega) with rfl | rfl | rfl | rfl | rfl | rfl | rfl | rfl | rfl | rfl | rfl | rfl | rfl | rfl | rfl | rfl <;> rfl) (Nat.le_of_ble_eq_true rfl) (Nat.le_of_ble_eq_true rfl) dL_law_0 (fun q H hP hD hS => ?_)
  replace hP : va_P D vwCl ([] ++ strNew q) H := hP
  replace hD : va_D A ([] ++ strNew q) := hD
  refine lv_dup hx hb dL_law_3 rfl ?_
  have hF := sb_F (sb_tail [] (strNew q)) hD hS hA
  refine va_callv (va_runI (As := []) (rest := [.ref q]) ⟨hx, hb, hml, hown, hts⟩ (c_P_init l D q H.size) (cwI 0 hts (gAll cwc mw_14) rfl rfl rfl (hts _ (cwc _ mw_1)) (hts _ (cwc _ mw_12)) (hts _ (cwc _ mw_13)) rfl (by decide +kernel) ⟨(Nat.le_of_ble_eq_true rfl), (Nat.le_of_ble_eq_true rfl)⟩) ⟨prep_blind, fun U hU hW => ⟨rfl, ⟨by rw [hU], by rw [hU]; exact hP, va_K.moved hW.alike hK, hD.weaken (fun _ _ _ _ => trivial)⟩, va_AO.moved hW.alike hAO, va_Nw.warmM hW hNw⟩⟩ rfl rfl hl.1 rfl (lv_room (Nat.le_of_ble_eq_true rfl)) dL_law_4 ⟨(Nat.le_of_ble_eq_true rfl), (Nat.le_of_ble_eq_true rfl)⟩) hS (fun q _ h => hF q h) hF (fun u9 t H1 locs1 ht hvm hw hB hz hk hS1 => ?_)
  obtain ⟨cI, cR, ca, qa, f, g, mk, hm0, hf, hg, hmk, hP1, hK1, hD1⟩ := hB
  rw [ht] at hP1
  replace hK : va_K D vwCl (TY cI cR) s := va_K.moved hvm.symm hK1
  obtain ⟨hP2, hD2⟩ := jn_new (ws := []) hP hD hk hF hP1 hD1
  replace hP : va_P D vwCl (CW cI cR ca qa (uz mk)) H1 := gx_cw hf hg hP2
  replace hD : va_D A (CW cI cR ca qa (uz mk)) := gx_cwD hD2
  clear hP1 hD1 hK1 hP2 hD2 hz hk hF hS
  rw [← hm0]
  refine lv_astore_n (lv' := [(1, .ref (ca 0)), (0, .ref b)]) hx hb dL_law_7 rfl hl (by decide) rfl (fun ls hl => ?_)
  refine va_new (ci := 2) (fs := [.int 0, .int 0, .int 0, .int 0, .int 0, .null, .null, .null, .null, .null, .null, .null, .null, .null, .null, .null, .null, .null]) (C := RX2) (T := TX2) (N := 18) hx hb hts (fun w h => cwc w (in_X2 w h)) tyX2 tyX2_ok hown (hts _ (cwc _ mw_328)) (hts _ (cwc _ mw_329)) (hts _ (cwc _ mw_3)) hK hP hD hS1 hA rfl (fun j hj => by rcases (show j = 0 ∨ j = 1 ∨ j = 2 ∨ j = 3 ∨ j = 4 ∨ j = 5 ∨ j = 6 ∨ j = 7 ∨ j = 8 ∨ j = 9 ∨ j = 10 ∨ j = 11 ∨ j = 12 ∨ j = 13 ∨ j = 14 ∨ j = 15 ∨ j = 16 ∨ j = 17 by omega) with rfl | rfl | rfl | rfl | rfl | rfl | rfl | rfl | rfl | rfl | rfl | rfl | rfl | rfl | rfl | rfl | rfl | rfl <;> rfl) (Nat.le_of_ble_eq_true rfl) (Nat.le_of_ble_eq_true rfl) dL_law_8 (fun q2 H hP hD hS => ?_)
  replace hP : va_P D vwCl (CW cI cR ca qa (uz mk) ++ modNew q2) H := hP
  replace hD : va_D A (CW cI cR ca qa (uz mk) ++ modNew q2) := hD
  refine lv_dup hx hb dL_law_11 rfl ?_
  have hF := sb_F (sb_tail (CW cI cR ca qa (uz mk)) (modNew q2)) hD hS hA
  refine va_callv (va_runI (As := []) (rest := [.ref q2]) ⟨hx, hb, hml, hown, hts⟩ (c_M_init l D cI cR q2 H.size) (cwI 0 hts (gAll cwc mw_332) rfl rfl rfl (hts _ (cwc _ mw_3)) (hts _ (cwc _ mw_330)) (hts _ (cwc _ mw_331)) rfl (by decide +kernel) ⟨(Nat.le_of_ble_eq_true rfl), (Nat.le_of_ble_eq_true rfl)⟩) (kp_S hK hP hD (sb_tail (CW cI cR ca qa (uz mk)) (modNew q2))) rfl rfl hl.1 rfl (lv_room (Nat.le_of_ble_eq_true rfl)) dL_law_12 ⟨(Nat.le_of_ble_eq_true rfl), (Nat.le_of_ble_eq_true rfl)⟩) hS (fun q _ h => hF q h) hF (fun u9 t H1 locs1 ht hvm hw hB hz hk hS1 => ?_)
  obtain ⟨ma, fm, hm1, hfm, hP1, hK1, hD1⟩ := hB
  rw [ht] at hP1
  obtain ⟨hP2, hD2⟩ := jn_new hP hD hk hF hP1 hD1
  rw [← hm1]
  refine lv_astore_n (lv' := [(2, .ref (ma 0)), (1, .ref (ca 0)), (0, .ref b)]) hx hb dL_law_15 rfl hl (by decide) rfl (fun ls hl => ?_)
  refine lv_iconst (v := (1 : Int32)) hx hb dL_law_16 (by decide +kernel) ?_
  refine va_newa (atype := .long) (N' := 1) (a0 := (1, .inr (.inl (fun _ => 0)))) (ty := .long) (n := (1 : Int32)) hx hb (hts _ (cwc _ mw_472)) rfl hK hP2 hD2 hS1 hA (fun _ => rfl) (by decide +kernel) (by decide +kernel) (by decide +kernel) (Nat.le_of_ble_eq_true rfl) (Nat.le_of_ble_eq_true rfl) dL_law_17 (fun wa cJ H hK hP hD hS => ?_)
  replace hK : va_K D vwCl (TY3 cI cR cJ) s := hK
  have hrot := sb_rot (CW cI cR ca qa (uz mk) ++ MW cI ma (mz fm)) (wa, .inl (cJ, 1, .inr (.inl (fun _ => 0))))
  have hP3 : va_P D vwCl (LW cI cR cJ ca qa ma wa (uz mk, mz fm, fun _ => 0)) H := sb_P hrot hP
  have hD3 : va_D A (LW cI cR cJ ca qa ma wa (uz mk, mz fm, fun _ => 0)) := sb_D hrot hD
  refine lv_astore_n (lv' := [(3, .ref wa), (2, .ref (ma 0)), (1, .ref (ca 0)), (0, .ref b)]) hx hb dL_law_19 rfl hl (by decide) rfl (fun ls hl => ?_)
  refine lv_iconst (v := (0 : Int32)) hx hb dL_law_20 (by decide +kernel) ?_
  refine lv_istore (lv' := [(4, .int (nI (5 * 0))), (3, .ref wa), (2, .ref (ma 0)), (1, .ref (ca 0)), (0, .ref b)]) hx hb dL_law_21 hl (by decide) rfl (fun ls hl => ?_)
  refine W.widen (k := 220) (n := 99788) (Nat.le_of_ble_eq_true rfl) (Nat.le_of_ble_eq_true rfl) ?_
  exact w_law hx hb hr hml hown hts hlocks hA hAs hK hl9 hXK hX hbl hbA 513 (nI (5 * 0)) (uz mk, mz fm, fun _ => 0) (law_all hL 513 0 _ (rel0 hmk hfm) (by omega) (by omega) (by omega)) 220 99788 (by omega) (by omega) H _ ls hP3 hD3 hS (lv_sub hl [4, 3, 2, 1, 0] rfl)
