def F_P_checkRange (p0 : Int32) (p1 : Int32) (u : Unit) : Option ((Nat ⊕ Unit) × Unit) := (if p0 < (0 : Int32) then some (.inl 2, ()) else (if p0 ≤ p1 then some ((.inr ()), ()) else some (.inl 2, ())))
set_option maxHeartbeats 4000000 in
set_option maxRecDepth 100000 in
theorem c_P_checkRange (l : Launch) (hl9 : l.stackTraces = false) (D : va_G) (cI cR : ClassId) (sa : Nat → Nat)  (sz : Nat) (p0 : Int32) (p1 : Int32) (u : Unit) (r : Nat ⊕ Unit) (u' : Unit) (hF : F_P_checkRange p0 p1 u = some (r, u')) : vx_Met l yX1_checkRange wsX1_checkRange ({ frames := 6, cells := 1, slots := 6, locals := 82 }) (va_Pc [.int p0, .int p1] (PREX D (TY cI cR) ([] : va_W) sz sa)) (XV D (TY cI cR) (va_A ([] : va_W) sz) (fun (_ : Unit) => ([] : va_W)) r u') (XX D (TY cI cR) (va_A ([] : va_W) sz) (fun (_ : Unit) => ([] : va_W)) r u') 1 6 (va_A ([] : va_W) sz) := by
  refine vx_ofW (cc := cX1_checkRange) (maxL := 2) (ret := none) (by decide) rfl ?_
  intro p e s m args below meth c s₁ B hml hnx hv
  obtain ⟨rfl, ⟨hsz, hP, hK, hD0⟩, hXK⟩ := hv
  have hx := B.exec
  have hb := B.bytes
  have hr := B.returns
  have hts := atoms_spec (ws := wsX1_checkRange) B.pre
  have hown : s.vm.findClass RX1 = some m.cls := findClass_of_methodNamed B.named
  have hlocks := B.notSynchronized
  subst hsz
  have hD := hD0.self (sz := s.heap.size)
  generalize hAe : va_A ([] : va_W) s.heap.size = A at hD hXK ⊢
  have hA : ∀ q : Nat, s.heap.size ≤ q → A q := fun q h => by rw [← hAe]; exact Or.inr h
  have hS : va_S A s.heap s.heap [] := va_S.rf
  replace hP : va_P D vwCl ([] : va_W) s.heap := hP
  have hl := lv_entry ([.int p0, .int p1]) (n := 2) (Nat.le_of_ble_eq_true rfl)
  rw [lg_entry_eq]
  generalize (lg_sl ([.int p0, .int p1]) ++ List.replicate (2 - (lg_sl ([.int p0, .int p1])).length) Slot.unset).toArray = ls at hl ⊢
  replace hl : lv_has ls 2 [(0, .int p0), (1, .int p1)] := hl
  obtain ⟨hXU, hXN, hXc1, hXc2, hXd1, hXd2, hXd3, hXn, -⟩ := id hXK
  unfold F_P_checkRange at hF
  refine (?_ : ∀ (H : Heap) (locs : List Loc), va_P D vwCl ([] : va_W) H → va_S A s.heap H locs → W p l e _ s m _ below meth c H locs 0 0 _ (F0 m 0 ls [])) s.heap [] hP hS
  intro H locs hP hS
  refine lv_iload_n hx hb dX1_checkRange_0 rfl (lv_at hl 0 rfl) ?_
  refine lv_if_lt (tgt := 9) hx hb dX1_checkRange_1 (by decide) (fun c_1 => ?_) (fun c_1 => ?_)
  · replace hF := (if_pos c_1).symm.trans hF
    cases hF
    exact vx_throwS (own := RX1) (cls := "java/lang/IllegalArgumentException") (names := ["java/lang/RuntimeException", "java/lang/Exception"]) hx hb hl9 hown (by decide +kernel) (by decide +kernel) (hts _ (cwc _ mw_179)) (hts _ (cwc _ mw_8)) (XK_s189 hXK) (vx_hat (L := vx_atS RX1 86 "java/lang/IllegalArgumentException" ["java/lang/RuntimeException", "java/lang/Exception"]) (fun w hw => hts w (cwc w (hatA_2 w hw))) hatB_2 (vx_c (va_Nw.use rfl hXc2) (vx_c (va_Nw.use rfl hXd1) (vx_c (va_Nw.use rfl hXd2) (vx_c (va_Nw.use rfl hXd3) (vx_n)))))) hatC_2 hXU hXN hS (hl.1.trans hml.symm) dX1_checkRange_9 dX1_checkRange_12 dX1_checkRange_13 dX1_checkRange_15 dX1_checkRange_18 (fun x hx9 => (hnx x hx9).elim) (Nat.le_of_ble_eq_true rfl) (Nat.le_of_ble_eq_true rfl) (Nat.le_of_ble_eq_true rfl) (Nat.le_of_ble_eq_true rfl) hlocks (fun t ha hsz hk => ⟨2, rfl, ⟨rfl, hP.kept (fun k q hq => hk q.1 (hP k q hq).lt), va_K.moved ha hK, hD⟩, Nat.le_trans hS.1 hsz, fun q h1 h2 => (hk q (Nat.lt_of_lt_of_le h1 hS.1)).trans (hS.2.1 q h1 h2)⟩) hS.2.2 (Nat.le_of_ble_eq_true rfl) (Nat.le_of_ble_eq_true rfl)
  · replace hF := (if_neg c_1).symm.trans hF
    refine lv_iload_n hx hb dX1_checkRange_4 rfl (lv_at hl 0 rfl) ?_
    refine lv_iload_n hx hb dX1_checkRange_5 rfl (lv_at hl 1 rfl) ?_
    refine lv_icmp_le (tgt := 19) hx hb dX1_checkRange_6 (by decide) (fun c_2 => ?_) (fun c_2 => ?_)
    · replace hF := (if_pos c_2).symm.trans hF
      cases hF
      refine vx_ret ?_
      refine W.widen (k := 1) (n := 6) (Nat.le_of_ble_eq_true rfl) (Nat.le_of_ble_eq_true rfl) ?_
      exact W.vret hx hb hr (fun t ht hW => ⟨⟨_, rfl, ⟨rfl, rfl⟩, by rw [ht]; exact hP, va_K.moved hW.alike hK, hD⟩, hS.F ht⟩) hS.2.2 dX1_checkRange_19
    · replace hF := (if_neg c_2).symm.trans hF
      cases hF
      exact vx_throwS (own := RX1) (cls := "java/lang/IllegalArgumentException") (names := ["java/lang/RuntimeException", "java/lang/Exception"]) hx hb hl9 hown (by decide +kernel) (by decide +kernel) (hts _ (cwc _ mw_179)) (hts _ (cwc _ mw_8)) (XK_s189 hXK) (vx_hat (L := vx_atS RX1 86 "java/lang/IllegalArgumentException" ["java/lang/RuntimeException", "java/lang/Exception"]) (fun w hw => hts w (cwc w (hatA_2 w hw))) hatB_2 (vx_c (va_Nw.use rfl hXc2) (vx_c (va_Nw.use rfl hXd1) (vx_c (va_Nw.use rfl hXd2) (vx_c (va_Nw.use rfl hXd3) (vx_n)))))) hatC_2 hXU hXN hS (hl.1.trans hml.symm) dX1_checkRange_9 dX1_checkRange_12 dX1_checkRange_13 dX1_checkRange_15 dX1_checkRange_18 (fun x hx9 => (hnx x hx9).elim) (Nat.le_of_ble_eq_true rfl) (Nat.le_of_ble_eq_true rfl) (Nat.le_of_ble_eq_true rfl) (Nat.le_of_ble_eq_true rfl) hlocks (fun t ha hsz hk => ⟨2, rfl, ⟨rfl, hP.kept (fun k q hq => hk q.1 (hP k q hq).lt), va_K.moved ha hK, hD⟩, Nat.le_trans hS.1 hsz, fun q h1 h2 => (hk q (Nat.lt_of_lt_of_le h1 hS.1)).trans (hS.2.1 q h1 h2)⟩) hS.2.2 (Nat.le_of_ble_eq_true rfl) (Nat.le_of_ble_eq_true rfl)
def F_P_checkNotBelowZero (p0 : Int32) (u : Unit) : Option ((Nat ⊕ Unit) × Unit) := (if (0 : Int32) ≤ p0 then some ((.inr ()), ()) else some (.inl 2, ()))
set_option maxHeartbeats 4000000 in
set_option maxRecDepth 100000 in
theorem c_P_checkNotBelowZero (l : Launch) (hl9 : l.stackTraces = false) (D : va_G) (cI cR : ClassId) (sa : Nat → Nat)  (sz : Nat) (p0 : Int32) (u : Unit) (r : Nat ⊕ Unit) (u' : Unit) (hF : F_P_checkNotBelowZero p0 u = some (r, u')) : vx_Met l yX1_checkNotBelowZero wsX1_checkNotBelowZero ({ frames := 6, cells := 1, slots := 6, locals := 82 }) (va_Pc [.int p0] (PREX D (TY cI cR) ([] : va_W) sz sa)) (XV D (TY cI cR) (va_A ([] : va_W) sz) (fun (_ : Unit) => ([] : va_W)) r u') (XX D (TY cI cR) (va_A ([] : va_W) sz) (fun (_ : Unit) => ([] : va_W)) r u') 1 6 (va_A ([] : va_W) sz) := by
  refine vx_ofW (cc := cX1_checkNotBelowZero) (maxL := 1) (ret := none) (by decide) rfl ?_
  intro p e s m args below meth c s₁ B hml hnx hv
  obtain ⟨rfl, ⟨hsz, hP, hK, hD0⟩, hXK⟩ := hv
  have hx := B.exec
  have hb := B.bytes
  have hr := B.returns
  have hts := atoms_spec (ws := wsX1_checkNotBelowZero) B.pre
  have hown : s.vm.findClass RX1 = some m.cls := findClass_of_methodNamed B.named
  have hlocks := B.notSynchronized
  subst hsz
  have hD := hD0.self (sz := s.heap.size)
  generalize hAe : va_A ([] : va_W) s.heap.size = A at hD hXK ⊢
  have hA : ∀ q : Nat, s.heap.size ≤ q → A q := fun q h => by rw [← hAe]; exact Or.inr h
  have hS : va_S A s.heap s.heap [] := va_S.rf
  replace hP : va_P D vwCl ([] : va_W) s.heap := hP
  have hl := lv_entry ([.int p0]) (n := 1) (Nat.le_of_ble_eq_true rfl)
  rw [lg_entry_eq]
  generalize (lg_sl ([.int p0]) ++ List.replicate (1 - (lg_sl ([.int p0])).length) Slot.unset).toArray = ls at hl ⊢
  replace hl : lv_has ls 1 [(0, .int p0)] := hl
  obtain ⟨hXU, hXN, hXc1, hXc2, hXd1, hXd2, hXd3, hXn, -⟩ := id hXK
  unfold F_P_checkNotBelowZero at hF
  refine (?_ : ∀ (H : Heap) (locs : List Loc), va_P D vwCl ([] : va_W) H → va_S A s.heap H locs → W p l e _ s m _ below meth c H locs 0 0 _ (F0 m 0 ls [])) s.heap [] hP hS
  intro H locs hP hS
  refine lv_iload_n hx hb dX1_checkNotBelowZero_0 rfl (lv_at hl 0 rfl) ?_
  refine lv_if_ge (tgt := 14) hx hb dX1_checkNotBelowZero_1 (by decide) (fun c_1 => ?_) (fun c_1 => ?_)
  · replace hF := (if_pos c_1).symm.trans hF
    cases hF
    refine vx_ret ?_
    refine W.widen (k := 1) (n := 6) (Nat.le_of_ble_eq_true rfl) (Nat.le_of_ble_eq_true rfl) ?_
    exact W.vret hx hb hr (fun t ht hW => ⟨⟨_, rfl, ⟨rfl, rfl⟩, by rw [ht]; exact hP, va_K.moved hW.alike hK, hD⟩, hS.F ht⟩) hS.2.2 dX1_checkNotBelowZero_14
  · replace hF := (if_neg c_1).symm.trans hF
    cases hF
    exact vx_throwS (own := RX1) (cls := "java/lang/IllegalArgumentException") (names := ["java/lang/RuntimeException", "java/lang/Exception"]) hx hb hl9 hown (by decide +kernel) (by decide +kernel) (hts _ (cwc _ mw_179)) (hts _ (cwc _ mw_8)) (XK_s191 hXK) (vx_hat (L := vx_atS RX1 86 "java/lang/IllegalArgumentException" ["java/lang/RuntimeException", "java/lang/Exception"]) (fun w hw => hts w (cwc w (hatA_2 w hw))) hatB_2 (vx_c (va_Nw.use rfl hXc2) (vx_c (va_Nw.use rfl hXd1) (vx_c (va_Nw.use rfl hXd2) (vx_c (va_Nw.use rfl hXd3) (vx_n)))))) hatC_2 hXU hXN hS (hl.1.trans hml.symm) dX1_checkNotBelowZero_4 dX1_checkNotBelowZero_7 dX1_checkNotBelowZero_8 dX1_checkNotBelowZero_10 dX1_checkNotBelowZero_13 (fun x hx9 => (hnx x hx9).elim) (Nat.le_of_ble_eq_true rfl) (Nat.le_of_ble_eq_true rfl) (Nat.le_of_ble_eq_true rfl) (Nat.le_of_ble_eq_true rfl) hlocks (fun t ha hsz hk => ⟨2, rfl, ⟨rfl, hP.kept (fun k q hq => hk q.1 (hP k q hq).lt), va_K.moved ha hK, hD⟩, Nat.le_trans hS.1 hsz, fun q h1 h2 => (hk q (Nat.lt_of_lt_of_le h1 hS.1)).trans (hS.2.1 q h1 h2)⟩) hS.2.2 (Nat.le_of_ble_eq_true rfl) (Nat.le_of_ble_eq_true rfl)
def F_P_checkFellows (p1 : Int32) (p2 : Int32) (u : CSt) : Option ((Nat ⊕ Unit) × Unit) := (if p1 = p2 then some (.inl 2, ()) else gd (inb p1 16) (gd (inb p2 16) ((if (u.2.2.2.2.2.1 p1.toNatClampNeg) = (u.2.2.2.2.2.1 p2.toNatClampNeg) then some ((.inr ()), ()) else some (.inl 2, ())))))
set_option maxHeartbeats 4000000 in
set_option maxRecDepth 100000 in
theorem c_P_checkFellows (l : Launch) (hl9 : l.stackTraces = false) (D : va_G) (cI cR : ClassId) (sa : Nat → Nat) (ca qa : Nat → Nat) (sz : Nat) (p1 : Int32) (p2 : Int32) (u : CSt) (r : Nat ⊕ Unit) (u' : Unit) (hF : F_P_checkFellows p1 p2 u = some (r, u')) : vx_Met l yX1_checkFellows wsX1_checkFellows ({ frames := 6, cells := 1, slots := 6, locals := 82 }) (va_Pc [.ref (ca 0), .int p1, .int p2] (PREX D (TY cI cR) (CW cI cR ca qa u) sz sa)) (XV D (TY cI cR) (va_A (CW cI cR ca qa u) sz) (fun v => CW cI cR ca qa v) r u) (XX D (TY cI cR) (va_A (CW cI cR ca qa u) sz) (fun v => CW cI cR ca qa v) r u) 1 6 (va_A (CW cI cR ca qa u) sz) := by
  refine vx_ofW (cc := cX1_checkFellows) (maxL := 3) (ret := none) (by decide) rfl ?_
  intro p e s m args below meth c s₁ B hml hnx hv
  obtain ⟨rfl, ⟨hsz, hP, hK, hD0⟩, hXK⟩ := hv
  have hx := B.exec
  have hb := B.bytes
  have hr := B.returns
  have hts := atoms_spec (ws := wsX1_checkFellows) B.pre
  have hown : s.vm.findClass RX1 = some m.cls := findClass_of_methodNamed B.named
  have hlocks := B.notSynchronized
  subst hsz
  have hD := hD0.self (sz := s.heap.size)
  generalize hAe : va_A (CW cI cR ca qa u) s.heap.size = A at hD hXK ⊢
  have hA : ∀ q : Nat, s.heap.size ≤ q → A q := fun q h => by rw [← hAe]; exact Or.inr h
  have hS : va_S A s.heap s.heap [] := va_S.rf
  replace hP : va_P D vwCl (CW cI cR ca qa u) s.heap := hP
  have hl := lv_entry ([.ref (ca 0), .int p1, .int p2]) (n := 3) (Nat.le_of_ble_eq_true rfl)
  rw [lg_entry_eq]
  generalize (lg_sl ([.ref (ca 0), .int p1, .int p2]) ++ List.replicate (3 - (lg_sl ([.ref (ca 0), .int p1, .int p2])).length) Slot.unset).toArray = ls at hl ⊢
  replace hl : lv_has ls 3 [(0, .ref (ca 0)), (1, .int p1), (2, .int p2)] := hl
  have hk_34 := (hts _ (cwc _ mw_42))
  obtain ⟨hXU, hXN, hXc1, hXc2, hXd1, hXd2, hXd3, hXn, -⟩ := id hXK
  unfold F_P_checkFellows at hF
  refine (?_ : ∀ (H : Heap) (locs : List Loc), va_P D vwCl (CW cI cR ca qa u) H → va_S A s.heap H locs → W p l e _ s m _ below meth c H locs 0 0 _ (F0 m 0 ls [])) s.heap [] hP hS
  intro H locs hP hS
  refine lv_iload_n hx hb dX1_checkFellows_0 rfl (lv_at hl 1 rfl) ?_
  refine lv_iload_n hx hb dX1_checkFellows_1 rfl (lv_at hl 2 rfl) ?_
  refine lv_icmp_ne (tgt := 15) hx hb dX1_checkFellows_2 (by decide) (fun c_1 => ?_) (fun c_1 => ?_)
  · replace hF := (if_neg c_1).symm.trans hF
    refine lv_aload_n hx hb dX1_checkFellows_15 rfl (lv_at hl 0 rfl) ?_
    refine va_get (D := D) (ci := 1) (v := .ref (ca 8)) (C := RX1) (T := TX1) (N := 16) hx hb hts (fun w h => cwc w (in_X1 w h)) hown hK hP 0 rfl rfl 7 (by decide) hk_34 (fun _ h9 => h9) rfl dX1_checkFellows_16 ?_
    refine lv_iload_n hx hb dX1_checkFellows_19 rfl (lv_at hl 1 rfl) ?_
    obtain ⟨h_2, hF⟩ := gd_some hF
    refine va_iald (f := u.2.2.2.2.2.1) hx hb hK hP 8 0 rfl rfl (inb_in h_2) dX1_checkFellows_20 ?_
    refine lv_aload_n hx hb dX1_checkFellows_21 rfl (lv_at hl 0 rfl) ?_
    refine va_get (D := D) (ci := 1) (v := .ref (ca 8)) (C := RX1) (T := TX1) (N := 16) hx hb hts (fun w h => cwc w (in_X1 w h)) hown hK hP 0 rfl rfl 7 (by decide) hk_34 (fun _ h9 => h9) rfl dX1_checkFellows_22 ?_
    refine lv_iload_n hx hb dX1_checkFellows_25 rfl (lv_at hl 2 rfl) ?_
    obtain ⟨h_3, hF⟩ := gd_some hF
    refine va_iald (f := u.2.2.2.2.2.1) hx hb hK hP 8 0 rfl rfl (inb_in h_3) dX1_checkFellows_26 ?_
    refine lv_icmp_eq (tgt := 40) hx hb dX1_checkFellows_27 (by decide) (fun c_4 => ?_) (fun c_4 => ?_)
    · replace hF := (if_pos c_4).symm.trans hF
      cases hF
      refine vx_ret ?_
      refine W.widen (k := 1) (n := 6) (Nat.le_of_ble_eq_true rfl) (Nat.le_of_ble_eq_true rfl) ?_
      exact W.vret hx hb hr (fun t ht hW => ⟨⟨_, rfl, ⟨rfl, rfl⟩, by rw [ht]; exact hP, va_K.moved hW.alike hK, hD⟩, hS.F ht⟩) hS.2.2 dX1_checkFellows_40
    · replace hF := (if_neg c_4).symm.trans hF
      cases hF
      exact vx_throwS (own := RX1) (cls := "java/lang/IllegalArgumentException") (names := ["java/lang/RuntimeException", "java/lang/Exception"]) hx hb hl9 hown (by decide +kernel) (by decide +kernel) (hts _ (cwc _ mw_179)) (hts _ (cwc _ mw_8)) (XK_s178 hXK) (vx_hat (L := vx_atS RX1 86 "java/lang/IllegalArgumentException" ["java/lang/RuntimeException", "java/lang/Exception"]) (fun w hw => hts w (cwc w (hatA_2 w hw))) hatB_2 (vx_c (va_Nw.use rfl hXc2) (vx_c (va_Nw.use rfl hXd1) (vx_c (va_Nw.use rfl hXd2) (vx_c (va_Nw.use rfl hXd3) (vx_n)))))) hatC_2 hXU hXN hS (hl.1.trans hml.symm) dX1_checkFellows_30 dX1_checkFellows_33 dX1_checkFellows_34 dX1_checkFellows_36 dX1_checkFellows_39 (fun x hx9 => (hnx x hx9).elim) (Nat.le_of_ble_eq_true rfl) (Nat.le_of_ble_eq_true rfl) (Nat.le_of_ble_eq_true rfl) (Nat.le_of_ble_eq_true rfl) hlocks (fun t ha hsz hk => ⟨2, rfl, ⟨rfl, hP.kept (fun k q hq => hk q.1 (hP k q hq).lt), va_K.moved ha hK, hD⟩, Nat.le_trans hS.1 hsz, fun q h1 h2 => (hk q (Nat.lt_of_lt_of_le h1 hS.1)).trans (hS.2.1 q h1 h2)⟩) hS.2.2 (Nat.le_of_ble_eq_true rfl) (Nat.le_of_ble_eq_true rfl)
  · replace hF := (if_pos c_1).symm.trans hF
    cases hF
    exact vx_throwS (own := RX1) (cls := "java/lang/IllegalArgumentException") (names := ["java/lang/RuntimeException", "java/lang/Exception"]) hx hb hl9 hown (by decide +kernel) (by decide +kernel) (hts _ (cwc _ mw_179)) (hts _ (cwc _ mw_8)) (XK_s176 hXK) (vx_hat (L := vx_atS RX1 86 "java/lang/IllegalArgumentException" ["java/lang/RuntimeException", "java/lang/Exception"]) (fun w hw => hts w (cwc w (hatA_2 w hw))) hatB_2 (vx_c (va_Nw.use rfl hXc2) (vx_c (va_Nw.use rfl hXd1) (vx_c (va_Nw.use rfl hXd2) (vx_c (va_Nw.use rfl hXd3) (vx_n)))))) hatC_2 hXU hXN hS (hl.1.trans hml.symm) dX1_checkFellows_5 dX1_checkFellows_8 dX1_checkFellows_9 dX1_checkFellows_11 dX1_checkFellows_14 (fun x hx9 => (hnx x hx9).elim) (Nat.le_of_ble_eq_true rfl) (Nat.le_of_ble_eq_true rfl) (Nat.le_of_ble_eq_true rfl) (Nat.le_of_ble_eq_true rfl) hlocks (fun t ha hsz hk => ⟨2, rfl, ⟨rfl, hP.kept (fun k q hq => hk q.1 (hP k q hq).lt), va_K.moved ha hK, hD⟩, Nat.le_trans hS.1 hsz, fun q h1 h2 => (hk q (Nat.lt_of_lt_of_le h1 hS.1)).trans (hS.2.1 q h1 h2)⟩) hS.2.2 (Nat.le_of_ble_eq_true rfl) (Nat.le_of_ble_eq_true rfl)
def F_P_rowAt (p1 : Int32) (p2 : Int32) (u : CSt) : Option ((Option Nat) × Unit) := bi (F_P_isStation p1 ()) (fun r2 u1 => (if r2 = (0 : Int32) then (if p1 < (8 : Int32) then some (none, ()) else (if p1 < (24 : Int32) then gd (inb (p1 - (8 : Int32)) 16) (some ((some (32 + (p1 - (8 : Int32)).toNatClampNeg)), ())) else some (none, ()))) else bi (F_P_isKind p2 ()) (fun r10 u9 => (if r10 = (0 : Int32) then some (none, ()) else bi (F_P_stockIndex p1 p2 ()) (fun r14 u13 => gd (inb r14 32) (some ((some r14.toNatClampNeg), ())))))))
set_option maxHeartbeats 4000000 in
set_option maxRecDepth 100000 in
theorem c_P_rowAt (l : Launch) (D : va_G) (cI cR : ClassId) (ca qa : Nat → Nat) (sz : Nat) (p1 : Int32) (p2 : Int32) (u : CSt) (r : Option Nat) (u' : Unit) (hF : F_P_rowAt p1 p2 u = some (r, u')) : Met l yX1_rowAt wsX1_rowAt ({ frames := 1, cells := 0, slots := 0, locals := 21 }) (va_Pc [.ref (ca 0), .int p1, .int p2] (PRE D (TY cI cR) (CW cI cR ca qa u) sz)) (QQ D (TY cI cR) (va_A (CW cI cR ca qa u) sz) (fun v => CW cI cR ca qa v) (Option.map (fun j => qa (4 * j)) r) u) 0 0 (va_A (CW cI cR ca qa u) sz) := by
  refine Met.ofW (cc := cX1_rowAt) (maxL := 3) (ret := (some (.object "PacketStores$Row"))) (by decide) rfl ?_
  intro p e s m args below meth c s₁ B hml hv
  obtain ⟨rfl, hsz, hP, hK, hD0⟩ := hv
  have hx := B.exec
  have hb := B.bytes
  have hr := B.returns
  have hts := atoms_spec (ws := wsX1_rowAt) B.pre
  have hown : s.vm.findClass RX1 = some m.cls := findClass_of_methodNamed B.named
  have hlocks := B.notSynchronized
  subst hsz
  have hD := hD0.self (sz := s.heap.size)
  generalize hAe : va_A (CW cI cR ca qa u) s.heap.size = A at hD ⊢
  have hA : ∀ q : Nat, s.heap.size ≤ q → A q := fun q h => by rw [← hAe]; exact Or.inr h
  have hS : va_S A s.heap s.heap [] := va_S.rf
  replace hP : va_P D vwCl (CW cI cR ca qa u) s.heap := hP
  have hl := lv_entry ([.ref (ca 0), .int p1, .int p2]) (n := 3) (Nat.le_of_ble_eq_true rfl)
  rw [lg_entry_eq]
  generalize (lg_sl ([.ref (ca 0), .int p1, .int p2]) ++ List.replicate (3 - (lg_sl ([.ref (ca 0), .int p1, .int p2])).length) Slot.unset).toArray = ls at hl ⊢
  replace hl : lv_has ls 3 [(0, .ref (ca 0)), (1, .int p1), (2, .int p2)] := hl
  have hk_31 := (hts _ (cwc _ mw_41))
  have hk_11 := (hts _ (cwc _ mw_35))
  unfold F_P_rowAt at hF
  refine (?_ : ∀ (H : Heap) (locs : List Loc), va_P D vwCl (CW cI cR ca qa u) H → va_S A s.heap H locs → W p l e _ s m _ below meth c H locs 0 0 _ (F0 m 0 ls [])) s.heap [] hP hS
  intro H locs hP hS
  refine lv_iload_n hx hb dX1_rowAt_0 rfl (lv_at hl 1 rfl) ?_
  obtain ⟨r2, u1, hc_3, hF⟩ := bi_some hF
  refine kc_i (W1 := CW cI cR ca qa u) (va_runS (As := [.int p1]) (rest := []) ⟨hx, hb, hml, hown, hts⟩ (c_P_isStation l D cI cR  H.size p1 () r2 u1 hc_3) (va_cwS 1 hts (gS cwc mw_80 mw_81 mw_1 mw_82) rfl rfl rfl (by decide +kernel) ⟨(Nat.le_of_ble_eq_true rfl), (Nat.le_of_ble_eq_true rfl)⟩) (kp_S hK hP hD (sb_nil _)) rfl rfl hl.1 rfl (lv_room (Nat.le_of_ble_eq_true rfl)) dX1_rowAt_1 ⟨(Nat.le_of_ble_eq_true rfl), (Nat.le_of_ble_eq_true rfl)⟩) hP hD hS hA (sb_nil _) (jn_nil _) (fun H locs hP hD hS => ?_)
  refine lv_if_eq (tgt := 29) hx hb dX1_rowAt_4 (by decide) (fun c_4 => ?_) (fun c_4 => ?_)
  · replace hF := (if_pos c_4).symm.trans hF
    refine lv_iload_n hx hb dX1_rowAt_29 rfl (lv_at hl 1 rfl) ?_
    refine lv_bipush (v := (8 : Int32)) hx hb dX1_rowAt_30 (by decide +kernel) ?_
    refine lv_icmp_lt (tgt := 41) hx hb dX1_rowAt_32 (by decide) (fun c_5 => ?_) (fun c_5 => ?_)
    · replace hF := (if_pos c_5).symm.trans hF
      refine lv_null hx hb dX1_rowAt_41 ?_
      cases hF
      refine W.widen (k := 0) (n := 0) (Nat.le_of_ble_eq_true rfl) (Nat.le_of_ble_eq_true rfl) ?_
      exact W.aret hx hb hr (Or.inl ⟨_, rfl⟩) (Or.inl rfl) (fun t ht hW => ⟨⟨none, _, rfl, ⟨rfl, rfl⟩, by rw [ht]; exact hP, va_K.moved hW.alike hK, hD⟩, hS.F ht⟩) hS.2.2 dX1_rowAt_42
    · replace hF := (if_neg c_5).symm.trans hF
      refine lv_iload_n hx hb dX1_rowAt_35 rfl (lv_at hl 1 rfl) ?_
      refine lv_bipush (v := (24 : Int32)) hx hb dX1_rowAt_36 (by decide +kernel) ?_
      refine lv_icmp_lt (tgt := 43) hx hb dX1_rowAt_38 (by decide) (fun c_6 => ?_) (fun c_6 => ?_)
      · replace hF := (if_pos c_6).symm.trans hF
        refine lv_aload_n hx hb dX1_rowAt_43 rfl (lv_at hl 0 rfl) ?_
        refine va_get (D := D) (ci := 1) (v := .ref (ca 7)) (C := RX1) (T := TX1) (N := 16) hx hb hts (fun w h => cwc w (in_X1 w h)) hown hK hP 0 rfl rfl 6 (by decide) hk_31 (fun _ h9 => h9) rfl dX1_rowAt_44 ?_
        refine lv_iload_n hx hb dX1_rowAt_47 rfl (lv_at hl 1 rfl) ?_
        refine lv_bipush (v := (8 : Int32)) hx hb dX1_rowAt_48 (by decide +kernel) ?_
        refine lv_isub hx hb dX1_rowAt_50 ?_
        obtain ⟨h_7, hF⟩ := gd_some hF
        refine va_aldq hx hb hK hP 7 1 rfl rfl (inb_in h_7) dX1_rowAt_51 ?_
        refine W.eq (g2 := F0 m 52 ls [.ref (qa (4 * (32 + (p1 - (8 : Int32)).toNatClampNeg)))]) rfl ?_
        have hj_8 : (32 + (p1 - (8 : Int32)).toNatClampNeg) < 48 := by have := inb_lt h_7; omega
        cases hF
        refine W.widen (k := 0) (n := 0) (Nat.le_of_ble_eq_true rfl) (Nat.le_of_ble_eq_true rfl) ?_
        exact W.aret hx hb hr (Or.inl ⟨_, rfl⟩) (Or.inr ⟨_, rfl⟩) (fun t ht hW => ⟨⟨(some (qa (4 * (32 + (p1 - (8 : Int32)).toNatClampNeg)))), _, rfl, ⟨rfl, rfl⟩, by rw [ht]; exact hP, va_K.moved hW.alike hK, hD⟩, hS.F ht⟩) hS.2.2 dX1_rowAt_52
      · replace hF := (if_neg c_6).symm.trans hF
        refine lv_null hx hb dX1_rowAt_41 ?_
        cases hF
        refine W.widen (k := 0) (n := 0) (Nat.le_of_ble_eq_true rfl) (Nat.le_of_ble_eq_true rfl) ?_
        exact W.aret hx hb hr (Or.inl ⟨_, rfl⟩) (Or.inl rfl) (fun t ht hW => ⟨⟨none, _, rfl, ⟨rfl, rfl⟩, by rw [ht]; exact hP, va_K.moved hW.alike hK, hD⟩, hS.F ht⟩) hS.2.2 dX1_rowAt_42
  · replace hF := (if_neg c_4).symm.trans hF
    refine lv_iload_n hx hb dX1_rowAt_7 rfl (lv_at hl 2 rfl) ?_
    obtain ⟨r10, u9, hc_11, hF⟩ := bi_some hF
    refine kc_i (W1 := CW cI cR ca qa u) (va_runS (As := [.int p2]) (rest := []) ⟨hx, hb, hml, hown, hts⟩ (c_P_isKind l D cI cR  H.size p2 () r10 u9 hc_11) (va_cwS 1 hts (gS cwc mw_83 mw_84 mw_1 mw_85) rfl rfl rfl (by decide +kernel) ⟨(Nat.le_of_ble_eq_true rfl), (Nat.le_of_ble_eq_true rfl)⟩) (kp_S hK hP hD (sb_nil _)) rfl rfl hl.1 rfl (lv_room (Nat.le_of_ble_eq_true rfl)) dX1_rowAt_8 ⟨(Nat.le_of_ble_eq_true rfl), (Nat.le_of_ble_eq_true rfl)⟩) hP hD hS hA (sb_nil _) (jn_nil _) (fun H locs hP hD hS => ?_)
    refine lv_if_eq (tgt := 27) hx hb dX1_rowAt_11 (by decide) (fun c_12 => ?_) (fun c_12 => ?_)
    · replace hF := (if_pos c_12).symm.trans hF
      refine lv_null hx hb dX1_rowAt_27 ?_
      cases hF
      refine W.widen (k := 0) (n := 0) (Nat.le_of_ble_eq_true rfl) (Nat.le_of_ble_eq_true rfl) ?_
      exact W.aret hx hb hr (Or.inl ⟨_, rfl⟩) (Or.inl rfl) (fun t ht hW => ⟨⟨none, _, rfl, ⟨rfl, rfl⟩, by rw [ht]; exact hP, va_K.moved hW.alike hK, hD⟩, hS.F ht⟩) hS.2.2 dX1_rowAt_28
    · replace hF := (if_neg c_12).symm.trans hF
      refine lv_aload_n hx hb dX1_rowAt_14 rfl (lv_at hl 0 rfl) ?_
      refine va_get (D := D) (ci := 1) (v := .ref (ca 1)) (C := RX1) (T := TX1) (N := 16) hx hb hts (fun w h => cwc w (in_X1 w h)) hown hK hP 0 rfl rfl 0 (by decide) hk_11 (fun _ h9 => h9) rfl dX1_rowAt_15 ?_
      refine lv_iload_n hx hb dX1_rowAt_18 rfl (lv_at hl 1 rfl) ?_
      refine lv_iload_n hx hb dX1_rowAt_19 rfl (lv_at hl 2 rfl) ?_
      obtain ⟨r14, u13, hc_15, hF⟩ := bi_some hF
      refine kc_i (W1 := CW cI cR ca qa u) (va_runS (As := [.int p1, .int p2]) (rest := [.ref (ca 1)]) ⟨hx, hb, hml, hown, hts⟩ (c_P_stockIndex l D cI cR  H.size p1 p2 () r14 u13 hc_15) (va_cwS 2 hts (gS cwc mw_86 mw_87 mw_1 mw_88) rfl rfl rfl (by decide +kernel) ⟨(Nat.le_of_ble_eq_true rfl), (Nat.le_of_ble_eq_true rfl)⟩) (kp_S hK hP hD (sb_nil _)) rfl rfl hl.1 rfl (lv_room (Nat.le_of_ble_eq_true rfl)) dX1_rowAt_20 ⟨(Nat.le_of_ble_eq_true rfl), (Nat.le_of_ble_eq_true rfl)⟩) hP hD hS hA (sb_nil _) (jn_nil _) (fun H locs hP hD hS => ?_)
      obtain ⟨h_16, hF⟩ := gd_some hF
      refine va_aldq hx hb hK hP 1 1 rfl rfl (inb_in h_16) dX1_rowAt_23 ?_
      refine W.eq (g2 := F0 m 24 ls [.ref (qa (4 * r14.toNatClampNeg))]) rfl ?_
      have hj_17 : r14.toNatClampNeg < 48 := by have := inb_lt h_16; omega
      refine lv_goto (tgt := 28) hx hb dX1_rowAt_24 (by decide) ?_
      cases hF
      refine W.widen (k := 0) (n := 0) (Nat.le_of_ble_eq_true rfl) (Nat.le_of_ble_eq_true rfl) ?_
      exact W.aret hx hb hr (Or.inl ⟨_, rfl⟩) (Or.inr ⟨_, rfl⟩) (fun t ht hW => ⟨⟨(some (qa (4 * r14.toNatClampNeg))), _, rfl, ⟨rfl, rfl⟩, by rw [ht]; exact hP, va_K.moved hW.alike hK, hD⟩, hS.F ht⟩) hS.2.2 dX1_rowAt_28
def F_P_unitsInStocks_L4 : Nat → Int32 → Int32 → Int32 → CSt → Option ((Int32) × Unit)
  | 0, _, _, _, _ => none
  | n + 1, x1, x2, x3, u => (if (8 : Int32) ≤ x3 then some (x2, ()) else bi (F_P_stockIndex x3 x1 ()) (fun r3 u2 => gd (inb r3 32) (bi (F_Row_total (u.2.2.2.2.2.2.2.2.2.2.2.2.2.2 r3.toNatClampNeg)) (fun r8 u7 => nm ((x2 + r8)) (fun v10 => F_P_unitsInStocks_L4 n x1 v10 (x3 + (1 : Int32)) u)))))
def F_P_unitsInStocks (p1 : Int32) (u : CSt) : Option ((Int32) × Unit) := F_P_unitsInStocks_L4 9 p1 (0 : Int32) (0 : Int32) u
set_option maxHeartbeats 4000000 in
set_option maxRecDepth 100000 in
theorem w_P_unitsInStocks_L4 {p : Program} {l : Launch} {e : Env} {s : State} {m : MethodId} {args : Array Value} {below : List Frame} {meth : Method} {c : Code} {A : Nat → Prop} {D : va_G} {cI cR : ClassId} {ca qa : Nat → Nat} (hx : p.tables.exec = Jvm.exec) (hb : c.code = cX1_unitsInStocks) (hr : meth.sig.returnType = (some .int)) (hml : c.maxLocals = 4) (hown : s.vm.findClass RX1 = some m.cls) (hts : ∀ w ∈ wsX1_unitsInStocks, w.before args s = true) (hlocks : meth.locks = false) (hA : ∀ q : Nat, s.heap.size ≤ q → A q) (hK : va_K D vwCl (TY cI cR) s) : ∀ (n : Nat) (x1 x2 x3 : Int32) (u : CSt) (r : Int32) (u' : Unit), F_P_unitsInStocks_L4 n x1 x2 x3 u = some (r, u') → ∀ (H : Heap) (locs : List Loc) (ls : Array Slot), va_P D vwCl (CW cI cR ca qa u) H → va_D A (CW cI cR ca qa u) → va_S A s.heap H locs → lv_has ls 4 [(0, .ref (ca 0)), (1, .int x1), (2, .int x2), (3, .int x3)] → W p l e (headSpec wsX1_unitsInStocks ({ frames := 1, cells := 0, slots := 0, locals := 21 })).room s m args below meth c H locs 0 0 (MQ below (QI D (TY cI cR) A (fun v => CW cI cR ca qa v) r u) args s 0 0 A) (F0 m 4 ls []) := by
  have hk_11 := (hts _ (cwc _ mw_35))
  intro n
  induction n with
  | zero =>
    intro x1 x2 x3 u r u' hF
    rw [F_P_unitsInStocks_L4] at hF
    exact absurd hF (by simp)
  | succ n ih =>
    intro x1 x2 x3 u r u' hF H locs ls hP hD hS hl
    rw [F_P_unitsInStocks_L4] at hF
    refine lv_iload_n hx hb dX1_unitsInStocks_4 rfl (lv_at hl 3 rfl) ?_
    refine lv_bipush (v := (8 : Int32)) hx hb dX1_unitsInStocks_5 (by decide +kernel) ?_
    refine lv_icmp_ge (tgt := 32) hx hb dX1_unitsInStocks_7 (by decide) (fun c_1 => ?_) (fun c_1 => ?_)
    · replace hF := (if_pos c_1).symm.trans hF
      refine lv_iload_n hx hb dX1_unitsInStocks_32 rfl (lv_at hl 2 rfl) ?_
      cases hF
      refine W.widen (k := 0) (n := 0) (Nat.le_of_ble_eq_true rfl) (Nat.le_of_ble_eq_true rfl) ?_
      exact W.iret hx hb hr (fun t ht hW => ⟨⟨_, _, rfl, ⟨rfl, rfl⟩, by rw [ht]; exact hP, va_K.moved hW.alike hK, hD⟩, hS.F ht⟩) hS.2.2 dX1_unitsInStocks_33
    · replace hF := (if_neg c_1).symm.trans hF
      refine lv_iload_n hx hb dX1_unitsInStocks_10 rfl (lv_at hl 2 rfl) ?_
      refine lv_aload_n hx hb dX1_unitsInStocks_11 rfl (lv_at hl 0 rfl) ?_
      refine va_get (D := D) (ci := 1) (v := .ref (ca 1)) (C := RX1) (T := TX1) (N := 16) hx hb hts (fun w h => cwc w (in_X1 w h)) hown hK hP 0 rfl rfl 0 (by decide) hk_11 (fun _ h9 => h9) rfl dX1_unitsInStocks_12 ?_
      refine lv_iload_n hx hb dX1_unitsInStocks_15 rfl (lv_at hl 3 rfl) ?_
      refine lv_iload_n hx hb dX1_unitsInStocks_16 rfl (lv_at hl 1 rfl) ?_
      obtain ⟨r3, u2, hc_4, hF⟩ := bi_some hF
      refine kc_i (W1 := CW cI cR ca qa u) (va_runS (As := [.int x3, .int x1]) (rest := [.ref (ca 1), .int x2]) ⟨hx, hb, hml, hown, hts⟩ (c_P_stockIndex l D cI cR  H.size x3 x1 () r3 u2 hc_4) (va_cwS 2 hts (gS cwc mw_86 mw_87 mw_1 mw_88) rfl rfl rfl (by decide +kernel) ⟨(Nat.le_of_ble_eq_true rfl), (Nat.le_of_ble_eq_true rfl)⟩) (kp_S hK hP hD (sb_nil _)) rfl rfl hl.1 rfl (lv_room (Nat.le_of_ble_eq_true rfl)) dX1_unitsInStocks_17 ⟨(Nat.le_of_ble_eq_true rfl), (Nat.le_of_ble_eq_true rfl)⟩) hP hD hS hA (sb_nil _) (jn_nil _) (fun H locs hP hD hS => ?_)
      obtain ⟨h_5, hF⟩ := gd_some hF
      refine va_aldq hx hb hK hP 1 1 rfl rfl (inb_in h_5) dX1_unitsInStocks_20 ?_
      refine W.eq (g2 := F0 m 21 ls [.ref (qa (4 * r3.toNatClampNeg)), .int x2]) rfl ?_
      have hj_6 : r3.toNatClampNeg < 48 := by have := inb_lt h_5; omega
      obtain ⟨r8, u7, hc_9, hF⟩ := bi_some hF
      refine kc_i (W1 := CW cI cR ca qa u) (va_runV (As := []) (rest := [.int x2]) ⟨hx, hb, hml, hown, hts⟩ (c_Row_total l D cI cR (qa (4 * r3.toNatClampNeg)) (qa (4 * r3.toNatClampNeg + 1)) (qa (4 * r3.toNatClampNeg + 2)) (qa (4 * r3.toNatClampNeg + 3)) H.size  (u.2.2.2.2.2.2.2.2.2.2.2.2.2.2 r3.toNatClampNeg) r8 u7 hc_9) (cwV 0 hts (gV cwc mw_97 mw_98 mw_99 mw_2 mw_100) rfl rfl rfl (by decide +kernel) ⟨(Nat.le_of_ble_eq_true rfl), (Nat.le_of_ble_eq_true rfl)⟩) (kp_V (ci := 0) (q := (RX0, TX0, 5)) hK hP hD (cw_sb hj_6) rfl rfl) rfl rfl hl.1 rfl (lv_room (Nat.le_of_ble_eq_true rfl)) dX1_unitsInStocks_21 ⟨(Nat.le_of_ble_eq_true rfl), (Nat.le_of_ble_eq_true rfl)⟩) hP hD hS hA (cw_sb hj_6) (jn_same (cw_sb hj_6)) (fun H locs hP hD hS => ?_)
      refine lv_iadd hx hb dX1_unitsInStocks_24 ?_
      obtain ⟨v10, ev10, hF⟩ := nm_some hF
      refine W.eq (g2 := F0 m 25 ls (.int v10 :: [])) (congrArg (fun z => F0 m 25 ls (.int z :: [])) ev10.symm) ?_
      refine lv_istore_n (lv' := [(2, .int v10), (0, .ref (ca 0)), (1, .int x1), (3, .int x3)]) hx hb dX1_unitsInStocks_25 rfl hl (by decide) rfl (fun ls hl => ?_)
      refine lv_iinc (v := (x3 + (1 : Int32))) (lv' := [(3, .int (x3 + (1 : Int32))), (2, .int v10), (0, .ref (ca 0)), (1, .int x1)]) hx hb dX1_unitsInStocks_26 hl (k := 3) rfl rfl (by decide) rfl (fun ls hl => ?_)
      refine lv_goto (tgt := 4) hx hb dX1_unitsInStocks_29 (by decide) ?_
      exact ih x1 v10 (x3 + (1 : Int32)) u _ _ hF H locs ls hP hD hS (lv_sub hl [2, 3, 1, 0] rfl)
set_option maxHeartbeats 4000000 in
set_option maxRecDepth 100000 in
theorem c_P_unitsInStocks (l : Launch) (D : va_G) (cI cR : ClassId) (ca qa : Nat → Nat) (sz : Nat) (p1 : Int32) (u : CSt) (r : Int32) (u' : Unit) (hF : F_P_unitsInStocks p1 u = some (r, u')) : Met l yX1_unitsInStocks wsX1_unitsInStocks ({ frames := 1, cells := 0, slots := 0, locals := 21 }) (va_Pc [.ref (ca 0), .int p1] (PRE D (TY cI cR) (CW cI cR ca qa u) sz)) (QI D (TY cI cR) (va_A (CW cI cR ca qa u) sz) (fun v => CW cI cR ca qa v) r u) 0 0 (va_A (CW cI cR ca qa u) sz) := by
  refine Met.ofW (cc := cX1_unitsInStocks) (maxL := 4) (ret := (some .int)) (by decide) rfl ?_
  intro p e s m args below meth c s₁ B hml hv
  obtain ⟨rfl, hsz, hP, hK, hD0⟩ := hv
  have hx := B.exec
  have hb := B.bytes
  have hr := B.returns
  have hts := atoms_spec (ws := wsX1_unitsInStocks) B.pre
  have hown : s.vm.findClass RX1 = some m.cls := findClass_of_methodNamed B.named
  have hlocks := B.notSynchronized
  subst hsz
  have hD := hD0.self (sz := s.heap.size)
  generalize hAe : va_A (CW cI cR ca qa u) s.heap.size = A at hD ⊢
  have hA : ∀ q : Nat, s.heap.size ≤ q → A q := fun q h => by rw [← hAe]; exact Or.inr h
  have hS : va_S A s.heap s.heap [] := va_S.rf
  replace hP : va_P D vwCl (CW cI cR ca qa u) s.heap := hP
  have hl := lv_entry ([.ref (ca 0), .int p1]) (n := 4) (Nat.le_of_ble_eq_true rfl)
  rw [lg_entry_eq]
  generalize (lg_sl ([.ref (ca 0), .int p1]) ++ List.replicate (4 - (lg_sl ([.ref (ca 0), .int p1])).length) Slot.unset).toArray = ls at hl ⊢
  replace hl : lv_has ls 4 [(0, .ref (ca 0)), (1, .int p1)] := hl
  have hk_11 := (hts _ (cwc _ mw_35))
  unfold F_P_unitsInStocks at hF
  refine (?_ : ∀ (H : Heap) (locs : List Loc), va_P D vwCl (CW cI cR ca qa u) H → va_S A s.heap H locs → W p l e _ s m _ below meth c H locs 0 0 _ (F0 m 0 ls [])) s.heap [] hP hS
  intro H locs hP hS
  refine lv_iconst (v := (0 : Int32)) hx hb dX1_unitsInStocks_0 (by decide +kernel) ?_
  refine lv_istore_n (lv' := [(2, .int (0 : Int32)), (0, .ref (ca 0)), (1, .int p1)]) hx hb dX1_unitsInStocks_1 rfl hl (by decide) rfl (fun ls hl => ?_)
  refine lv_iconst (v := (0 : Int32)) hx hb dX1_unitsInStocks_2 (by decide +kernel) ?_
  refine lv_istore_n (lv' := [(3, .int (0 : Int32)), (2, .int (0 : Int32)), (0, .ref (ca 0)), (1, .int p1)]) hx hb dX1_unitsInStocks_3 rfl hl (by decide) rfl (fun ls hl => ?_)
  exact w_P_unitsInStocks_L4 hx hb hr hml hown hts hlocks hA hK 9 p1 (0 : Int32) (0 : Int32) u _ _ hF H locs ls hP hD hS (lv_sub hl [2, 3, 1, 0] rfl)
def F_P_unitsInWagons_L4 : Nat → Int32 → Int32 → Int32 → CSt → Option ((Int32) × Unit)
  | 0, _, _, _, _ => none
  | n + 1, x1, x2, x3, u => (if (16 : Int32) ≤ x3 then some (x2, ()) else gd (inb x3 16) ((if (u.2.2.2.2.2.1 x3.toNatClampNeg) = x1 then gd (inb x3 16) (bi (F_Row_total (u.2.2.2.2.2.2.2.2.2.2.2.2.2.2 (32 + x3.toNatClampNeg))) (fun r7 u6 => nm ((x2 + r7)) (fun v9 => F_P_unitsInWagons_L4 n x1 v9 (x3 + (1 : Int32)) u))) else F_P_unitsInWagons_L4 n x1 x2 (x3 + (1 : Int32)) u)))
def F_P_unitsInWagons (p1 : Int32) (u : CSt) : Option ((Int32) × Unit) := F_P_unitsInWagons_L4 17 p1 (0 : Int32) (0 : Int32) u
set_option maxHeartbeats 4000000 in
set_option maxRecDepth 100000 in
theorem w_P_unitsInWagons_L4 {p : Program} {l : Launch} {e : Env} {s : State} {m : MethodId} {args : Array Value} {below : List Frame} {meth : Method} {c : Code} {A : Nat → Prop} {D : va_G} {cI cR : ClassId} {ca qa : Nat → Nat} (hx : p.tables.exec = Jvm.exec) (hb : c.code = cX1_unitsInWagons) (hr : meth.sig.returnType = (some .int)) (hml : c.maxLocals = 4) (hown : s.vm.findClass RX1 = some m.cls) (hts : ∀ w ∈ wsX1_unitsInWagons, w.before args s = true) (hlocks : meth.locks = false) (hA : ∀ q : Nat, s.heap.size ≤ q → A q) (hK : va_K D vwCl (TY cI cR) s) : ∀ (n : Nat) (x1 x2 x3 : Int32) (u : CSt) (r : Int32) (u' : Unit), F_P_unitsInWagons_L4 n x1 x2 x3 u = some (r, u') → ∀ (H : Heap) (locs : List Loc) (ls : Array Slot), va_P D vwCl (CW cI cR ca qa u) H → va_D A (CW cI cR ca qa u) → va_S A s.heap H locs → lv_has ls 4 [(0, .ref (ca 0)), (1, .int x1), (2, .int x2), (3, .int x3)] → W p l e (headSpec wsX1_unitsInWagons ({ frames := 1, cells := 0, slots := 0, locals := 20 })).room s m args below meth c H locs 0 0 (MQ below (QI D (TY cI cR) A (fun v => CW cI cR ca qa v) r u) args s 0 0 A) (F0 m 4 ls []) := by
  have hk_34 := (hts _ (cwc _ mw_42))
  have hk_31 := (hts _ (cwc _ mw_41))
  intro n
  induction n with
  | zero =>
    intro x1 x2 x3 u r u' hF
    rw [F_P_unitsInWagons_L4] at hF
    exact absurd hF (by simp)
  | succ n ih =>
    intro x1 x2 x3 u r u' hF H locs ls hP hD hS hl
    rw [F_P_unitsInWagons_L4] at hF
    refine lv_iload_n hx hb dX1_unitsInWagons_4 rfl (lv_at hl 3 rfl) ?_
    refine lv_bipush (v := (16 : Int32)) hx hb dX1_unitsInWagons_5 (by decide +kernel) ?_
    refine lv_icmp_ge (tgt := 38) hx hb dX1_unitsInWagons_7 (by decide) (fun c_1 => ?_) (fun c_1 => ?_)
    · replace hF := (if_pos c_1).symm.trans hF
      refine lv_iload_n hx hb dX1_unitsInWagons_38 rfl (lv_at hl 2 rfl) ?_
      cases hF
      refine W.widen (k := 0) (n := 0) (Nat.le_of_ble_eq_true rfl) (Nat.le_of_ble_eq_true rfl) ?_
      exact W.iret hx hb hr (fun t ht hW => ⟨⟨_, _, rfl, ⟨rfl, rfl⟩, by rw [ht]; exact hP, va_K.moved hW.alike hK, hD⟩, hS.F ht⟩) hS.2.2 dX1_unitsInWagons_39
    · replace hF := (if_neg c_1).symm.trans hF
      refine lv_aload_n hx hb dX1_unitsInWagons_10 rfl (lv_at hl 0 rfl) ?_
      refine va_get (D := D) (ci := 1) (v := .ref (ca 8)) (C := RX1) (T := TX1) (N := 16) hx hb hts (fun w h => cwc w (in_X1 w h)) hown hK hP 0 rfl rfl 7 (by decide) hk_34 (fun _ h9 => h9) rfl dX1_unitsInWagons_11 ?_
      refine lv_iload_n hx hb dX1_unitsInWagons_14 rfl (lv_at hl 3 rfl) ?_
      obtain ⟨h_2, hF⟩ := gd_some hF
      refine va_iald (f := u.2.2.2.2.2.1) hx hb hK hP 8 0 rfl rfl (inb_in h_2) dX1_unitsInWagons_15 ?_
      refine lv_iload_n hx hb dX1_unitsInWagons_16 rfl (lv_at hl 1 rfl) ?_
      refine lv_icmp_ne (tgt := 32) hx hb dX1_unitsInWagons_17 (by decide) (fun c_3 => ?_) (fun c_3 => ?_)
      · replace hF := (if_neg c_3).symm.trans hF
        refine lv_iinc (v := (x3 + (1 : Int32))) (lv' := [(3, .int (x3 + (1 : Int32))), (0, .ref (ca 0)), (1, .int x1), (2, .int x2)]) hx hb dX1_unitsInWagons_32 hl (k := 3) rfl rfl (by decide) rfl (fun ls hl => ?_)
        refine lv_goto (tgt := 4) hx hb dX1_unitsInWagons_35 (by decide) ?_
        exact ih x1 x2 (x3 + (1 : Int32)) u _ _ hF H locs ls hP hD hS (lv_sub hl [1, 2, 3, 0] rfl)
      · replace hF := (if_pos c_3).symm.trans hF
        refine lv_iload_n hx hb dX1_unitsInWagons_20 rfl (lv_at hl 2 rfl) ?_
        refine lv_aload_n hx hb dX1_unitsInWagons_21 rfl (lv_at hl 0 rfl) ?_
        refine va_get (D := D) (ci := 1) (v := .ref (ca 7)) (C := RX1) (T := TX1) (N := 16) hx hb hts (fun w h => cwc w (in_X1 w h)) hown hK hP 0 rfl rfl 6 (by decide) hk_31 (fun _ h9 => h9) rfl dX1_unitsInWagons_22 ?_
        refine lv_iload_n hx hb dX1_unitsInWagons_25 rfl (lv_at hl 3 rfl) ?_
        obtain ⟨h_4, hF⟩ := gd_some hF
        refine va_aldq hx hb hK hP 7 1 rfl rfl (inb_in h_4) dX1_unitsInWagons_26 ?_
        refine W.eq (g2 := F0 m 27 ls [.ref (qa (4 * (32 + x3.toNatClampNeg))), .int x2]) rfl ?_
        have hj_5 : (32 + x3.toNatClampNeg) < 48 := by have := inb_lt h_4; omega
        obtain ⟨r7, u6, hc_8, hF⟩ := bi_some hF
        refine kc_i (W1 := CW cI cR ca qa u) (va_runV (As := []) (rest := [.int x2]) ⟨hx, hb, hml, hown, hts⟩ (c_Row_total l D cI cR (qa (4 * (32 + x3.toNatClampNeg))) (qa (4 * (32 + x3.toNatClampNeg) + 1)) (qa (4 * (32 + x3.toNatClampNeg) + 2)) (qa (4 * (32 + x3.toNatClampNeg) + 3)) H.size  (u.2.2.2.2.2.2.2.2.2.2.2.2.2.2 (32 + x3.toNatClampNeg)) r7 u6 hc_8) (cwV 0 hts (gV cwc mw_97 mw_98 mw_99 mw_2 mw_100) rfl rfl rfl (by decide +kernel) ⟨(Nat.le_of_ble_eq_true rfl), (Nat.le_of_ble_eq_true rfl)⟩) (kp_V (ci := 0) (q := (RX0, TX0, 5)) hK hP hD (cw_sb hj_5) rfl rfl) rfl rfl hl.1 rfl (lv_room (Nat.le_of_ble_eq_true rfl)) dX1_unitsInWagons_27 ⟨(Nat.le_of_ble_eq_true rfl), (Nat.le_of_ble_eq_true rfl)⟩) hP hD hS hA (cw_sb hj_5) (jn_same (cw_sb hj_5)) (fun H locs hP hD hS => ?_)
        refine lv_iadd hx hb dX1_unitsInWagons_30 ?_
        obtain ⟨v9, ev9, hF⟩ := nm_some hF
        refine W.eq (g2 := F0 m 31 ls (.int v9 :: [])) (congrArg (fun z => F0 m 31 ls (.int z :: [])) ev9.symm) ?_
        refine lv_istore_n (lv' := [(2, .int v9), (0, .ref (ca 0)), (1, .int x1), (3, .int x3)]) hx hb dX1_unitsInWagons_31 rfl hl (by decide) rfl (fun ls hl => ?_)
        refine lv_iinc (v := (x3 + (1 : Int32))) (lv' := [(3, .int (x3 + (1 : Int32))), (2, .int v9), (0, .ref (ca 0)), (1, .int x1)]) hx hb dX1_unitsInWagons_32 hl (k := 3) rfl rfl (by decide) rfl (fun ls hl => ?_)
        refine lv_goto (tgt := 4) hx hb dX1_unitsInWagons_35 (by decide) ?_
        exact ih x1 v9 (x3 + (1 : Int32)) u _ _ hF H locs ls hP hD hS (lv_sub hl [2, 3, 1, 0] rfl)
set_option maxHeartbeats 4000000 in
set_option maxRecDepth 100000 in
theorem c_P_unitsInWagons (l : Launch) (D : va_G) (cI cR : ClassId) (ca qa : Nat → Nat) (sz : Nat) (p1 : Int32) (u : CSt) (r : Int32) (u' : Unit) (hF : F_P_unitsInWagons p1 u = some (r, u')) : Met l yX1_unitsInWagons wsX1_unitsInWagons ({ frames := 1, cells := 0, slots := 0, locals := 20 }) (va_Pc [.ref (ca 0), .int p1] (PRE D (TY cI cR) (CW cI cR ca qa u) sz)) (QI D (TY cI cR) (va_A (CW cI cR ca qa u) sz) (fun v => CW cI cR ca qa v) r u) 0 0 (va_A (CW cI cR ca qa u) sz) := by
  refine Met.ofW (cc := cX1_unitsInWagons) (maxL := 4) (ret := (some .int)) (by decide) rfl ?_
  intro p e s m args below meth c s₁ B hml hv
  obtain ⟨rfl, hsz, hP, hK, hD0⟩ := hv
  have hx := B.exec
  have hb := B.bytes
  have hr := B.returns
  have hts := atoms_spec (ws := wsX1_unitsInWagons) B.pre
  have hown : s.vm.findClass RX1 = some m.cls := findClass_of_methodNamed B.named
  have hlocks := B.notSynchronized
  subst hsz
  have hD := hD0.self (sz := s.heap.size)
  generalize hAe : va_A (CW cI cR ca qa u) s.heap.size = A at hD ⊢
  have hA : ∀ q : Nat, s.heap.size ≤ q → A q := fun q h => by rw [← hAe]; exact Or.inr h
  have hS : va_S A s.heap s.heap [] := va_S.rf
  replace hP : va_P D vwCl (CW cI cR ca qa u) s.heap := hP
  have hl := lv_entry ([.ref (ca 0), .int p1]) (n := 4) (Nat.le_of_ble_eq_true rfl)
  rw [lg_entry_eq]
  generalize (lg_sl ([.ref (ca 0), .int p1]) ++ List.replicate (4 - (lg_sl ([.ref (ca 0), .int p1])).length) Slot.unset).toArray = ls at hl ⊢
  replace hl : lv_has ls 4 [(0, .ref (ca 0)), (1, .int p1)] := hl
  have hk_34 := (hts _ (cwc _ mw_42))
  have hk_31 := (hts _ (cwc _ mw_41))
  unfold F_P_unitsInWagons at hF
  refine (?_ : ∀ (H : Heap) (locs : List Loc), va_P D vwCl (CW cI cR ca qa u) H → va_S A s.heap H locs → W p l e _ s m _ below meth c H locs 0 0 _ (F0 m 0 ls [])) s.heap [] hP hS
  intro H locs hP hS
  refine lv_iconst (v := (0 : Int32)) hx hb dX1_unitsInWagons_0 (by decide +kernel) ?_
  refine lv_istore_n (lv' := [(2, .int (0 : Int32)), (0, .ref (ca 0)), (1, .int p1)]) hx hb dX1_unitsInWagons_1 rfl hl (by decide) rfl (fun ls hl => ?_)
  refine lv_iconst (v := (0 : Int32)) hx hb dX1_unitsInWagons_2 (by decide +kernel) ?_
  refine lv_istore_n (lv' := [(3, .int (0 : Int32)), (2, .int (0 : Int32)), (0, .ref (ca 0)), (1, .int p1)]) hx hb dX1_unitsInWagons_3 rfl hl (by decide) rfl (fun ls hl => ?_)
  exact w_P_unitsInWagons_L4 hx hb hr hml hown hts hlocks hA hK 17 p1 (0 : Int32) (0 : Int32) u _ _ hF H locs ls hP hD hS (lv_sub hl [2, 3, 1, 0] rfl)
