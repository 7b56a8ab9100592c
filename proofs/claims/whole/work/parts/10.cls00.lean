def F_P_stockIndex (p0 : Int32) (p1 : Int32) (u : Unit) : Option ((Int32) × Unit) := some (((p0 * (4 : Int32)) + p1), ())
set_option maxHeartbeats 4000000 in
set_option maxRecDepth 100000 in
theorem c_P_stockIndex (l : Launch) (D : va_G) (cI cR : ClassId)  (sz : Nat) (p0 : Int32) (p1 : Int32) (u : Unit) (r : Int32) (u' : Unit) (hF : F_P_stockIndex p0 p1 u = some (r, u')) : Met l yX1_stockIndex wsX1_stockIndex ({ frames := 0, cells := 0, slots := 0, locals := 0 }) (va_Pc [.int p0, .int p1] (PRE D (TY cI cR) ([] : va_W) sz)) (QI D (TY cI cR) (va_A ([] : va_W) sz) (fun (_ : Unit) => ([] : va_W)) r u') 0 0 (va_A ([] : va_W) sz) := by
  refine Met.ofW (cc := cX1_stockIndex) (maxL := 2) (ret := (some .int)) (by decide) rfl ?_
  intro p e s m args below meth c s₁ B hml hv
  obtain ⟨rfl, hsz, hP, hK, hD0⟩ := hv
  have hx := B.exec
  have hb := B.bytes
  have hr := B.returns
  have hts := atoms_spec (ws := wsX1_stockIndex) B.pre
  have hown : s.vm.findClass RX1 = some m.cls := findClass_of_methodNamed B.named
  have hlocks := B.notSynchronized
  subst hsz
  have hD := hD0.self (sz := s.heap.size)
  generalize hAe : va_A ([] : va_W) s.heap.size = A at hD ⊢
  have hA : ∀ q : Nat, s.heap.size ≤ q → A q := fun q h => by rw [← hAe]; exact Or.inr h
  have hS : va_S A s.heap s.heap [] := va_S.rf
  replace hP : va_P D vwCl ([] : va_W) s.heap := hP
  have hl := lv_entry ([.int p0, .int p1]) (n := 2) (Nat.le_of_ble_eq_true rfl)
  rw [lg_entry_eq]
  generalize (lg_sl ([.int p0, .int p1]) ++ List.replicate (2 - (lg_sl ([.int p0, .int p1])).length) Slot.unset).toArray = ls at hl ⊢
  replace hl : lv_has ls 2 [(0, .int p0), (1, .int p1)] := hl
  unfold F_P_stockIndex at hF
  refine (?_ : ∀ (H : Heap) (locs : List Loc), va_P D vwCl ([] : va_W) H → va_S A s.heap H locs → W p l e _ s m _ below meth c H locs 0 0 _ (F0 m 0 ls [])) s.heap [] hP hS
  intro H locs hP hS
  refine lv_iload_n hx hb dX1_stockIndex_0 rfl (lv_at hl 0 rfl) ?_
  refine lv_iconst (v := (4 : Int32)) hx hb dX1_stockIndex_1 (by decide +kernel) ?_
  refine lv_imul hx hb dX1_stockIndex_2 ?_
  refine lv_iload_n hx hb dX1_stockIndex_3 rfl (lv_at hl 1 rfl) ?_
  refine lv_iadd hx hb dX1_stockIndex_4 ?_
  cases hF
  refine W.widen (k := 0) (n := 0) (Nat.le_of_ble_eq_true rfl) (Nat.le_of_ble_eq_true rfl) ?_
  exact W.iret hx hb hr (fun t ht hW => ⟨⟨_, _, rfl, ⟨rfl, rfl⟩, by rw [ht]; exact hP, va_K.moved hW.alike hK, hD⟩, hS.F ht⟩) hS.2.2 dX1_stockIndex_5
def F_P_isStation (p0 : Int32) (u : Unit) : Option ((Int32) × Unit) := (if p0 < (0 : Int32) then some ((0 : Int32), ()) else (if (8 : Int32) ≤ p0 then some ((0 : Int32), ()) else some ((1 : Int32), ())))
set_option maxHeartbeats 4000000 in
set_option maxRecDepth 100000 in
theorem c_P_isStation (l : Launch) (D : va_G) (cI cR : ClassId)  (sz : Nat) (p0 : Int32) (u : Unit) (r : Int32) (u' : Unit) (hF : F_P_isStation p0 u = some (r, u')) : Met l yX1_isStation wsX1_isStation ({ frames := 0, cells := 0, slots := 0, locals := 0 }) (va_Pc [.int p0] (PRE D (TY cI cR) ([] : va_W) sz)) (QI D (TY cI cR) (va_A ([] : va_W) sz) (fun (_ : Unit) => ([] : va_W)) r u') 0 0 (va_A ([] : va_W) sz) := by
  refine Met.ofW (cc := cX1_isStation) (maxL := 1) (ret := (some .boolean)) (by decide) rfl ?_
  intro p e s m args below meth c s₁ B hml hv
  obtain ⟨rfl, hsz, hP, hK, hD0⟩ := hv
  have hx := B.exec
  have hb := B.bytes
  have hr := B.returns
  have hts := atoms_spec (ws := wsX1_isStation) B.pre
  have hown : s.vm.findClass RX1 = some m.cls := findClass_of_methodNamed B.named
  have hlocks := B.notSynchronized
  subst hsz
  have hD := hD0.self (sz := s.heap.size)
  generalize hAe : va_A ([] : va_W) s.heap.size = A at hD ⊢
  have hA : ∀ q : Nat, s.heap.size ≤ q → A q := fun q h => by rw [← hAe]; exact Or.inr h
  have hS : va_S A s.heap s.heap [] := va_S.rf
  replace hP : va_P D vwCl ([] : va_W) s.heap := hP
  have hl := lv_entry ([.int p0]) (n := 1) (Nat.le_of_ble_eq_true rfl)
  rw [lg_entry_eq]
  generalize (lg_sl ([.int p0]) ++ List.replicate (1 - (lg_sl ([.int p0])).length) Slot.unset).toArray = ls at hl ⊢
  replace hl : lv_has ls 1 [(0, .int p0)] := hl
  unfold F_P_isStation at hF
  refine (?_ : ∀ (H : Heap) (locs : List Loc), va_P D vwCl ([] : va_W) H → va_S A s.heap H locs → W p l e _ s m _ below meth c H locs 0 0 _ (F0 m 0 ls [])) s.heap [] hP hS
  intro H locs hP hS
  refine lv_iload_n hx hb dX1_isStation_0 rfl (lv_at hl 0 rfl) ?_
  refine lv_if_lt (tgt := 14) hx hb dX1_isStation_1 (by decide) (fun c_1 => ?_) (fun c_1 => ?_)
  · replace hF := (if_pos c_1).symm.trans hF
    refine lv_iconst (v := (0 : Int32)) hx hb dX1_isStation_14 (by decide +kernel) ?_
    cases hF
    refine W.widen (k := 0) (n := 0) (Nat.le_of_ble_eq_true rfl) (Nat.le_of_ble_eq_true rfl) ?_
    exact W.zret hx hb hr rfl (fun t ht hW => ⟨⟨_, _, rfl, ⟨rfl, rfl⟩, by rw [ht]; exact hP, va_K.moved hW.alike hK, hD⟩, hS.F ht⟩) hS.2.2 dX1_isStation_15
  · replace hF := (if_neg c_1).symm.trans hF
    refine lv_iload_n hx hb dX1_isStation_4 rfl (lv_at hl 0 rfl) ?_
    refine lv_bipush (v := (8 : Int32)) hx hb dX1_isStation_5 (by decide +kernel) ?_
    refine lv_icmp_ge (tgt := 14) hx hb dX1_isStation_7 (by decide) (fun c_2 => ?_) (fun c_2 => ?_)
    · replace hF := (if_pos c_2).symm.trans hF
      refine lv_iconst (v := (0 : Int32)) hx hb dX1_isStation_14 (by decide +kernel) ?_
      cases hF
      refine W.widen (k := 0) (n := 0) (Nat.le_of_ble_eq_true rfl) (Nat.le_of_ble_eq_true rfl) ?_
      exact W.zret hx hb hr rfl (fun t ht hW => ⟨⟨_, _, rfl, ⟨rfl, rfl⟩, by rw [ht]; exact hP, va_K.moved hW.alike hK, hD⟩, hS.F ht⟩) hS.2.2 dX1_isStation_15
    · replace hF := (if_neg c_2).symm.trans hF
      refine lv_iconst (v := (1 : Int32)) hx hb dX1_isStation_10 (by decide +kernel) ?_
      refine lv_goto (tgt := 15) hx hb dX1_isStation_11 (by decide) ?_
      cases hF
      refine W.widen (k := 0) (n := 0) (Nat.le_of_ble_eq_true rfl) (Nat.le_of_ble_eq_true rfl) ?_
      exact W.zret hx hb hr rfl (fun t ht hW => ⟨⟨_, _, rfl, ⟨rfl, rfl⟩, by rw [ht]; exact hP, va_K.moved hW.alike hK, hD⟩, hS.F ht⟩) hS.2.2 dX1_isStation_15
def F_P_isKind (p0 : Int32) (u : Unit) : Option ((Int32) × Unit) := (if p0 < (0 : Int32) then some ((0 : Int32), ()) else (if (4 : Int32) ≤ p0 then some ((0 : Int32), ()) else some ((1 : Int32), ())))
set_option maxHeartbeats 4000000 in
set_option maxRecDepth 100000 in
theorem c_P_isKind (l : Launch) (D : va_G) (cI cR : ClassId)  (sz : Nat) (p0 : Int32) (u : Unit) (r : Int32) (u' : Unit) (hF : F_P_isKind p0 u = some (r, u')) : Met l yX1_isKind wsX1_isKind ({ frames := 0, cells := 0, slots := 0, locals := 0 }) (va_Pc [.int p0] (PRE D (TY cI cR) ([] : va_W) sz)) (QI D (TY cI cR) (va_A ([] : va_W) sz) (fun (_ : Unit) => ([] : va_W)) r u') 0 0 (va_A ([] : va_W) sz) := by
  refine Met.ofW (cc := cX1_isKind) (maxL := 1) (ret := (some .boolean)) (by decide) rfl ?_
  intro p e s m args below meth c s₁ B hml hv
  obtain ⟨rfl, hsz, hP, hK, hD0⟩ := hv
  have hx := B.exec
  have hb := B.bytes
  have hr := B.returns
  have hts := atoms_spec (ws := wsX1_isKind) B.pre
  have hown : s.vm.findClass RX1 = some m.cls := findClass_of_methodNamed B.named
  have hlocks := B.notSynchronized
  subst hsz
  have hD := hD0.self (sz := s.heap.size)
  generalize hAe : va_A ([] : va_W) s.heap.size = A at hD ⊢
  have hA : ∀ q : Nat, s.heap.size ≤ q → A q := fun q h => by rw [← hAe]; exact Or.inr h
  have hS : va_S A s.heap s.heap [] := va_S.rf
  replace hP : va_P D vwCl ([] : va_W) s.heap := hP
  have hl := lv_entry ([.int p0]) (n := 1) (Nat.le_of_ble_eq_true rfl)
  rw [lg_entry_eq]
  generalize (lg_sl ([.int p0]) ++ List.replicate (1 - (lg_sl ([.int p0])).length) Slot.unset).toArray = ls at hl ⊢
  replace hl : lv_has ls 1 [(0, .int p0)] := hl
  unfold F_P_isKind at hF
  refine (?_ : ∀ (H : Heap) (locs : List Loc), va_P D vwCl ([] : va_W) H → va_S A s.heap H locs → W p l e _ s m _ below meth c H locs 0 0 _ (F0 m 0 ls [])) s.heap [] hP hS
  intro H locs hP hS
  refine lv_iload_n hx hb dX1_isKind_0 rfl (lv_at hl 0 rfl) ?_
  refine lv_if_lt (tgt := 13) hx hb dX1_isKind_1 (by decide) (fun c_1 => ?_) (fun c_1 => ?_)
  · replace hF := (if_pos c_1).symm.trans hF
    refine lv_iconst (v := (0 : Int32)) hx hb dX1_isKind_13 (by decide +kernel) ?_
    cases hF
    refine W.widen (k := 0) (n := 0) (Nat.le_of_ble_eq_true rfl) (Nat.le_of_ble_eq_true rfl) ?_
    exact W.zret hx hb hr rfl (fun t ht hW => ⟨⟨_, _, rfl, ⟨rfl, rfl⟩, by rw [ht]; exact hP, va_K.moved hW.alike hK, hD⟩, hS.F ht⟩) hS.2.2 dX1_isKind_14
  · replace hF := (if_neg c_1).symm.trans hF
    refine lv_iload_n hx hb dX1_isKind_4 rfl (lv_at hl 0 rfl) ?_
    refine lv_iconst (v := (4 : Int32)) hx hb dX1_isKind_5 (by decide +kernel) ?_
    refine lv_icmp_ge (tgt := 13) hx hb dX1_isKind_6 (by decide) (fun c_2 => ?_) (fun c_2 => ?_)
    · replace hF := (if_pos c_2).symm.trans hF
      refine lv_iconst (v := (0 : Int32)) hx hb dX1_isKind_13 (by decide +kernel) ?_
      cases hF
      refine W.widen (k := 0) (n := 0) (Nat.le_of_ble_eq_true rfl) (Nat.le_of_ble_eq_true rfl) ?_
      exact W.zret hx hb hr rfl (fun t ht hW => ⟨⟨_, _, rfl, ⟨rfl, rfl⟩, by rw [ht]; exact hP, va_K.moved hW.alike hK, hD⟩, hS.F ht⟩) hS.2.2 dX1_isKind_14
    · replace hF := (if_neg c_2).symm.trans hF
      refine lv_iconst (v := (1 : Int32)) hx hb dX1_isKind_9 (by decide +kernel) ?_
      refine lv_goto (tgt := 14) hx hb dX1_isKind_10 (by decide) ?_
      cases hF
      refine W.widen (k := 0) (n := 0) (Nat.le_of_ble_eq_true rfl) (Nat.le_of_ble_eq_true rfl) ?_
      exact W.zret hx hb hr rfl (fun t ht hW => ⟨⟨_, _, rfl, ⟨rfl, rfl⟩, by rw [ht]; exact hP, va_K.moved hW.alike hK, hD⟩, hS.F ht⟩) hS.2.2 dX1_isKind_14
def F_P_checkStation (p0 : Int32) (u : Unit) : Option ((Nat ⊕ Unit) × Unit) := bi (F_P_isStation p0 ()) (fun r2 u1 => (if r2 = (0 : Int32) then some (.inl 1, ()) else some ((.inr ()), ())))
set_option maxHeartbeats 4000000 in
set_option maxRecDepth 100000 in
theorem c_P_checkStation (l : Launch) (hl9 : l.stackTraces = false) (D : va_G) (cI cR : ClassId) (sa : Nat → Nat)  (sz : Nat) (p0 : Int32) (u : Unit) (r : Nat ⊕ Unit) (u' : Unit) (hF : F_P_checkStation p0 u = some (r, u')) : vx_Met l yX1_checkStation wsX1_checkStation ({ frames := 6, cells := 1, slots := 6, locals := 82 }) (va_Pc [.int p0] (PREX D (TY cI cR) ([] : va_W) sz sa)) (XV D (TY cI cR) (va_A ([] : va_W) sz) (fun (_ : Unit) => ([] : va_W)) r u') (XX D (TY cI cR) (va_A ([] : va_W) sz) (fun (_ : Unit) => ([] : va_W)) r u') 1 6 (va_A ([] : va_W) sz) := by
  refine vx_ofW (cc := cX1_checkStation) (maxL := 1) (ret := none) (by decide) rfl ?_
  intro p e s m args below meth c s₁ B hml hnx hv
  obtain ⟨rfl, ⟨hsz, hP, hK, hD0⟩, hXK⟩ := hv
  have hx := B.exec
  have hb := B.bytes
  have hr := B.returns
  have hts := atoms_spec (ws := wsX1_checkStation) B.pre
  have hown : s.vm.findClass RX1 = some m.cls := findClass_of_methodNamed B.named
  have hlocks := B.notSynchronized
  subst hsz
  have hD := hD0.self (sz := s.heap.size)
  generalize hAe : va_A ([] : va_W) s.heap.size = A at hD hXK ⊢
  have hA : ∀ q : Nat, s.heap.size ≤ q → A q := fun q h => by rw [← hAe]; exact Or.inr h
  have hS : va_S A s.heap s.heap [] := va_S.rf
  replace hP : va_P D vwCl ([] : va_W) s.heap := hP
  have hl := lv_entry ([.int p0]) (n := 1) (Nat.le_of_ble_eq_true rfl)
  rw [lg_entry_eq]
  generalize (lg_sl ([.int p0]) ++ List.replicate (1 - (lg_sl ([.int p0])).length) Slot.unset).toArray = ls at hl ⊢
  replace hl : lv_has ls 1 [(0, .int p0)] := hl
  obtain ⟨hXU, hXN, hXc1, hXc2, hXd1, hXd2, hXd3, hXn, -⟩ := id hXK
  unfold F_P_checkStation at hF
  refine (?_ : ∀ (H : Heap) (locs : List Loc), va_P D vwCl ([] : va_W) H → va_S A s.heap H locs → W p l e _ s m _ below meth c H locs 0 0 _ (F0 m 0 ls [])) s.heap [] hP hS
  intro H locs hP hS
  refine lv_iload_n hx hb dX1_checkStation_0 rfl (lv_at hl 0 rfl) ?_
  obtain ⟨r2, u1, hc_3, hF⟩ := bi_some hF
  refine kc_i (W1 := ([] : va_W)) (va_runS (As := [.int p0]) (rest := []) ⟨hx, hb, hml, hown, hts⟩ (c_P_isStation l D cI cR  H.size p0 () r2 u1 hc_3) (va_cwS 1 hts (gS cwc mw_80 mw_81 mw_1 mw_82) rfl rfl rfl (by decide +kernel) ⟨(Nat.le_of_ble_eq_true rfl), (Nat.le_of_ble_eq_true rfl)⟩) (kp_S hK hP hD (sb_nil _)) rfl rfl hl.1 rfl (lv_room (Nat.le_of_ble_eq_true rfl)) dX1_checkStation_1 ⟨(Nat.le_of_ble_eq_true rfl), (Nat.le_of_ble_eq_true rfl)⟩) hP hD hS hA (sb_nil _) (jn_nil _) (fun H locs hP hD hS => ?_)
  refine lv_if_ne (tgt := 17) hx hb dX1_checkStation_4 (by decide) (fun c_4 => ?_) (fun c_4 => ?_)
  · replace hF := (if_neg c_4).symm.trans hF
    cases hF
    refine vx_ret ?_
    refine W.widen (k := 1) (n := 6) (Nat.le_of_ble_eq_true rfl) (Nat.le_of_ble_eq_true rfl) ?_
    exact W.vret hx hb hr (fun t ht hW => ⟨⟨_, rfl, ⟨rfl, rfl⟩, by rw [ht]; exact hP, va_K.moved hW.alike hK, hD⟩, hS.F ht⟩) hS.2.2 dX1_checkStation_17
  · replace hF := (if_pos c_4).symm.trans hF
    cases hF
    exact vx_throwS (own := RX1) (cls := "java/lang/IndexOutOfBoundsException") (names := ["java/lang/RuntimeException", "java/lang/Exception"]) hx hb hl9 hown (by decide +kernel) (by decide +kernel) (hts _ (cwc _ mw_127)) (hts _ (cwc _ mw_7)) (XK_s182 hXK) (vx_hat (L := vx_atS RX1 184 "java/lang/IndexOutOfBoundsException" ["java/lang/RuntimeException", "java/lang/Exception"]) (fun w hw => hts w (cwc w (hatA_1 w hw))) hatB_1 (vx_c (va_Nw.use rfl hXc1) (vx_c (va_Nw.use rfl hXd1) (vx_c (va_Nw.use rfl hXd2) (vx_c (va_Nw.use rfl hXd3) (vx_n)))))) hatC_1 hXU hXN hS (hl.1.trans hml.symm) dX1_checkStation_7 dX1_checkStation_10 dX1_checkStation_11 dX1_checkStation_13 dX1_checkStation_16 (fun x hx9 => (hnx x hx9).elim) (Nat.le_of_ble_eq_true rfl) (Nat.le_of_ble_eq_true rfl) (Nat.le_of_ble_eq_true rfl) (Nat.le_of_ble_eq_true rfl) hlocks (fun t ha hsz hk => ⟨1, rfl, ⟨rfl, hP.kept (fun k q hq => hk q.1 (hP k q hq).lt), va_K.moved ha hK, hD⟩, Nat.le_trans hS.1 hsz, fun q h1 h2 => (hk q (Nat.lt_of_lt_of_le h1 hS.1)).trans (hS.2.1 q h1 h2)⟩) hS.2.2 (Nat.le_of_ble_eq_true rfl) (Nat.le_of_ble_eq_true rfl)
def F_P_checkKind (p0 : Int32) (u : Unit) : Option ((Nat ⊕ Unit) × Unit) := bi (F_P_isKind p0 ()) (fun r2 u1 => (if r2 = (0 : Int32) then some (.inl 1, ()) else some ((.inr ()), ())))
set_option maxHeartbeats 4000000 in
set_option maxRecDepth 100000 in
theorem c_P_checkKind (l : Launch) (hl9 : l.stackTraces = false) (D : va_G) (cI cR : ClassId) (sa : Nat → Nat)  (sz : Nat) (p0 : Int32) (u : Unit) (r : Nat ⊕ Unit) (u' : Unit) (hF : F_P_checkKind p0 u = some (r, u')) : vx_Met l yX1_checkKind wsX1_checkKind ({ frames := 6, cells := 1, slots := 6, locals := 82 }) (va_Pc [.int p0] (PREX D (TY cI cR) ([] : va_W) sz sa)) (XV D (TY cI cR) (va_A ([] : va_W) sz) (fun (_ : Unit) => ([] : va_W)) r u') (XX D (TY cI cR) (va_A ([] : va_W) sz) (fun (_ : Unit) => ([] : va_W)) r u') 1 6 (va_A ([] : va_W) sz) := by
  refine vx_ofW (cc := cX1_checkKind) (maxL := 1) (ret := none) (by decide) rfl ?_
  intro p e s m args below meth c s₁ B hml hnx hv
  obtain ⟨rfl, ⟨hsz, hP, hK, hD0⟩, hXK⟩ := hv
  have hx := B.exec
  have hb := B.bytes
  have hr := B.returns
  have hts := atoms_spec (ws := wsX1_checkKind) B.pre
  have hown : s.vm.findClass RX1 = some m.cls := findClass_of_methodNamed B.named
  have hlocks := B.notSynchronized
  subst hsz
  have hD := hD0.self (sz := s.heap.size)
  generalize hAe : va_A ([] : va_W) s.heap.size = A at hD hXK ⊢
  have hA : ∀ q : Nat, s.heap.size ≤ q → A q := fun q h => by rw [← hAe]; exact Or.inr h
  have hS : va_S A s.heap s.heap [] := va_S.rf
  replace hP : va_P D vwCl ([] : va_W) s.heap := hP
  have hl := lv_entry ([.int p0]) (n := 1) (Nat.le_of_ble_eq_true rfl)
  rw [lg_entry_eq]
  generalize (lg_sl ([.int p0]) ++ List.replicate (1 - (lg_sl ([.int p0])).length) Slot.unset).toArray = ls at hl ⊢
  replace hl : lv_has ls 1 [(0, .int p0)] := hl
  obtain ⟨hXU, hXN, hXc1, hXc2, hXd1, hXd2, hXd3, hXn, -⟩ := id hXK
  unfold F_P_checkKind at hF
  refine (?_ : ∀ (H : Heap) (locs : List Loc), va_P D vwCl ([] : va_W) H → va_S A s.heap H locs → W p l e _ s m _ below meth c H locs 0 0 _ (F0 m 0 ls [])) s.heap [] hP hS
  intro H locs hP hS
  refine lv_iload_n hx hb dX1_checkKind_0 rfl (lv_at hl 0 rfl) ?_
  obtain ⟨r2, u1, hc_3, hF⟩ := bi_some hF
  refine kc_i (W1 := ([] : va_W)) (va_runS (As := [.int p0]) (rest := []) ⟨hx, hb, hml, hown, hts⟩ (c_P_isKind l D cI cR  H.size p0 () r2 u1 hc_3) (va_cwS 1 hts (gS cwc mw_83 mw_84 mw_1 mw_85) rfl rfl rfl (by decide +kernel) ⟨(Nat.le_of_ble_eq_true rfl), (Nat.le_of_ble_eq_true rfl)⟩) (kp_S hK hP hD (sb_nil _)) rfl rfl hl.1 rfl (lv_room (Nat.le_of_ble_eq_true rfl)) dX1_checkKind_1 ⟨(Nat.le_of_ble_eq_true rfl), (Nat.le_of_ble_eq_true rfl)⟩) hP hD hS hA (sb_nil _) (jn_nil _) (fun H locs hP hD hS => ?_)
  refine lv_if_ne (tgt := 17) hx hb dX1_checkKind_4 (by decide) (fun c_4 => ?_) (fun c_4 => ?_)
  · replace hF := (if_neg c_4).symm.trans hF
    cases hF
    refine vx_ret ?_
    refine W.widen (k := 1) (n := 6) (Nat.le_of_ble_eq_true rfl) (Nat.le_of_ble_eq_true rfl) ?_
    exact W.vret hx hb hr (fun t ht hW => ⟨⟨_, rfl, ⟨rfl, rfl⟩, by rw [ht]; exact hP, va_K.moved hW.alike hK, hD⟩, hS.F ht⟩) hS.2.2 dX1_checkKind_17
  · replace hF := (if_pos c_4).symm.trans hF
    cases hF
    exact vx_throwS (own := RX1) (cls := "java/lang/IndexOutOfBoundsException") (names := ["java/lang/RuntimeException", "java/lang/Exception"]) hx hb hl9 hown (by decide +kernel) (by decide +kernel) (hts _ (cwc _ mw_127)) (hts _ (cwc _ mw_7)) (XK_s185 hXK) (vx_hat (L := vx_atS RX1 184 "java/lang/IndexOutOfBoundsException" ["java/lang/RuntimeException", "java/lang/Exception"]) (fun w hw => hts w (cwc w (hatA_1 w hw))) hatB_1 (vx_c (va_Nw.use rfl hXc1) (vx_c (va_Nw.use rfl hXd1) (vx_c (va_Nw.use rfl hXd2) (vx_c (va_Nw.use rfl hXd3) (vx_n)))))) hatC_1 hXU hXN hS (hl.1.trans hml.symm) dX1_checkKind_7 dX1_checkKind_10 dX1_checkKind_11 dX1_checkKind_13 dX1_checkKind_16 (fun x hx9 => (hnx x hx9).elim) (Nat.le_of_ble_eq_true rfl) (Nat.le_of_ble_eq_true rfl) (Nat.le_of_ble_eq_true rfl) (Nat.le_of_ble_eq_true rfl) hlocks (fun t ha hsz hk => ⟨1, rfl, ⟨rfl, hP.kept (fun k q hq => hk q.1 (hP k q hq).lt), va_K.moved ha hK, hD⟩, Nat.le_trans hS.1 hsz, fun q h1 h2 => (hk q (Nat.lt_of_lt_of_le h1 hS.1)).trans (hS.2.1 q h1 h2)⟩) hS.2.2 (Nat.le_of_ble_eq_true rfl) (Nat.le_of_ble_eq_true rfl)
def F_P_checkWagon (p0 : Int32) (u : Unit) : Option ((Nat ⊕ Unit) × Unit) := (if p0 < (0 : Int32) then some (.inl 1, ()) else (if p0 < (16 : Int32) then some ((.inr ()), ()) else some (.inl 1, ())))
set_option maxHeartbeats 4000000 in
set_option maxRecDepth 100000 in
theorem c_P_checkWagon (l : Launch) (hl9 : l.stackTraces = false) (D : va_G) (cI cR : ClassId) (sa : Nat → Nat)  (sz : Nat) (p0 : Int32) (u : Unit) (r : Nat ⊕ Unit) (u' : Unit) (hF : F_P_checkWagon p0 u = some (r, u')) : vx_Met l yX1_checkWagon wsX1_checkWagon ({ frames := 6, cells := 1, slots := 6, locals := 82 }) (va_Pc [.int p0] (PREX D (TY cI cR) ([] : va_W) sz sa)) (XV D (TY cI cR) (va_A ([] : va_W) sz) (fun (_ : Unit) => ([] : va_W)) r u') (XX D (TY cI cR) (va_A ([] : va_W) sz) (fun (_ : Unit) => ([] : va_W)) r u') 1 6 (va_A ([] : va_W) sz) := by
  refine vx_ofW (cc := cX1_checkWagon) (maxL := 1) (ret := none) (by decide) rfl ?_
  intro p e s m args below meth c s₁ B hml hnx hv
  obtain ⟨rfl, ⟨hsz, hP, hK, hD0⟩, hXK⟩ := hv
  have hx := B.exec
  have hb := B.bytes
  have hr := B.returns
  have hts := atoms_spec (ws := wsX1_checkWagon) B.pre
  have hown : s.vm.findClass RX1 = some m.cls := findClass_of_methodNamed B.named
  have hlocks := B.notSynchronized
  subst hsz
  have hD := hD0.self (sz := s.heap.size)
  generalize hAe : va_A ([] : va_W) s.heap.size = A at hD hXK ⊢
  have hA : ∀ q : Nat, s.heap.size ≤ q → A q := fun q h => by rw [← hAe]; exact Or.inr h
  have hS : va_S A s.heap s.heap [] := va_S.rf
  replace hP : va_P D vwCl ([] : va_W) s.heap := hP
  have hl := lv_entry ([.int p0]) (n := 1) (Nat.le_of_ble_eq_true rfl)
  rw [lg_entry_eq]
  generalize (lg_sl ([.int p0]) ++ List.replicate (1 - (lg_sl ([.int p0])).length) Slot.unset).toArray = ls at hl ⊢
  replace hl : lv_has ls 1 [(0, .int p0)] := hl
  obtain ⟨hXU, hXN, hXc1, hXc2, hXd1, hXd2, hXd3, hXn, -⟩ := id hXK
  unfold F_P_checkWagon at hF
  refine (?_ : ∀ (H : Heap) (locs : List Loc), va_P D vwCl ([] : va_W) H → va_S A s.heap H locs → W p l e _ s m _ below meth c H locs 0 0 _ (F0 m 0 ls [])) s.heap [] hP hS
  intro H locs hP hS
  refine lv_iload_n hx hb dX1_checkWagon_0 rfl (lv_at hl 0 rfl) ?_
  refine lv_if_lt (tgt := 10) hx hb dX1_checkWagon_1 (by decide) (fun c_1 => ?_) (fun c_1 => ?_)
  · replace hF := (if_pos c_1).symm.trans hF
    cases hF
    exact vx_throwS (own := RX1) (cls := "java/lang/IndexOutOfBoundsException") (names := ["java/lang/RuntimeException", "java/lang/Exception"]) hx hb hl9 hown (by decide +kernel) (by decide +kernel) (hts _ (cwc _ mw_127)) (hts _ (cwc _ mw_7)) (XK_s187 hXK) (vx_hat (L := vx_atS RX1 184 "java/lang/IndexOutOfBoundsException" ["java/lang/RuntimeException", "java/lang/Exception"]) (fun w hw => hts w (cwc w (hatA_1 w hw))) hatB_1 (vx_c (va_Nw.use rfl hXc1) (vx_c (va_Nw.use rfl hXd1) (vx_c (va_Nw.use rfl hXd2) (vx_c (va_Nw.use rfl hXd3) (vx_n)))))) hatC_1 hXU hXN hS (hl.1.trans hml.symm) dX1_checkWagon_10 dX1_checkWagon_13 dX1_checkWagon_14 dX1_checkWagon_16 dX1_checkWagon_19 (fun x hx9 => (hnx x hx9).elim) (Nat.le_of_ble_eq_true rfl) (Nat.le_of_ble_eq_true rfl) (Nat.le_of_ble_eq_true rfl) (Nat.le_of_ble_eq_true rfl) hlocks (fun t ha hsz hk => ⟨1, rfl, ⟨rfl, hP.kept (fun k q hq => hk q.1 (hP k q hq).lt), va_K.moved ha hK, hD⟩, Nat.le_trans hS.1 hsz, fun q h1 h2 => (hk q (Nat.lt_of_lt_of_le h1 hS.1)).trans (hS.2.1 q h1 h2)⟩) hS.2.2 (Nat.le_of_ble_eq_true rfl) (Nat.le_of_ble_eq_true rfl)
  · replace hF := (if_neg c_1).symm.trans hF
    refine lv_iload_n hx hb dX1_checkWagon_4 rfl (lv_at hl 0 rfl) ?_
    refine lv_bipush (v := (16 : Int32)) hx hb dX1_checkWagon_5 (by decide +kernel) ?_
    refine lv_icmp_lt (tgt := 20) hx hb dX1_checkWagon_7 (by decide) (fun c_2 => ?_) (fun c_2 => ?_)
    · replace hF := (if_pos c_2).symm.trans hF
      cases hF
      refine vx_ret ?_
      refine W.widen (k := 1) (n := 6) (Nat.le_of_ble_eq_true rfl) (Nat.le_of_ble_eq_true rfl) ?_
      exact W.vret hx hb hr (fun t ht hW => ⟨⟨_, rfl, ⟨rfl, rfl⟩, by rw [ht]; exact hP, va_K.moved hW.alike hK, hD⟩, hS.F ht⟩) hS.2.2 dX1_checkWagon_20
    · replace hF := (if_neg c_2).symm.trans hF
      cases hF
      exact vx_throwS (own := RX1) (cls := "java/lang/IndexOutOfBoundsException") (names := ["java/lang/RuntimeException", "java/lang/Exception"]) hx hb hl9 hown (by decide +kernel) (by decide +kernel) (hts _ (cwc _ mw_127)) (hts _ (cwc _ mw_7)) (XK_s187 hXK) (vx_hat (L := vx_atS RX1 184 "java/lang/IndexOutOfBoundsException" ["java/lang/RuntimeException", "java/lang/Exception"]) (fun w hw => hts w (cwc w (hatA_1 w hw))) hatB_1 (vx_c (va_Nw.use rfl hXc1) (vx_c (va_Nw.use rfl hXd1) (vx_c (va_Nw.use rfl hXd2) (vx_c (va_Nw.use rfl hXd3) (vx_n)))))) hatC_1 hXU hXN hS (hl.1.trans hml.symm) dX1_checkWagon_10 dX1_checkWagon_13 dX1_checkWagon_14 dX1_checkWagon_16 dX1_checkWagon_19 (fun x hx9 => (hnx x hx9).elim) (Nat.le_of_ble_eq_true rfl) (Nat.le_of_ble_eq_true rfl) (Nat.le_of_ble_eq_true rfl) (Nat.le_of_ble_eq_true rfl) hlocks (fun t ha hsz hk => ⟨1, rfl, ⟨rfl, hP.kept (fun k q hq => hk q.1 (hP k q hq).lt), va_K.moved ha hK, hD⟩, Nat.le_trans hS.1 hsz, fun q h1 h2 => (hk q (Nat.lt_of_lt_of_le h1 hS.1)).trans (hS.2.1 q h1 h2)⟩) hS.2.2 (Nat.le_of_ble_eq_true rfl) (Nat.le_of_ble_eq_true rfl)
