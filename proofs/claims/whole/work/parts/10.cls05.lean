def F_P_accept (p1 : Int32) (p2 : Int32) (u : CSt) : Option ((Nat ⊕ Unit) × CSt) := bi (F_P_checkStation p1 ()) (fun or2 u1 => ox or2 (fun e_4 => some (.inl e_4, u)) (fun _ => bi (F_P_checkRange p2 (15 : Int32) ()) (fun or7 u6 => ox or7 (fun e_9 => some (.inl e_9, u)) (fun _ => gd (inb p1 8) (some ((.inr ()), (u.1, u.2.1, u.2.2.1, u.2.2.2.1, (upd u.2.2.2.2.1 p1.toNatClampNeg p2), u.2.2.2.2.2.1, u.2.2.2.2.2.2.1, u.2.2.2.2.2.2.2.1, u.2.2.2.2.2.2.2.2.1, u.2.2.2.2.2.2.2.2.2.1, u.2.2.2.2.2.2.2.2.2.2.1, u.2.2.2.2.2.2.2.2.2.2.2.1, u.2.2.2.2.2.2.2.2.2.2.2.2.1, u.2.2.2.2.2.2.2.2.2.2.2.2.2.1, u.2.2.2.2.2.2.2.2.2.2.2.2.2.2)))))))
set_option maxHeartbeats 4000000 in
set_option maxRecDepth 100000 in
theorem c_P_accept (l : Launch) (hl9 : l.stackTraces = false) (D : va_G) (cI cR : ClassId) (sa : Nat → Nat) (ca qa : Nat → Nat) (sz : Nat) (p1 : Int32) (p2 : Int32) (u : CSt) (r : Nat ⊕ Unit) (u' : CSt) (hF : F_P_accept p1 p2 u = some (r, u')) : vx_Met l yX1_accept wsX1_accept ({ frames := 7, cells := 2, slots := 12, locals := 103 }) (va_Pc [.ref (ca 0), .int p1, .int p2] (PREX D (TY cI cR) (CW cI cR ca qa u) sz sa)) (XV D (TY cI cR) (va_A (CW cI cR ca qa u) sz) (fun v => CW cI cR ca qa v) r u') (XX D (TY cI cR) (va_A (CW cI cR ca qa u) sz) (fun v => CW cI cR ca qa v) r u') 2 12 (va_A (CW cI cR ca qa u) sz) := by
  refine vx_ofW (cc := cX1_accept) (maxL := 3) (ret := none) (by decide) rfl ?_
  intro p e s m args below meth c s₁ B hml hnx hv
  obtain ⟨rfl, ⟨hsz, hP, hK, hD0⟩, hXK⟩ := hv
  have hx := B.exec
  have hb := B.bytes
  have hr := B.returns
  have hts := atoms_spec (ws := wsX1_accept) B.pre
  have hown : s.vm.findClass RX1 = some m.cls := findClass_of_methodNamed B.named
  have hlocks := B.notSynchronized
  subst hsz
  have hD := hD0.self (sz := s.heap.size)
  generalize hAe : va_A (CW cI cR ca qa u) s.heap.size = A at hD hXK ⊢
  have hA : ∀ q : Nat, s.heap.size ≤ q → A q := fun q h => by rw [← hAe]; exact Or.inr h
  have hS : va_S A s.heap s.heap [] := va_S.rf
  replace hP : va_P D vwCl (CW cI cR ca qa u) s.heap := hP
  have hl := lv_entry ([.ref (ca 0), .int p1, .int p2]) (n := 3) (Nat.le_of_ble_eq_true rfl)
  rw [lg_entry_eq]
  generalize (lg_sl ([.ref (ca 0), .int p1, .int p2]) ++ List.replicate (3 - (lg_sl ([.ref (ca 0), .int p1, .int p2])).length) Slot.unset).toArray = ls at hl ⊢
  replace hl : lv_has ls 3 [(0, .ref (ca 0)), (1, .int p1), (2, .int p2)] := hl
  have hk_28 := (hts _ (cwc _ mw_40))
  obtain ⟨hXU, hXN, hXc1, hXc2, hXd1, hXd2, hXd3, hXn, -⟩ := id hXK
  unfold F_P_accept at hF
  refine (?_ : ∀ (H : Heap) (locs : List Loc), va_P D vwCl (CW cI cR ca qa u) H → va_S A s.heap H locs → W p l e _ s m _ below meth c H locs 0 0 _ (F0 m 0 ls [])) s.heap [] hP hS
  intro H locs hP hS
  refine lv_iload_n hx hb dX1_accept_0 rfl (lv_at hl 1 rfl) ?_
  obtain ⟨or2, u1, hc_3, hF⟩ := bi_some hF
  refine kx_v (W1 := CW cI cR ca qa u) (vx_runS (As := [.int p1]) (rest := []) ⟨hx, hb, hml, hown, hts⟩ (c_P_checkStation l hl9 D cI cR sa  H.size p1 () or2 u1 hc_3) (va_cwS 1 hts (gS cwc mw_124 mw_125 mw_1 mw_126) rfl rfl rfl (by decide +kernel) ⟨(Nat.le_of_ble_eq_true rfl), (Nat.le_of_ble_eq_true rfl)⟩) (kpX_S hXK hK hP hD hS hA (sb_nil _)) rfl rfl hl.1 rfl (lv_room (Nat.le_of_ble_eq_true rfl)) dX1_accept_1 ⟨(Nat.le_of_ble_eq_true rfl), (Nat.le_of_ble_eq_true rfl)⟩) hP hD hS hA (sb_nil _) (jn_nil _) (fun e_4 ce q9 H locs ho_5 hP hD hS hce hcv hcl => ?_) (fun H locs ho_5 hP hD hS => ?_)
  · subst ho_5
    replace hF := ox_l hF
    cases hF
    exact kx_out hnx hlocks hK hP hD hS hce hcv hcl rfl (Nat.le_of_ble_eq_true rfl) (Nat.le_of_ble_eq_true rfl)
  · subst ho_5
    replace hF := ox_r hF
    refine lv_iload_n hx hb dX1_accept_4 rfl (lv_at hl 2 rfl) ?_
    refine lv_bipush (v := (15 : Int32)) hx hb dX1_accept_5 (by decide +kernel) ?_
    obtain ⟨or7, u6, hc_8, hF⟩ := bi_some hF
    refine kx_v (W1 := CW cI cR ca qa u) (vx_runS (As := [.int p2, .int (15 : Int32)]) (rest := []) ⟨hx, hb, hml, hown, hts⟩ (c_P_checkRange l hl9 D cI cR sa  H.size p2 (15 : Int32) () or7 u6 hc_8) (va_cwS 2 hts (gS cwc mw_176 mw_177 mw_1 mw_178) rfl rfl rfl (by decide +kernel) ⟨(Nat.le_of_ble_eq_true rfl), (Nat.le_of_ble_eq_true rfl)⟩) (kpX_S hXK hK hP hD hS hA (sb_nil _)) rfl rfl hl.1 rfl (lv_room (Nat.le_of_ble_eq_true rfl)) dX1_accept_7 ⟨(Nat.le_of_ble_eq_true rfl), (Nat.le_of_ble_eq_true rfl)⟩) hP hD hS hA (sb_nil _) (jn_nil _) (fun e_9 ce q9 H locs ho_10 hP hD hS hce hcv hcl => ?_) (fun H locs ho_10 hP hD hS => ?_)
    · subst ho_10
      replace hF := ox_l hF
      cases hF
      exact kx_out hnx hlocks hK hP hD hS hce hcv hcl rfl (Nat.le_of_ble_eq_true rfl) (Nat.le_of_ble_eq_true rfl)
    · subst ho_10
      replace hF := ox_r hF
      refine lv_aload_n hx hb dX1_accept_10 rfl (lv_at hl 0 rfl) ?_
      refine va_get (D := D) (ci := 1) (v := .ref (ca 6)) (C := RX1) (T := TX1) (N := 16) hx hb hts (fun w h => cwc w (in_X1 w h)) hown hK hP 0 rfl rfl 5 (by decide) hk_28 (fun _ h9 => h9) rfl dX1_accept_11 ?_
      refine lv_iload_n hx hb dX1_accept_14 rfl (lv_at hl 1 rfl) ?_
      refine lv_iload_n hx hb dX1_accept_15 rfl (lv_at hl 2 rfl) ?_
      obtain ⟨h_11, hF⟩ := gd_some hF
      refine va_iast (f := u.2.2.2.2.1) hx hb hK hP hD hS 6 0 rfl rfl (inb_in h_11) dX1_accept_16 (fun H locs hP hD hS => ?_)
      replace hP : va_P D vwCl (CW cI cR ca qa (u.1, u.2.1, u.2.2.1, u.2.2.2.1, (upd u.2.2.2.2.1 p1.toNatClampNeg p2), u.2.2.2.2.2.1, u.2.2.2.2.2.2.1, u.2.2.2.2.2.2.2.1, u.2.2.2.2.2.2.2.2.1, u.2.2.2.2.2.2.2.2.2.1, u.2.2.2.2.2.2.2.2.2.2.1, u.2.2.2.2.2.2.2.2.2.2.2.1, u.2.2.2.2.2.2.2.2.2.2.2.2.1, u.2.2.2.2.2.2.2.2.2.2.2.2.2.1, u.2.2.2.2.2.2.2.2.2.2.2.2.2.2)) H := hP
      replace hD : va_D A (CW cI cR ca qa (u.1, u.2.1, u.2.2.1, u.2.2.2.1, (upd u.2.2.2.2.1 p1.toNatClampNeg p2), u.2.2.2.2.2.1, u.2.2.2.2.2.2.1, u.2.2.2.2.2.2.2.1, u.2.2.2.2.2.2.2.2.1, u.2.2.2.2.2.2.2.2.2.1, u.2.2.2.2.2.2.2.2.2.2.1, u.2.2.2.2.2.2.2.2.2.2.2.1, u.2.2.2.2.2.2.2.2.2.2.2.2.1, u.2.2.2.2.2.2.2.2.2.2.2.2.2.1, u.2.2.2.2.2.2.2.2.2.2.2.2.2.2)) := hD
      cases hF
      refine vx_ret ?_
      refine W.widen (k := 2) (n := 12) (Nat.le_of_ble_eq_true rfl) (Nat.le_of_ble_eq_true rfl) ?_
      exact W.vret hx hb hr (fun t ht hW => ⟨⟨_, rfl, ⟨rfl, rfl⟩, by rw [ht]; exact hP, va_K.moved hW.alike hK, hD⟩, hS.F ht⟩) hS.2.2 dX1_accept_17
def F_P_rate (p1 : Int32) (p2 : Int32) (p3 : Int32) (u : CSt) : Option ((Nat ⊕ Unit) × CSt) := bi (F_P_checkStation p1 ()) (fun or2 u1 => ox or2 (fun e_4 => some (.inl e_4, u)) (fun _ => bi (F_P_checkKind p2 ()) (fun or7 u6 => ox or7 (fun e_9 => some (.inl e_9, u)) (fun _ => bi (F_P_checkRange p3 (31 : Int32) ()) (fun or12 u11 => ox or12 (fun e_14 => some (.inl e_14, u)) (fun _ => bi (F_P_stockIndex p1 p2 ()) (fun r17 u16 => gd (inb r17 32) (some ((.inr ()), ((upd u.1 r17.toNatClampNeg p3), u.2.1, u.2.2.1, u.2.2.2.1, u.2.2.2.2.1, u.2.2.2.2.2.1, u.2.2.2.2.2.2.1, u.2.2.2.2.2.2.2.1, u.2.2.2.2.2.2.2.2.1, u.2.2.2.2.2.2.2.2.2.1, u.2.2.2.2.2.2.2.2.2.2.1, u.2.2.2.2.2.2.2.2.2.2.2.1, u.2.2.2.2.2.2.2.2.2.2.2.2.1, u.2.2.2.2.2.2.2.2.2.2.2.2.2.1, u.2.2.2.2.2.2.2.2.2.2.2.2.2.2))))))))))
set_option maxHeartbeats 4000000 in
set_option maxRecDepth 100000 in
theorem c_P_rate (l : Launch) (hl9 : l.stackTraces = false) (D : va_G) (cI cR : ClassId) (sa : Nat → Nat) (ca qa : Nat → Nat) (sz : Nat) (p1 : Int32) (p2 : Int32) (p3 : Int32) (u : CSt) (r : Nat ⊕ Unit) (u' : CSt) (hF : F_P_rate p1 p2 p3 u = some (r, u')) : vx_Met l yX1_rate wsX1_rate ({ frames := 7, cells := 3, slots := 18, locals := 103 }) (va_Pc [.ref (ca 0), .int p1, .int p2, .int p3] (PREX D (TY cI cR) (CW cI cR ca qa u) sz sa)) (XV D (TY cI cR) (va_A (CW cI cR ca qa u) sz) (fun v => CW cI cR ca qa v) r u') (XX D (TY cI cR) (va_A (CW cI cR ca qa u) sz) (fun v => CW cI cR ca qa v) r u') 3 18 (va_A (CW cI cR ca qa u) sz) := by
  refine vx_ofW (cc := cX1_rate) (maxL := 4) (ret := none) (by decide) rfl ?_
  intro p e s m args below meth c s₁ B hml hnx hv
  obtain ⟨rfl, ⟨hsz, hP, hK, hD0⟩, hXK⟩ := hv
  have hx := B.exec
  have hb := B.bytes
  have hr := B.returns
  have hts := atoms_spec (ws := wsX1_rate) B.pre
  have hown : s.vm.findClass RX1 = some m.cls := findClass_of_methodNamed B.named
  have hlocks := B.notSynchronized
  subst hsz
  have hD := hD0.self (sz := s.heap.size)
  generalize hAe : va_A (CW cI cR ca qa u) s.heap.size = A at hD hXK ⊢
  have hA : ∀ q : Nat, s.heap.size ≤ q → A q := fun q h => by rw [← hAe]; exact Or.inr h
  have hS : va_S A s.heap s.heap [] := va_S.rf
  replace hP : va_P D vwCl (CW cI cR ca qa u) s.heap := hP
  have hl := lv_entry ([.ref (ca 0), .int p1, .int p2, .int p3]) (n := 4) (Nat.le_of_ble_eq_true rfl)
  rw [lg_entry_eq]
  generalize (lg_sl ([.ref (ca 0), .int p1, .int p2, .int p3]) ++ List.replicate (4 - (lg_sl ([.ref (ca 0), .int p1, .int p2, .int p3])).length) Slot.unset).toArray = ls at hl ⊢
  replace hl : lv_has ls 4 [(0, .ref (ca 0)), (1, .int p1), (2, .int p2), (3, .int p3)] := hl
  have hk_15 := (hts _ (cwc _ mw_36))
  obtain ⟨hXU, hXN, hXc1, hXc2, hXd1, hXd2, hXd3, hXn, -⟩ := id hXK
  unfold F_P_rate at hF
  refine (?_ : ∀ (H : Heap) (locs : List Loc), va_P D vwCl (CW cI cR ca qa u) H → va_S A s.heap H locs → W p l e _ s m _ below meth c H locs 0 0 _ (F0 m 0 ls [])) s.heap [] hP hS
  intro H locs hP hS
  refine lv_iload_n hx hb dX1_rate_0 rfl (lv_at hl 1 rfl) ?_
  obtain ⟨or2, u1, hc_3, hF⟩ := bi_some hF
  refine kx_v (W1 := CW cI cR ca qa u) (vx_runS (As := [.int p1]) (rest := []) ⟨hx, hb, hml, hown, hts⟩ (c_P_checkStation l hl9 D cI cR sa  H.size p1 () or2 u1 hc_3) (va_cwS 1 hts (gS cwc mw_124 mw_125 mw_1 mw_126) rfl rfl rfl (by decide +kernel) ⟨(Nat.le_of_ble_eq_true rfl), (Nat.le_of_ble_eq_true rfl)⟩) (kpX_S hXK hK hP hD hS hA (sb_nil _)) rfl rfl hl.1 rfl (lv_room (Nat.le_of_ble_eq_true rfl)) dX1_rate_1 ⟨(Nat.le_of_ble_eq_true rfl), (Nat.le_of_ble_eq_true rfl)⟩) hP hD hS hA (sb_nil _) (jn_nil _) (fun e_4 ce q9 H locs ho_5 hP hD hS hce hcv hcl => ?_) (fun H locs ho_5 hP hD hS => ?_)
  · subst ho_5
    replace hF := ox_l hF
    cases hF
    exact kx_out hnx hlocks hK hP hD hS hce hcv hcl rfl (Nat.le_of_ble_eq_true rfl) (Nat.le_of_ble_eq_true rfl)
  · subst ho_5
    replace hF := ox_r hF
    refine lv_iload_n hx hb dX1_rate_4 rfl (lv_at hl 2 rfl) ?_
    obtain ⟨or7, u6, hc_8, hF⟩ := bi_some hF
    refine kx_v (W1 := CW cI cR ca qa u) (vx_runS (As := [.int p2]) (rest := []) ⟨hx, hb, hml, hown, hts⟩ (c_P_checkKind l hl9 D cI cR sa  H.size p2 () or7 u6 hc_8) (va_cwS 1 hts (gS cwc mw_200 mw_201 mw_1 mw_202) rfl rfl rfl (by decide +kernel) ⟨(Nat.le_of_ble_eq_true rfl), (Nat.le_of_ble_eq_true rfl)⟩) (kpX_S hXK hK hP hD hS hA (sb_nil _)) rfl rfl hl.1 rfl (lv_room (Nat.le_of_ble_eq_true rfl)) dX1_rate_5 ⟨(Nat.le_of_ble_eq_true rfl), (Nat.le_of_ble_eq_true rfl)⟩) hP hD hS hA (sb_nil _) (jn_nil _) (fun e_9 ce q9 H locs ho_10 hP hD hS hce hcv hcl => ?_) (fun H locs ho_10 hP hD hS => ?_)
    · subst ho_10
      replace hF := ox_l hF
      cases hF
      exact kx_out hnx hlocks hK hP hD hS hce hcv hcl rfl (Nat.le_of_ble_eq_true rfl) (Nat.le_of_ble_eq_true rfl)
    · subst ho_10
      replace hF := ox_r hF
      refine lv_iload_n hx hb dX1_rate_8 rfl (lv_at hl 3 rfl) ?_
      refine lv_bipush (v := (31 : Int32)) hx hb dX1_rate_9 (by decide +kernel) ?_
      obtain ⟨or12, u11, hc_13, hF⟩ := bi_some hF
      refine kx_v (W1 := CW cI cR ca qa u) (vx_runS (As := [.int p3, .int (31 : Int32)]) (rest := []) ⟨hx, hb, hml, hown, hts⟩ (c_P_checkRange l hl9 D cI cR sa  H.size p3 (31 : Int32) () or12 u11 hc_13) (va_cwS 2 hts (gS cwc mw_176 mw_177 mw_1 mw_178) rfl rfl rfl (by decide +kernel) ⟨(Nat.le_of_ble_eq_true rfl), (Nat.le_of_ble_eq_true rfl)⟩) (kpX_S hXK hK hP hD hS hA (sb_nil _)) rfl rfl hl.1 rfl (lv_room (Nat.le_of_ble_eq_true rfl)) dX1_rate_11 ⟨(Nat.le_of_ble_eq_true rfl), (Nat.le_of_ble_eq_true rfl)⟩) hP hD hS hA (sb_nil _) (jn_nil _) (fun e_14 ce q9 H locs ho_15 hP hD hS hce hcv hcl => ?_) (fun H locs ho_15 hP hD hS => ?_)
      · subst ho_15
        replace hF := ox_l hF
        cases hF
        exact kx_out hnx hlocks hK hP hD hS hce hcv hcl rfl (Nat.le_of_ble_eq_true rfl) (Nat.le_of_ble_eq_true rfl)
      · subst ho_15
        replace hF := ox_r hF
        refine lv_aload_n hx hb dX1_rate_14 rfl (lv_at hl 0 rfl) ?_
        refine va_get (D := D) (ci := 1) (v := .ref (ca 2)) (C := RX1) (T := TX1) (N := 16) hx hb hts (fun w h => cwc w (in_X1 w h)) hown hK hP 0 rfl rfl 1 (by decide) hk_15 (fun _ h9 => h9) rfl dX1_rate_15 ?_
        refine lv_iload_n hx hb dX1_rate_18 rfl (lv_at hl 1 rfl) ?_
        refine lv_iload_n hx hb dX1_rate_19 rfl (lv_at hl 2 rfl) ?_
        obtain ⟨r17, u16, hc_18, hF⟩ := bi_some hF
        refine kc_i (W1 := CW cI cR ca qa u) (va_runS (As := [.int p1, .int p2]) (rest := [.ref (ca 2)]) ⟨hx, hb, hml, hown, hts⟩ (c_P_stockIndex l D cI cR  H.size p1 p2 () r17 u16 hc_18) (va_cwS 2 hts (gS cwc mw_86 mw_87 mw_1 mw_88) rfl rfl rfl (by decide +kernel) ⟨(Nat.le_of_ble_eq_true rfl), (Nat.le_of_ble_eq_true rfl)⟩) (kp_S hK hP hD (sb_nil _)) rfl rfl hl.1 rfl (lv_room (Nat.le_of_ble_eq_true rfl)) dX1_rate_20 ⟨(Nat.le_of_ble_eq_true rfl), (Nat.le_of_ble_eq_true rfl)⟩) hP hD hS hA (sb_nil _) (jn_nil _) (fun H locs hP hD hS => ?_)
        refine lv_iload_n hx hb dX1_rate_23 rfl (lv_at hl 3 rfl) ?_
        obtain ⟨h_19, hF⟩ := gd_some hF
        refine va_iast (f := u.1) hx hb hK hP hD hS 2 0 rfl rfl (inb_in h_19) dX1_rate_24 (fun H locs hP hD hS => ?_)
        replace hP : va_P D vwCl (CW cI cR ca qa ((upd u.1 r17.toNatClampNeg p3), u.2.1, u.2.2.1, u.2.2.2.1, u.2.2.2.2.1, u.2.2.2.2.2.1, u.2.2.2.2.2.2.1, u.2.2.2.2.2.2.2.1, u.2.2.2.2.2.2.2.2.1, u.2.2.2.2.2.2.2.2.2.1, u.2.2.2.2.2.2.2.2.2.2.1, u.2.2.2.2.2.2.2.2.2.2.2.1, u.2.2.2.2.2.2.2.2.2.2.2.2.1, u.2.2.2.2.2.2.2.2.2.2.2.2.2.1, u.2.2.2.2.2.2.2.2.2.2.2.2.2.2)) H := hP
        replace hD : va_D A (CW cI cR ca qa ((upd u.1 r17.toNatClampNeg p3), u.2.1, u.2.2.1, u.2.2.2.1, u.2.2.2.2.1, u.2.2.2.2.2.1, u.2.2.2.2.2.2.1, u.2.2.2.2.2.2.2.1, u.2.2.2.2.2.2.2.2.1, u.2.2.2.2.2.2.2.2.2.1, u.2.2.2.2.2.2.2.2.2.2.1, u.2.2.2.2.2.2.2.2.2.2.2.1, u.2.2.2.2.2.2.2.2.2.2.2.2.1, u.2.2.2.2.2.2.2.2.2.2.2.2.2.1, u.2.2.2.2.2.2.2.2.2.2.2.2.2.2)) := hD
        cases hF
        refine vx_ret ?_
        refine W.widen (k := 3) (n := 18) (Nat.le_of_ble_eq_true rfl) (Nat.le_of_ble_eq_true rfl) ?_
        exact W.vret hx hb hr (fun t ht hW => ⟨⟨_, rfl, ⟨rfl, rfl⟩, by rw [ht]; exact hP, va_K.moved hW.alike hK, hD⟩, hS.F ht⟩) hS.2.2 dX1_rate_25
def F_P_place (p1 : Int32) (p2 : Int32) (p3 : Int32) (u : CSt) : Option ((Nat ⊕ Unit) × CSt) := bi (F_P_checkStation p1 ()) (fun or2 u1 => ox or2 (fun e_4 => some (.inl e_4, u)) (fun _ => bi (F_P_checkRange p2 (99 : Int32) ()) (fun or7 u6 => ox or7 (fun e_9 => some (.inl e_9, u)) (fun _ => bi (F_P_checkRange p3 (99 : Int32) ()) (fun or12 u11 => ox or12 (fun e_14 => some (.inl e_14, u)) (fun _ => gd (inb p1 8) (gd (inb p1 8) (some ((.inr ()), (u.1, u.2.1, (upd u.2.2.1 p1.toNatClampNeg p2), (upd u.2.2.2.1 p1.toNatClampNeg p3), u.2.2.2.2.1, u.2.2.2.2.2.1, u.2.2.2.2.2.2.1, u.2.2.2.2.2.2.2.1, u.2.2.2.2.2.2.2.2.1, u.2.2.2.2.2.2.2.2.2.1, u.2.2.2.2.2.2.2.2.2.2.1, u.2.2.2.2.2.2.2.2.2.2.2.1, u.2.2.2.2.2.2.2.2.2.2.2.2.1, u.2.2.2.2.2.2.2.2.2.2.2.2.2.1, u.2.2.2.2.2.2.2.2.2.2.2.2.2.2))))))))))
set_option maxHeartbeats 4000000 in
set_option maxRecDepth 100000 in
theorem c_P_place (l : Launch) (hl9 : l.stackTraces = false) (D : va_G) (cI cR : ClassId) (sa : Nat → Nat) (ca qa : Nat → Nat) (sz : Nat) (p1 : Int32) (p2 : Int32) (p3 : Int32) (u : CSt) (r : Nat ⊕ Unit) (u' : CSt) (hF : F_P_place p1 p2 p3 u = some (r, u')) : vx_Met l yX1_place wsX1_place ({ frames := 7, cells := 3, slots := 18, locals := 103 }) (va_Pc [.ref (ca 0), .int p1, .int p2, .int p3] (PREX D (TY cI cR) (CW cI cR ca qa u) sz sa)) (XV D (TY cI cR) (va_A (CW cI cR ca qa u) sz) (fun v => CW cI cR ca qa v) r u') (XX D (TY cI cR) (va_A (CW cI cR ca qa u) sz) (fun v => CW cI cR ca qa v) r u') 3 18 (va_A (CW cI cR ca qa u) sz) := by
  refine vx_ofW (cc := cX1_place) (maxL := 4) (ret := none) (by decide) rfl ?_
  intro p e s m args below meth c s₁ B hml hnx hv
  obtain ⟨rfl, ⟨hsz, hP, hK, hD0⟩, hXK⟩ := hv
  have hx := B.exec
  have hb := B.bytes
  have hr := B.returns
  have hts := atoms_spec (ws := wsX1_place) B.pre
  have hown : s.vm.findClass RX1 = some m.cls := findClass_of_methodNamed B.named
  have hlocks := B.notSynchronized
  subst hsz
  have hD := hD0.self (sz := s.heap.size)
  generalize hAe : va_A (CW cI cR ca qa u) s.heap.size = A at hD hXK ⊢
  have hA : ∀ q : Nat, s.heap.size ≤ q → A q := fun q h => by rw [← hAe]; exact Or.inr h
  have hS : va_S A s.heap s.heap [] := va_S.rf
  replace hP : va_P D vwCl (CW cI cR ca qa u) s.heap := hP
  have hl := lv_entry ([.ref (ca 0), .int p1, .int p2, .int p3]) (n := 4) (Nat.le_of_ble_eq_true rfl)
  rw [lg_entry_eq]
  generalize (lg_sl ([.ref (ca 0), .int p1, .int p2, .int p3]) ++ List.replicate (4 - (lg_sl ([.ref (ca 0), .int p1, .int p2, .int p3])).length) Slot.unset).toArray = ls at hl ⊢
  replace hl : lv_has ls 4 [(0, .ref (ca 0)), (1, .int p1), (2, .int p2), (3, .int p3)] := hl
  have hk_22 := (hts _ (cwc _ mw_38))
  have hk_25 := (hts _ (cwc _ mw_39))
  obtain ⟨hXU, hXN, hXc1, hXc2, hXd1, hXd2, hXd3, hXn, -⟩ := id hXK
  unfold F_P_place at hF
  refine (?_ : ∀ (H : Heap) (locs : List Loc), va_P D vwCl (CW cI cR ca qa u) H → va_S A s.heap H locs → W p l e _ s m _ below meth c H locs 0 0 _ (F0 m 0 ls [])) s.heap [] hP hS
  intro H locs hP hS
  refine lv_iload_n hx hb dX1_place_0 rfl (lv_at hl 1 rfl) ?_
  obtain ⟨or2, u1, hc_3, hF⟩ := bi_some hF
  refine kx_v (W1 := CW cI cR ca qa u) (vx_runS (As := [.int p1]) (rest := []) ⟨hx, hb, hml, hown, hts⟩ (c_P_checkStation l hl9 D cI cR sa  H.size p1 () or2 u1 hc_3) (va_cwS 1 hts (gS cwc mw_124 mw_125 mw_1 mw_126) rfl rfl rfl (by decide +kernel) ⟨(Nat.le_of_ble_eq_true rfl), (Nat.le_of_ble_eq_true rfl)⟩) (kpX_S hXK hK hP hD hS hA (sb_nil _)) rfl rfl hl.1 rfl (lv_room (Nat.le_of_ble_eq_true rfl)) dX1_place_1 ⟨(Nat.le_of_ble_eq_true rfl), (Nat.le_of_ble_eq_true rfl)⟩) hP hD hS hA (sb_nil _) (jn_nil _) (fun e_4 ce q9 H locs ho_5 hP hD hS hce hcv hcl => ?_) (fun H locs ho_5 hP hD hS => ?_)
  · subst ho_5
    replace hF := ox_l hF
    cases hF
    exact kx_out hnx hlocks hK hP hD hS hce hcv hcl rfl (Nat.le_of_ble_eq_true rfl) (Nat.le_of_ble_eq_true rfl)
  · subst ho_5
    replace hF := ox_r hF
    refine lv_iload_n hx hb dX1_place_4 rfl (lv_at hl 2 rfl) ?_
    refine lv_bipush (v := (99 : Int32)) hx hb dX1_place_5 (by decide +kernel) ?_
    obtain ⟨or7, u6, hc_8, hF⟩ := bi_some hF
    refine kx_v (W1 := CW cI cR ca qa u) (vx_runS (As := [.int p2, .int (99 : Int32)]) (rest := []) ⟨hx, hb, hml, hown, hts⟩ (c_P_checkRange l hl9 D cI cR sa  H.size p2 (99 : Int32) () or7 u6 hc_8) (va_cwS 2 hts (gS cwc mw_176 mw_177 mw_1 mw_178) rfl rfl rfl (by decide +kernel) ⟨(Nat.le_of_ble_eq_true rfl), (Nat.le_of_ble_eq_true rfl)⟩) (kpX_S hXK hK hP hD hS hA (sb_nil _)) rfl rfl hl.1 rfl (lv_room (Nat.le_of_ble_eq_true rfl)) dX1_place_7 ⟨(Nat.le_of_ble_eq_true rfl), (Nat.le_of_ble_eq_true rfl)⟩) hP hD hS hA (sb_nil _) (jn_nil _) (fun e_9 ce q9 H locs ho_10 hP hD hS hce hcv hcl => ?_) (fun H locs ho_10 hP hD hS => ?_)
    · subst ho_10
      replace hF := ox_l hF
      cases hF
      exact kx_out hnx hlocks hK hP hD hS hce hcv hcl rfl (Nat.le_of_ble_eq_true rfl) (Nat.le_of_ble_eq_true rfl)
    · subst ho_10
      replace hF := ox_r hF
      refine lv_iload_n hx hb dX1_place_10 rfl (lv_at hl 3 rfl) ?_
      refine lv_bipush (v := (99 : Int32)) hx hb dX1_place_11 (by decide +kernel) ?_
      obtain ⟨or12, u11, hc_13, hF⟩ := bi_some hF
      refine kx_v (W1 := CW cI cR ca qa u) (vx_runS (As := [.int p3, .int (99 : Int32)]) (rest := []) ⟨hx, hb, hml, hown, hts⟩ (c_P_checkRange l hl9 D cI cR sa  H.size p3 (99 : Int32) () or12 u11 hc_13) (va_cwS 2 hts (gS cwc mw_176 mw_177 mw_1 mw_178) rfl rfl rfl (by decide +kernel) ⟨(Nat.le_of_ble_eq_true rfl), (Nat.le_of_ble_eq_true rfl)⟩) (kpX_S hXK hK hP hD hS hA (sb_nil _)) rfl rfl hl.1 rfl (lv_room (Nat.le_of_ble_eq_true rfl)) dX1_place_13 ⟨(Nat.le_of_ble_eq_true rfl), (Nat.le_of_ble_eq_true rfl)⟩) hP hD hS hA (sb_nil _) (jn_nil _) (fun e_14 ce q9 H locs ho_15 hP hD hS hce hcv hcl => ?_) (fun H locs ho_15 hP hD hS => ?_)
      · subst ho_15
        replace hF := ox_l hF
        cases hF
        exact kx_out hnx hlocks hK hP hD hS hce hcv hcl rfl (Nat.le_of_ble_eq_true rfl) (Nat.le_of_ble_eq_true rfl)
      · subst ho_15
        replace hF := ox_r hF
        refine lv_aload_n hx hb dX1_place_16 rfl (lv_at hl 0 rfl) ?_
        refine va_get (D := D) (ci := 1) (v := .ref (ca 4)) (C := RX1) (T := TX1) (N := 16) hx hb hts (fun w h => cwc w (in_X1 w h)) hown hK hP 0 rfl rfl 3 (by decide) hk_22 (fun _ h9 => h9) rfl dX1_place_17 ?_
        refine lv_iload_n hx hb dX1_place_20 rfl (lv_at hl 1 rfl) ?_
        refine lv_iload_n hx hb dX1_place_21 rfl (lv_at hl 2 rfl) ?_
        obtain ⟨h_16, hF⟩ := gd_some hF
        refine va_iast (f := u.2.2.1) hx hb hK hP hD hS 4 0 rfl rfl (inb_in h_16) dX1_place_22 (fun H locs hP hD hS => ?_)
        replace hP : va_P D vwCl (CW cI cR ca qa (u.1, u.2.1, (upd u.2.2.1 p1.toNatClampNeg p2), u.2.2.2.1, u.2.2.2.2.1, u.2.2.2.2.2.1, u.2.2.2.2.2.2.1, u.2.2.2.2.2.2.2.1, u.2.2.2.2.2.2.2.2.1, u.2.2.2.2.2.2.2.2.2.1, u.2.2.2.2.2.2.2.2.2.2.1, u.2.2.2.2.2.2.2.2.2.2.2.1, u.2.2.2.2.2.2.2.2.2.2.2.2.1, u.2.2.2.2.2.2.2.2.2.2.2.2.2.1, u.2.2.2.2.2.2.2.2.2.2.2.2.2.2)) H := hP
        replace hD : va_D A (CW cI cR ca qa (u.1, u.2.1, (upd u.2.2.1 p1.toNatClampNeg p2), u.2.2.2.1, u.2.2.2.2.1, u.2.2.2.2.2.1, u.2.2.2.2.2.2.1, u.2.2.2.2.2.2.2.1, u.2.2.2.2.2.2.2.2.1, u.2.2.2.2.2.2.2.2.2.1, u.2.2.2.2.2.2.2.2.2.2.1, u.2.2.2.2.2.2.2.2.2.2.2.1, u.2.2.2.2.2.2.2.2.2.2.2.2.1, u.2.2.2.2.2.2.2.2.2.2.2.2.2.1, u.2.2.2.2.2.2.2.2.2.2.2.2.2.2)) := hD
        refine lv_aload_n hx hb dX1_place_23 rfl (lv_at hl 0 rfl) ?_
        refine va_get (D := D) (ci := 1) (v := .ref (ca 5)) (C := RX1) (T := TX1) (N := 16) hx hb hts (fun w h => cwc w (in_X1 w h)) hown hK hP 0 rfl rfl 4 (by decide) hk_25 (fun _ h9 => h9) rfl dX1_place_24 ?_
        refine lv_iload_n hx hb dX1_place_27 rfl (lv_at hl 1 rfl) ?_
        refine lv_iload_n hx hb dX1_place_28 rfl (lv_at hl 3 rfl) ?_
        obtain ⟨h_17, hF⟩ := gd_some hF
        refine va_iast (f := u.2.2.2.1) hx hb hK hP hD hS 5 0 rfl rfl (inb_in h_17) dX1_place_29 (fun H locs hP hD hS => ?_)
        replace hP : va_P D vwCl (CW cI cR ca qa (u.1, u.2.1, (upd u.2.2.1 p1.toNatClampNeg p2), (upd u.2.2.2.1 p1.toNatClampNeg p3), u.2.2.2.2.1, u.2.2.2.2.2.1, u.2.2.2.2.2.2.1, u.2.2.2.2.2.2.2.1, u.2.2.2.2.2.2.2.2.1, u.2.2.2.2.2.2.2.2.2.1, u.2.2.2.2.2.2.2.2.2.2.1, u.2.2.2.2.2.2.2.2.2.2.2.1, u.2.2.2.2.2.2.2.2.2.2.2.2.1, u.2.2.2.2.2.2.2.2.2.2.2.2.2.1, u.2.2.2.2.2.2.2.2.2.2.2.2.2.2)) H := hP
        replace hD : va_D A (CW cI cR ca qa (u.1, u.2.1, (upd u.2.2.1 p1.toNatClampNeg p2), (upd u.2.2.2.1 p1.toNatClampNeg p3), u.2.2.2.2.1, u.2.2.2.2.2.1, u.2.2.2.2.2.2.1, u.2.2.2.2.2.2.2.1, u.2.2.2.2.2.2.2.2.1, u.2.2.2.2.2.2.2.2.2.1, u.2.2.2.2.2.2.2.2.2.2.1, u.2.2.2.2.2.2.2.2.2.2.2.1, u.2.2.2.2.2.2.2.2.2.2.2.2.1, u.2.2.2.2.2.2.2.2.2.2.2.2.2.1, u.2.2.2.2.2.2.2.2.2.2.2.2.2.2)) := hD
        cases hF
        refine vx_ret ?_
        refine W.widen (k := 3) (n := 18) (Nat.le_of_ble_eq_true rfl) (Nat.le_of_ble_eq_true rfl) ?_
        exact W.vret hx hb hr (fun t ht hW => ⟨⟨_, rfl, ⟨rfl, rfl⟩, by rw [ht]; exact hP, va_K.moved hW.alike hK, hD⟩, hS.F ht⟩) hS.2.2 dX1_place_30
