def F_P_pour (p1 : Int32) (p2 : Int32) (u : CSt) : Option ((Nat ⊕ Unit) × CSt) := bi (F_P_checkWagon p1 ()) (fun or2 u1 => ox or2 (fun e_4 => some (.inl e_4, u)) (fun _ => bi (F_P_checkWagon p2 ()) (fun or7 u6 => ox or7 (fun e_9 => some (.inl e_9, u)) (fun _ => bi (F_P_checkFellows p1 p2 u) (fun or12 u11 => ox or12 (fun e_14 => some (.inl e_14, u)) (fun _ => gd (inb p2 16) (bi (F_Row_total (u.2.2.2.2.2.2.2.2.2.2.2.2.2.2 (32 + p2.toNatClampNeg))) (fun r19 u18 => gd (inb p1 16) (gd (inb p1 16) (bi (F_Row_total (u.2.2.2.2.2.2.2.2.2.2.2.2.2.2 (32 + p1.toNatClampNeg))) (fun r25 u24 => (if r19 ≤ ((u.2.2.2.2.2.2.1 p1.toNatClampNeg) - r25) then gd (inb p2 16) (gd (inb p1 16) (gd (inb p1 16) (gd (decide (¬ (32 + p2.toNatClampNeg) = (32 + p1.toNatClampNeg))) (bi (F_Row_moveTo r19 (u.2.2.2.2.2.2.1 p1.toNatClampNeg) (u.2.2.2.2.2.2.2.2.2.2.2.2.2.2 (32 + p2.toNatClampNeg), u.2.2.2.2.2.2.2.2.2.2.2.2.2.2 (32 + p1.toNatClampNeg))) (fun r34 u33 => some ((.inr ()), (u.1, u.2.1, u.2.2.1, u.2.2.2.1, u.2.2.2.2.1, u.2.2.2.2.2.1, u.2.2.2.2.2.2.1, u.2.2.2.2.2.2.2.1, u.2.2.2.2.2.2.2.2.1, u.2.2.2.2.2.2.2.2.2.1, u.2.2.2.2.2.2.2.2.2.2.1, u.2.2.2.2.2.2.2.2.2.2.2.1, u.2.2.2.2.2.2.2.2.2.2.2.2.1, u.2.2.2.2.2.2.2.2.2.2.2.2.2.1, (va_up (va_up u.2.2.2.2.2.2.2.2.2.2.2.2.2.2 (32 + p2.toNatClampNeg) u33.1) (32 + p1.toNatClampNeg) u33.2)))))))) else some (.inl 2, u)))))))))))))
set_option maxHeartbeats 4000000 in
set_option maxRecDepth 100000 in
theorem c_P_pour (l : Launch) (hl9 : l.stackTraces = false) (D : va_G) (cI cR : ClassId) (sa : Nat → Nat) (ca qa : Nat → Nat) (sz : Nat) (p1 : Int32) (p2 : Int32) (u : CSt) (r : Nat ⊕ Unit) (u' : CSt) (hF : F_P_pour p1 p2 u = some (r, u')) : vx_Met l yX1_pour wsX1_pour ({ frames := 7, cells := 4, slots := 24, locals := 104 }) (va_Pc [.ref (ca 0), .int p1, .int p2] (PREX D (TY cI cR) (CW cI cR ca qa u) sz sa)) (XV D (TY cI cR) (va_A (CW cI cR ca qa u) sz) (fun v => CW cI cR ca qa v) r u') (XX D (TY cI cR) (va_A (CW cI cR ca qa u) sz) (fun v => CW cI cR ca qa v) r u') 4 24 (va_A (CW cI cR ca qa u) sz) := by
  refine vx_ofW (cc := cX1_pour) (maxL := 4) (ret := none) (by decide) rfl ?_
  intro p e s m args below meth c s₁ B hml hnx hv
  obtain ⟨rfl, ⟨hsz, hP, hK, hD0⟩, hXK⟩ := hv
  have hx := B.exec
  have hb := B.bytes
  have hr := B.returns
  have hts := atoms_spec (ws := wsX1_pour) B.pre
  have hown : s.vm.findClass RX1 = some m.cls := findClass_of_methodNamed B.named
  have hlocks := B.notSynchronized
  subst hsz
  have hD := hD0.self (sz := s.heap.size)
  generalize hAe : va_A (CW cI cR ca qa u) s.heap.size = A at hD hXK ⊢
  have hA : ∀ q : Nat, s.heap.size ≤ q → A q := fun q h => by rw [← hAe]; exact Or.inr h
  have hS : va_S A s.heap s.heap [] := va_S.rf
  replace hP : va_P D vwCl (CW cI cR ca qa u) s.heap := hP
  have hl := lv_entry ([.ref (ca 0), .int p1, .int p2]) (n := 4) (Nat.le_of_ble_eq_true rfl)
  rw [lg_entry_eq]
  generalize (lg_sl ([.ref (ca 0), .int p1, .int p2]) ++ List.replicate (4 - (lg_sl ([.ref (ca 0), .int p1, .int p2])).length) Slot.unset).toArray = ls at hl ⊢
  replace hl : lv_has ls 4 [(0, .ref (ca 0)), (1, .int p1), (2, .int p2)] := hl
  have hk_31 := (hts _ (cwc _ mw_41))
  have hk_37 := (hts _ (cwc _ mw_43))
  obtain ⟨hXU, hXN, hXc1, hXc2, hXd1, hXd2, hXd3, hXn, -⟩ := id hXK
  unfold F_P_pour at hF
  refine (?_ : ∀ (H : Heap) (locs : List Loc), va_P D vwCl (CW cI cR ca qa u) H → va_S A s.heap H locs → W p l e _ s m _ below meth c H locs 0 0 _ (F0 m 0 ls [])) s.heap [] hP hS
  intro H locs hP hS
  refine lv_iload_n hx hb dX1_pour_0 rfl (lv_at hl 1 rfl) ?_
  obtain ⟨or2, u1, hc_3, hF⟩ := bi_some hF
  refine kx_v (W1 := CW cI cR ca qa u) (vx_runS (As := [.int p1]) (rest := []) ⟨hx, hb, hml, hown, hts⟩ (c_P_checkWagon l hl9 D cI cR sa  H.size p1 () or2 u1 hc_3) (va_cwS 1 hts (gS cwc mw_224 mw_225 mw_1 mw_226) rfl rfl rfl (by decide +kernel) ⟨(Nat.le_of_ble_eq_true rfl), (Nat.le_of_ble_eq_true rfl)⟩) (kpX_S hXK hK hP hD hS hA (sb_nil _)) rfl rfl hl.1 rfl (lv_room (Nat.le_of_ble_eq_true rfl)) dX1_pour_1 ⟨(Nat.le_of_ble_eq_true rfl), (Nat.le_of_ble_eq_true rfl)⟩) hP hD hS hA (sb_nil _) (jn_nil _) (fun e_4 ce q9 H locs ho_5 hP hD hS hce hcv hcl => ?_) (fun H locs ho_5 hP hD hS => ?_)
  · subst ho_5
    replace hF := ox_l hF
    cases hF
    exact kx_out hnx hlocks hK hP hD hS hce hcv hcl rfl (Nat.le_of_ble_eq_true rfl) (Nat.le_of_ble_eq_true rfl)
  · subst ho_5
    replace hF := ox_r hF
    refine lv_iload_n hx hb dX1_pour_4 rfl (lv_at hl 2 rfl) ?_
    obtain ⟨or7, u6, hc_8, hF⟩ := bi_some hF
    refine kx_v (W1 := CW cI cR ca qa u) (vx_runS (As := [.int p2]) (rest := []) ⟨hx, hb, hml, hown, hts⟩ (c_P_checkWagon l hl9 D cI cR sa  H.size p2 () or7 u6 hc_8) (va_cwS 1 hts (gS cwc mw_224 mw_225 mw_1 mw_226) rfl rfl rfl (by decide +kernel) ⟨(Nat.le_of_ble_eq_true rfl), (Nat.le_of_ble_eq_true rfl)⟩) (kpX_S hXK hK hP hD hS hA (sb_nil _)) rfl rfl hl.1 rfl (lv_room (Nat.le_of_ble_eq_true rfl)) dX1_pour_5 ⟨(Nat.le_of_ble_eq_true rfl), (Nat.le_of_ble_eq_true rfl)⟩) hP hD hS hA (sb_nil _) (jn_nil _) (fun e_9 ce q9 H locs ho_10 hP hD hS hce hcv hcl => ?_) (fun H locs ho_10 hP hD hS => ?_)
    · subst ho_10
      replace hF := ox_l hF
      cases hF
      exact kx_out hnx hlocks hK hP hD hS hce hcv hcl rfl (Nat.le_of_ble_eq_true rfl) (Nat.le_of_ble_eq_true rfl)
    · subst ho_10
      replace hF := ox_r hF
      refine lv_aload_n hx hb dX1_pour_8 rfl (lv_at hl 0 rfl) ?_
      refine lv_iload_n hx hb dX1_pour_9 rfl (lv_at hl 1 rfl) ?_
      refine lv_iload_n hx hb dX1_pour_10 rfl (lv_at hl 2 rfl) ?_
      obtain ⟨or12, u11, hc_13, hF⟩ := bi_some hF
      refine kx_v (W1 := CW cI cR ca qa u) (vx_runV (As := [.int p1, .int p2]) (rest := []) ⟨hx, hb, hml, hown, hts⟩ (c_P_checkFellows l hl9 D cI cR sa ca qa H.size p1 p2 u or12 u11 hc_13) (cwV 2 hts (gV cwc mw_303 mw_304 mw_484 mw_1 mw_305) rfl rfl rfl (by decide +kernel) ⟨(Nat.le_of_ble_eq_true rfl), (Nat.le_of_ble_eq_true rfl)⟩) (kpX_V (ci := 1) (q := (RX1, TX1, 16)) hXK hK hP hD hS hA (sb_id _) rfl rfl) rfl rfl hl.1 rfl (lv_room (Nat.le_of_ble_eq_true rfl)) dX1_pour_11 ⟨(Nat.le_of_ble_eq_true rfl), (Nat.le_of_ble_eq_true rfl)⟩) hP hD hS hA (sb_id _) (jn_same (sb_id _)) (fun e_14 ce q9 H locs ho_15 hP hD hS hce hcv hcl => ?_) (fun H locs ho_15 hP hD hS => ?_)
      · subst ho_15
        replace hF := ox_l hF
        cases hF
        exact kx_out hnx hlocks hK hP hD hS hce hcv hcl rfl (Nat.le_of_ble_eq_true rfl) (Nat.le_of_ble_eq_true rfl)
      · subst ho_15
        replace hF := ox_r hF
        refine lv_aload_n hx hb dX1_pour_14 rfl (lv_at hl 0 rfl) ?_
        refine va_get (D := D) (ci := 1) (v := .ref (ca 7)) (C := RX1) (T := TX1) (N := 16) hx hb hts (fun w h => cwc w (in_X1 w h)) hown hK hP 0 rfl rfl 6 (by decide) hk_31 (fun _ h9 => h9) rfl dX1_pour_15 ?_
        refine lv_iload_n hx hb dX1_pour_18 rfl (lv_at hl 2 rfl) ?_
        obtain ⟨h_16, hF⟩ := gd_some hF
        refine va_aldq hx hb hK hP 7 1 rfl rfl (inb_in h_16) dX1_pour_19 ?_
        refine W.eq (g2 := F0 m 20 ls [.ref (qa (4 * (32 + p2.toNatClampNeg)))]) rfl ?_
        have hj_17 : (32 + p2.toNatClampNeg) < 48 := by have := inb_lt h_16; omega
        obtain ⟨r19, u18, hc_20, hF⟩ := bi_some hF
        refine kc_i (W1 := CW cI cR ca qa u) (va_runV (As := []) (rest := []) ⟨hx, hb, hml, hown, hts⟩ (c_Row_total l D cI cR (qa (4 * (32 + p2.toNatClampNeg))) (qa (4 * (32 + p2.toNatClampNeg) + 1)) (qa (4 * (32 + p2.toNatClampNeg) + 2)) (qa (4 * (32 + p2.toNatClampNeg) + 3)) H.size  (u.2.2.2.2.2.2.2.2.2.2.2.2.2.2 (32 + p2.toNatClampNeg)) r19 u18 hc_20) (cwV 0 hts (gV cwc mw_97 mw_98 mw_99 mw_2 mw_100) rfl rfl rfl (by decide +kernel) ⟨(Nat.le_of_ble_eq_true rfl), (Nat.le_of_ble_eq_true rfl)⟩) (kp_V (ci := 0) (q := (RX0, TX0, 5)) hK hP hD (cw_sb hj_17) rfl rfl) rfl rfl hl.1 rfl (lv_room (Nat.le_of_ble_eq_true rfl)) dX1_pour_20 ⟨(Nat.le_of_ble_eq_true rfl), (Nat.le_of_ble_eq_true rfl)⟩) hP hD hS hA (cw_sb hj_17) (jn_same (cw_sb hj_17)) (fun H locs hP hD hS => ?_)
        refine lv_istore_n (lv' := [(3, .int r19), (0, .ref (ca 0)), (1, .int p1), (2, .int p2)]) hx hb dX1_pour_23 rfl hl (by decide) rfl (fun ls hl => ?_)
        refine lv_iload_n hx hb dX1_pour_24 rfl (lv_at hl 0 rfl) ?_
        refine lv_aload_n hx hb dX1_pour_25 rfl (lv_at hl 1 rfl) ?_
        refine va_get (D := D) (ci := 1) (v := .ref (ca 9)) (C := RX1) (T := TX1) (N := 16) hx hb hts (fun w h => cwc w (in_X1 w h)) hown hK hP 0 rfl rfl 8 (by decide) hk_37 (fun _ h9 => h9) rfl dX1_pour_26 ?_
        refine lv_iload_n hx hb dX1_pour_29 rfl (lv_at hl 2 rfl) ?_
        obtain ⟨h_21, hF⟩ := gd_some hF
        refine va_iald (f := u.2.2.2.2.2.2.1) hx hb hK hP 9 0 rfl rfl (inb_in h_21) dX1_pour_30 ?_
        refine lv_aload_n hx hb dX1_pour_31 rfl (lv_at hl 1 rfl) ?_
        refine va_get (D := D) (ci := 1) (v := .ref (ca 7)) (C := RX1) (T := TX1) (N := 16) hx hb hts (fun w h => cwc w (in_X1 w h)) hown hK hP 0 rfl rfl 6 (by decide) hk_31 (fun _ h9 => h9) rfl dX1_pour_32 ?_
        refine lv_iload_n hx hb dX1_pour_35 rfl (lv_at hl 2 rfl) ?_
        obtain ⟨h_22, hF⟩ := gd_some hF
        refine va_aldq hx hb hK hP 7 1 rfl rfl (inb_in h_22) dX1_pour_36 ?_
        refine W.eq (g2 := F0 m 37 ls [.ref (qa (4 * (32 + p1.toNatClampNeg))), .int (u.2.2.2.2.2.2.1 p1.toNatClampNeg), .int r19]) rfl ?_
        have hj_23 : (32 + p1.toNatClampNeg) < 48 := by have := inb_lt h_22; omega
        obtain ⟨r25, u24, hc_26, hF⟩ := bi_some hF
        refine kc_i (W1 := CW cI cR ca qa u) (va_runV (As := []) (rest := [.int (u.2.2.2.2.2.2.1 p1.toNatClampNeg), .int r19]) ⟨hx, hb, hml, hown, hts⟩ (c_Row_total l D cI cR (qa (4 * (32 + p1.toNatClampNeg))) (qa (4 * (32 + p1.toNatClampNeg) + 1)) (qa (4 * (32 + p1.toNatClampNeg) + 2)) (qa (4 * (32 + p1.toNatClampNeg) + 3)) H.size  (u.2.2.2.2.2.2.2.2.2.2.2.2.2.2 (32 + p1.toNatClampNeg)) r25 u24 hc_26) (cwV 0 hts (gV cwc mw_97 mw_98 mw_99 mw_2 mw_100) rfl rfl rfl (by decide +kernel) ⟨(Nat.le_of_ble_eq_true rfl), (Nat.le_of_ble_eq_true rfl)⟩) (kp_V (ci := 0) (q := (RX0, TX0, 5)) hK hP hD (cw_sb hj_23) rfl rfl) rfl rfl hl.1 rfl (lv_room (Nat.le_of_ble_eq_true rfl)) dX1_pour_37 ⟨(Nat.le_of_ble_eq_true rfl), (Nat.le_of_ble_eq_true rfl)⟩) hP hD hS hA (cw_sb hj_23) (jn_same (cw_sb hj_23)) (fun H locs hP hD hS => ?_)
        refine lv_isub hx hb dX1_pour_40 ?_
        refine lv_icmp_le (tgt := 54) hx hb dX1_pour_41 (by decide) (fun c_27 => ?_) (fun c_27 => ?_)
        · replace hF := (if_pos c_27).symm.trans hF
          refine lv_aload_n hx hb dX1_pour_54 rfl (lv_at hl 1 rfl) ?_
          refine va_get (D := D) (ci := 1) (v := .ref (ca 7)) (C := RX1) (T := TX1) (N := 16) hx hb hts (fun w h => cwc w (in_X1 w h)) hown hK hP 0 rfl rfl 6 (by decide) hk_31 (fun _ h9 => h9) rfl dX1_pour_55 ?_
          refine lv_iload_n hx hb dX1_pour_58 rfl (lv_at hl 3 rfl) ?_
          obtain ⟨h_28, hF⟩ := gd_some hF
          refine va_aldq hx hb hK hP 7 1 rfl rfl (inb_in h_28) dX1_pour_59 ?_
          refine W.eq (g2 := F0 m 60 ls [.ref (qa (4 * (32 + p2.toNatClampNeg)))]) rfl ?_
          have hj_29 : (32 + p2.toNatClampNeg) < 48 := by have := inb_lt h_28; omega
          refine lv_aload_n hx hb dX1_pour_60 rfl (lv_at hl 1 rfl) ?_
          refine va_get (D := D) (ci := 1) (v := .ref (ca 7)) (C := RX1) (T := TX1) (N := 16) hx hb hts (fun w h => cwc w (in_X1 w h)) hown hK hP 0 rfl rfl 6 (by decide) hk_31 (fun _ h9 => h9) rfl dX1_pour_61 ?_
          refine lv_iload_n hx hb dX1_pour_64 rfl (lv_at hl 2 rfl) ?_
          obtain ⟨h_30, hF⟩ := gd_some hF
          refine va_aldq hx hb hK hP 7 1 rfl rfl (inb_in h_30) dX1_pour_65 ?_
          refine W.eq (g2 := F0 m 66 ls [.ref (qa (4 * (32 + p1.toNatClampNeg))), .ref (qa (4 * (32 + p2.toNatClampNeg)))]) rfl ?_
          have hj_31 : (32 + p1.toNatClampNeg) < 48 := by have := inb_lt h_30; omega
          refine lv_iload_n hx hb dX1_pour_66 rfl (lv_at hl 0 rfl) ?_
          refine lv_aload_n hx hb dX1_pour_67 rfl (lv_at hl 1 rfl) ?_
          refine va_get (D := D) (ci := 1) (v := .ref (ca 9)) (C := RX1) (T := TX1) (N := 16) hx hb hts (fun w h => cwc w (in_X1 w h)) hown hK hP 0 rfl rfl 8 (by decide) hk_37 (fun _ h9 => h9) rfl dX1_pour_68 ?_
          refine lv_iload_n hx hb dX1_pour_71 rfl (lv_at hl 2 rfl) ?_
          obtain ⟨h_32, hF⟩ := gd_some hF
          refine va_iald (f := u.2.2.2.2.2.2.1) hx hb hK hP 9 0 rfl rfl (inb_in h_32) dX1_pour_72 ?_
          obtain ⟨hn_35, hF⟩ := gd_some hF
          obtain ⟨r34, u33, hc_36, hF⟩ := bi_some hF
          refine kc_i (W1 := CW cI cR ca qa (u.1, u.2.1, u.2.2.1, u.2.2.2.1, u.2.2.2.2.1, u.2.2.2.2.2.1, u.2.2.2.2.2.2.1, u.2.2.2.2.2.2.2.1, u.2.2.2.2.2.2.2.2.1, u.2.2.2.2.2.2.2.2.2.1, u.2.2.2.2.2.2.2.2.2.2.1, u.2.2.2.2.2.2.2.2.2.2.2.1, u.2.2.2.2.2.2.2.2.2.2.2.2.1, u.2.2.2.2.2.2.2.2.2.2.2.2.2.1, (va_up (va_up u.2.2.2.2.2.2.2.2.2.2.2.2.2.2 (32 + p2.toNatClampNeg) u33.1) (32 + p1.toNatClampNeg) u33.2))) (va_runV (As := [.ref (qa (4 * (32 + p1.toNatClampNeg))), .int r19, .int (u.2.2.2.2.2.2.1 p1.toNatClampNeg)]) (rest := []) ⟨hx, hb, hml, hown, hts⟩ (c_Row_moveTo l D cI cR (qa (4 * (32 + p2.toNatClampNeg))) (qa (4 * (32 + p2.toNatClampNeg) + 1)) (qa (4 * (32 + p2.toNatClampNeg) + 2)) (qa (4 * (32 + p2.toNatClampNeg) + 3)) (qa (4 * (32 + p1.toNatClampNeg))) (qa (4 * (32 + p1.toNatClampNeg) + 1)) (qa (4 * (32 + p1.toNatClampNeg) + 2)) (qa (4 * (32 + p1.toNatClampNeg) + 3)) H.size r19 (u.2.2.2.2.2.2.1 p1.toNatClampNeg) (u.2.2.2.2.2.2.2.2.2.2.2.2.2.2 (32 + p2.toNatClampNeg), u.2.2.2.2.2.2.2.2.2.2.2.2.2.2 (32 + p1.toNatClampNeg)) r34 u33 hc_36) (cwV 3 hts (gV cwc mw_260 mw_261 mw_262 mw_2 mw_263) rfl rfl rfl (by decide +kernel) ⟨(Nat.le_of_ble_eq_true rfl), (Nat.le_of_ble_eq_true rfl)⟩) (kp_V (ci := 0) (q := (RX0, TX0, 5)) hK hP hD (cw_sb2 hj_29 hj_31 (of_decide_eq_true hn_35)) rfl rfl) rfl rfl hl.1 rfl (lv_room (Nat.le_of_ble_eq_true rfl)) dX1_pour_73 ⟨(Nat.le_of_ble_eq_true rfl), (Nat.le_of_ble_eq_true rfl)⟩) hP hD hS hA (cw_sb2 hj_29 hj_31 (of_decide_eq_true hn_35)) (cw_jn2 hj_29 hj_31 (of_decide_eq_true hn_35)) (fun H locs hP hD hS => ?_)
          refine lv_pop hx hb dX1_pour_76 rfl ?_
          cases hF
          refine vx_ret ?_
          refine W.widen (k := 4) (n := 24) (Nat.le_of_ble_eq_true rfl) (Nat.le_of_ble_eq_true rfl) ?_
          exact W.vret hx hb hr (fun t ht hW => ⟨⟨_, rfl, ⟨rfl, rfl⟩, by rw [ht]; exact hP, va_K.moved hW.alike hK, hD⟩, hS.F ht⟩) hS.2.2 dX1_pour_77
        · replace hF := (if_neg c_27).symm.trans hF
          cases hF
          exact vx_throwS (own := RX1) (cls := "java/lang/IllegalArgumentException") (names := ["java/lang/RuntimeException", "java/lang/Exception"]) hx hb hl9 hown (by decide +kernel) (by decide +kernel) (hts _ (cwc _ mw_179)) (hts _ (cwc _ mw_8)) (XK_s120 hXK) (vx_hat (L := vx_atS RX1 86 "java/lang/IllegalArgumentException" ["java/lang/RuntimeException", "java/lang/Exception"]) (fun w hw => hts w (cwc w (hatA_2 w hw))) hatB_2 (vx_c (va_Nw.use rfl hXc2) (vx_c (va_Nw.use rfl hXd1) (vx_c (va_Nw.use rfl hXd2) (vx_c (va_Nw.use rfl hXd3) (vx_n)))))) hatC_2 hXU hXN hS (hl.1.trans hml.symm) dX1_pour_44 dX1_pour_47 dX1_pour_48 dX1_pour_50 dX1_pour_53 (fun x hx9 => (hnx x hx9).elim) (Nat.le_of_ble_eq_true rfl) (Nat.le_of_ble_eq_true rfl) (Nat.le_of_ble_eq_true rfl) (Nat.le_of_ble_eq_true rfl) hlocks (fun t ha hsz hk => ⟨2, rfl, ⟨rfl, hP.kept (fun k q hq => hk q.1 (hP k q hq).lt), va_K.moved ha hK, hD⟩, Nat.le_trans hS.1 hsz, fun q h1 h2 => (hk q (Nat.lt_of_lt_of_le h1 hS.1)).trans (hS.2.1 q h1 h2)⟩) hS.2.2 (Nat.le_of_ble_eq_true rfl) (Nat.le_of_ble_eq_true rfl)
def F_P_unload (p1 : Int32) (p2 : Int32) (p3 : Int32) (u : CSt) : Option ((Nat ⊕ Int32) × CSt) := bi (F_P_checkWagon p1 ()) (fun or2 u1 => ox or2 (fun e_4 => some (.inl e_4, u)) (fun _ => bi (F_P_checkStation p2 ()) (fun or7 u6 => ox or7 (fun e_9 => some (.inl e_9, u)) (fun _ => bi (F_P_checkNotBelowZero p3 ()) (fun or12 u11 => ox or12 (fun e_14 => some (.inl e_14, u)) (fun _ => gd (inb p1 16) (nm ((u.2.2.2.2.2.1 p1.toNatClampNeg)) (fun v17 => gd (inb p2 8) ((if (((u.2.2.2.2.1 p2.toNatClampNeg) >>> (v17 &&& 31)) &&& (1 : Int32)) = (1 : Int32) then gd (inb p1 16) (bi (F_P_deliverFrom (32 + p1.toNatClampNeg) p2 v17 p3 u) (fun r34 u33 => some ((.inr r34), u33))) else gd (inb p1 16) (bi (F_P_stockIndex p2 v17 ()) (fun r23 u22 => gd (inb r23 32) (gd (decide (¬ (32 + p1.toNatClampNeg) = r23.toNatClampNeg)) (bi (F_Row_moveTo p3 (999 : Int32) (u.2.2.2.2.2.2.2.2.2.2.2.2.2.2 (32 + p1.toNatClampNeg), u.2.2.2.2.2.2.2.2.2.2.2.2.2.2 r23.toNatClampNeg)) (fun r28 u27 => some ((.inr r28), (u.1, u.2.1, u.2.2.1, u.2.2.2.1, u.2.2.2.2.1, u.2.2.2.2.2.1, u.2.2.2.2.2.2.1, u.2.2.2.2.2.2.2.1, u.2.2.2.2.2.2.2.2.1, u.2.2.2.2.2.2.2.2.2.1, u.2.2.2.2.2.2.2.2.2.2.1, u.2.2.2.2.2.2.2.2.2.2.2.1, u.2.2.2.2.2.2.2.2.2.2.2.2.1, u.2.2.2.2.2.2.2.2.2.2.2.2.2.1, (va_up (va_up u.2.2.2.2.2.2.2.2.2.2.2.2.2.2 (32 + p1.toNatClampNeg) u27.1) r23.toNatClampNeg u27.2))))))))))))))))))
set_option maxHeartbeats 4000000 in
set_option maxRecDepth 100000 in
theorem c_P_unload (l : Launch) (hl9 : l.stackTraces = false) (D : va_G) (cI cR : ClassId) (sa : Nat → Nat) (ca qa : Nat → Nat) (sz : Nat) (p1 : Int32) (p2 : Int32) (p3 : Int32) (u : CSt) (r : Nat ⊕ Int32) (u' : CSt) (hF : F_P_unload p1 p2 p3 u = some (r, u')) : vx_Met l yX1_unload wsX1_unload ({ frames := 7, cells := 3, slots := 18, locals := 102 }) (va_Pc [.ref (ca 0), .int p1, .int p2, .int p3] (PREX D (TY cI cR) (CW cI cR ca qa u) sz sa)) (XI D (TY cI cR) (va_A (CW cI cR ca qa u) sz) (fun v => CW cI cR ca qa v) r u') (XX D (TY cI cR) (va_A (CW cI cR ca qa u) sz) (fun v => CW cI cR ca qa v) r u') 3 18 (va_A (CW cI cR ca qa u) sz) := by
  refine vx_ofW (cc := cX1_unload) (maxL := 5) (ret := (some .int)) (by decide) rfl ?_
  intro p e s m args below meth c s₁ B hml hnx hv
  obtain ⟨rfl, ⟨hsz, hP, hK, hD0⟩, hXK⟩ := hv
  have hx := B.exec
  have hb := B.bytes
  have hr := B.returns
  have hts := atoms_spec (ws := wsX1_unload) B.pre
  have hown : s.vm.findClass RX1 = some m.cls := findClass_of_methodNamed B.named
  have hlocks := B.notSynchronized
  subst hsz
  have hD := hD0.self (sz := s.heap.size)
  generalize hAe : va_A (CW cI cR ca qa u) s.heap.size = A at hD hXK ⊢
  have hA : ∀ q : Nat, s.heap.size ≤ q → A q := fun q h => by rw [← hAe]; exact Or.inr h
  have hS : va_S A s.heap s.heap [] := va_S.rf
  replace hP : va_P D vwCl (CW cI cR ca qa u) s.heap := hP
  have hl := lv_entry ([.ref (ca 0), .int p1, .int p2, .int p3]) (n := 5) (Nat.le_of_ble_eq_true rfl)
  rw [lg_entry_eq]
  generalize (lg_sl ([.ref (ca 0), .int p1, .int p2, .int p3]) ++ List.replicate (5 - (lg_sl ([.ref (ca 0), .int p1, .int p2, .int p3])).length) Slot.unset).toArray = ls at hl ⊢
  replace hl : lv_has ls 5 [(0, .ref (ca 0)), (1, .int p1), (2, .int p2), (3, .int p3)] := hl
  have hk_34 := (hts _ (cwc _ mw_42))
  have hk_28 := (hts _ (cwc _ mw_40))
  have hk_31 := (hts _ (cwc _ mw_41))
  have hk_11 := (hts _ (cwc _ mw_35))
  obtain ⟨hXU, hXN, hXc1, hXc2, hXd1, hXd2, hXd3, hXn, -⟩ := id hXK
  unfold F_P_unload at hF
  refine (?_ : ∀ (H : Heap) (locs : List Loc), va_P D vwCl (CW cI cR ca qa u) H → va_S A s.heap H locs → W p l e _ s m _ below meth c H locs 0 0 _ (F0 m 0 ls [])) s.heap [] hP hS
  intro H locs hP hS
  refine lv_iload_n hx hb dX1_unload_0 rfl (lv_at hl 1 rfl) ?_
  obtain ⟨or2, u1, hc_3, hF⟩ := bi_some hF
  refine kx_v (W1 := CW cI cR ca qa u) (vx_runS (As := [.int p1]) (rest := []) ⟨hx, hb, hml, hown, hts⟩ (c_P_checkWagon l hl9 D cI cR sa  H.size p1 () or2 u1 hc_3) (va_cwS 1 hts (gS cwc mw_224 mw_225 mw_1 mw_226) rfl rfl rfl (by decide +kernel) ⟨(Nat.le_of_ble_eq_true rfl), (Nat.le_of_ble_eq_true rfl)⟩) (kpX_S hXK hK hP hD hS hA (sb_nil _)) rfl rfl hl.1 rfl (lv_room (Nat.le_of_ble_eq_true rfl)) dX1_unload_1 ⟨(Nat.le_of_ble_eq_true rfl), (Nat.le_of_ble_eq_true rfl)⟩) hP hD hS hA (sb_nil _) (jn_nil _) (fun e_4 ce q9 H locs ho_5 hP hD hS hce hcv hcl => ?_) (fun H locs ho_5 hP hD hS => ?_)
  · subst ho_5
    replace hF := ox_l hF
    cases hF
    exact kx_out hnx hlocks hK hP hD hS hce hcv hcl rfl (Nat.le_of_ble_eq_true rfl) (Nat.le_of_ble_eq_true rfl)
  · subst ho_5
    replace hF := ox_r hF
    refine lv_iload_n hx hb dX1_unload_4 rfl (lv_at hl 2 rfl) ?_
    obtain ⟨or7, u6, hc_8, hF⟩ := bi_some hF
    refine kx_v (W1 := CW cI cR ca qa u) (vx_runS (As := [.int p2]) (rest := []) ⟨hx, hb, hml, hown, hts⟩ (c_P_checkStation l hl9 D cI cR sa  H.size p2 () or7 u6 hc_8) (va_cwS 1 hts (gS cwc mw_124 mw_125 mw_1 mw_126) rfl rfl rfl (by decide +kernel) ⟨(Nat.le_of_ble_eq_true rfl), (Nat.le_of_ble_eq_true rfl)⟩) (kpX_S hXK hK hP hD hS hA (sb_nil _)) rfl rfl hl.1 rfl (lv_room (Nat.le_of_ble_eq_true rfl)) dX1_unload_5 ⟨(Nat.le_of_ble_eq_true rfl), (Nat.le_of_ble_eq_true rfl)⟩) hP hD hS hA (sb_nil _) (jn_nil _) (fun e_9 ce q9 H locs ho_10 hP hD hS hce hcv hcl => ?_) (fun H locs ho_10 hP hD hS => ?_)
    · subst ho_10
      replace hF := ox_l hF
      cases hF
      exact kx_out hnx hlocks hK hP hD hS hce hcv hcl rfl (Nat.le_of_ble_eq_true rfl) (Nat.le_of_ble_eq_true rfl)
    · subst ho_10
      replace hF := ox_r hF
      refine lv_iload_n hx hb dX1_unload_8 rfl (lv_at hl 3 rfl) ?_
      obtain ⟨or12, u11, hc_13, hF⟩ := bi_some hF
      refine kx_v (W1 := CW cI cR ca qa u) (vx_runS (As := [.int p3]) (rest := []) ⟨hx, hb, hml, hown, hts⟩ (c_P_checkNotBelowZero l hl9 D cI cR sa  H.size p3 () or12 u11 hc_13) (va_cwS 1 hts (gS cwc mw_257 mw_258 mw_1 mw_259) rfl rfl rfl (by decide +kernel) ⟨(Nat.le_of_ble_eq_true rfl), (Nat.le_of_ble_eq_true rfl)⟩) (kpX_S hXK hK hP hD hS hA (sb_nil _)) rfl rfl hl.1 rfl (lv_room (Nat.le_of_ble_eq_true rfl)) dX1_unload_9 ⟨(Nat.le_of_ble_eq_true rfl), (Nat.le_of_ble_eq_true rfl)⟩) hP hD hS hA (sb_nil _) (jn_nil _) (fun e_14 ce q9 H locs ho_15 hP hD hS hce hcv hcl => ?_) (fun H locs ho_15 hP hD hS => ?_)
      · subst ho_15
        replace hF := ox_l hF
        cases hF
        exact kx_out hnx hlocks hK hP hD hS hce hcv hcl rfl (Nat.le_of_ble_eq_true rfl) (Nat.le_of_ble_eq_true rfl)
      · subst ho_15
        replace hF := ox_r hF
        refine lv_aload_n hx hb dX1_unload_12 rfl (lv_at hl 0 rfl) ?_
        refine va_get (D := D) (ci := 1) (v := .ref (ca 8)) (C := RX1) (T := TX1) (N := 16) hx hb hts (fun w h => cwc w (in_X1 w h)) hown hK hP 0 rfl rfl 7 (by decide) hk_34 (fun _ h9 => h9) rfl dX1_unload_13 ?_
        refine lv_iload_n hx hb dX1_unload_16 rfl (lv_at hl 1 rfl) ?_
        obtain ⟨h_16, hF⟩ := gd_some hF
        refine va_iald (f := u.2.2.2.2.2.1) hx hb hK hP 8 0 rfl rfl (inb_in h_16) dX1_unload_17 ?_
        obtain ⟨v17, ev17, hF⟩ := nm_some hF
        refine W.eq (g2 := F0 m 18 ls (.int v17 :: [])) (congrArg (fun z => F0 m 18 ls (.int z :: [])) ev17.symm) ?_
        refine lv_istore (lv' := [(4, .int v17), (0, .ref (ca 0)), (1, .int p1), (2, .int p2), (3, .int p3)]) hx hb dX1_unload_18 hl (by decide) rfl (fun ls hl => ?_)
        refine lv_aload_n hx hb dX1_unload_20 rfl (lv_at hl 1 rfl) ?_
        refine va_get (D := D) (ci := 1) (v := .ref (ca 6)) (C := RX1) (T := TX1) (N := 16) hx hb hts (fun w h => cwc w (in_X1 w h)) hown hK hP 0 rfl rfl 5 (by decide) hk_28 (fun _ h9 => h9) rfl dX1_unload_21 ?_
        refine lv_iload_n hx hb dX1_unload_24 rfl (lv_at hl 3 rfl) ?_
        obtain ⟨h_18, hF⟩ := gd_some hF
        refine va_iald (f := u.2.2.2.2.1) hx hb hK hP 6 0 rfl rfl (inb_in h_18) dX1_unload_25 ?_
        refine lv_iload hx hb dX1_unload_26 (lv_at hl 0 rfl) ?_
        refine lv_ishr hx hb dX1_unload_28 ?_
        refine lv_iconst (v := (1 : Int32)) hx hb dX1_unload_29 (by decide +kernel) ?_
        refine lv_iand hx hb dX1_unload_30 ?_
        refine lv_iconst (v := (1 : Int32)) hx hb dX1_unload_31 (by decide +kernel) ?_
        refine lv_icmp_ne (tgt := 50) hx hb dX1_unload_32 (by decide) (fun c_19 => ?_) (fun c_19 => ?_)
        · replace hF := (if_neg c_19).symm.trans hF
          refine lv_aload_n hx hb dX1_unload_50 rfl (lv_at hl 1 rfl) ?_
          refine va_get (D := D) (ci := 1) (v := .ref (ca 7)) (C := RX1) (T := TX1) (N := 16) hx hb hts (fun w h => cwc w (in_X1 w h)) hown hK hP 0 rfl rfl 6 (by decide) hk_31 (fun _ h9 => h9) rfl dX1_unload_51 ?_
          refine lv_iload_n hx hb dX1_unload_54 rfl (lv_at hl 2 rfl) ?_
          obtain ⟨h_20, hF⟩ := gd_some hF
          refine va_aldq hx hb hK hP 7 1 rfl rfl (inb_in h_20) dX1_unload_55 ?_
          refine W.eq (g2 := F0 m 56 ls [.ref (qa (4 * (32 + p1.toNatClampNeg)))]) rfl ?_
          have hj_21 : (32 + p1.toNatClampNeg) < 48 := by have := inb_lt h_20; omega
          refine lv_aload_n hx hb dX1_unload_56 rfl (lv_at hl 1 rfl) ?_
          refine va_get (D := D) (ci := 1) (v := .ref (ca 1)) (C := RX1) (T := TX1) (N := 16) hx hb hts (fun w h => cwc w (in_X1 w h)) hown hK hP 0 rfl rfl 0 (by decide) hk_11 (fun _ h9 => h9) rfl dX1_unload_57 ?_
          refine lv_iload_n hx hb dX1_unload_60 rfl (lv_at hl 3 rfl) ?_
          refine lv_iload hx hb dX1_unload_61 (lv_at hl 0 rfl) ?_
          obtain ⟨r23, u22, hc_24, hF⟩ := bi_some hF
          refine kc_i (W1 := CW cI cR ca qa u) (va_runS (As := [.int p2, .int v17]) (rest := [.ref (ca 1), .ref (qa (4 * (32 + p1.toNatClampNeg)))]) ⟨hx, hb, hml, hown, hts⟩ (c_P_stockIndex l D cI cR  H.size p2 v17 () r23 u22 hc_24) (va_cwS 2 hts (gS cwc mw_86 mw_87 mw_1 mw_88) rfl rfl rfl (by decide +kernel) ⟨(Nat.le_of_ble_eq_true rfl), (Nat.le_of_ble_eq_true rfl)⟩) (kp_S hK hP hD (sb_nil _)) rfl rfl hl.1 rfl (lv_room (Nat.le_of_ble_eq_true rfl)) dX1_unload_63 ⟨(Nat.le_of_ble_eq_true rfl), (Nat.le_of_ble_eq_true rfl)⟩) hP hD hS hA (sb_nil _) (jn_nil _) (fun H locs hP hD hS => ?_)
          obtain ⟨h_25, hF⟩ := gd_some hF
          refine va_aldq hx hb hK hP 1 1 rfl rfl (inb_in h_25) dX1_unload_66 ?_
          refine W.eq (g2 := F0 m 67 ls [.ref (qa (4 * r23.toNatClampNeg)), .ref (qa (4 * (32 + p1.toNatClampNeg)))]) rfl ?_
          have hj_26 : r23.toNatClampNeg < 48 := by have := inb_lt h_25; omega
          refine lv_iload_n hx hb dX1_unload_67 rfl (lv_at hl 4 rfl) ?_
          refine lv_sipush (v := (999 : Int32)) hx hb dX1_unload_68 (by decide +kernel) ?_
          obtain ⟨hn_29, hF⟩ := gd_some hF
          obtain ⟨r28, u27, hc_30, hF⟩ := bi_some hF
          refine kc_i (W1 := CW cI cR ca qa (u.1, u.2.1, u.2.2.1, u.2.2.2.1, u.2.2.2.2.1, u.2.2.2.2.2.1, u.2.2.2.2.2.2.1, u.2.2.2.2.2.2.2.1, u.2.2.2.2.2.2.2.2.1, u.2.2.2.2.2.2.2.2.2.1, u.2.2.2.2.2.2.2.2.2.2.1, u.2.2.2.2.2.2.2.2.2.2.2.1, u.2.2.2.2.2.2.2.2.2.2.2.2.1, u.2.2.2.2.2.2.2.2.2.2.2.2.2.1, (va_up (va_up u.2.2.2.2.2.2.2.2.2.2.2.2.2.2 (32 + p1.toNatClampNeg) u27.1) r23.toNatClampNeg u27.2))) (va_runV (As := [.ref (qa (4 * r23.toNatClampNeg)), .int p3, .int (999 : Int32)]) (rest := []) ⟨hx, hb, hml, hown, hts⟩ (c_Row_moveTo l D cI cR (qa (4 * (32 + p1.toNatClampNeg))) (qa (4 * (32 + p1.toNatClampNeg) + 1)) (qa (4 * (32 + p1.toNatClampNeg) + 2)) (qa (4 * (32 + p1.toNatClampNeg) + 3)) (qa (4 * r23.toNatClampNeg)) (qa (4 * r23.toNatClampNeg + 1)) (qa (4 * r23.toNatClampNeg + 2)) (qa (4 * r23.toNatClampNeg + 3)) H.size p3 (999 : Int32) (u.2.2.2.2.2.2.2.2.2.2.2.2.2.2 (32 + p1.toNatClampNeg), u.2.2.2.2.2.2.2.2.2.2.2.2.2.2 r23.toNatClampNeg) r28 u27 hc_30) (cwV 3 hts (gV cwc mw_260 mw_261 mw_262 mw_2 mw_263) rfl rfl rfl (by decide +kernel) ⟨(Nat.le_of_ble_eq_true rfl), (Nat.le_of_ble_eq_true rfl)⟩) (kp_V (ci := 0) (q := (RX0, TX0, 5)) hK hP hD (cw_sb2 hj_21 hj_26 (of_decide_eq_true hn_29)) rfl rfl) rfl rfl hl.1 rfl (lv_room (Nat.le_of_ble_eq_true rfl)) dX1_unload_71 ⟨(Nat.le_of_ble_eq_true rfl), (Nat.le_of_ble_eq_true rfl)⟩) hP hD hS hA (cw_sb2 hj_21 hj_26 (of_decide_eq_true hn_29)) (cw_jn2 hj_21 hj_26 (of_decide_eq_true hn_29)) (fun H locs hP hD hS => ?_)
          cases hF
          refine vx_ret ?_
          refine W.widen (k := 3) (n := 18) (Nat.le_of_ble_eq_true rfl) (Nat.le_of_ble_eq_true rfl) ?_
          exact W.iret hx hb hr (fun t ht hW => ⟨⟨_, _, rfl, ⟨rfl, rfl⟩, by rw [ht]; exact hP, va_K.moved hW.alike hK, hD⟩, hS.F ht⟩) hS.2.2 dX1_unload_74
        · replace hF := (if_pos c_19).symm.trans hF
          refine lv_aload_n hx hb dX1_unload_35 rfl (lv_at hl 1 rfl) ?_
          refine lv_aload_n hx hb dX1_unload_36 rfl (lv_at hl 1 rfl) ?_
          refine va_get (D := D) (ci := 1) (v := .ref (ca 7)) (C := RX1) (T := TX1) (N := 16) hx hb hts (fun w h => cwc w (in_X1 w h)) hown hK hP 0 rfl rfl 6 (by decide) hk_31 (fun _ h9 => h9) rfl dX1_unload_37 ?_
          refine lv_iload_n hx hb dX1_unload_40 rfl (lv_at hl 2 rfl) ?_
          obtain ⟨h_31, hF⟩ := gd_some hF
          refine va_aldq hx hb hK hP 7 1 rfl rfl (inb_in h_31) dX1_unload_41 ?_
          refine W.eq (g2 := F0 m 42 ls [.ref (qa (4 * (32 + p1.toNatClampNeg))), .ref (ca 0)]) rfl ?_
          have hj_32 : (32 + p1.toNatClampNeg) < 48 := by have := inb_lt h_31; omega
          refine lv_iload_n hx hb dX1_unload_42 rfl (lv_at hl 3 rfl) ?_
          refine lv_iload hx hb dX1_unload_43 (lv_at hl 0 rfl) ?_
          refine lv_iload_n hx hb dX1_unload_45 rfl (lv_at hl 4 rfl) ?_
          obtain ⟨r34, u33, hc_35, hF⟩ := bi_some hF
          refine kc_i (W1 := CW cI cR ca qa u33) (va_runV (As := [.ref (qa (4 * (32 + p1.toNatClampNeg))), .int p2, .int v17, .int p3]) (rest := []) ⟨hx, hb, hml, hown, hts⟩ (c_P_deliverFrom l D cI cR ca qa H.size (32 + p1.toNatClampNeg) hj_32 p2 v17 p3 u r34 u33 hc_35) (cwV 4 hts (gV cwc mw_280 mw_281 mw_481 mw_1 mw_282) rfl rfl rfl (by decide +kernel) ⟨(Nat.le_of_ble_eq_true rfl), (Nat.le_of_ble_eq_true rfl)⟩) (kp_V (ci := 1) (q := (RX1, TX1, 16)) hK hP hD (sb_id _) rfl rfl) rfl rfl hl.1 rfl (lv_room (Nat.le_of_ble_eq_true rfl)) dX1_unload_46 ⟨(Nat.le_of_ble_eq_true rfl), (Nat.le_of_ble_eq_true rfl)⟩) hP hD hS hA (sb_id _) (jn_id (cw_ad _ _)) (fun H locs hP hD hS => ?_)
          cases hF
          refine vx_ret ?_
          refine W.widen (k := 3) (n := 18) (Nat.le_of_ble_eq_true rfl) (Nat.le_of_ble_eq_true rfl) ?_
          exact W.iret hx hb hr (fun t ht hW => ⟨⟨_, _, rfl, ⟨rfl, rfl⟩, by rw [ht]; exact hP, va_K.moved hW.alike hK, hD⟩, hS.F ht⟩) hS.2.2 dX1_unload_49
def F_P_load (p1 : Int32) (p2 : Int32) (p3 : Int32) (u : CSt) : Option ((Nat ⊕ Int32) × CSt) := bi (F_P_checkWagon p1 ()) (fun or2 u1 => ox or2 (fun e_4 => some (.inl e_4, u)) (fun _ => bi (F_P_checkStation p2 ()) (fun or7 u6 => ox or7 (fun e_9 => some (.inl e_9, u)) (fun _ => bi (F_P_checkNotBelowZero p3 ()) (fun or12 u11 => ox or12 (fun e_14 => some (.inl e_14, u)) (fun _ => gd (inb p1 16) (bi (F_P_stockIndex p2 (u.2.2.2.2.2.1 p1.toNatClampNeg) ()) (fun r18 u17 => gd (inb r18 32) (gd (inb p1 16) (gd (inb p1 16) (gd (decide (¬ r18.toNatClampNeg = (32 + p1.toNatClampNeg))) (bi (F_Row_moveTo p3 (u.2.2.2.2.2.2.1 p1.toNatClampNeg) (u.2.2.2.2.2.2.2.2.2.2.2.2.2.2 r18.toNatClampNeg, u.2.2.2.2.2.2.2.2.2.2.2.2.2.2 (32 + p1.toNatClampNeg))) (fun r26 u25 => some ((.inr r26), (u.1, u.2.1, u.2.2.1, u.2.2.2.1, u.2.2.2.2.1, u.2.2.2.2.2.1, u.2.2.2.2.2.2.1, u.2.2.2.2.2.2.2.1, u.2.2.2.2.2.2.2.2.1, u.2.2.2.2.2.2.2.2.2.1, u.2.2.2.2.2.2.2.2.2.2.1, u.2.2.2.2.2.2.2.2.2.2.2.1, u.2.2.2.2.2.2.2.2.2.2.2.2.1, u.2.2.2.2.2.2.2.2.2.2.2.2.2.1, (va_up (va_up u.2.2.2.2.2.2.2.2.2.2.2.2.2.2 r18.toNatClampNeg u25.1) (32 + p1.toNatClampNeg) u25.2))))))))))))))))
set_option maxHeartbeats 4000000 in
set_option maxRecDepth 100000 in
theorem c_P_load (l : Launch) (hl9 : l.stackTraces = false) (D : va_G) (cI cR : ClassId) (sa : Nat → Nat) (ca qa : Nat → Nat) (sz : Nat) (p1 : Int32) (p2 : Int32) (p3 : Int32) (u : CSt) (r : Nat ⊕ Int32) (u' : CSt) (hF : F_P_load p1 p2 p3 u = some (r, u')) : vx_Met l yX1_load wsX1_load ({ frames := 7, cells := 3, slots := 18, locals := 102 }) (va_Pc [.ref (ca 0), .int p1, .int p2, .int p3] (PREX D (TY cI cR) (CW cI cR ca qa u) sz sa)) (XI D (TY cI cR) (va_A (CW cI cR ca qa u) sz) (fun v => CW cI cR ca qa v) r u') (XX D (TY cI cR) (va_A (CW cI cR ca qa u) sz) (fun v => CW cI cR ca qa v) r u') 3 18 (va_A (CW cI cR ca qa u) sz) := by
  refine vx_ofW (cc := cX1_load) (maxL := 5) (ret := (some .int)) (by decide) rfl ?_
  intro p e s m args below meth c s₁ B hml hnx hv
  obtain ⟨rfl, ⟨hsz, hP, hK, hD0⟩, hXK⟩ := hv
  have hx := B.exec
  have hb := B.bytes
  have hr := B.returns
  have hts := atoms_spec (ws := wsX1_load) B.pre
  have hown : s.vm.findClass RX1 = some m.cls := findClass_of_methodNamed B.named
  have hlocks := B.notSynchronized
  subst hsz
  have hD := hD0.self (sz := s.heap.size)
  generalize hAe : va_A (CW cI cR ca qa u) s.heap.size = A at hD hXK ⊢
  have hA : ∀ q : Nat, s.heap.size ≤ q → A q := fun q h => by rw [← hAe]; exact Or.inr h
  have hS : va_S A s.heap s.heap [] := va_S.rf
  replace hP : va_P D vwCl (CW cI cR ca qa u) s.heap := hP
  have hl := lv_entry ([.ref (ca 0), .int p1, .int p2, .int p3]) (n := 5) (Nat.le_of_ble_eq_true rfl)
  rw [lg_entry_eq]
  generalize (lg_sl ([.ref (ca 0), .int p1, .int p2, .int p3]) ++ List.replicate (5 - (lg_sl ([.ref (ca 0), .int p1, .int p2, .int p3])).length) Slot.unset).toArray = ls at hl ⊢
  replace hl : lv_has ls 5 [(0, .ref (ca 0)), (1, .int p1), (2, .int p2), (3, .int p3)] := hl
  have hk_11 := (hts _ (cwc _ mw_35))
  have hk_34 := (hts _ (cwc _ mw_42))
  have hk_31 := (hts _ (cwc _ mw_41))
  have hk_37 := (hts _ (cwc _ mw_43))
  obtain ⟨hXU, hXN, hXc1, hXc2, hXd1, hXd2, hXd3, hXn, -⟩ := id hXK
  unfold F_P_load at hF
  refine (?_ : ∀ (H : Heap) (locs : List Loc), va_P D vwCl (CW cI cR ca qa u) H → va_S A s.heap H locs → W p l e _ s m _ below meth c H locs 0 0 _ (F0 m 0 ls [])) s.heap [] hP hS
  intro H locs hP hS
  refine lv_iload_n hx hb dX1_load_0 rfl (lv_at hl 1 rfl) ?_
  obtain ⟨or2, u1, hc_3, hF⟩ := bi_some hF
  refine kx_v (W1 := CW cI cR ca qa u) (vx_runS (As := [.int p1]) (rest := []) ⟨hx, hb, hml, hown, hts⟩ (c_P_checkWagon l hl9 D cI cR sa  H.size p1 () or2 u1 hc_3) (va_cwS 1 hts (gS cwc mw_224 mw_225 mw_1 mw_226) rfl rfl rfl (by decide +kernel) ⟨(Nat.le_of_ble_eq_true rfl), (Nat.le_of_ble_eq_true rfl)⟩) (kpX_S hXK hK hP hD hS hA (sb_nil _)) rfl rfl hl.1 rfl (lv_room (Nat.le_of_ble_eq_true rfl)) dX1_load_1 ⟨(Nat.le_of_ble_eq_true rfl), (Nat.le_of_ble_eq_true rfl)⟩) hP hD hS hA (sb_nil _) (jn_nil _) (fun e_4 ce q9 H locs ho_5 hP hD hS hce hcv hcl => ?_) (fun H locs ho_5 hP hD hS => ?_)
  · subst ho_5
    replace hF := ox_l hF
    cases hF
    exact kx_out hnx hlocks hK hP hD hS hce hcv hcl rfl (Nat.le_of_ble_eq_true rfl) (Nat.le_of_ble_eq_true rfl)
  · subst ho_5
    replace hF := ox_r hF
    refine lv_iload_n hx hb dX1_load_4 rfl (lv_at hl 2 rfl) ?_
    obtain ⟨or7, u6, hc_8, hF⟩ := bi_some hF
    refine kx_v (W1 := CW cI cR ca qa u) (vx_runS (As := [.int p2]) (rest := []) ⟨hx, hb, hml, hown, hts⟩ (c_P_checkStation l hl9 D cI cR sa  H.size p2 () or7 u6 hc_8) (va_cwS 1 hts (gS cwc mw_124 mw_125 mw_1 mw_126) rfl rfl rfl (by decide +kernel) ⟨(Nat.le_of_ble_eq_true rfl), (Nat.le_of_ble_eq_true rfl)⟩) (kpX_S hXK hK hP hD hS hA (sb_nil _)) rfl rfl hl.1 rfl (lv_room (Nat.le_of_ble_eq_true rfl)) dX1_load_5 ⟨(Nat.le_of_ble_eq_true rfl), (Nat.le_of_ble_eq_true rfl)⟩) hP hD hS hA (sb_nil _) (jn_nil _) (fun e_9 ce q9 H locs ho_10 hP hD hS hce hcv hcl => ?_) (fun H locs ho_10 hP hD hS => ?_)
    · subst ho_10
      replace hF := ox_l hF
      cases hF
      exact kx_out hnx hlocks hK hP hD hS hce hcv hcl rfl (Nat.le_of_ble_eq_true rfl) (Nat.le_of_ble_eq_true rfl)
    · subst ho_10
      replace hF := ox_r hF
      refine lv_iload_n hx hb dX1_load_8 rfl (lv_at hl 3 rfl) ?_
      obtain ⟨or12, u11, hc_13, hF⟩ := bi_some hF
      refine kx_v (W1 := CW cI cR ca qa u) (vx_runS (As := [.int p3]) (rest := []) ⟨hx, hb, hml, hown, hts⟩ (c_P_checkNotBelowZero l hl9 D cI cR sa  H.size p3 () or12 u11 hc_13) (va_cwS 1 hts (gS cwc mw_257 mw_258 mw_1 mw_259) rfl rfl rfl (by decide +kernel) ⟨(Nat.le_of_ble_eq_true rfl), (Nat.le_of_ble_eq_true rfl)⟩) (kpX_S hXK hK hP hD hS hA (sb_nil _)) rfl rfl hl.1 rfl (lv_room (Nat.le_of_ble_eq_true rfl)) dX1_load_9 ⟨(Nat.le_of_ble_eq_true rfl), (Nat.le_of_ble_eq_true rfl)⟩) hP hD hS hA (sb_nil _) (jn_nil _) (fun e_14 ce q9 H locs ho_15 hP hD hS hce hcv hcl => ?_) (fun H locs ho_15 hP hD hS => ?_)
      · subst ho_15
        replace hF := ox_l hF
        cases hF
        exact kx_out hnx hlocks hK hP hD hS hce hcv hcl rfl (Nat.le_of_ble_eq_true rfl) (Nat.le_of_ble_eq_true rfl)
      · subst ho_15
        replace hF := ox_r hF
        refine lv_aload_n hx hb dX1_load_12 rfl (lv_at hl 0 rfl) ?_
        refine va_get (D := D) (ci := 1) (v := .ref (ca 1)) (C := RX1) (T := TX1) (N := 16) hx hb hts (fun w h => cwc w (in_X1 w h)) hown hK hP 0 rfl rfl 0 (by decide) hk_11 (fun _ h9 => h9) rfl dX1_load_13 ?_
        refine lv_iload_n hx hb dX1_load_16 rfl (lv_at hl 2 rfl) ?_
        refine lv_aload_n hx hb dX1_load_17 rfl (lv_at hl 0 rfl) ?_
        refine va_get (D := D) (ci := 1) (v := .ref (ca 8)) (C := RX1) (T := TX1) (N := 16) hx hb hts (fun w h => cwc w (in_X1 w h)) hown hK hP 0 rfl rfl 7 (by decide) hk_34 (fun _ h9 => h9) rfl dX1_load_18 ?_
        refine lv_iload_n hx hb dX1_load_21 rfl (lv_at hl 1 rfl) ?_
        obtain ⟨h_16, hF⟩ := gd_some hF
        refine va_iald (f := u.2.2.2.2.2.1) hx hb hK hP 8 0 rfl rfl (inb_in h_16) dX1_load_22 ?_
        obtain ⟨r18, u17, hc_19, hF⟩ := bi_some hF
        refine kc_i (W1 := CW cI cR ca qa u) (va_runS (As := [.int p2, .int (u.2.2.2.2.2.1 p1.toNatClampNeg)]) (rest := [.ref (ca 1)]) ⟨hx, hb, hml, hown, hts⟩ (c_P_stockIndex l D cI cR  H.size p2 (u.2.2.2.2.2.1 p1.toNatClampNeg) () r18 u17 hc_19) (va_cwS 2 hts (gS cwc mw_86 mw_87 mw_1 mw_88) rfl rfl rfl (by decide +kernel) ⟨(Nat.le_of_ble_eq_true rfl), (Nat.le_of_ble_eq_true rfl)⟩) (kp_S hK hP hD (sb_nil _)) rfl rfl hl.1 rfl (lv_room (Nat.le_of_ble_eq_true rfl)) dX1_load_23 ⟨(Nat.le_of_ble_eq_true rfl), (Nat.le_of_ble_eq_true rfl)⟩) hP hD hS hA (sb_nil _) (jn_nil _) (fun H locs hP hD hS => ?_)
        obtain ⟨h_20, hF⟩ := gd_some hF
        refine va_aldq hx hb hK hP 1 1 rfl rfl (inb_in h_20) dX1_load_26 ?_
        refine W.eq (g2 := F0 m 27 ls [.ref (qa (4 * r18.toNatClampNeg))]) rfl ?_
        have hj_21 : r18.toNatClampNeg < 48 := by have := inb_lt h_20; omega
        refine lv_astore (lv' := [(4, .ref (qa (4 * r18.toNatClampNeg))), (0, .ref (ca 0)), (1, .int p1), (2, .int p2), (3, .int p3)]) hx hb dX1_load_27 hl (by decide) rfl (fun ls hl => ?_)
        refine lv_aload hx hb dX1_load_29 (lv_at hl 0 rfl) ?_
        refine lv_aload_n hx hb dX1_load_31 rfl (lv_at hl 1 rfl) ?_
        refine va_get (D := D) (ci := 1) (v := .ref (ca 7)) (C := RX1) (T := TX1) (N := 16) hx hb hts (fun w h => cwc w (in_X1 w h)) hown hK hP 0 rfl rfl 6 (by decide) hk_31 (fun _ h9 => h9) rfl dX1_load_32 ?_
        refine lv_iload_n hx hb dX1_load_35 rfl (lv_at hl 2 rfl) ?_
        obtain ⟨h_22, hF⟩ := gd_some hF
        refine va_aldq hx hb hK hP 7 1 rfl rfl (inb_in h_22) dX1_load_36 ?_
        refine W.eq (g2 := F0 m 37 ls [.ref (qa (4 * (32 + p1.toNatClampNeg))), .ref (qa (4 * r18.toNatClampNeg))]) rfl ?_
        have hj_23 : (32 + p1.toNatClampNeg) < 48 := by have := inb_lt h_22; omega
        refine lv_iload_n hx hb dX1_load_37 rfl (lv_at hl 4 rfl) ?_
        refine lv_aload_n hx hb dX1_load_38 rfl (lv_at hl 1 rfl) ?_
        refine va_get (D := D) (ci := 1) (v := .ref (ca 9)) (C := RX1) (T := TX1) (N := 16) hx hb hts (fun w h => cwc w (in_X1 w h)) hown hK hP 0 rfl rfl 8 (by decide) hk_37 (fun _ h9 => h9) rfl dX1_load_39 ?_
        refine lv_iload_n hx hb dX1_load_42 rfl (lv_at hl 2 rfl) ?_
        obtain ⟨h_24, hF⟩ := gd_some hF
        refine va_iald (f := u.2.2.2.2.2.2.1) hx hb hK hP 9 0 rfl rfl (inb_in h_24) dX1_load_43 ?_
        obtain ⟨hn_27, hF⟩ := gd_some hF
        obtain ⟨r26, u25, hc_28, hF⟩ := bi_some hF
        refine kc_i (W1 := CW cI cR ca qa (u.1, u.2.1, u.2.2.1, u.2.2.2.1, u.2.2.2.2.1, u.2.2.2.2.2.1, u.2.2.2.2.2.2.1, u.2.2.2.2.2.2.2.1, u.2.2.2.2.2.2.2.2.1, u.2.2.2.2.2.2.2.2.2.1, u.2.2.2.2.2.2.2.2.2.2.1, u.2.2.2.2.2.2.2.2.2.2.2.1, u.2.2.2.2.2.2.2.2.2.2.2.2.1, u.2.2.2.2.2.2.2.2.2.2.2.2.2.1, (va_up (va_up u.2.2.2.2.2.2.2.2.2.2.2.2.2.2 r18.toNatClampNeg u25.1) (32 + p1.toNatClampNeg) u25.2))) (va_runV (As := [.ref (qa (4 * (32 + p1.toNatClampNeg))), .int p3, .int (u.2.2.2.2.2.2.1 p1.toNatClampNeg)]) (rest := []) ⟨hx, hb, hml, hown, hts⟩ (c_Row_moveTo l D cI cR (qa (4 * r18.toNatClampNeg)) (qa (4 * r18.toNatClampNeg + 1)) (qa (4 * r18.toNatClampNeg + 2)) (qa (4 * r18.toNatClampNeg + 3)) (qa (4 * (32 + p1.toNatClampNeg))) (qa (4 * (32 + p1.toNatClampNeg) + 1)) (qa (4 * (32 + p1.toNatClampNeg) + 2)) (qa (4 * (32 + p1.toNatClampNeg) + 3)) H.size p3 (u.2.2.2.2.2.2.1 p1.toNatClampNeg) (u.2.2.2.2.2.2.2.2.2.2.2.2.2.2 r18.toNatClampNeg, u.2.2.2.2.2.2.2.2.2.2.2.2.2.2 (32 + p1.toNatClampNeg)) r26 u25 hc_28) (cwV 3 hts (gV cwc mw_260 mw_261 mw_262 mw_2 mw_263) rfl rfl rfl (by decide +kernel) ⟨(Nat.le_of_ble_eq_true rfl), (Nat.le_of_ble_eq_true rfl)⟩) (kp_V (ci := 0) (q := (RX0, TX0, 5)) hK hP hD (cw_sb2 hj_21 hj_23 (of_decide_eq_true hn_27)) rfl rfl) rfl rfl hl.1 rfl (lv_room (Nat.le_of_ble_eq_true rfl)) dX1_load_44 ⟨(Nat.le_of_ble_eq_true rfl), (Nat.le_of_ble_eq_true rfl)⟩) hP hD hS hA (cw_sb2 hj_21 hj_23 (of_decide_eq_true hn_27)) (cw_jn2 hj_21 hj_23 (of_decide_eq_true hn_27)) (fun H locs hP hD hS => ?_)
        cases hF
        refine vx_ret ?_
        refine W.widen (k := 3) (n := 18) (Nat.le_of_ble_eq_true rfl) (Nat.le_of_ble_eq_true rfl) ?_
        exact W.iret hx hb hr (fun t ht hW => ⟨⟨_, _, rfl, ⟨rfl, rfl⟩, by rw [ht]; exact hP, va_K.moved hW.alike hK, hD⟩, hS.F ht⟩) hS.2.2 dX1_load_47
def F_P_pass_L54 : Nat → Int32 → Int32 → CSt → Option ((Nat ⊕ Int32) × CSt)
  | 0, _, _, _ => none
  | n + 1, x2, x4, u => (if x2 < x4 then some ((.inr x2), (u.1, u.2.1, u.2.2.1, u.2.2.2.1, u.2.2.2.2.1, u.2.2.2.2.2.1, u.2.2.2.2.2.2.1, u.2.2.2.2.2.2.2.1, u.2.2.2.2.2.2.2.2.1, u.2.2.2.2.2.2.2.2.2.1, x2, u.2.2.2.2.2.2.2.2.2.2.2.1, u.2.2.2.2.2.2.2.2.2.2.2.2.1, u.2.2.2.2.2.2.2.2.2.2.2.2.2.1, u.2.2.2.2.2.2.2.2.2.2.2.2.2.2)) else bi (F_P_produceEverywhere (u.1, u.2.1, u.2.2.1, u.2.2.2.1, u.2.2.2.2.1, u.2.2.2.2.2.1, u.2.2.2.2.2.2.1, u.2.2.2.2.2.2.2.1, u.2.2.2.2.2.2.2.2.1, u.2.2.2.2.2.2.2.2.2.1, x4, u.2.2.2.2.2.2.2.2.2.2.2.1, u.2.2.2.2.2.2.2.2.2.2.2.2.1, u.2.2.2.2.2.2.2.2.2.2.2.2.2.1, u.2.2.2.2.2.2.2.2.2.2.2.2.2.2)) (fun r11 u10 => F_P_pass_L54 n x2 (x4 + (16 : Int32)) u10))
def F_P_pass (p1 : Int32) (u : CSt) : Option ((Nat ⊕ Int32) × CSt) := bi (F_P_checkRange p1 (2000 : Int32) ()) (fun or2 u1 => ox or2 (fun e_4 => some (.inl e_4, u)) (fun _ => (if p1 ≤ ((2000000000 : Int32) - u.2.2.2.2.2.2.2.2.2.2.1) then nm ((u.2.2.2.2.2.2.2.2.2.2.1 + p1)) (fun v7 => nm (((u.2.2.2.2.2.2.2.2.2.2.1 - (u.2.2.2.2.2.2.2.2.2.2.1 - u.2.2.2.2.2.2.2.2.2.2.1 / (16 : Int32) * (16 : Int32))) + (16 : Int32))) (fun v8 => F_P_pass_L54 200 v7 v8 u)) else some (.inl 2, u))))
set_option maxHeartbeats 4000000 in
set_option maxRecDepth 100000 in
theorem w_P_pass_L54 {p : Program} {l : Launch} {e : Env} {s : State} {m : MethodId} {args : Array Value} {below : List Frame} {meth : Method} {c : Code} {A : Nat → Prop} {D : va_G} {cI cR : ClassId} {ca qa : Nat → Nat} (hx : p.tables.exec = Jvm.exec) (hb : c.code = cX1_pass) (hr : meth.sig.returnType = (some .int)) (hml : c.maxLocals = 5) (hown : s.vm.findClass RX1 = some m.cls) (hts : ∀ w ∈ wsX1_pass, w.before args s = true) (hlocks : meth.locks = false) (hA : ∀ q : Nat, s.heap.size ≤ q → A q) (hK : va_K D vwCl (TY cI cR) s) (hnx : ∀ x ∈ c.exceptionTable.toList, False) (hl9 : l.stackTraces = false) {sa : Nat → Nat} (hXK : XK sa A s) : ∀ (n : Nat) (x2 x4 : Int32) (u : CSt) (r : Nat ⊕ Int32) (u' : CSt), F_P_pass_L54 n x2 x4 u = some (r, u') → ∀ (H : Heap) (locs : List Loc) (ls : Array Slot), va_P D vwCl (CW cI cR ca qa u) H → va_D A (CW cI cR ca qa u) → va_S A s.heap H locs → lv_has ls 5 [(0, .ref (ca 0)), (2, .int x2), (4, .int x4)] → W p l e (headSpec wsX1_pass ({ frames := 7, cells := 2, slots := 12, locals := 103 })).room s m args below meth c H locs 1 6 (vx_MQ below (XI D (TY cI cR) A (fun v => CW cI cR ca qa v) r u') (XX D (TY cI cR) A (fun v => CW cI cR ca qa v) r u') args s 2 12 A) (F0 m 54 ls []) := by
  have hC_100 := (hts _ (cwc _ mw_72))
  have hk_49 := (hts _ (cwc _ mw_47))
  obtain ⟨hXU, hXN, hXc1, hXc2, hXd1, hXd2, hXd3, hXn, -⟩ := id hXK
  intro n
  induction n with
  | zero =>
    intro x2 x4 u r u' hF
    rw [F_P_pass_L54] at hF
    exact absurd hF (by simp)
  | succ n ih =>
    intro x2 x4 u r u' hF H locs ls hP hD hS hl
    rw [F_P_pass_L54] at hF
    refine lv_iload hx hb dX1_pass_54 (lv_at hl 2 rfl) ?_
    refine lv_iload_n hx hb dX1_pass_56 rfl (lv_at hl 1 rfl) ?_
    refine lv_icmp_gt (tgt := 76) hx hb dX1_pass_57 (by decide) (fun c_9 => ?_) (fun c_9 => ?_)
    · replace hF := (if_pos c_9).symm.trans hF
      refine lv_aload_n hx hb dX1_pass_76 rfl (lv_at hl 0 rfl) ?_
      refine lv_iload_n hx hb dX1_pass_77 rfl (lv_at hl 1 rfl) ?_
      refine va_put (D := D) (ci := 1) (v := .int x2) (ty := .int) (C := RX1) (T := TX1) (N := 16) hx hb hts (fun w h => cwc w (in_X1 w h)) tyX1 tyX1_ok nmX1 hown hK hP hD hS 0 rfl rfl 12 (by decide) hk_49 (fun _ h9 => h9) rfl (by decide +kernel) rfl rfl (Nat.le_of_ble_eq_true rfl) dX1_pass_78 (fun H locs hP hD hS => ?_)
      replace hP : va_P D vwCl (CW cI cR ca qa (u.1, u.2.1, u.2.2.1, u.2.2.2.1, u.2.2.2.2.1, u.2.2.2.2.2.1, u.2.2.2.2.2.2.1, u.2.2.2.2.2.2.2.1, u.2.2.2.2.2.2.2.2.1, u.2.2.2.2.2.2.2.2.2.1, x2, u.2.2.2.2.2.2.2.2.2.2.2.1, u.2.2.2.2.2.2.2.2.2.2.2.2.1, u.2.2.2.2.2.2.2.2.2.2.2.2.2.1, u.2.2.2.2.2.2.2.2.2.2.2.2.2.2)) H := hP
      replace hD : va_D A (CW cI cR ca qa (u.1, u.2.1, u.2.2.1, u.2.2.2.1, u.2.2.2.2.1, u.2.2.2.2.2.1, u.2.2.2.2.2.2.1, u.2.2.2.2.2.2.2.1, u.2.2.2.2.2.2.2.2.1, u.2.2.2.2.2.2.2.2.2.1, x2, u.2.2.2.2.2.2.2.2.2.2.2.1, u.2.2.2.2.2.2.2.2.2.2.2.2.1, u.2.2.2.2.2.2.2.2.2.2.2.2.2.1, u.2.2.2.2.2.2.2.2.2.2.2.2.2.2)) := hD
      refine lv_aload_n hx hb dX1_pass_81 rfl (lv_at hl 0 rfl) ?_
      refine va_get (D := D) (ci := 1) (v := .int x2) (C := RX1) (T := TX1) (N := 16) hx hb hts (fun w h => cwc w (in_X1 w h)) hown hK hP 0 rfl rfl 12 (by decide) hk_49 (fun _ h9 => h9) rfl dX1_pass_82 ?_
      cases hF
      refine vx_ret ?_
      refine W.widen (k := 2) (n := 12) (Nat.le_of_ble_eq_true rfl) (Nat.le_of_ble_eq_true rfl) ?_
      exact W.iret hx hb hr (fun t ht hW => ⟨⟨_, _, rfl, ⟨rfl, rfl⟩, by rw [ht]; exact hP, va_K.moved hW.alike hK, hD⟩, hS.F ht⟩) hS.2.2 dX1_pass_85
    · replace hF := (if_neg c_9).symm.trans hF
      refine lv_aload_n hx hb dX1_pass_60 rfl (lv_at hl 0 rfl) ?_
      refine lv_iload hx hb dX1_pass_61 (lv_at hl 2 rfl) ?_
      refine va_put (D := D) (ci := 1) (v := .int x4) (ty := .int) (C := RX1) (T := TX1) (N := 16) hx hb hts (fun w h => cwc w (in_X1 w h)) tyX1 tyX1_ok nmX1 hown hK hP hD hS 0 rfl rfl 12 (by decide) hk_49 (fun _ h9 => h9) rfl (by decide +kernel) rfl rfl (Nat.le_of_ble_eq_true rfl) dX1_pass_63 (fun H locs hP hD hS => ?_)
      replace hP : va_P D vwCl (CW cI cR ca qa (u.1, u.2.1, u.2.2.1, u.2.2.2.1, u.2.2.2.2.1, u.2.2.2.2.2.1, u.2.2.2.2.2.2.1, u.2.2.2.2.2.2.2.1, u.2.2.2.2.2.2.2.2.1, u.2.2.2.2.2.2.2.2.2.1, x4, u.2.2.2.2.2.2.2.2.2.2.2.1, u.2.2.2.2.2.2.2.2.2.2.2.2.1, u.2.2.2.2.2.2.2.2.2.2.2.2.2.1, u.2.2.2.2.2.2.2.2.2.2.2.2.2.2)) H := hP
      replace hD : va_D A (CW cI cR ca qa (u.1, u.2.1, u.2.2.1, u.2.2.2.1, u.2.2.2.2.1, u.2.2.2.2.2.1, u.2.2.2.2.2.2.1, u.2.2.2.2.2.2.2.1, u.2.2.2.2.2.2.2.2.1, u.2.2.2.2.2.2.2.2.2.1, x4, u.2.2.2.2.2.2.2.2.2.2.2.1, u.2.2.2.2.2.2.2.2.2.2.2.2.1, u.2.2.2.2.2.2.2.2.2.2.2.2.2.1, u.2.2.2.2.2.2.2.2.2.2.2.2.2.2)) := hD
      refine lv_aload_n hx hb dX1_pass_66 rfl (lv_at hl 0 rfl) ?_
      obtain ⟨r11, u10, hc_12, hF⟩ := bi_some hF
      refine kc_v (W1 := CW cI cR ca qa u10) (va_runV (As := []) (rest := []) ⟨hx, hb, hml, hown, hts⟩ (c_P_produceEverywhere l D cI cR ca qa H.size  (u.1, u.2.1, u.2.2.1, u.2.2.2.1, u.2.2.2.2.1, u.2.2.2.2.2.1, u.2.2.2.2.2.2.1, u.2.2.2.2.2.2.2.1, u.2.2.2.2.2.2.2.2.1, u.2.2.2.2.2.2.2.2.2.1, x4, u.2.2.2.2.2.2.2.2.2.2.2.1, u.2.2.2.2.2.2.2.2.2.2.2.2.1, u.2.2.2.2.2.2.2.2.2.2.2.2.2.1, u.2.2.2.2.2.2.2.2.2.2.2.2.2.2) r11 u10 hc_12) (cwV 0 hts (gV cwc mw_234 mw_235 mw_477 mw_1 mw_236) rfl rfl rfl (by decide +kernel) ⟨(Nat.le_of_ble_eq_true rfl), (Nat.le_of_ble_eq_true rfl)⟩) (kp_V (ci := 1) (q := (RX1, TX1, 16)) hK hP hD (sb_id _) rfl rfl) rfl rfl hl.1 rfl (lv_room (Nat.le_of_ble_eq_true rfl)) dX1_pass_67 ⟨(Nat.le_of_ble_eq_true rfl), (Nat.le_of_ble_eq_true rfl)⟩) hP hD hS hA (sb_id _) (jn_id (cw_ad _ _)) (fun H locs hP hD hS => ?_)
      refine lv_iinc (v := (x4 + (16 : Int32))) (lv' := [(4, .int (x4 + (16 : Int32))), (0, .ref (ca 0)), (2, .int x2)]) hx hb dX1_pass_70 hl (k := 2) rfl rfl (by decide) rfl (fun ls hl => ?_)
      refine lv_goto (tgt := 54) hx hb dX1_pass_73 (by decide) ?_
      exact ih x2 (x4 + (16 : Int32)) u10 _ _ hF H locs ls hP hD hS (lv_sub hl [1, 2, 0] rfl)
set_option maxHeartbeats 4000000 in
set_option maxRecDepth 100000 in
theorem c_P_pass (l : Launch) (hl9 : l.stackTraces = false) (D : va_G) (cI cR : ClassId) (sa : Nat → Nat) (ca qa : Nat → Nat) (sz : Nat) (p1 : Int32) (u : CSt) (r : Nat ⊕ Int32) (u' : CSt) (hF : F_P_pass p1 u = some (r, u')) : vx_Met l yX1_pass wsX1_pass ({ frames := 7, cells := 2, slots := 12, locals := 103 }) (va_Pc [.ref (ca 0), .int p1] (PREX D (TY cI cR) (CW cI cR ca qa u) sz sa)) (XI D (TY cI cR) (va_A (CW cI cR ca qa u) sz) (fun v => CW cI cR ca qa v) r u') (XX D (TY cI cR) (va_A (CW cI cR ca qa u) sz) (fun v => CW cI cR ca qa v) r u') 2 12 (va_A (CW cI cR ca qa u) sz) := by
  refine vx_ofW (cc := cX1_pass) (maxL := 5) (ret := (some .int)) (by decide) rfl ?_
  intro p e s m args below meth c s₁ B hml hnx hv
  obtain ⟨rfl, ⟨hsz, hP, hK, hD0⟩, hXK⟩ := hv
  have hx := B.exec
  have hb := B.bytes
  have hr := B.returns
  have hts := atoms_spec (ws := wsX1_pass) B.pre
  have hown : s.vm.findClass RX1 = some m.cls := findClass_of_methodNamed B.named
  have hlocks := B.notSynchronized
  subst hsz
  have hD := hD0.self (sz := s.heap.size)
  generalize hAe : va_A (CW cI cR ca qa u) s.heap.size = A at hD hXK ⊢
  have hA : ∀ q : Nat, s.heap.size ≤ q → A q := fun q h => by rw [← hAe]; exact Or.inr h
  have hS : va_S A s.heap s.heap [] := va_S.rf
  replace hP : va_P D vwCl (CW cI cR ca qa u) s.heap := hP
  have hl := lv_entry ([.ref (ca 0), .int p1]) (n := 5) (Nat.le_of_ble_eq_true rfl)
  rw [lg_entry_eq]
  generalize (lg_sl ([.ref (ca 0), .int p1]) ++ List.replicate (5 - (lg_sl ([.ref (ca 0), .int p1])).length) Slot.unset).toArray = ls at hl ⊢
  replace hl : lv_has ls 5 [(0, .ref (ca 0)), (1, .int p1)] := hl
  have hC_100 := (hts _ (cwc _ mw_72))
  have hk_49 := (hts _ (cwc _ mw_47))
  obtain ⟨hXU, hXN, hXc1, hXc2, hXd1, hXd2, hXd3, hXn, -⟩ := id hXK
  unfold F_P_pass at hF
  refine (?_ : ∀ (H : Heap) (locs : List Loc), va_P D vwCl (CW cI cR ca qa u) H → va_S A s.heap H locs → W p l e _ s m _ below meth c H locs 0 0 _ (F0 m 0 ls [])) s.heap [] hP hS
  intro H locs hP hS
  refine lv_iload_n hx hb dX1_pass_0 rfl (lv_at hl 1 rfl) ?_
  refine lv_sipush (v := (2000 : Int32)) hx hb dX1_pass_1 (by decide +kernel) ?_
  obtain ⟨or2, u1, hc_3, hF⟩ := bi_some hF
  refine kx_v (W1 := CW cI cR ca qa u) (vx_runS (As := [.int p1, .int (2000 : Int32)]) (rest := []) ⟨hx, hb, hml, hown, hts⟩ (c_P_checkRange l hl9 D cI cR sa  H.size p1 (2000 : Int32) () or2 u1 hc_3) (va_cwS 2 hts (gS cwc mw_176 mw_177 mw_1 mw_178) rfl rfl rfl (by decide +kernel) ⟨(Nat.le_of_ble_eq_true rfl), (Nat.le_of_ble_eq_true rfl)⟩) (kpX_S hXK hK hP hD hS hA (sb_nil _)) rfl rfl hl.1 rfl (lv_room (Nat.le_of_ble_eq_true rfl)) dX1_pass_4 ⟨(Nat.le_of_ble_eq_true rfl), (Nat.le_of_ble_eq_true rfl)⟩) hP hD hS hA (sb_nil _) (jn_nil _) (fun e_4 ce q9 H locs ho_5 hP hD hS hce hcv hcl => ?_) (fun H locs ho_5 hP hD hS => ?_)
  · subst ho_5
    replace hF := ox_l hF
    cases hF
    exact kx_out hnx hlocks hK hP hD hS hce hcv hcl rfl (Nat.le_of_ble_eq_true rfl) (Nat.le_of_ble_eq_true rfl)
  · subst ho_5
    replace hF := ox_r hF
    refine lv_iload_n hx hb dX1_pass_7 rfl (lv_at hl 1 rfl) ?_
    refine lv_ldc (v := (2000000000 : Int32)) hx hb hown hC_100 dX1_pass_8 ?_
    refine lv_aload_n hx hb dX1_pass_10 rfl (lv_at hl 0 rfl) ?_
    refine va_get (D := D) (ci := 1) (v := .int u.2.2.2.2.2.2.2.2.2.2.1) (C := RX1) (T := TX1) (N := 16) hx hb hts (fun w h => cwc w (in_X1 w h)) hown hK hP 0 rfl rfl 12 (by decide) hk_49 (fun _ h9 => h9) rfl dX1_pass_11 ?_
    refine lv_isub hx hb dX1_pass_14 ?_
    refine lv_icmp_le (tgt := 28) hx hb dX1_pass_15 (by decide) (fun c_6 => ?_) (fun c_6 => ?_)
    · replace hF := (if_pos c_6).symm.trans hF
      refine lv_aload_n hx hb dX1_pass_28 rfl (lv_at hl 0 rfl) ?_
      refine va_get (D := D) (ci := 1) (v := .int u.2.2.2.2.2.2.2.2.2.2.1) (C := RX1) (T := TX1) (N := 16) hx hb hts (fun w h => cwc w (in_X1 w h)) hown hK hP 0 rfl rfl 12 (by decide) hk_49 (fun _ h9 => h9) rfl dX1_pass_29 ?_
      refine lv_iload_n hx hb dX1_pass_32 rfl (lv_at hl 1 rfl) ?_
      refine lv_iadd hx hb dX1_pass_33 ?_
      obtain ⟨v7, ev7, hF⟩ := nm_some hF
      refine W.eq (g2 := F0 m 34 ls (.int v7 :: [])) (congrArg (fun z => F0 m 34 ls (.int z :: [])) ev7.symm) ?_
      refine lv_istore_n (lv' := [(2, .int v7), (0, .ref (ca 0)), (1, .int p1)]) hx hb dX1_pass_34 rfl hl (by decide) rfl (fun ls hl => ?_)
      refine lv_aload_n hx hb dX1_pass_35 rfl (lv_at hl 1 rfl) ?_
      refine va_get (D := D) (ci := 1) (v := .int u.2.2.2.2.2.2.2.2.2.2.1) (C := RX1) (T := TX1) (N := 16) hx hb hts (fun w h => cwc w (in_X1 w h)) hown hK hP 0 rfl rfl 12 (by decide) hk_49 (fun _ h9 => h9) rfl dX1_pass_36 ?_
      refine lv_aload_n hx hb dX1_pass_39 rfl (lv_at hl 1 rfl) ?_
      refine va_get (D := D) (ci := 1) (v := .int u.2.2.2.2.2.2.2.2.2.2.1) (C := RX1) (T := TX1) (N := 16) hx hb hts (fun w h => cwc w (in_X1 w h)) hown hK hP 0 rfl rfl 12 (by decide) hk_49 (fun _ h9 => h9) rfl dX1_pass_40 ?_
      refine lv_bipush (v := (16 : Int32)) hx hb dX1_pass_43 (by decide +kernel) ?_
      refine lv_irem hx hb dX1_pass_45 (by decide +kernel) ?_
      refine lv_isub hx hb dX1_pass_46 ?_
      refine lv_bipush (v := (16 : Int32)) hx hb dX1_pass_47 (by decide +kernel) ?_
      refine lv_iadd hx hb dX1_pass_49 ?_
      obtain ⟨v8, ev8, hF⟩ := nm_some hF
      refine W.eq (g2 := F0 m 50 ls (.int v8 :: [])) (congrArg (fun z => F0 m 50 ls (.int z :: [])) ev8.symm) ?_
      refine lv_istore_n (lv' := [(3, .int v8), (2, .int v7), (0, .ref (ca 0)), (1, .int p1)]) hx hb dX1_pass_50 rfl hl (by decide) rfl (fun ls hl => ?_)
      refine lv_iload_n hx hb dX1_pass_51 rfl (lv_at hl 0 rfl) ?_
      refine lv_istore (lv' := [(4, .int v8), (3, .int v8), (2, .int v7), (0, .ref (ca 0)), (1, .int p1)]) hx hb dX1_pass_52 hl (by decide) rfl (fun ls hl => ?_)
      exact w_P_pass_L54 hx hb hr hml hown hts hlocks hA hK hnx hl9 hXK 200 v7 v8 u _ _ hF H locs ls hP hD hS (lv_sub hl [3, 2, 0] rfl)
    · replace hF := (if_neg c_6).symm.trans hF
      cases hF
      exact vx_throwS (own := RX1) (cls := "java/lang/IllegalArgumentException") (names := ["java/lang/RuntimeException", "java/lang/Exception"]) hx hb hl9 hown (by decide +kernel) (by decide +kernel) (hts _ (cwc _ mw_179)) (hts _ (cwc _ mw_8)) (XK_s101 hXK) (vx_hat (L := vx_atS RX1 86 "java/lang/IllegalArgumentException" ["java/lang/RuntimeException", "java/lang/Exception"]) (fun w hw => hts w (cwc w (hatA_2 w hw))) hatB_2 (vx_c (va_Nw.use rfl hXc2) (vx_c (va_Nw.use rfl hXd1) (vx_c (va_Nw.use rfl hXd2) (vx_c (va_Nw.use rfl hXd3) (vx_n)))))) hatC_2 hXU hXN hS (hl.1.trans hml.symm) dX1_pass_18 dX1_pass_21 dX1_pass_22 dX1_pass_24 dX1_pass_27 (fun x hx9 => (hnx x hx9).elim) (Nat.le_of_ble_eq_true rfl) (Nat.le_of_ble_eq_true rfl) (Nat.le_of_ble_eq_true rfl) (Nat.le_of_ble_eq_true rfl) hlocks (fun t ha hsz hk => ⟨2, rfl, ⟨rfl, hP.kept (fun k q hq => hk q.1 (hP k q hq).lt), va_K.moved ha hK, hD⟩, Nat.le_trans hS.1 hsz, fun q h1 h2 => (hk q (Nat.lt_of_lt_of_le h1 hS.1)).trans (hS.2.1 q h1 h2)⟩) hS.2.2 (Nat.le_of_ble_eq_true rfl) (Nat.le_of_ble_eq_true rfl)
def F_P_wagon (p1 : Int32) (p2 : Int32) (p3 : Int32) (u : CSt) : Option ((Nat ⊕ Unit) × CSt) := bi (F_P_checkWagon p1 ()) (fun or2 u1 => ox or2 (fun e_4 => some (.inl e_4, u)) (fun _ => bi (F_P_checkKind p2 ()) (fun or7 u6 => ox or7 (fun e_9 => some (.inl e_9, u)) (fun _ => bi (F_P_checkRange p3 (80 : Int32) ()) (fun or12 u11 => ox or12 (fun e_14 => some (.inl e_14, u)) (fun _ => gd (inb p1 16) (bi (F_Row_total (u.2.2.2.2.2.2.2.2.2.2.2.2.2.2 (32 + p1.toNatClampNeg))) (fun r19 u18 => (if r19 ≤ p3 then (if r19 ≤ (0 : Int32) then gd (inb p1 16) (gd (inb p1 16) (some ((.inr ()), (u.1, u.2.1, u.2.2.1, u.2.2.2.1, u.2.2.2.2.1, (upd u.2.2.2.2.2.1 p1.toNatClampNeg p2), (upd u.2.2.2.2.2.2.1 p1.toNatClampNeg p3), u.2.2.2.2.2.2.2.1, u.2.2.2.2.2.2.2.2.1, u.2.2.2.2.2.2.2.2.2.1, u.2.2.2.2.2.2.2.2.2.2.1, u.2.2.2.2.2.2.2.2.2.2.2.1, u.2.2.2.2.2.2.2.2.2.2.2.2.1, u.2.2.2.2.2.2.2.2.2.2.2.2.2.1, u.2.2.2.2.2.2.2.2.2.2.2.2.2.2)))) else gd (inb p1 16) ((if (u.2.2.2.2.2.1 p1.toNatClampNeg) = p2 then gd (inb p1 16) (gd (inb p1 16) (some ((.inr ()), (u.1, u.2.1, u.2.2.1, u.2.2.2.1, u.2.2.2.2.1, (upd u.2.2.2.2.2.1 p1.toNatClampNeg p2), (upd u.2.2.2.2.2.2.1 p1.toNatClampNeg p3), u.2.2.2.2.2.2.2.1, u.2.2.2.2.2.2.2.2.1, u.2.2.2.2.2.2.2.2.2.1, u.2.2.2.2.2.2.2.2.2.2.1, u.2.2.2.2.2.2.2.2.2.2.2.1, u.2.2.2.2.2.2.2.2.2.2.2.2.1, u.2.2.2.2.2.2.2.2.2.2.2.2.2.1, u.2.2.2.2.2.2.2.2.2.2.2.2.2.2)))) else some (.inl 2, u)))) else some (.inl 2, u))))))))))
set_option maxHeartbeats 4000000 in
set_option maxRecDepth 100000 in
theorem c_P_wagon (l : Launch) (hl9 : l.stackTraces = false) (D : va_G) (cI cR : ClassId) (sa : Nat → Nat) (ca qa : Nat → Nat) (sz : Nat) (p1 : Int32) (p2 : Int32) (p3 : Int32) (u : CSt) (r : Nat ⊕ Unit) (u' : CSt) (hF : F_P_wagon p1 p2 p3 u = some (r, u')) : vx_Met l yX1_wagon wsX1_wagon ({ frames := 7, cells := 4, slots := 24, locals := 103 }) (va_Pc [.ref (ca 0), .int p1, .int p2, .int p3] (PREX D (TY cI cR) (CW cI cR ca qa u) sz sa)) (XV D (TY cI cR) (va_A (CW cI cR ca qa u) sz) (fun v => CW cI cR ca qa v) r u') (XX D (TY cI cR) (va_A (CW cI cR ca qa u) sz) (fun v => CW cI cR ca qa v) r u') 4 24 (va_A (CW cI cR ca qa u) sz) := by
  refine vx_ofW (cc := cX1_wagon) (maxL := 5) (ret := none) (by decide) rfl ?_
  intro p e s m args below meth c s₁ B hml hnx hv
  obtain ⟨rfl, ⟨hsz, hP, hK, hD0⟩, hXK⟩ := hv
  have hx := B.exec
  have hb := B.bytes
  have hr := B.returns
  have hts := atoms_spec (ws := wsX1_wagon) B.pre
  have hown : s.vm.findClass RX1 = some m.cls := findClass_of_methodNamed B.named
  have hlocks := B.notSynchronized
  subst hsz
  have hD := hD0.self (sz := s.heap.size)
  generalize hAe : va_A (CW cI cR ca qa u) s.heap.size = A at hD hXK ⊢
  have hA : ∀ q : Nat, s.heap.size ≤ q → A q := fun q h => by rw [← hAe]; exact Or.inr h
  have hS : va_S A s.heap s.heap [] := va_S.rf
  replace hP : va_P D vwCl (CW cI cR ca qa u) s.heap := hP
  have hl := lv_entry ([.ref (ca 0), .int p1, .int p2, .int p3]) (n := 5) (Nat.le_of_ble_eq_true rfl)
  rw [lg_entry_eq]
  generalize (lg_sl ([.ref (ca 0), .int p1, .int p2, .int p3]) ++ List.replicate (5 - (lg_sl ([.ref (ca 0), .int p1, .int p2, .int p3])).length) Slot.unset).toArray = ls at hl ⊢
  replace hl : lv_has ls 5 [(0, .ref (ca 0)), (1, .int p1), (2, .int p2), (3, .int p3)] := hl
  have hk_31 := (hts _ (cwc _ mw_41))
  have hk_34 := (hts _ (cwc _ mw_42))
  have hk_37 := (hts _ (cwc _ mw_43))
  obtain ⟨hXU, hXN, hXc1, hXc2, hXd1, hXd2, hXd3, hXn, -⟩ := id hXK
  unfold F_P_wagon at hF
  refine (?_ : ∀ (H : Heap) (locs : List Loc), va_P D vwCl (CW cI cR ca qa u) H → va_S A s.heap H locs → W p l e _ s m _ below meth c H locs 0 0 _ (F0 m 0 ls [])) s.heap [] hP hS
  intro H locs hP hS
  refine lv_iload_n hx hb dX1_wagon_0 rfl (lv_at hl 1 rfl) ?_
  obtain ⟨or2, u1, hc_3, hF⟩ := bi_some hF
  refine kx_v (W1 := CW cI cR ca qa u) (vx_runS (As := [.int p1]) (rest := []) ⟨hx, hb, hml, hown, hts⟩ (c_P_checkWagon l hl9 D cI cR sa  H.size p1 () or2 u1 hc_3) (va_cwS 1 hts (gS cwc mw_224 mw_225 mw_1 mw_226) rfl rfl rfl (by decide +kernel) ⟨(Nat.le_of_ble_eq_true rfl), (Nat.le_of_ble_eq_true rfl)⟩) (kpX_S hXK hK hP hD hS hA (sb_nil _)) rfl rfl hl.1 rfl (lv_room (Nat.le_of_ble_eq_true rfl)) dX1_wagon_1 ⟨(Nat.le_of_ble_eq_true rfl), (Nat.le_of_ble_eq_true rfl)⟩) hP hD hS hA (sb_nil _) (jn_nil _) (fun e_4 ce q9 H locs ho_5 hP hD hS hce hcv hcl => ?_) (fun H locs ho_5 hP hD hS => ?_)
  · subst ho_5
    replace hF := ox_l hF
    cases hF
    exact kx_out hnx hlocks hK hP hD hS hce hcv hcl rfl (Nat.le_of_ble_eq_true rfl) (Nat.le_of_ble_eq_true rfl)
  · subst ho_5
    replace hF := ox_r hF
    refine lv_iload_n hx hb dX1_wagon_4 rfl (lv_at hl 2 rfl) ?_
    obtain ⟨or7, u6, hc_8, hF⟩ := bi_some hF
    refine kx_v (W1 := CW cI cR ca qa u) (vx_runS (As := [.int p2]) (rest := []) ⟨hx, hb, hml, hown, hts⟩ (c_P_checkKind l hl9 D cI cR sa  H.size p2 () or7 u6 hc_8) (va_cwS 1 hts (gS cwc mw_200 mw_201 mw_1 mw_202) rfl rfl rfl (by decide +kernel) ⟨(Nat.le_of_ble_eq_true rfl), (Nat.le_of_ble_eq_true rfl)⟩) (kpX_S hXK hK hP hD hS hA (sb_nil _)) rfl rfl hl.1 rfl (lv_room (Nat.le_of_ble_eq_true rfl)) dX1_wagon_5 ⟨(Nat.le_of_ble_eq_true rfl), (Nat.le_of_ble_eq_true rfl)⟩) hP hD hS hA (sb_nil _) (jn_nil _) (fun e_9 ce q9 H locs ho_10 hP hD hS hce hcv hcl => ?_) (fun H locs ho_10 hP hD hS => ?_)
    · subst ho_10
      replace hF := ox_l hF
      cases hF
      exact kx_out hnx hlocks hK hP hD hS hce hcv hcl rfl (Nat.le_of_ble_eq_true rfl) (Nat.le_of_ble_eq_true rfl)
    · subst ho_10
      replace hF := ox_r hF
      refine lv_iload_n hx hb dX1_wagon_8 rfl (lv_at hl 3 rfl) ?_
      refine lv_bipush (v := (80 : Int32)) hx hb dX1_wagon_9 (by decide +kernel) ?_
      obtain ⟨or12, u11, hc_13, hF⟩ := bi_some hF
      refine kx_v (W1 := CW cI cR ca qa u) (vx_runS (As := [.int p3, .int (80 : Int32)]) (rest := []) ⟨hx, hb, hml, hown, hts⟩ (c_P_checkRange l hl9 D cI cR sa  H.size p3 (80 : Int32) () or12 u11 hc_13) (va_cwS 2 hts (gS cwc mw_176 mw_177 mw_1 mw_178) rfl rfl rfl (by decide +kernel) ⟨(Nat.le_of_ble_eq_true rfl), (Nat.le_of_ble_eq_true rfl)⟩) (kpX_S hXK hK hP hD hS hA (sb_nil _)) rfl rfl hl.1 rfl (lv_room (Nat.le_of_ble_eq_true rfl)) dX1_wagon_11 ⟨(Nat.le_of_ble_eq_true rfl), (Nat.le_of_ble_eq_true rfl)⟩) hP hD hS hA (sb_nil _) (jn_nil _) (fun e_14 ce q9 H locs ho_15 hP hD hS hce hcv hcl => ?_) (fun H locs ho_15 hP hD hS => ?_)
      · subst ho_15
        replace hF := ox_l hF
        cases hF
        exact kx_out hnx hlocks hK hP hD hS hce hcv hcl rfl (Nat.le_of_ble_eq_true rfl) (Nat.le_of_ble_eq_true rfl)
      · subst ho_15
        replace hF := ox_r hF
        refine lv_aload_n hx hb dX1_wagon_14 rfl (lv_at hl 0 rfl) ?_
        refine va_get (D := D) (ci := 1) (v := .ref (ca 7)) (C := RX1) (T := TX1) (N := 16) hx hb hts (fun w h => cwc w (in_X1 w h)) hown hK hP 0 rfl rfl 6 (by decide) hk_31 (fun _ h9 => h9) rfl dX1_wagon_15 ?_
        refine lv_iload_n hx hb dX1_wagon_18 rfl (lv_at hl 1 rfl) ?_
        obtain ⟨h_16, hF⟩ := gd_some hF
        refine va_aldq hx hb hK hP 7 1 rfl rfl (inb_in h_16) dX1_wagon_19 ?_
        refine W.eq (g2 := F0 m 20 ls [.ref (qa (4 * (32 + p1.toNatClampNeg)))]) rfl ?_
        have hj_17 : (32 + p1.toNatClampNeg) < 48 := by have := inb_lt h_16; omega
        obtain ⟨r19, u18, hc_20, hF⟩ := bi_some hF
        refine kc_i (W1 := CW cI cR ca qa u) (va_runV (As := []) (rest := []) ⟨hx, hb, hml, hown, hts⟩ (c_Row_total l D cI cR (qa (4 * (32 + p1.toNatClampNeg))) (qa (4 * (32 + p1.toNatClampNeg) + 1)) (qa (4 * (32 + p1.toNatClampNeg) + 2)) (qa (4 * (32 + p1.toNatClampNeg) + 3)) H.size  (u.2.2.2.2.2.2.2.2.2.2.2.2.2.2 (32 + p1.toNatClampNeg)) r19 u18 hc_20) (cwV 0 hts (gV cwc mw_97 mw_98 mw_99 mw_2 mw_100) rfl rfl rfl (by decide +kernel) ⟨(Nat.le_of_ble_eq_true rfl), (Nat.le_of_ble_eq_true rfl)⟩) (kp_V (ci := 0) (q := (RX0, TX0, 5)) hK hP hD (cw_sb hj_17) rfl rfl) rfl rfl hl.1 rfl (lv_room (Nat.le_of_ble_eq_true rfl)) dX1_wagon_20 ⟨(Nat.le_of_ble_eq_true rfl), (Nat.le_of_ble_eq_true rfl)⟩) hP hD hS hA (cw_sb hj_17) (jn_same (cw_sb hj_17)) (fun H locs hP hD hS => ?_)
        refine lv_istore (lv' := [(4, .int r19), (0, .ref (ca 0)), (1, .int p1), (2, .int p2), (3, .int p3)]) hx hb dX1_wagon_23 hl (by decide) rfl (fun ls hl => ?_)
        refine lv_iload hx hb dX1_wagon_25 (lv_at hl 0 rfl) ?_
        refine lv_iload_n hx hb dX1_wagon_27 rfl (lv_at hl 4 rfl) ?_
        refine lv_icmp_le (tgt := 41) hx hb dX1_wagon_28 (by decide) (fun c_21 => ?_) (fun c_21 => ?_)
        · replace hF := (if_pos c_21).symm.trans hF
          refine lv_iload hx hb dX1_wagon_41 (lv_at hl 0 rfl) ?_
          refine lv_if_le (tgt := 66) hx hb dX1_wagon_43 (by decide) (fun c_22 => ?_) (fun c_22 => ?_)
          · replace hF := (if_pos c_22).symm.trans hF
            refine lv_aload_n hx hb dX1_wagon_66 rfl (lv_at hl 1 rfl) ?_
            refine va_get (D := D) (ci := 1) (v := .ref (ca 8)) (C := RX1) (T := TX1) (N := 16) hx hb hts (fun w h => cwc w (in_X1 w h)) hown hK hP 0 rfl rfl 7 (by decide) hk_34 (fun _ h9 => h9) rfl dX1_wagon_67 ?_
            refine lv_iload_n hx hb dX1_wagon_70 rfl (lv_at hl 2 rfl) ?_
            refine lv_iload_n hx hb dX1_wagon_71 rfl (lv_at hl 3 rfl) ?_
            obtain ⟨h_23, hF⟩ := gd_some hF
            refine va_iast (f := u.2.2.2.2.2.1) hx hb hK hP hD hS 8 0 rfl rfl (inb_in h_23) dX1_wagon_72 (fun H locs hP hD hS => ?_)
            replace hP : va_P D vwCl (CW cI cR ca qa (u.1, u.2.1, u.2.2.1, u.2.2.2.1, u.2.2.2.2.1, (upd u.2.2.2.2.2.1 p1.toNatClampNeg p2), u.2.2.2.2.2.2.1, u.2.2.2.2.2.2.2.1, u.2.2.2.2.2.2.2.2.1, u.2.2.2.2.2.2.2.2.2.1, u.2.2.2.2.2.2.2.2.2.2.1, u.2.2.2.2.2.2.2.2.2.2.2.1, u.2.2.2.2.2.2.2.2.2.2.2.2.1, u.2.2.2.2.2.2.2.2.2.2.2.2.2.1, u.2.2.2.2.2.2.2.2.2.2.2.2.2.2)) H := hP
            replace hD : va_D A (CW cI cR ca qa (u.1, u.2.1, u.2.2.1, u.2.2.2.1, u.2.2.2.2.1, (upd u.2.2.2.2.2.1 p1.toNatClampNeg p2), u.2.2.2.2.2.2.1, u.2.2.2.2.2.2.2.1, u.2.2.2.2.2.2.2.2.1, u.2.2.2.2.2.2.2.2.2.1, u.2.2.2.2.2.2.2.2.2.2.1, u.2.2.2.2.2.2.2.2.2.2.2.1, u.2.2.2.2.2.2.2.2.2.2.2.2.1, u.2.2.2.2.2.2.2.2.2.2.2.2.2.1, u.2.2.2.2.2.2.2.2.2.2.2.2.2.2)) := hD
            refine lv_aload_n hx hb dX1_wagon_73 rfl (lv_at hl 1 rfl) ?_
            refine va_get (D := D) (ci := 1) (v := .ref (ca 9)) (C := RX1) (T := TX1) (N := 16) hx hb hts (fun w h => cwc w (in_X1 w h)) hown hK hP 0 rfl rfl 8 (by decide) hk_37 (fun _ h9 => h9) rfl dX1_wagon_74 ?_
            refine lv_iload_n hx hb dX1_wagon_77 rfl (lv_at hl 2 rfl) ?_
            refine lv_iload_n hx hb dX1_wagon_78 rfl (lv_at hl 4 rfl) ?_
            obtain ⟨h_24, hF⟩ := gd_some hF
            refine va_iast (f := u.2.2.2.2.2.2.1) hx hb hK hP hD hS 9 0 rfl rfl (inb_in h_24) dX1_wagon_79 (fun H locs hP hD hS => ?_)
            replace hP : va_P D vwCl (CW cI cR ca qa (u.1, u.2.1, u.2.2.1, u.2.2.2.1, u.2.2.2.2.1, (upd u.2.2.2.2.2.1 p1.toNatClampNeg p2), (upd u.2.2.2.2.2.2.1 p1.toNatClampNeg p3), u.2.2.2.2.2.2.2.1, u.2.2.2.2.2.2.2.2.1, u.2.2.2.2.2.2.2.2.2.1, u.2.2.2.2.2.2.2.2.2.2.1, u.2.2.2.2.2.2.2.2.2.2.2.1, u.2.2.2.2.2.2.2.2.2.2.2.2.1, u.2.2.2.2.2.2.2.2.2.2.2.2.2.1, u.2.2.2.2.2.2.2.2.2.2.2.2.2.2)) H := hP
            replace hD : va_D A (CW cI cR ca qa (u.1, u.2.1, u.2.2.1, u.2.2.2.1, u.2.2.2.2.1, (upd u.2.2.2.2.2.1 p1.toNatClampNeg p2), (upd u.2.2.2.2.2.2.1 p1.toNatClampNeg p3), u.2.2.2.2.2.2.2.1, u.2.2.2.2.2.2.2.2.1, u.2.2.2.2.2.2.2.2.2.1, u.2.2.2.2.2.2.2.2.2.2.1, u.2.2.2.2.2.2.2.2.2.2.2.1, u.2.2.2.2.2.2.2.2.2.2.2.2.1, u.2.2.2.2.2.2.2.2.2.2.2.2.2.1, u.2.2.2.2.2.2.2.2.2.2.2.2.2.2)) := hD
            cases hF
            refine vx_ret ?_
            refine W.widen (k := 4) (n := 24) (Nat.le_of_ble_eq_true rfl) (Nat.le_of_ble_eq_true rfl) ?_
            exact W.vret hx hb hr (fun t ht hW => ⟨⟨_, rfl, ⟨rfl, rfl⟩, by rw [ht]; exact hP, va_K.moved hW.alike hK, hD⟩, hS.F ht⟩) hS.2.2 dX1_wagon_80
          · replace hF := (if_neg c_22).symm.trans hF
            refine lv_aload_n hx hb dX1_wagon_46 rfl (lv_at hl 1 rfl) ?_
            refine va_get (D := D) (ci := 1) (v := .ref (ca 8)) (C := RX1) (T := TX1) (N := 16) hx hb hts (fun w h => cwc w (in_X1 w h)) hown hK hP 0 rfl rfl 7 (by decide) hk_34 (fun _ h9 => h9) rfl dX1_wagon_47 ?_
            refine lv_iload_n hx hb dX1_wagon_50 rfl (lv_at hl 2 rfl) ?_
            obtain ⟨h_25, hF⟩ := gd_some hF
            refine va_iald (f := u.2.2.2.2.2.1) hx hb hK hP 8 0 rfl rfl (inb_in h_25) dX1_wagon_51 ?_
            refine lv_iload_n hx hb dX1_wagon_52 rfl (lv_at hl 3 rfl) ?_
            refine lv_icmp_eq (tgt := 66) hx hb dX1_wagon_53 (by decide) (fun c_26 => ?_) (fun c_26 => ?_)
            · replace hF := (if_pos c_26).symm.trans hF
              refine lv_aload_n hx hb dX1_wagon_66 rfl (lv_at hl 1 rfl) ?_
              refine va_get (D := D) (ci := 1) (v := .ref (ca 8)) (C := RX1) (T := TX1) (N := 16) hx hb hts (fun w h => cwc w (in_X1 w h)) hown hK hP 0 rfl rfl 7 (by decide) hk_34 (fun _ h9 => h9) rfl dX1_wagon_67 ?_
              refine lv_iload_n hx hb dX1_wagon_70 rfl (lv_at hl 2 rfl) ?_
              refine lv_iload_n hx hb dX1_wagon_71 rfl (lv_at hl 3 rfl) ?_
              obtain ⟨h_27, hF⟩ := gd_some hF
              refine va_iast (f := u.2.2.2.2.2.1) hx hb hK hP hD hS 8 0 rfl rfl (inb_in h_27) dX1_wagon_72 (fun H locs hP hD hS => ?_)
              replace hP : va_P D vwCl (CW cI cR ca qa (u.1, u.2.1, u.2.2.1, u.2.2.2.1, u.2.2.2.2.1, (upd u.2.2.2.2.2.1 p1.toNatClampNeg p2), u.2.2.2.2.2.2.1, u.2.2.2.2.2.2.2.1, u.2.2.2.2.2.2.2.2.1, u.2.2.2.2.2.2.2.2.2.1, u.2.2.2.2.2.2.2.2.2.2.1, u.2.2.2.2.2.2.2.2.2.2.2.1, u.2.2.2.2.2.2.2.2.2.2.2.2.1, u.2.2.2.2.2.2.2.2.2.2.2.2.2.1, u.2.2.2.2.2.2.2.2.2.2.2.2.2.2)) H := hP
              replace hD : va_D A (CW cI cR ca qa (u.1, u.2.1, u.2.2.1, u.2.2.2.1, u.2.2.2.2.1, (upd u.2.2.2.2.2.1 p1.toNatClampNeg p2), u.2.2.2.2.2.2.1, u.2.2.2.2.2.2.2.1, u.2.2.2.2.2.2.2.2.1, u.2.2.2.2.2.2.2.2.2.1, u.2.2.2.2.2.2.2.2.2.2.1, u.2.2.2.2.2.2.2.2.2.2.2.1, u.2.2.2.2.2.2.2.2.2.2.2.2.1, u.2.2.2.2.2.2.2.2.2.2.2.2.2.1, u.2.2.2.2.2.2.2.2.2.2.2.2.2.2)) := hD
              refine lv_aload_n hx hb dX1_wagon_73 rfl (lv_at hl 1 rfl) ?_
              refine va_get (D := D) (ci := 1) (v := .ref (ca 9)) (C := RX1) (T := TX1) (N := 16) hx hb hts (fun w h => cwc w (in_X1 w h)) hown hK hP 0 rfl rfl 8 (by decide) hk_37 (fun _ h9 => h9) rfl dX1_wagon_74 ?_
              refine lv_iload_n hx hb dX1_wagon_77 rfl (lv_at hl 2 rfl) ?_
              refine lv_iload_n hx hb dX1_wagon_78 rfl (lv_at hl 4 rfl) ?_
              obtain ⟨h_28, hF⟩ := gd_some hF
              refine va_iast (f := u.2.2.2.2.2.2.1) hx hb hK hP hD hS 9 0 rfl rfl (inb_in h_28) dX1_wagon_79 (fun H locs hP hD hS => ?_)
              replace hP : va_P D vwCl (CW cI cR ca qa (u.1, u.2.1, u.2.2.1, u.2.2.2.1, u.2.2.2.2.1, (upd u.2.2.2.2.2.1 p1.toNatClampNeg p2), (upd u.2.2.2.2.2.2.1 p1.toNatClampNeg p3), u.2.2.2.2.2.2.2.1, u.2.2.2.2.2.2.2.2.1, u.2.2.2.2.2.2.2.2.2.1, u.2.2.2.2.2.2.2.2.2.2.1, u.2.2.2.2.2.2.2.2.2.2.2.1, u.2.2.2.2.2.2.2.2.2.2.2.2.1, u.2.2.2.2.2.2.2.2.2.2.2.2.2.1, u.2.2.2.2.2.2.2.2.2.2.2.2.2.2)) H := hP
              replace hD : va_D A (CW cI cR ca qa (u.1, u.2.1, u.2.2.1, u.2.2.2.1, u.2.2.2.2.1, (upd u.2.2.2.2.2.1 p1.toNatClampNeg p2), (upd u.2.2.2.2.2.2.1 p1.toNatClampNeg p3), u.2.2.2.2.2.2.2.1, u.2.2.2.2.2.2.2.2.1, u.2.2.2.2.2.2.2.2.2.1, u.2.2.2.2.2.2.2.2.2.2.1, u.2.2.2.2.2.2.2.2.2.2.2.1, u.2.2.2.2.2.2.2.2.2.2.2.2.1, u.2.2.2.2.2.2.2.2.2.2.2.2.2.1, u.2.2.2.2.2.2.2.2.2.2.2.2.2.2)) := hD
              cases hF
              refine vx_ret ?_
              refine W.widen (k := 4) (n := 24) (Nat.le_of_ble_eq_true rfl) (Nat.le_of_ble_eq_true rfl) ?_
              exact W.vret hx hb hr (fun t ht hW => ⟨⟨_, rfl, ⟨rfl, rfl⟩, by rw [ht]; exact hP, va_K.moved hW.alike hK, hD⟩, hS.F ht⟩) hS.2.2 dX1_wagon_80
            · replace hF := (if_neg c_26).symm.trans hF
              cases hF
              exact vx_throwS (own := RX1) (cls := "java/lang/IllegalArgumentException") (names := ["java/lang/RuntimeException", "java/lang/Exception"]) hx hb hl9 hown (by decide +kernel) (by decide +kernel) (hts _ (cwc _ mw_179)) (hts _ (cwc _ mw_8)) (XK_s98 hXK) (vx_hat (L := vx_atS RX1 86 "java/lang/IllegalArgumentException" ["java/lang/RuntimeException", "java/lang/Exception"]) (fun w hw => hts w (cwc w (hatA_2 w hw))) hatB_2 (vx_c (va_Nw.use rfl hXc2) (vx_c (va_Nw.use rfl hXd1) (vx_c (va_Nw.use rfl hXd2) (vx_c (va_Nw.use rfl hXd3) (vx_n)))))) hatC_2 hXU hXN hS (hl.1.trans hml.symm) dX1_wagon_56 dX1_wagon_59 dX1_wagon_60 dX1_wagon_62 dX1_wagon_65 (fun x hx9 => (hnx x hx9).elim) (Nat.le_of_ble_eq_true rfl) (Nat.le_of_ble_eq_true rfl) (Nat.le_of_ble_eq_true rfl) (Nat.le_of_ble_eq_true rfl) hlocks (fun t ha hsz hk => ⟨2, rfl, ⟨rfl, hP.kept (fun k q hq => hk q.1 (hP k q hq).lt), va_K.moved ha hK, hD⟩, Nat.le_trans hS.1 hsz, fun q h1 h2 => (hk q (Nat.lt_of_lt_of_le h1 hS.1)).trans (hS.2.1 q h1 h2)⟩) hS.2.2 (Nat.le_of_ble_eq_true rfl) (Nat.le_of_ble_eq_true rfl)
        · replace hF := (if_neg c_21).symm.trans hF
          cases hF
          exact vx_throwS (own := RX1) (cls := "java/lang/IllegalArgumentException") (names := ["java/lang/RuntimeException", "java/lang/Exception"]) hx hb hl9 hown (by decide +kernel) (by decide +kernel) (hts _ (cwc _ mw_179)) (hts _ (cwc _ mw_8)) (XK_s96 hXK) (vx_hat (L := vx_atS RX1 86 "java/lang/IllegalArgumentException" ["java/lang/RuntimeException", "java/lang/Exception"]) (fun w hw => hts w (cwc w (hatA_2 w hw))) hatB_2 (vx_c (va_Nw.use rfl hXc2) (vx_c (va_Nw.use rfl hXd1) (vx_c (va_Nw.use rfl hXd2) (vx_c (va_Nw.use rfl hXd3) (vx_n)))))) hatC_2 hXU hXN hS (hl.1.trans hml.symm) dX1_wagon_31 dX1_wagon_34 dX1_wagon_35 dX1_wagon_37 dX1_wagon_40 (fun x hx9 => (hnx x hx9).elim) (Nat.le_of_ble_eq_true rfl) (Nat.le_of_ble_eq_true rfl) (Nat.le_of_ble_eq_true rfl) (Nat.le_of_ble_eq_true rfl) hlocks (fun t ha hsz hk => ⟨2, rfl, ⟨rfl, hP.kept (fun k q hq => hk q.1 (hP k q hq).lt), va_K.moved ha hK, hD⟩, Nat.le_trans hS.1 hsz, fun q h1 h2 => (hk q (Nat.lt_of_lt_of_le h1 hS.1)).trans (hS.2.1 q h1 h2)⟩) hS.2.2 (Nat.le_of_ble_eq_true rfl) (Nat.le_of_ble_eq_true rfl)
def F_P_make (p1 : Int32) (p2 : Int32) (p3 : Int32) (u : CSt) : Option ((Nat ⊕ Unit) × CSt) := bi (F_P_checkStation p1 ()) (fun or2 u1 => ox or2 (fun e_4 => some (.inl e_4, u)) (fun _ => bi (F_P_checkKind p2 ()) (fun or7 u6 => ox or7 (fun e_9 => some (.inl e_9, u)) (fun _ => (if p3 = (-1 : Int32) then bi (F_P_stockIndex p1 p2 ()) (fun r13 u12 => gd (inb r13 32) (some ((.inr ()), (u.1, (upd u.2.1 r13.toNatClampNeg p3), u.2.2.1, u.2.2.2.1, u.2.2.2.2.1, u.2.2.2.2.2.1, u.2.2.2.2.2.2.1, u.2.2.2.2.2.2.2.1, u.2.2.2.2.2.2.2.2.1, u.2.2.2.2.2.2.2.2.2.1, u.2.2.2.2.2.2.2.2.2.2.1, u.2.2.2.2.2.2.2.2.2.2.2.1, u.2.2.2.2.2.2.2.2.2.2.2.2.1, u.2.2.2.2.2.2.2.2.2.2.2.2.2.1, u.2.2.2.2.2.2.2.2.2.2.2.2.2.2)))) else bi (F_P_isKind p3 ()) (fun r17 u16 => (if r17 = (0 : Int32) then some (.inl 2, u) else bi (F_P_stockIndex p1 p2 ()) (fun r21 u20 => gd (inb r21 32) (some ((.inr ()), (u.1, (upd u.2.1 r21.toNatClampNeg p3), u.2.2.1, u.2.2.2.1, u.2.2.2.2.1, u.2.2.2.2.2.1, u.2.2.2.2.2.2.1, u.2.2.2.2.2.2.2.1, u.2.2.2.2.2.2.2.2.1, u.2.2.2.2.2.2.2.2.2.1, u.2.2.2.2.2.2.2.2.2.2.1, u.2.2.2.2.2.2.2.2.2.2.2.1, u.2.2.2.2.2.2.2.2.2.2.2.2.1, u.2.2.2.2.2.2.2.2.2.2.2.2.2.1, u.2.2.2.2.2.2.2.2.2.2.2.2.2.2)))))))))))
set_option maxHeartbeats 4000000 in
set_option maxRecDepth 100000 in
theorem c_P_make (l : Launch) (hl9 : l.stackTraces = false) (D : va_G) (cI cR : ClassId) (sa : Nat → Nat) (ca qa : Nat → Nat) (sz : Nat) (p1 : Int32) (p2 : Int32) (p3 : Int32) (u : CSt) (r : Nat ⊕ Unit) (u' : CSt) (hF : F_P_make p1 p2 p3 u = some (r, u')) : vx_Met l yX1_make wsX1_make ({ frames := 7, cells := 3, slots := 18, locals := 102 }) (va_Pc [.ref (ca 0), .int p1, .int p2, .int p3] (PREX D (TY cI cR) (CW cI cR ca qa u) sz sa)) (XV D (TY cI cR) (va_A (CW cI cR ca qa u) sz) (fun v => CW cI cR ca qa v) r u') (XX D (TY cI cR) (va_A (CW cI cR ca qa u) sz) (fun v => CW cI cR ca qa v) r u') 3 18 (va_A (CW cI cR ca qa u) sz) := by
  refine vx_ofW (cc := cX1_make) (maxL := 4) (ret := none) (by decide) rfl ?_
  intro p e s m args below meth c s₁ B hml hnx hv
  obtain ⟨rfl, ⟨hsz, hP, hK, hD0⟩, hXK⟩ := hv
  have hx := B.exec
  have hb := B.bytes
  have hr := B.returns
  have hts := atoms_spec (ws := wsX1_make) B.pre
  have hown : s.vm.findClass RX1 = some m.cls := findClass_of_methodNamed B.named
  have hlocks := B.notSynchronized
  subst hsz
  have hD := hD0.self (sz := s.heap.size)
  generalize hAe : va_A (CW cI cR ca qa u) s.heap.size = A at hD hXK ⊢
  have hA : ∀ q : Nat, s.heap.size ≤ q → A q := fun q h => by rw [← hAe]; exact Or.inr h
  have hS : va_S A s.heap s.heap [] := va_S.rf
  replace hP : va_P D vwCl (CW cI cR ca qa u) s.heap := hP
  have hl := lv_entry ([.ref (ca 0), .int p1, .int p2, .int p3]) (n := 4) (Nat.le_of_ble_eq_true rfl)
  rw [lg_entry_eq]
  generalize (lg_sl ([.ref (ca 0), .int p1, .int p2, .int p3]) ++ List.replicate (4 - (lg_sl ([.ref (ca 0), .int p1, .int p2, .int p3])).length) Slot.unset).toArray = ls at hl ⊢
  replace hl : lv_has ls 4 [(0, .ref (ca 0)), (1, .int p1), (2, .int p2), (3, .int p3)] := hl
  have hk_19 := (hts _ (cwc _ mw_37))
  obtain ⟨hXU, hXN, hXc1, hXc2, hXd1, hXd2, hXd3, hXn, -⟩ := id hXK
  unfold F_P_make at hF
  refine (?_ : ∀ (H : Heap) (locs : List Loc), va_P D vwCl (CW cI cR ca qa u) H → va_S A s.heap H locs → W p l e _ s m _ below meth c H locs 0 0 _ (F0 m 0 ls [])) s.heap [] hP hS
  intro H locs hP hS
  refine lv_iload_n hx hb dX1_make_0 rfl (lv_at hl 1 rfl) ?_
  obtain ⟨or2, u1, hc_3, hF⟩ := bi_some hF
  refine kx_v (W1 := CW cI cR ca qa u) (vx_runS (As := [.int p1]) (rest := []) ⟨hx, hb, hml, hown, hts⟩ (c_P_checkStation l hl9 D cI cR sa  H.size p1 () or2 u1 hc_3) (va_cwS 1 hts (gS cwc mw_124 mw_125 mw_1 mw_126) rfl rfl rfl (by decide +kernel) ⟨(Nat.le_of_ble_eq_true rfl), (Nat.le_of_ble_eq_true rfl)⟩) (kpX_S hXK hK hP hD hS hA (sb_nil _)) rfl rfl hl.1 rfl (lv_room (Nat.le_of_ble_eq_true rfl)) dX1_make_1 ⟨(Nat.le_of_ble_eq_true rfl), (Nat.le_of_ble_eq_true rfl)⟩) hP hD hS hA (sb_nil _) (jn_nil _) (fun e_4 ce q9 H locs ho_5 hP hD hS hce hcv hcl => ?_) (fun H locs ho_5 hP hD hS => ?_)
  · subst ho_5
    replace hF := ox_l hF
    cases hF
    exact kx_out hnx hlocks hK hP hD hS hce hcv hcl rfl (Nat.le_of_ble_eq_true rfl) (Nat.le_of_ble_eq_true rfl)
  · subst ho_5
    replace hF := ox_r hF
    refine lv_iload_n hx hb dX1_make_4 rfl (lv_at hl 2 rfl) ?_
    obtain ⟨or7, u6, hc_8, hF⟩ := bi_some hF
    refine kx_v (W1 := CW cI cR ca qa u) (vx_runS (As := [.int p2]) (rest := []) ⟨hx, hb, hml, hown, hts⟩ (c_P_checkKind l hl9 D cI cR sa  H.size p2 () or7 u6 hc_8) (va_cwS 1 hts (gS cwc mw_200 mw_201 mw_1 mw_202) rfl rfl rfl (by decide +kernel) ⟨(Nat.le_of_ble_eq_true rfl), (Nat.le_of_ble_eq_true rfl)⟩) (kpX_S hXK hK hP hD hS hA (sb_nil _)) rfl rfl hl.1 rfl (lv_room (Nat.le_of_ble_eq_true rfl)) dX1_make_5 ⟨(Nat.le_of_ble_eq_true rfl), (Nat.le_of_ble_eq_true rfl)⟩) hP hD hS hA (sb_nil _) (jn_nil _) (fun e_9 ce q9 H locs ho_10 hP hD hS hce hcv hcl => ?_) (fun H locs ho_10 hP hD hS => ?_)
    · subst ho_10
      replace hF := ox_l hF
      cases hF
      exact kx_out hnx hlocks hK hP hD hS hce hcv hcl rfl (Nat.le_of_ble_eq_true rfl) (Nat.le_of_ble_eq_true rfl)
    · subst ho_10
      replace hF := ox_r hF
      refine lv_iload_n hx hb dX1_make_8 rfl (lv_at hl 3 rfl) ?_
      refine lv_iconst (v := (-1 : Int32)) hx hb dX1_make_9 (by decide +kernel) ?_
      refine lv_icmp_eq (tgt := 30) hx hb dX1_make_10 (by decide) (fun c_11 => ?_) (fun c_11 => ?_)
      · replace hF := (if_pos c_11).symm.trans hF
        refine lv_aload_n hx hb dX1_make_30 rfl (lv_at hl 0 rfl) ?_
        refine va_get (D := D) (ci := 1) (v := .ref (ca 3)) (C := RX1) (T := TX1) (N := 16) hx hb hts (fun w h => cwc w (in_X1 w h)) hown hK hP 0 rfl rfl 2 (by decide) hk_19 (fun _ h9 => h9) rfl dX1_make_31 ?_
        refine lv_iload_n hx hb dX1_make_34 rfl (lv_at hl 1 rfl) ?_
        refine lv_iload_n hx hb dX1_make_35 rfl (lv_at hl 2 rfl) ?_
        obtain ⟨r13, u12, hc_14, hF⟩ := bi_some hF
        refine kc_i (W1 := CW cI cR ca qa u) (va_runS (As := [.int p1, .int p2]) (rest := [.ref (ca 3)]) ⟨hx, hb, hml, hown, hts⟩ (c_P_stockIndex l D cI cR  H.size p1 p2 () r13 u12 hc_14) (va_cwS 2 hts (gS cwc mw_86 mw_87 mw_1 mw_88) rfl rfl rfl (by decide +kernel) ⟨(Nat.le_of_ble_eq_true rfl), (Nat.le_of_ble_eq_true rfl)⟩) (kp_S hK hP hD (sb_nil _)) rfl rfl hl.1 rfl (lv_room (Nat.le_of_ble_eq_true rfl)) dX1_make_36 ⟨(Nat.le_of_ble_eq_true rfl), (Nat.le_of_ble_eq_true rfl)⟩) hP hD hS hA (sb_nil _) (jn_nil _) (fun H locs hP hD hS => ?_)
        refine lv_iload_n hx hb dX1_make_39 rfl (lv_at hl 3 rfl) ?_
        obtain ⟨h_15, hF⟩ := gd_some hF
        refine va_iast (f := u.2.1) hx hb hK hP hD hS 3 0 rfl rfl (inb_in h_15) dX1_make_40 (fun H locs hP hD hS => ?_)
        replace hP : va_P D vwCl (CW cI cR ca qa (u.1, (upd u.2.1 r13.toNatClampNeg p3), u.2.2.1, u.2.2.2.1, u.2.2.2.2.1, u.2.2.2.2.2.1, u.2.2.2.2.2.2.1, u.2.2.2.2.2.2.2.1, u.2.2.2.2.2.2.2.2.1, u.2.2.2.2.2.2.2.2.2.1, u.2.2.2.2.2.2.2.2.2.2.1, u.2.2.2.2.2.2.2.2.2.2.2.1, u.2.2.2.2.2.2.2.2.2.2.2.2.1, u.2.2.2.2.2.2.2.2.2.2.2.2.2.1, u.2.2.2.2.2.2.2.2.2.2.2.2.2.2)) H := hP
        replace hD : va_D A (CW cI cR ca qa (u.1, (upd u.2.1 r13.toNatClampNeg p3), u.2.2.1, u.2.2.2.1, u.2.2.2.2.1, u.2.2.2.2.2.1, u.2.2.2.2.2.2.1, u.2.2.2.2.2.2.2.1, u.2.2.2.2.2.2.2.2.1, u.2.2.2.2.2.2.2.2.2.1, u.2.2.2.2.2.2.2.2.2.2.1, u.2.2.2.2.2.2.2.2.2.2.2.1, u.2.2.2.2.2.2.2.2.2.2.2.2.1, u.2.2.2.2.2.2.2.2.2.2.2.2.2.1, u.2.2.2.2.2.2.2.2.2.2.2.2.2.2)) := hD
        cases hF
        refine vx_ret ?_
        refine W.widen (k := 3) (n := 18) (Nat.le_of_ble_eq_true rfl) (Nat.le_of_ble_eq_true rfl) ?_
        exact W.vret hx hb hr (fun t ht hW => ⟨⟨_, rfl, ⟨rfl, rfl⟩, by rw [ht]; exact hP, va_K.moved hW.alike hK, hD⟩, hS.F ht⟩) hS.2.2 dX1_make_41
      · replace hF := (if_neg c_11).symm.trans hF
        refine lv_iload_n hx hb dX1_make_13 rfl (lv_at hl 3 rfl) ?_
        obtain ⟨r17, u16, hc_18, hF⟩ := bi_some hF
        refine kc_i (W1 := CW cI cR ca qa u) (va_runS (As := [.int p3]) (rest := []) ⟨hx, hb, hml, hown, hts⟩ (c_P_isKind l D cI cR  H.size p3 () r17 u16 hc_18) (va_cwS 1 hts (gS cwc mw_83 mw_84 mw_1 mw_85) rfl rfl rfl (by decide +kernel) ⟨(Nat.le_of_ble_eq_true rfl), (Nat.le_of_ble_eq_true rfl)⟩) (kp_S hK hP hD (sb_nil _)) rfl rfl hl.1 rfl (lv_room (Nat.le_of_ble_eq_true rfl)) dX1_make_14 ⟨(Nat.le_of_ble_eq_true rfl), (Nat.le_of_ble_eq_true rfl)⟩) hP hD hS hA (sb_nil _) (jn_nil _) (fun H locs hP hD hS => ?_)
        refine lv_if_ne (tgt := 30) hx hb dX1_make_17 (by decide) (fun c_19 => ?_) (fun c_19 => ?_)
        · replace hF := (if_neg c_19).symm.trans hF
          refine lv_aload_n hx hb dX1_make_30 rfl (lv_at hl 0 rfl) ?_
          refine va_get (D := D) (ci := 1) (v := .ref (ca 3)) (C := RX1) (T := TX1) (N := 16) hx hb hts (fun w h => cwc w (in_X1 w h)) hown hK hP 0 rfl rfl 2 (by decide) hk_19 (fun _ h9 => h9) rfl dX1_make_31 ?_
          refine lv_iload_n hx hb dX1_make_34 rfl (lv_at hl 1 rfl) ?_
          refine lv_iload_n hx hb dX1_make_35 rfl (lv_at hl 2 rfl) ?_
          obtain ⟨r21, u20, hc_22, hF⟩ := bi_some hF
          refine kc_i (W1 := CW cI cR ca qa u) (va_runS (As := [.int p1, .int p2]) (rest := [.ref (ca 3)]) ⟨hx, hb, hml, hown, hts⟩ (c_P_stockIndex l D cI cR  H.size p1 p2 () r21 u20 hc_22) (va_cwS 2 hts (gS cwc mw_86 mw_87 mw_1 mw_88) rfl rfl rfl (by decide +kernel) ⟨(Nat.le_of_ble_eq_true rfl), (Nat.le_of_ble_eq_true rfl)⟩) (kp_S hK hP hD (sb_nil _)) rfl rfl hl.1 rfl (lv_room (Nat.le_of_ble_eq_true rfl)) dX1_make_36 ⟨(Nat.le_of_ble_eq_true rfl), (Nat.le_of_ble_eq_true rfl)⟩) hP hD hS hA (sb_nil _) (jn_nil _) (fun H locs hP hD hS => ?_)
          refine lv_iload_n hx hb dX1_make_39 rfl (lv_at hl 3 rfl) ?_
          obtain ⟨h_23, hF⟩ := gd_some hF
          refine va_iast (f := u.2.1) hx hb hK hP hD hS 3 0 rfl rfl (inb_in h_23) dX1_make_40 (fun H locs hP hD hS => ?_)
          replace hP : va_P D vwCl (CW cI cR ca qa (u.1, (upd u.2.1 r21.toNatClampNeg p3), u.2.2.1, u.2.2.2.1, u.2.2.2.2.1, u.2.2.2.2.2.1, u.2.2.2.2.2.2.1, u.2.2.2.2.2.2.2.1, u.2.2.2.2.2.2.2.2.1, u.2.2.2.2.2.2.2.2.2.1, u.2.2.2.2.2.2.2.2.2.2.1, u.2.2.2.2.2.2.2.2.2.2.2.1, u.2.2.2.2.2.2.2.2.2.2.2.2.1, u.2.2.2.2.2.2.2.2.2.2.2.2.2.1, u.2.2.2.2.2.2.2.2.2.2.2.2.2.2)) H := hP
          replace hD : va_D A (CW cI cR ca qa (u.1, (upd u.2.1 r21.toNatClampNeg p3), u.2.2.1, u.2.2.2.1, u.2.2.2.2.1, u.2.2.2.2.2.1, u.2.2.2.2.2.2.1, u.2.2.2.2.2.2.2.1, u.2.2.2.2.2.2.2.2.1, u.2.2.2.2.2.2.2.2.2.1, u.2.2.2.2.2.2.2.2.2.2.1, u.2.2.2.2.2.2.2.2.2.2.2.1, u.2.2.2.2.2.2.2.2.2.2.2.2.1, u.2.2.2.2.2.2.2.2.2.2.2.2.2.1, u.2.2.2.2.2.2.2.2.2.2.2.2.2.2)) := hD
          cases hF
          refine vx_ret ?_
          refine W.widen (k := 3) (n := 18) (Nat.le_of_ble_eq_true rfl) (Nat.le_of_ble_eq_true rfl) ?_
          exact W.vret hx hb hr (fun t ht hW => ⟨⟨_, rfl, ⟨rfl, rfl⟩, by rw [ht]; exact hP, va_K.moved hW.alike hK, hD⟩, hS.F ht⟩) hS.2.2 dX1_make_41
        · replace hF := (if_pos c_19).symm.trans hF
          cases hF
          exact vx_throwS (own := RX1) (cls := "java/lang/IllegalArgumentException") (names := ["java/lang/RuntimeException", "java/lang/Exception"]) hx hb hl9 hown (by decide +kernel) (by decide +kernel) (hts _ (cwc _ mw_179)) (hts _ (cwc _ mw_8)) (XK_s84 hXK) (vx_hat (L := vx_atS RX1 86 "java/lang/IllegalArgumentException" ["java/lang/RuntimeException", "java/lang/Exception"]) (fun w hw => hts w (cwc w (hatA_2 w hw))) hatB_2 (vx_c (va_Nw.use rfl hXc2) (vx_c (va_Nw.use rfl hXd1) (vx_c (va_Nw.use rfl hXd2) (vx_c (va_Nw.use rfl hXd3) (vx_n)))))) hatC_2 hXU hXN hS (hl.1.trans hml.symm) dX1_make_20 dX1_make_23 dX1_make_24 dX1_make_26 dX1_make_29 (fun x hx9 => (hnx x hx9).elim) (Nat.le_of_ble_eq_true rfl) (Nat.le_of_ble_eq_true rfl) (Nat.le_of_ble_eq_true rfl) (Nat.le_of_ble_eq_true rfl) hlocks (fun t ha hsz hk => ⟨2, rfl, ⟨rfl, hP.kept (fun k q hq => hk q.1 (hP k q hq).lt), va_K.moved ha hK, hD⟩, Nat.le_trans hS.1 hsz, fun q h1 h2 => (hk q (Nat.lt_of_lt_of_le h1 hS.1)).trans (hS.2.1 q h1 h2)⟩) hS.2.2 (Nat.le_of_ble_eq_true rfl) (Nat.le_of_ble_eq_true rfl)
