def F_P_count (p1 : Int32) (p2 : Int32) (u : CSt) : Option ((Int32) × Unit) := bi (F_P_isKind p1 ()) (fun r2 u1 => (if r2 = (0 : Int32) then some ((-1 : Int32), ()) else (if p2 = (0 : Int32) then gd (inb p1 4) (some ((u.2.2.2.2.2.2.2.1 p1.toNatClampNeg), ())) else (if p2 = (1 : Int32) then gd (inb p1 4) (some ((u.2.2.2.2.2.2.2.2.1 p1.toNatClampNeg), ())) else (if p2 = (2 : Int32) then gd (inb p1 4) (some ((u.2.2.2.2.2.2.2.2.2.1 p1.toNatClampNeg), ())) else (if p2 = (3 : Int32) then bi (F_P_unitsInStocks p1 u) (fun r13 u12 => some (r13, ())) else (if p2 = (4 : Int32) then bi (F_P_unitsInWagons p1 u) (fun r17 u16 => some (r17, ())) else some ((-1 : Int32), ()))))))))
set_option maxHeartbeats 4000000 in
set_option maxRecDepth 100000 in
theorem c_P_count (l : Launch) (D : va_G) (cI cR : ClassId) (ca qa : Nat → Nat) (sz : Nat) (p1 : Int32) (p2 : Int32) (u : CSt) (r : Int32) (u' : Unit) (hF : F_P_count p1 p2 u = some (r, u')) : Met l yX1_count wsX1_count ({ frames := 2, cells := 0, slots := 0, locals := 44 }) (va_Pc [.ref (ca 0), .int p1, .int p2] (PRE D (TY cI cR) (CW cI cR ca qa u) sz)) (QI D (TY cI cR) (va_A (CW cI cR ca qa u) sz) (fun v => CW cI cR ca qa v) r u) 0 0 (va_A (CW cI cR ca qa u) sz) := by
  refine Met.ofW (cc := cX1_count) (maxL := 3) (ret := (some .int)) (by decide) rfl ?_
  intro p e s m args below meth c s₁ B hml hv
  obtain ⟨rfl, hsz, hP, hK, hD0⟩ := hv
  have hx := B.exec
  have hb := B.bytes
  have hr := B.returns
  have hts := atoms_spec (ws := wsX1_count) B.pre
  have hown : s.vm.findClass RX1 = some m.cls := findClass_of_methodNamed B.named
  have hlocks := B.notSynchronized
  subst hsz
  have hD := hD0.self (sz := s.heap.size)
  generalize hAe : va_A (CW cI cR ca qa u) s.heap.size = A at hD ⊢
  have hA : ∀ q : Nat, s.heap.size ≤ q → A q := fun q h => by rw [← hAe]; exact Or.inr h
  have hS : va_S A s.heap s.heap [] := va_S.rf
  replace hP : va_P D vwCl (CW cI cR ca qa u) s.heap := hP
  have hl := lv_entry ([.ref (ca 0), .int p1, .int p2]) (n := 3) (Nat.le_of_ble_eq_true rfl)
  rw [lg_entry_eq]
  generalize (lg_sl ([.ref (ca 0), .int p1, .int p2]) ++ List.replicate (3 - (lg_sl ([.ref (ca 0), .int p1, .int p2])).length) Slot.unset).toArray = ls at hl ⊢
  replace hl : lv_has ls 3 [(0, .ref (ca 0)), (1, .int p1), (2, .int p2)] := hl
  have hk_40 := (hts _ (cwc _ mw_44))
  have hk_43 := (hts _ (cwc _ mw_45))
  have hk_46 := (hts _ (cwc _ mw_46))
  unfold F_P_count at hF
  refine (?_ : ∀ (H : Heap) (locs : List Loc), va_P D vwCl (CW cI cR ca qa u) H → va_S A s.heap H locs → W p l e _ s m _ below meth c H locs 0 0 _ (F0 m 0 ls [])) s.heap [] hP hS
  intro H locs hP hS
  refine lv_iload_n hx hb dX1_count_0 rfl (lv_at hl 1 rfl) ?_
  obtain ⟨r2, u1, hc_3, hF⟩ := bi_some hF
  refine kc_i (W1 := CW cI cR ca qa u) (va_runS (As := [.int p1]) (rest := []) ⟨hx, hb, hml, hown, hts⟩ (c_P_isKind l D cI cR  H.size p1 () r2 u1 hc_3) (va_cwS 1 hts (gS cwc mw_83 mw_84 mw_1 mw_85) rfl rfl rfl (by decide +kernel) ⟨(Nat.le_of_ble_eq_true rfl), (Nat.le_of_ble_eq_true rfl)⟩) (kp_S hK hP hD (sb_nil _)) rfl rfl hl.1 rfl (lv_room (Nat.le_of_ble_eq_true rfl)) dX1_count_1 ⟨(Nat.le_of_ble_eq_true rfl), (Nat.le_of_ble_eq_true rfl)⟩) hP hD hS hA (sb_nil _) (jn_nil _) (fun H locs hP hD hS => ?_)
  refine lv_if_ne (tgt := 9) hx hb dX1_count_4 (by decide) (fun c_4 => ?_) (fun c_4 => ?_)
  · replace hF := (if_neg c_4).symm.trans hF
    refine lv_iload_n hx hb dX1_count_9 rfl (lv_at hl 2 rfl) ?_
    by_cases c_5 : p2 = (0 : Int32)
    · replace hF := (if_pos c_5).symm.trans hF
      refine lv_tableIn (off := 34) (tgt := 44) hx hb dX1_count_10 (by rw [c_5]; decide +kernel) (by rw [c_5]; decide +kernel) (by rw [c_5]; rfl) (by decide) ?_
      refine lv_aload_n hx hb dX1_count_44 rfl (lv_at hl 0 rfl) ?_
      refine va_get (D := D) (ci := 1) (v := .ref (ca 10)) (C := RX1) (T := TX1) (N := 16) hx hb hts (fun w h => cwc w (in_X1 w h)) hown hK hP 0 rfl rfl 9 (by decide) hk_40 (fun _ h9 => h9) rfl dX1_count_45 ?_
      refine lv_iload_n hx hb dX1_count_48 rfl (lv_at hl 1 rfl) ?_
      obtain ⟨h_6, hF⟩ := gd_some hF
      refine va_iald (f := u.2.2.2.2.2.2.2.1) hx hb hK hP 10 0 rfl rfl (inb_in h_6) dX1_count_49 ?_
      cases hF
      refine W.widen (k := 0) (n := 0) (Nat.le_of_ble_eq_true rfl) (Nat.le_of_ble_eq_true rfl) ?_
      exact W.iret hx hb hr (fun t ht hW => ⟨⟨_, _, rfl, ⟨rfl, rfl⟩, by rw [ht]; exact hP, va_K.moved hW.alike hK, hD⟩, hS.F ht⟩) hS.2.2 dX1_count_50
    · replace hF := (if_neg c_5).symm.trans hF
      by_cases c_7 : p2 = (1 : Int32)
      · replace hF := (if_pos c_7).symm.trans hF
        refine lv_tableIn (off := 41) (tgt := 51) hx hb dX1_count_10 (by rw [c_7]; decide +kernel) (by rw [c_7]; decide +kernel) (by rw [c_7]; rfl) (by decide) ?_
        refine lv_aload_n hx hb dX1_count_51 rfl (lv_at hl 0 rfl) ?_
        refine va_get (D := D) (ci := 1) (v := .ref (ca 11)) (C := RX1) (T := TX1) (N := 16) hx hb hts (fun w h => cwc w (in_X1 w h)) hown hK hP 0 rfl rfl 10 (by decide) hk_43 (fun _ h9 => h9) rfl dX1_count_52 ?_
        refine lv_iload_n hx hb dX1_count_55 rfl (lv_at hl 1 rfl) ?_
        obtain ⟨h_8, hF⟩ := gd_some hF
        refine va_iald (f := u.2.2.2.2.2.2.2.2.1) hx hb hK hP 11 0 rfl rfl (inb_in h_8) dX1_count_56 ?_
        cases hF
        refine W.widen (k := 0) (n := 0) (Nat.le_of_ble_eq_true rfl) (Nat.le_of_ble_eq_true rfl) ?_
        exact W.iret hx hb hr (fun t ht hW => ⟨⟨_, _, rfl, ⟨rfl, rfl⟩, by rw [ht]; exact hP, va_K.moved hW.alike hK, hD⟩, hS.F ht⟩) hS.2.2 dX1_count_57
      · replace hF := (if_neg c_7).symm.trans hF
        by_cases c_9 : p2 = (2 : Int32)
        · replace hF := (if_pos c_9).symm.trans hF
          refine lv_tableIn (off := 48) (tgt := 58) hx hb dX1_count_10 (by rw [c_9]; decide +kernel) (by rw [c_9]; decide +kernel) (by rw [c_9]; rfl) (by decide) ?_
          refine lv_aload_n hx hb dX1_count_58 rfl (lv_at hl 0 rfl) ?_
          refine va_get (D := D) (ci := 1) (v := .ref (ca 12)) (C := RX1) (T := TX1) (N := 16) hx hb hts (fun w h => cwc w (in_X1 w h)) hown hK hP 0 rfl rfl 11 (by decide) hk_46 (fun _ h9 => h9) rfl dX1_count_59 ?_
          refine lv_iload_n hx hb dX1_count_62 rfl (lv_at hl 1 rfl) ?_
          obtain ⟨h_10, hF⟩ := gd_some hF
          refine va_iald (f := u.2.2.2.2.2.2.2.2.2.1) hx hb hK hP 12 0 rfl rfl (inb_in h_10) dX1_count_63 ?_
          cases hF
          refine W.widen (k := 0) (n := 0) (Nat.le_of_ble_eq_true rfl) (Nat.le_of_ble_eq_true rfl) ?_
          exact W.iret hx hb hr (fun t ht hW => ⟨⟨_, _, rfl, ⟨rfl, rfl⟩, by rw [ht]; exact hP, va_K.moved hW.alike hK, hD⟩, hS.F ht⟩) hS.2.2 dX1_count_64
        · replace hF := (if_neg c_9).symm.trans hF
          by_cases c_11 : p2 = (3 : Int32)
          · replace hF := (if_pos c_11).symm.trans hF
            refine lv_tableIn (off := 55) (tgt := 65) hx hb dX1_count_10 (by rw [c_11]; decide +kernel) (by rw [c_11]; decide +kernel) (by rw [c_11]; rfl) (by decide) ?_
            refine lv_aload_n hx hb dX1_count_65 rfl (lv_at hl 0 rfl) ?_
            refine lv_iload_n hx hb dX1_count_66 rfl (lv_at hl 1 rfl) ?_
            obtain ⟨r13, u12, hc_14, hF⟩ := bi_some hF
            refine kc_i (W1 := CW cI cR ca qa u) (va_runV (As := [.int p1]) (rest := []) ⟨hx, hb, hml, hown, hts⟩ (c_P_unitsInStocks l D cI cR ca qa H.size p1 u r13 u12 hc_14) (cwV 1 hts (gV cwc mw_105 mw_106 mw_475 mw_1 mw_107) rfl rfl rfl (by decide +kernel) ⟨(Nat.le_of_ble_eq_true rfl), (Nat.le_of_ble_eq_true rfl)⟩) (kp_V (ci := 1) (q := (RX1, TX1, 16)) hK hP hD (sb_id _) rfl rfl) rfl rfl hl.1 rfl (lv_room (Nat.le_of_ble_eq_true rfl)) dX1_count_67 ⟨(Nat.le_of_ble_eq_true rfl), (Nat.le_of_ble_eq_true rfl)⟩) hP hD hS hA (sb_id _) (jn_same (sb_id _)) (fun H locs hP hD hS => ?_)
            cases hF
            refine W.widen (k := 0) (n := 0) (Nat.le_of_ble_eq_true rfl) (Nat.le_of_ble_eq_true rfl) ?_
            exact W.iret hx hb hr (fun t ht hW => ⟨⟨_, _, rfl, ⟨rfl, rfl⟩, by rw [ht]; exact hP, va_K.moved hW.alike hK, hD⟩, hS.F ht⟩) hS.2.2 dX1_count_70
          · replace hF := (if_neg c_11).symm.trans hF
            by_cases c_15 : p2 = (4 : Int32)
            · replace hF := (if_pos c_15).symm.trans hF
              refine lv_tableIn (off := 61) (tgt := 71) hx hb dX1_count_10 (by rw [c_15]; decide +kernel) (by rw [c_15]; decide +kernel) (by rw [c_15]; rfl) (by decide) ?_
              refine lv_aload_n hx hb dX1_count_71 rfl (lv_at hl 0 rfl) ?_
              refine lv_iload_n hx hb dX1_count_72 rfl (lv_at hl 1 rfl) ?_
              obtain ⟨r17, u16, hc_18, hF⟩ := bi_some hF
              refine kc_i (W1 := CW cI cR ca qa u) (va_runV (As := [.int p1]) (rest := []) ⟨hx, hb, hml, hown, hts⟩ (c_P_unitsInWagons l D cI cR ca qa H.size p1 u r17 u16 hc_18) (cwV 1 hts (gV cwc mw_108 mw_109 mw_476 mw_1 mw_110) rfl rfl rfl (by decide +kernel) ⟨(Nat.le_of_ble_eq_true rfl), (Nat.le_of_ble_eq_true rfl)⟩) (kp_V (ci := 1) (q := (RX1, TX1, 16)) hK hP hD (sb_id _) rfl rfl) rfl rfl hl.1 rfl (lv_room (Nat.le_of_ble_eq_true rfl)) dX1_count_73 ⟨(Nat.le_of_ble_eq_true rfl), (Nat.le_of_ble_eq_true rfl)⟩) hP hD hS hA (sb_id _) (jn_same (sb_id _)) (fun H locs hP hD hS => ?_)
              cases hF
              refine W.widen (k := 0) (n := 0) (Nat.le_of_ble_eq_true rfl) (Nat.le_of_ble_eq_true rfl) ?_
              exact W.iret hx hb hr (fun t ht hW => ⟨⟨_, _, rfl, ⟨rfl, rfl⟩, by rw [ht]; exact hP, va_K.moved hW.alike hK, hD⟩, hS.F ht⟩) hS.2.2 dX1_count_76
            · replace hF := (if_neg c_15).symm.trans hF
              refine lv_tableOut (tgt := 77) hx hb dX1_count_10 (by have := i32nz c_5 (show (0 : Int32).toInt = 0 by decide +kernel); have := i32nz c_7 (show (1 : Int32).toInt = 1 by decide +kernel); have := i32nz c_9 (show (2 : Int32).toInt = 2 by decide +kernel); have := i32nz c_11 (show (3 : Int32).toInt = 3 by decide +kernel); have := i32nz c_15 (show (4 : Int32).toInt = 4 by decide +kernel); omega) (by decide) ?_
              refine lv_iconst (v := (-1 : Int32)) hx hb dX1_count_77 (by decide +kernel) ?_
              cases hF
              refine W.widen (k := 0) (n := 0) (Nat.le_of_ble_eq_true rfl) (Nat.le_of_ble_eq_true rfl) ?_
              exact W.iret hx hb hr (fun t ht hW => ⟨⟨_, _, rfl, ⟨rfl, rfl⟩, by rw [ht]; exact hP, va_K.moved hW.alike hK, hD⟩, hS.F ht⟩) hS.2.2 dX1_count_78
  · replace hF := (if_pos c_4).symm.trans hF
    refine lv_iconst (v := (-1 : Int32)) hx hb dX1_count_7 (by decide +kernel) ?_
    cases hF
    refine W.widen (k := 0) (n := 0) (Nat.le_of_ble_eq_true rfl) (Nat.le_of_ble_eq_true rfl) ?_
    exact W.iret hx hb hr (fun t ht hW => ⟨⟨_, _, rfl, ⟨rfl, rfl⟩, by rw [ht]; exact hP, va_K.moved hW.alike hK, hD⟩, hS.F ht⟩) hS.2.2 dX1_count_8
def F_P_units (p1 : Int32) (p2 : Int32) (u : CSt) : Option ((Int32) × Unit) := bi (F_P_rowAt p1 p2 u) (fun r2 u1 => oq r2 (some ((-1 : Int32), ())) (fun j4 => gd (decide (j4 < 48)) (bi (F_Row_total (u.2.2.2.2.2.2.2.2.2.2.2.2.2.2 j4)) (fun r8 u7 => some (r8, ())))))
set_option maxHeartbeats 4000000 in
set_option maxRecDepth 100000 in
theorem c_P_units (l : Launch) (D : va_G) (cI cR : ClassId) (ca qa : Nat → Nat) (sz : Nat) (p1 : Int32) (p2 : Int32) (u : CSt) (r : Int32) (u' : Unit) (hF : F_P_units p1 p2 u = some (r, u')) : Met l yX1_units wsX1_units ({ frames := 2, cells := 0, slots := 0, locals := 43 }) (va_Pc [.ref (ca 0), .int p1, .int p2] (PRE D (TY cI cR) (CW cI cR ca qa u) sz)) (QI D (TY cI cR) (va_A (CW cI cR ca qa u) sz) (fun v => CW cI cR ca qa v) r u) 0 0 (va_A (CW cI cR ca qa u) sz) := by
  refine Met.ofW (cc := cX1_units) (maxL := 4) (ret := (some .int)) (by decide) rfl ?_
  intro p e s m args below meth c s₁ B hml hv
  obtain ⟨rfl, hsz, hP, hK, hD0⟩ := hv
  have hx := B.exec
  have hb := B.bytes
  have hr := B.returns
  have hts := atoms_spec (ws := wsX1_units) B.pre
  have hown : s.vm.findClass RX1 = some m.cls := findClass_of_methodNamed B.named
  have hlocks := B.notSynchronized
  subst hsz
  have hD := hD0.self (sz := s.heap.size)
  generalize hAe : va_A (CW cI cR ca qa u) s.heap.size = A at hD ⊢
  have hA : ∀ q : Nat, s.heap.size ≤ q → A q := fun q h => by rw [← hAe]; exact Or.inr h
  have hS : va_S A s.heap s.heap [] := va_S.rf
  replace hP : va_P D vwCl (CW cI cR ca qa u) s.heap := hP
  have hl := lv_entry ([.ref (ca 0), .int p1, .int p2]) (n := 4) (Nat.le_of_ble_eq_true rfl)
  rw [lg_entry_eq]
  generalize (lg_sl ([.ref (ca 0), .int p1, .int p2]) ++ List.replicate (4 - (lg_sl ([.ref (ca 0), .int p1, .int p2])).length) Slot.unset).toArray = ls at hl ⊢
  replace hl : lv_has ls 4 [(0, .ref (ca 0)), (1, .int p1), (2, .int p2)] := hl
  unfold F_P_units at hF
  refine (?_ : ∀ (H : Heap) (locs : List Loc), va_P D vwCl (CW cI cR ca qa u) H → va_S A s.heap H locs → W p l e _ s m _ below meth c H locs 0 0 _ (F0 m 0 ls [])) s.heap [] hP hS
  intro H locs hP hS
  refine lv_aload_n hx hb dX1_units_0 rfl (lv_at hl 0 rfl) ?_
  refine lv_iload_n hx hb dX1_units_1 rfl (lv_at hl 1 rfl) ?_
  refine lv_iload_n hx hb dX1_units_2 rfl (lv_at hl 2 rfl) ?_
  obtain ⟨r2, u1, hc_3, hF⟩ := bi_some hF
  refine kc_q (W1 := CW cI cR ca qa u) (va_runV (As := [.int p1, .int p2]) (rest := []) ⟨hx, hb, hml, hown, hts⟩ (c_P_rowAt l D cI cR ca qa H.size p1 p2 u r2 u1 hc_3) (cwV 2 hts (gV cwc mw_77 mw_78 mw_474 mw_1 mw_79) rfl rfl rfl (by decide +kernel) ⟨(Nat.le_of_ble_eq_true rfl), (Nat.le_of_ble_eq_true rfl)⟩) (kp_V (ci := 1) (q := (RX1, TX1, 16)) hK hP hD (sb_id _) rfl rfl) rfl rfl hl.1 rfl (lv_room (Nat.le_of_ble_eq_true rfl)) dX1_units_3 ⟨(Nat.le_of_ble_eq_true rfl), (Nat.le_of_ble_eq_true rfl)⟩) hP hD hS hA (sb_id _) (jn_same (sb_id _)) (fun H locs hP hD hS => ?_)
  rcases r2 with _ | j4
  · replace hF := oq_n hF
    refine W.eq (g2 := F0 m 6 ls [.null]) rfl ?_
    refine lv_astore_nN (lv' := [(3, .null), (0, .ref (ca 0)), (1, .int p1), (2, .int p2)]) hx hb dX1_units_6 rfl hl (by decide) rfl (fun ls hl => ?_)
    refine lv_aload_nN hx hb dX1_units_7 rfl (lv_at hl 0 rfl) ?_
    refine lv_ifnonnullN hx hb dX1_units_8 ?_
    refine lv_iconst (v := (-1 : Int32)) hx hb dX1_units_11 (by decide +kernel) ?_
    refine lv_goto (tgt := 19) hx hb dX1_units_12 (by decide) ?_
    cases hF
    refine W.widen (k := 0) (n := 0) (Nat.le_of_ble_eq_true rfl) (Nat.le_of_ble_eq_true rfl) ?_
    exact W.iret hx hb hr (fun t ht hW => ⟨⟨_, _, rfl, ⟨rfl, rfl⟩, by rw [ht]; exact hP, va_K.moved hW.alike hK, hD⟩, hS.F ht⟩) hS.2.2 dX1_units_19
  · replace hF := oq_s hF
    obtain ⟨h_6, hF⟩ := gd_some hF
    have hj_5 : j4 < 48 := of_decide_eq_true h_6
    refine W.eq (g2 := F0 m 6 ls [.ref (qa (4 * j4))]) rfl ?_
    refine lv_astore_n (lv' := [(3, .ref (qa (4 * j4))), (0, .ref (ca 0)), (1, .int p1), (2, .int p2)]) hx hb dX1_units_6 rfl hl (by decide) rfl (fun ls hl => ?_)
    refine lv_aload_n hx hb dX1_units_7 rfl (lv_at hl 0 rfl) ?_
    refine lv_ifnonnull (tgt := 15) hx hb dX1_units_8 (by decide) ?_
    refine lv_aload_n hx hb dX1_units_15 rfl (lv_at hl 0 rfl) ?_
    obtain ⟨r8, u7, hc_9, hF⟩ := bi_some hF
    refine kc_i (W1 := CW cI cR ca qa u) (va_runV (As := []) (rest := []) ⟨hx, hb, hml, hown, hts⟩ (c_Row_total l D cI cR (qa (4 * j4)) (qa (4 * j4 + 1)) (qa (4 * j4 + 2)) (qa (4 * j4 + 3)) H.size  (u.2.2.2.2.2.2.2.2.2.2.2.2.2.2 j4) r8 u7 hc_9) (cwV 0 hts (gV cwc mw_97 mw_98 mw_99 mw_2 mw_100) rfl rfl rfl (by decide +kernel) ⟨(Nat.le_of_ble_eq_true rfl), (Nat.le_of_ble_eq_true rfl)⟩) (kp_V (ci := 0) (q := (RX0, TX0, 5)) hK hP hD (cw_sb hj_5) rfl rfl) rfl rfl hl.1 rfl (lv_room (Nat.le_of_ble_eq_true rfl)) dX1_units_16 ⟨(Nat.le_of_ble_eq_true rfl), (Nat.le_of_ble_eq_true rfl)⟩) hP hD hS hA (cw_sb hj_5) (jn_same (cw_sb hj_5)) (fun H locs hP hD hS => ?_)
    cases hF
    refine W.widen (k := 0) (n := 0) (Nat.le_of_ble_eq_true rfl) (Nat.le_of_ble_eq_true rfl) ?_
    exact W.iret hx hb hr (fun t ht hW => ⟨⟨_, _, rfl, ⟨rfl, rfl⟩, by rw [ht]; exact hP, va_K.moved hW.alike hK, hD⟩, hS.F ht⟩) hS.2.2 dX1_units_19
def F_P_packet (p1 : Int32) (p2 : Int32) (p3 : Int32) (p4 : Int32) (u : CSt) : Option ((Int32) × Unit) := bi (F_P_rowAt p1 p2 u) (fun r2 u1 => oq r2 (some ((-1 : Int32), ())) (fun j4 => gd (decide (j4 < 48)) (bi (F_Row_look p3 p4 (u.2.2.2.2.2.2.2.2.2.2.2.2.2.2 j4)) (fun r8 u7 => some (r8, ())))))
set_option maxHeartbeats 4000000 in
set_option maxRecDepth 100000 in
theorem c_P_packet (l : Launch) (D : va_G) (cI cR : ClassId) (ca qa : Nat → Nat) (sz : Nat) (p1 : Int32) (p2 : Int32) (p3 : Int32) (p4 : Int32) (u : CSt) (r : Int32) (u' : Unit) (hF : F_P_packet p1 p2 p3 p4 u = some (r, u')) : Met l yX1_packet wsX1_packet ({ frames := 2, cells := 0, slots := 0, locals := 43 }) (va_Pc [.ref (ca 0), .int p1, .int p2, .int p3, .int p4] (PRE D (TY cI cR) (CW cI cR ca qa u) sz)) (QI D (TY cI cR) (va_A (CW cI cR ca qa u) sz) (fun v => CW cI cR ca qa v) r u) 0 0 (va_A (CW cI cR ca qa u) sz) := by
  refine Met.ofW (cc := cX1_packet) (maxL := 6) (ret := (some .int)) (by decide) rfl ?_
  intro p e s m args below meth c s₁ B hml hv
  obtain ⟨rfl, hsz, hP, hK, hD0⟩ := hv
  have hx := B.exec
  have hb := B.bytes
  have hr := B.returns
  have hts := atoms_spec (ws := wsX1_packet) B.pre
  have hown : s.vm.findClass RX1 = some m.cls := findClass_of_methodNamed B.named
  have hlocks := B.notSynchronized
  subst hsz
  have hD := hD0.self (sz := s.heap.size)
  generalize hAe : va_A (CW cI cR ca qa u) s.heap.size = A at hD ⊢
  have hA : ∀ q : Nat, s.heap.size ≤ q → A q := fun q h => by rw [← hAe]; exact Or.inr h
  have hS : va_S A s.heap s.heap [] := va_S.rf
  replace hP : va_P D vwCl (CW cI cR ca qa u) s.heap := hP
  have hl := lv_entry ([.ref (ca 0), .int p1, .int p2, .int p3, .int p4]) (n := 6) (Nat.le_of_ble_eq_true rfl)
  rw [lg_entry_eq]
  generalize (lg_sl ([.ref (ca 0), .int p1, .int p2, .int p3, .int p4]) ++ List.replicate (6 - (lg_sl ([.ref (ca 0), .int p1, .int p2, .int p3, .int p4])).length) Slot.unset).toArray = ls at hl ⊢
  replace hl : lv_has ls 6 [(0, .ref (ca 0)), (1, .int p1), (2, .int p2), (3, .int p3), (4, .int p4)] := hl
  unfold F_P_packet at hF
  refine (?_ : ∀ (H : Heap) (locs : List Loc), va_P D vwCl (CW cI cR ca qa u) H → va_S A s.heap H locs → W p l e _ s m _ below meth c H locs 0 0 _ (F0 m 0 ls [])) s.heap [] hP hS
  intro H locs hP hS
  refine lv_aload_n hx hb dX1_packet_0 rfl (lv_at hl 0 rfl) ?_
  refine lv_iload_n hx hb dX1_packet_1 rfl (lv_at hl 1 rfl) ?_
  refine lv_iload_n hx hb dX1_packet_2 rfl (lv_at hl 2 rfl) ?_
  obtain ⟨r2, u1, hc_3, hF⟩ := bi_some hF
  refine kc_q (W1 := CW cI cR ca qa u) (va_runV (As := [.int p1, .int p2]) (rest := []) ⟨hx, hb, hml, hown, hts⟩ (c_P_rowAt l D cI cR ca qa H.size p1 p2 u r2 u1 hc_3) (cwV 2 hts (gV cwc mw_77 mw_78 mw_474 mw_1 mw_79) rfl rfl rfl (by decide +kernel) ⟨(Nat.le_of_ble_eq_true rfl), (Nat.le_of_ble_eq_true rfl)⟩) (kp_V (ci := 1) (q := (RX1, TX1, 16)) hK hP hD (sb_id _) rfl rfl) rfl rfl hl.1 rfl (lv_room (Nat.le_of_ble_eq_true rfl)) dX1_packet_3 ⟨(Nat.le_of_ble_eq_true rfl), (Nat.le_of_ble_eq_true rfl)⟩) hP hD hS hA (sb_id _) (jn_same (sb_id _)) (fun H locs hP hD hS => ?_)
  rcases r2 with _ | j4
  · replace hF := oq_n hF
    refine W.eq (g2 := F0 m 6 ls [.null]) rfl ?_
    refine lv_astoreN (lv' := [(5, .null), (0, .ref (ca 0)), (1, .int p1), (2, .int p2), (3, .int p3), (4, .int p4)]) hx hb dX1_packet_6 hl (by decide) rfl (fun ls hl => ?_)
    refine lv_aloadN hx hb dX1_packet_8 (lv_at hl 0 rfl) ?_
    refine lv_ifnonnullN hx hb dX1_packet_10 ?_
    refine lv_iconst (v := (-1 : Int32)) hx hb dX1_packet_13 (by decide +kernel) ?_
    refine lv_goto (tgt := 25) hx hb dX1_packet_14 (by decide) ?_
    cases hF
    refine W.widen (k := 0) (n := 0) (Nat.le_of_ble_eq_true rfl) (Nat.le_of_ble_eq_true rfl) ?_
    exact W.iret hx hb hr (fun t ht hW => ⟨⟨_, _, rfl, ⟨rfl, rfl⟩, by rw [ht]; exact hP, va_K.moved hW.alike hK, hD⟩, hS.F ht⟩) hS.2.2 dX1_packet_25
  · replace hF := oq_s hF
    obtain ⟨h_6, hF⟩ := gd_some hF
    have hj_5 : j4 < 48 := of_decide_eq_true h_6
    refine W.eq (g2 := F0 m 6 ls [.ref (qa (4 * j4))]) rfl ?_
    refine lv_astore (lv' := [(5, .ref (qa (4 * j4))), (0, .ref (ca 0)), (1, .int p1), (2, .int p2), (3, .int p3), (4, .int p4)]) hx hb dX1_packet_6 hl (by decide) rfl (fun ls hl => ?_)
    refine lv_aload hx hb dX1_packet_8 (lv_at hl 0 rfl) ?_
    refine lv_ifnonnull (tgt := 17) hx hb dX1_packet_10 (by decide) ?_
    refine lv_aload hx hb dX1_packet_17 (lv_at hl 0 rfl) ?_
    refine lv_iload_n hx hb dX1_packet_19 rfl (lv_at hl 4 rfl) ?_
    refine lv_iload hx hb dX1_packet_20 (lv_at hl 5 rfl) ?_
    obtain ⟨r8, u7, hc_9, hF⟩ := bi_some hF
    refine kc_i (W1 := CW cI cR ca qa u) (va_runV (As := [.int p3, .int p4]) (rest := []) ⟨hx, hb, hml, hown, hts⟩ (c_Row_look l D cI cR (qa (4 * j4)) (qa (4 * j4 + 1)) (qa (4 * j4 + 2)) (qa (4 * j4 + 3)) H.size p3 p4 (u.2.2.2.2.2.2.2.2.2.2.2.2.2.2 j4) r8 u7 hc_9) (cwV 2 hts (gV cwc mw_89 mw_90 mw_91 mw_2 mw_92) rfl rfl rfl (by decide +kernel) ⟨(Nat.le_of_ble_eq_true rfl), (Nat.le_of_ble_eq_true rfl)⟩) (kp_V (ci := 0) (q := (RX0, TX0, 5)) hK hP hD (cw_sb hj_5) rfl rfl) rfl rfl hl.1 rfl (lv_room (Nat.le_of_ble_eq_true rfl)) dX1_packet_22 ⟨(Nat.le_of_ble_eq_true rfl), (Nat.le_of_ble_eq_true rfl)⟩) hP hD hS hA (cw_sb hj_5) (jn_same (cw_sb hj_5)) (fun H locs hP hD hS => ?_)
    cases hF
    refine W.widen (k := 0) (n := 0) (Nat.le_of_ble_eq_true rfl) (Nat.le_of_ble_eq_true rfl) ?_
    exact W.iret hx hb hr (fun t ht hW => ⟨⟨_, _, rfl, ⟨rfl, rfl⟩, by rw [ht]; exact hP, va_K.moved hW.alike hK, hD⟩, hS.F ht⟩) hS.2.2 dX1_packet_25
def F_P_spend (p1 : Int32) (u : CSt) : Option ((Int32) × CSt) := (if p1 < (0 : Int32) then some ((0 : Int32), u) else (if u.2.2.2.2.2.2.2.2.2.2.2.1 < p1 then some ((0 : Int32), u) else (if p1 ≤ ((2000000000 : Int32) - u.2.2.2.2.2.2.2.2.2.2.2.2.2.1) then some ((1 : Int32), (u.1, u.2.1, u.2.2.1, u.2.2.2.1, u.2.2.2.2.1, u.2.2.2.2.2.1, u.2.2.2.2.2.2.1, u.2.2.2.2.2.2.2.1, u.2.2.2.2.2.2.2.2.1, u.2.2.2.2.2.2.2.2.2.1, u.2.2.2.2.2.2.2.2.2.2.1, (u.2.2.2.2.2.2.2.2.2.2.2.1 - p1), u.2.2.2.2.2.2.2.2.2.2.2.2.1, (u.2.2.2.2.2.2.2.2.2.2.2.2.2.1 + p1), u.2.2.2.2.2.2.2.2.2.2.2.2.2.2)) else some ((0 : Int32), u))))
set_option maxHeartbeats 4000000 in
set_option maxRecDepth 100000 in
theorem c_P_spend (l : Launch) (D : va_G) (cI cR : ClassId) (ca qa : Nat → Nat) (sz : Nat) (p1 : Int32) (u : CSt) (r : Int32) (u' : CSt) (hF : F_P_spend p1 u = some (r, u')) : Met l yX1_spend wsX1_spend ({ frames := 0, cells := 0, slots := 0, locals := 0 }) (va_Pc [.ref (ca 0), .int p1] (PRE D (TY cI cR) (CW cI cR ca qa u) sz)) (QI D (TY cI cR) (va_A (CW cI cR ca qa u) sz) (fun v => CW cI cR ca qa v) r u') 0 0 (va_A (CW cI cR ca qa u) sz) := by
  refine Met.ofW (cc := cX1_spend) (maxL := 2) (ret := (some .boolean)) (by decide) rfl ?_
  intro p e s m args below meth c s₁ B hml hv
  obtain ⟨rfl, hsz, hP, hK, hD0⟩ := hv
  have hx := B.exec
  have hb := B.bytes
  have hr := B.returns
  have hts := atoms_spec (ws := wsX1_spend) B.pre
  have hown : s.vm.findClass RX1 = some m.cls := findClass_of_methodNamed B.named
  have hlocks := B.notSynchronized
  subst hsz
  have hD := hD0.self (sz := s.heap.size)
  generalize hAe : va_A (CW cI cR ca qa u) s.heap.size = A at hD ⊢
  have hA : ∀ q : Nat, s.heap.size ≤ q → A q := fun q h => by rw [← hAe]; exact Or.inr h
  have hS : va_S A s.heap s.heap [] := va_S.rf
  replace hP : va_P D vwCl (CW cI cR ca qa u) s.heap := hP
  have hl := lv_entry ([.ref (ca 0), .int p1]) (n := 2) (Nat.le_of_ble_eq_true rfl)
  rw [lg_entry_eq]
  generalize (lg_sl ([.ref (ca 0), .int p1]) ++ List.replicate (2 - (lg_sl ([.ref (ca 0), .int p1])).length) Slot.unset).toArray = ls at hl ⊢
  replace hl : lv_has ls 2 [(0, .ref (ca 0)), (1, .int p1)] := hl
  have hk_53 := (hts _ (cwc _ mw_48))
  have hC_100 := (hts _ (cwc _ mw_72))
  have hk_59 := (hts _ (cwc _ mw_50))
  unfold F_P_spend at hF
  refine (?_ : ∀ (H : Heap) (locs : List Loc), va_P D vwCl (CW cI cR ca qa u) H → va_S A s.heap H locs → W p l e _ s m _ below meth c H locs 0 0 _ (F0 m 0 ls [])) s.heap [] hP hS
  intro H locs hP hS
  refine lv_iload_n hx hb dX1_spend_0 rfl (lv_at hl 1 rfl) ?_
  refine lv_if_lt (tgt := 23) hx hb dX1_spend_1 (by decide) (fun c_1 => ?_) (fun c_1 => ?_)
  · replace hF := (if_pos c_1).symm.trans hF
    refine lv_iconst (v := (0 : Int32)) hx hb dX1_spend_23 (by decide +kernel) ?_
    cases hF
    refine W.widen (k := 0) (n := 0) (Nat.le_of_ble_eq_true rfl) (Nat.le_of_ble_eq_true rfl) ?_
    exact W.zret hx hb hr rfl (fun t ht hW => ⟨⟨_, _, rfl, ⟨rfl, rfl⟩, by rw [ht]; exact hP, va_K.moved hW.alike hK, hD⟩, hS.F ht⟩) hS.2.2 dX1_spend_24
  · replace hF := (if_neg c_1).symm.trans hF
    refine lv_iload_n hx hb dX1_spend_4 rfl (lv_at hl 1 rfl) ?_
    refine lv_aload_n hx hb dX1_spend_5 rfl (lv_at hl 0 rfl) ?_
    refine va_get (D := D) (ci := 1) (v := .int u.2.2.2.2.2.2.2.2.2.2.2.1) (C := RX1) (T := TX1) (N := 16) hx hb hts (fun w h => cwc w (in_X1 w h)) hown hK hP 0 rfl rfl 13 (by decide) hk_53 (fun _ h9 => h9) rfl dX1_spend_6 ?_
    refine lv_icmp_gt (tgt := 23) hx hb dX1_spend_9 (by decide) (fun c_2 => ?_) (fun c_2 => ?_)
    · replace hF := (if_pos c_2).symm.trans hF
      refine lv_iconst (v := (0 : Int32)) hx hb dX1_spend_23 (by decide +kernel) ?_
      cases hF
      refine W.widen (k := 0) (n := 0) (Nat.le_of_ble_eq_true rfl) (Nat.le_of_ble_eq_true rfl) ?_
      exact W.zret hx hb hr rfl (fun t ht hW => ⟨⟨_, _, rfl, ⟨rfl, rfl⟩, by rw [ht]; exact hP, va_K.moved hW.alike hK, hD⟩, hS.F ht⟩) hS.2.2 dX1_spend_24
    · replace hF := (if_neg c_2).symm.trans hF
      refine lv_iload_n hx hb dX1_spend_12 rfl (lv_at hl 1 rfl) ?_
      refine lv_ldc (v := (2000000000 : Int32)) hx hb hown hC_100 dX1_spend_13 ?_
      refine lv_aload_n hx hb dX1_spend_15 rfl (lv_at hl 0 rfl) ?_
      refine va_get (D := D) (ci := 1) (v := .int u.2.2.2.2.2.2.2.2.2.2.2.2.2.1) (C := RX1) (T := TX1) (N := 16) hx hb hts (fun w h => cwc w (in_X1 w h)) hown hK hP 0 rfl rfl 15 (by decide) hk_59 (fun _ h9 => h9) rfl dX1_spend_16 ?_
      refine lv_isub hx hb dX1_spend_19 ?_
      refine lv_icmp_le (tgt := 25) hx hb dX1_spend_20 (by decide) (fun c_3 => ?_) (fun c_3 => ?_)
      · replace hF := (if_pos c_3).symm.trans hF
        refine lv_aload_n hx hb dX1_spend_25 rfl (lv_at hl 0 rfl) ?_
        refine lv_dup hx hb dX1_spend_26 rfl ?_
        refine va_get (D := D) (ci := 1) (v := .int u.2.2.2.2.2.2.2.2.2.2.2.1) (C := RX1) (T := TX1) (N := 16) hx hb hts (fun w h => cwc w (in_X1 w h)) hown hK hP 0 rfl rfl 13 (by decide) hk_53 (fun _ h9 => h9) rfl dX1_spend_27 ?_
        refine lv_iload_n hx hb dX1_spend_30 rfl (lv_at hl 1 rfl) ?_
        refine lv_isub hx hb dX1_spend_31 ?_
        refine va_put (D := D) (ci := 1) (v := .int (u.2.2.2.2.2.2.2.2.2.2.2.1 - p1)) (ty := .int) (C := RX1) (T := TX1) (N := 16) hx hb hts (fun w h => cwc w (in_X1 w h)) tyX1 tyX1_ok nmX1 hown hK hP hD hS 0 rfl rfl 13 (by decide) hk_53 (fun _ h9 => h9) rfl (by decide +kernel) rfl rfl (Nat.le_of_ble_eq_true rfl) dX1_spend_32 (fun H locs hP hD hS => ?_)
        replace hP : va_P D vwCl (CW cI cR ca qa (u.1, u.2.1, u.2.2.1, u.2.2.2.1, u.2.2.2.2.1, u.2.2.2.2.2.1, u.2.2.2.2.2.2.1, u.2.2.2.2.2.2.2.1, u.2.2.2.2.2.2.2.2.1, u.2.2.2.2.2.2.2.2.2.1, u.2.2.2.2.2.2.2.2.2.2.1, (u.2.2.2.2.2.2.2.2.2.2.2.1 - p1), u.2.2.2.2.2.2.2.2.2.2.2.2.1, u.2.2.2.2.2.2.2.2.2.2.2.2.2.1, u.2.2.2.2.2.2.2.2.2.2.2.2.2.2)) H := hP
        replace hD : va_D A (CW cI cR ca qa (u.1, u.2.1, u.2.2.1, u.2.2.2.1, u.2.2.2.2.1, u.2.2.2.2.2.1, u.2.2.2.2.2.2.1, u.2.2.2.2.2.2.2.1, u.2.2.2.2.2.2.2.2.1, u.2.2.2.2.2.2.2.2.2.1, u.2.2.2.2.2.2.2.2.2.2.1, (u.2.2.2.2.2.2.2.2.2.2.2.1 - p1), u.2.2.2.2.2.2.2.2.2.2.2.2.1, u.2.2.2.2.2.2.2.2.2.2.2.2.2.1, u.2.2.2.2.2.2.2.2.2.2.2.2.2.2)) := hD
        refine lv_aload_n hx hb dX1_spend_35 rfl (lv_at hl 0 rfl) ?_
        refine lv_dup hx hb dX1_spend_36 rfl ?_
        refine va_get (D := D) (ci := 1) (v := .int u.2.2.2.2.2.2.2.2.2.2.2.2.2.1) (C := RX1) (T := TX1) (N := 16) hx hb hts (fun w h => cwc w (in_X1 w h)) hown hK hP 0 rfl rfl 15 (by decide) hk_59 (fun _ h9 => h9) rfl dX1_spend_37 ?_
        refine lv_iload_n hx hb dX1_spend_40 rfl (lv_at hl 1 rfl) ?_
        refine lv_iadd hx hb dX1_spend_41 ?_
        refine va_put (D := D) (ci := 1) (v := .int (u.2.2.2.2.2.2.2.2.2.2.2.2.2.1 + p1)) (ty := .int) (C := RX1) (T := TX1) (N := 16) hx hb hts (fun w h => cwc w (in_X1 w h)) tyX1 tyX1_ok nmX1 hown hK hP hD hS 0 rfl rfl 15 (by decide) hk_59 (fun _ h9 => h9) rfl (by decide +kernel) rfl rfl (Nat.le_of_ble_eq_true rfl) dX1_spend_42 (fun H locs hP hD hS => ?_)
        replace hP : va_P D vwCl (CW cI cR ca qa (u.1, u.2.1, u.2.2.1, u.2.2.2.1, u.2.2.2.2.1, u.2.2.2.2.2.1, u.2.2.2.2.2.2.1, u.2.2.2.2.2.2.2.1, u.2.2.2.2.2.2.2.2.1, u.2.2.2.2.2.2.2.2.2.1, u.2.2.2.2.2.2.2.2.2.2.1, (u.2.2.2.2.2.2.2.2.2.2.2.1 - p1), u.2.2.2.2.2.2.2.2.2.2.2.2.1, (u.2.2.2.2.2.2.2.2.2.2.2.2.2.1 + p1), u.2.2.2.2.2.2.2.2.2.2.2.2.2.2)) H := hP
        replace hD : va_D A (CW cI cR ca qa (u.1, u.2.1, u.2.2.1, u.2.2.2.1, u.2.2.2.2.1, u.2.2.2.2.2.1, u.2.2.2.2.2.2.1, u.2.2.2.2.2.2.2.1, u.2.2.2.2.2.2.2.2.1, u.2.2.2.2.2.2.2.2.2.1, u.2.2.2.2.2.2.2.2.2.2.1, (u.2.2.2.2.2.2.2.2.2.2.2.1 - p1), u.2.2.2.2.2.2.2.2.2.2.2.2.1, (u.2.2.2.2.2.2.2.2.2.2.2.2.2.1 + p1), u.2.2.2.2.2.2.2.2.2.2.2.2.2.2)) := hD
        refine lv_iconst (v := (1 : Int32)) hx hb dX1_spend_45 (by decide +kernel) ?_
        cases hF
        refine W.widen (k := 0) (n := 0) (Nat.le_of_ble_eq_true rfl) (Nat.le_of_ble_eq_true rfl) ?_
        exact W.zret hx hb hr rfl (fun t ht hW => ⟨⟨_, _, rfl, ⟨rfl, rfl⟩, by rw [ht]; exact hP, va_K.moved hW.alike hK, hD⟩, hS.F ht⟩) hS.2.2 dX1_spend_46
      · replace hF := (if_neg c_3).symm.trans hF
        refine lv_iconst (v := (0 : Int32)) hx hb dX1_spend_23 (by decide +kernel) ?_
        cases hF
        refine W.widen (k := 0) (n := 0) (Nat.le_of_ble_eq_true rfl) (Nat.le_of_ble_eq_true rfl) ?_
        exact W.zret hx hb hr rfl (fun t ht hW => ⟨⟨_, _, rfl, ⟨rfl, rfl⟩, by rw [ht]; exact hP, va_K.moved hW.alike hK, hD⟩, hS.F ht⟩) hS.2.2 dX1_spend_24
def F_P_dump (p1 : Int32) (u : CSt) : Option ((Nat ⊕ Int32) × CSt) := bi (F_P_checkWagon p1 ()) (fun or2 u1 => ox or2 (fun e_4 => some (.inl e_4, u)) (fun _ => gd (inb p1 16) (bi (F_Row_total (u.2.2.2.2.2.2.2.2.2.2.2.2.2.2 (32 + p1.toNatClampNeg))) (fun r9 u8 => gd (inb p1 16) (bi (F_Row_clear (u.2.2.2.2.2.2.2.2.2.2.2.2.2.2 (32 + p1.toNatClampNeg))) (fun r14 u13 => gd (inb p1 16) (gd (inb (u.2.2.2.2.2.1 p1.toNatClampNeg) 4) (gd (inb (u.2.2.2.2.2.1 p1.toNatClampNeg) 4) (some ((.inr r9), (u.1, u.2.1, u.2.2.1, u.2.2.2.1, u.2.2.2.2.1, u.2.2.2.2.2.1, u.2.2.2.2.2.2.1, u.2.2.2.2.2.2.2.1, u.2.2.2.2.2.2.2.2.1, (upd u.2.2.2.2.2.2.2.2.2.1 (u.2.2.2.2.2.1 p1.toNatClampNeg).toNatClampNeg ((u.2.2.2.2.2.2.2.2.2.1 (u.2.2.2.2.2.1 p1.toNatClampNeg).toNatClampNeg) + r9)), u.2.2.2.2.2.2.2.2.2.2.1, u.2.2.2.2.2.2.2.2.2.2.2.1, u.2.2.2.2.2.2.2.2.2.2.2.2.1, u.2.2.2.2.2.2.2.2.2.2.2.2.2.1, (va_up u.2.2.2.2.2.2.2.2.2.2.2.2.2.2 (32 + p1.toNatClampNeg) u13))))))))))))
set_option maxHeartbeats 4000000 in
set_option maxRecDepth 100000 in
theorem c_P_dump (l : Launch) (hl9 : l.stackTraces = false) (D : va_G) (cI cR : ClassId) (sa : Nat → Nat) (ca qa : Nat → Nat) (sz : Nat) (p1 : Int32) (u : CSt) (r : Nat ⊕ Int32) (u' : CSt) (hF : F_P_dump p1 u = some (r, u')) : vx_Met l yX1_dump wsX1_dump ({ frames := 7, cells := 1, slots := 6, locals := 102 }) (va_Pc [.ref (ca 0), .int p1] (PREX D (TY cI cR) (CW cI cR ca qa u) sz sa)) (XI D (TY cI cR) (va_A (CW cI cR ca qa u) sz) (fun v => CW cI cR ca qa v) r u') (XX D (TY cI cR) (va_A (CW cI cR ca qa u) sz) (fun v => CW cI cR ca qa v) r u') 1 6 (va_A (CW cI cR ca qa u) sz) := by
  refine vx_ofW (cc := cX1_dump) (maxL := 3) (ret := (some .int)) (by decide) rfl ?_
  intro p e s m args below meth c s₁ B hml hnx hv
  obtain ⟨rfl, ⟨hsz, hP, hK, hD0⟩, hXK⟩ := hv
  have hx := B.exec
  have hb := B.bytes
  have hr := B.returns
  have hts := atoms_spec (ws := wsX1_dump) B.pre
  have hown : s.vm.findClass RX1 = some m.cls := findClass_of_methodNamed B.named
  have hlocks := B.notSynchronized
  subst hsz
  have hD := hD0.self (sz := s.heap.size)
  generalize hAe : va_A (CW cI cR ca qa u) s.heap.size = A at hD hXK ⊢
  have hA : ∀ q : Nat, s.heap.size ≤ q → A q := fun q h => by rw [← hAe]; exact Or.inr h
  have hS : va_S A s.heap s.heap [] := va_S.rf
  replace hP : va_P D vwCl (CW cI cR ca qa u) s.heap := hP
  have hl := lv_entry ([.ref (ca 0), .int p1]) (n := 3) (Nat.le_of_ble_eq_true rfl)
  rw [lg_entry_eq]
  generalize (lg_sl ([.ref (ca 0), .int p1]) ++ List.replicate (3 - (lg_sl ([.ref (ca 0), .int p1])).length) Slot.unset).toArray = ls at hl ⊢
  replace hl : lv_has ls 3 [(0, .ref (ca 0)), (1, .int p1)] := hl
  have hk_31 := (hts _ (cwc _ mw_41))
  have hk_46 := (hts _ (cwc _ mw_46))
  have hk_34 := (hts _ (cwc _ mw_42))
  obtain ⟨hXU, hXN, hXc1, hXc2, hXd1, hXd2, hXd3, hXn, -⟩ := id hXK
  unfold F_P_dump at hF
  refine (?_ : ∀ (H : Heap) (locs : List Loc), va_P D vwCl (CW cI cR ca qa u) H → va_S A s.heap H locs → W p l e _ s m _ below meth c H locs 0 0 _ (F0 m 0 ls [])) s.heap [] hP hS
  intro H locs hP hS
  refine lv_iload_n hx hb dX1_dump_0 rfl (lv_at hl 1 rfl) ?_
  obtain ⟨or2, u1, hc_3, hF⟩ := bi_some hF
  refine kx_v (W1 := CW cI cR ca qa u) (vx_runS (As := [.int p1]) (rest := []) ⟨hx, hb, hml, hown, hts⟩ (c_P_checkWagon l hl9 D cI cR sa  H.size p1 () or2 u1 hc_3) (va_cwS 1 hts (gS cwc mw_224 mw_225 mw_1 mw_226) rfl rfl rfl (by decide +kernel) ⟨(Nat.le_of_ble_eq_true rfl), (Nat.le_of_ble_eq_true rfl)⟩) (kpX_S hXK hK hP hD hS hA (sb_nil _)) rfl rfl hl.1 rfl (lv_room (Nat.le_of_ble_eq_true rfl)) dX1_dump_1 ⟨(Nat.le_of_ble_eq_true rfl), (Nat.le_of_ble_eq_true rfl)⟩) hP hD hS hA (sb_nil _) (jn_nil _) (fun e_4 ce q9 H locs ho_5 hP hD hS hce hcv hcl => ?_) (fun H locs ho_5 hP hD hS => ?_)
  · subst ho_5
    replace hF := ox_l hF
    cases hF
    exact kx_out hnx hlocks hK hP hD hS hce hcv hcl rfl (Nat.le_of_ble_eq_true rfl) (Nat.le_of_ble_eq_true rfl)
  · subst ho_5
    replace hF := ox_r hF
    refine lv_aload_n hx hb dX1_dump_4 rfl (lv_at hl 0 rfl) ?_
    refine va_get (D := D) (ci := 1) (v := .ref (ca 7)) (C := RX1) (T := TX1) (N := 16) hx hb hts (fun w h => cwc w (in_X1 w h)) hown hK hP 0 rfl rfl 6 (by decide) hk_31 (fun _ h9 => h9) rfl dX1_dump_5 ?_
    refine lv_iload_n hx hb dX1_dump_8 rfl (lv_at hl 1 rfl) ?_
    obtain ⟨h_6, hF⟩ := gd_some hF
    refine va_aldq hx hb hK hP 7 1 rfl rfl (inb_in h_6) dX1_dump_9 ?_
    refine W.eq (g2 := F0 m 10 ls [.ref (qa (4 * (32 + p1.toNatClampNeg)))]) rfl ?_
    have hj_7 : (32 + p1.toNatClampNeg) < 48 := by have := inb_lt h_6; omega
    obtain ⟨r9, u8, hc_10, hF⟩ := bi_some hF
    refine kc_i (W1 := CW cI cR ca qa u) (va_runV (As := []) (rest := []) ⟨hx, hb, hml, hown, hts⟩ (c_Row_total l D cI cR (qa (4 * (32 + p1.toNatClampNeg))) (qa (4 * (32 + p1.toNatClampNeg) + 1)) (qa (4 * (32 + p1.toNatClampNeg) + 2)) (qa (4 * (32 + p1.toNatClampNeg) + 3)) H.size  (u.2.2.2.2.2.2.2.2.2.2.2.2.2.2 (32 + p1.toNatClampNeg)) r9 u8 hc_10) (cwV 0 hts (gV cwc mw_97 mw_98 mw_99 mw_2 mw_100) rfl rfl rfl (by decide +kernel) ⟨(Nat.le_of_ble_eq_true rfl), (Nat.le_of_ble_eq_true rfl)⟩) (kp_V (ci := 0) (q := (RX0, TX0, 5)) hK hP hD (cw_sb hj_7) rfl rfl) rfl rfl hl.1 rfl (lv_room (Nat.le_of_ble_eq_true rfl)) dX1_dump_10 ⟨(Nat.le_of_ble_eq_true rfl), (Nat.le_of_ble_eq_true rfl)⟩) hP hD hS hA (cw_sb hj_7) (jn_same (cw_sb hj_7)) (fun H locs hP hD hS => ?_)
    refine lv_istore_n (lv' := [(2, .int r9), (0, .ref (ca 0)), (1, .int p1)]) hx hb dX1_dump_13 rfl hl (by decide) rfl (fun ls hl => ?_)
    refine lv_aload_n hx hb dX1_dump_14 rfl (lv_at hl 1 rfl) ?_
    refine va_get (D := D) (ci := 1) (v := .ref (ca 7)) (C := RX1) (T := TX1) (N := 16) hx hb hts (fun w h => cwc w (in_X1 w h)) hown hK hP 0 rfl rfl 6 (by decide) hk_31 (fun _ h9 => h9) rfl dX1_dump_15 ?_
    refine lv_iload_n hx hb dX1_dump_18 rfl (lv_at hl 2 rfl) ?_
    obtain ⟨h_11, hF⟩ := gd_some hF
    refine va_aldq hx hb hK hP 7 1 rfl rfl (inb_in h_11) dX1_dump_19 ?_
    refine W.eq (g2 := F0 m 20 ls [.ref (qa (4 * (32 + p1.toNatClampNeg)))]) rfl ?_
    have hj_12 : (32 + p1.toNatClampNeg) < 48 := by have := inb_lt h_11; omega
    obtain ⟨r14, u13, hc_15, hF⟩ := bi_some hF
    refine kc_v (W1 := CW cI cR ca qa (u.1, u.2.1, u.2.2.1, u.2.2.2.1, u.2.2.2.2.1, u.2.2.2.2.2.1, u.2.2.2.2.2.2.1, u.2.2.2.2.2.2.2.1, u.2.2.2.2.2.2.2.2.1, u.2.2.2.2.2.2.2.2.2.1, u.2.2.2.2.2.2.2.2.2.2.1, u.2.2.2.2.2.2.2.2.2.2.2.1, u.2.2.2.2.2.2.2.2.2.2.2.2.1, u.2.2.2.2.2.2.2.2.2.2.2.2.2.1, (va_up u.2.2.2.2.2.2.2.2.2.2.2.2.2.2 (32 + p1.toNatClampNeg) u13))) (va_runV (As := []) (rest := []) ⟨hx, hb, hml, hown, hts⟩ (c_Row_clear l D cI cR (qa (4 * (32 + p1.toNatClampNeg))) (qa (4 * (32 + p1.toNatClampNeg) + 1)) (qa (4 * (32 + p1.toNatClampNeg) + 2)) (qa (4 * (32 + p1.toNatClampNeg) + 3)) H.size  (u.2.2.2.2.2.2.2.2.2.2.2.2.2.2 (32 + p1.toNatClampNeg)) r14 u13 hc_15) (cwV 0 hts (gV cwc mw_324 mw_325 mw_326 mw_2 mw_327) rfl rfl rfl (by decide +kernel) ⟨(Nat.le_of_ble_eq_true rfl), (Nat.le_of_ble_eq_true rfl)⟩) (kp_V (ci := 0) (q := (RX0, TX0, 5)) hK hP hD (cw_sb hj_12) rfl rfl) rfl rfl hl.1 rfl (lv_room (Nat.le_of_ble_eq_true rfl)) dX1_dump_20 ⟨(Nat.le_of_ble_eq_true rfl), (Nat.le_of_ble_eq_true rfl)⟩) hP hD hS hA (cw_sb hj_12) (cw_jn hj_12) (fun H locs hP hD hS => ?_)
    refine lv_aload_n hx hb dX1_dump_23 rfl (lv_at hl 1 rfl) ?_
    refine va_get (D := D) (ci := 1) (v := .ref (ca 12)) (C := RX1) (T := TX1) (N := 16) hx hb hts (fun w h => cwc w (in_X1 w h)) hown hK hP 0 rfl rfl 11 (by decide) hk_46 (fun _ h9 => h9) rfl dX1_dump_24 ?_
    refine lv_aload_n hx hb dX1_dump_27 rfl (lv_at hl 1 rfl) ?_
    refine va_get (D := D) (ci := 1) (v := .ref (ca 8)) (C := RX1) (T := TX1) (N := 16) hx hb hts (fun w h => cwc w (in_X1 w h)) hown hK hP 0 rfl rfl 7 (by decide) hk_34 (fun _ h9 => h9) rfl dX1_dump_28 ?_
    refine lv_iload_n hx hb dX1_dump_31 rfl (lv_at hl 2 rfl) ?_
    obtain ⟨h_16, hF⟩ := gd_some hF
    refine va_iald (f := u.2.2.2.2.2.1) hx hb hK hP 8 0 rfl rfl (inb_in h_16) dX1_dump_32 ?_
    refine lv_dup2_11 hx hb dX1_dump_33 rfl rfl ?_
    obtain ⟨h_17, hF⟩ := gd_some hF
    refine va_iald (f := u.2.2.2.2.2.2.2.2.2.1) hx hb hK hP 12 0 rfl rfl (inb_in h_17) dX1_dump_34 ?_
    refine lv_iload_n hx hb dX1_dump_35 rfl (lv_at hl 0 rfl) ?_
    refine lv_iadd hx hb dX1_dump_36 ?_
    obtain ⟨h_18, hF⟩ := gd_some hF
    refine va_iast (f := u.2.2.2.2.2.2.2.2.2.1) hx hb hK hP hD hS 12 0 rfl rfl (inb_in h_18) dX1_dump_37 (fun H locs hP hD hS => ?_)
    replace hP : va_P D vwCl (CW cI cR ca qa (u.1, u.2.1, u.2.2.1, u.2.2.2.1, u.2.2.2.2.1, u.2.2.2.2.2.1, u.2.2.2.2.2.2.1, u.2.2.2.2.2.2.2.1, u.2.2.2.2.2.2.2.2.1, (upd u.2.2.2.2.2.2.2.2.2.1 (u.2.2.2.2.2.1 p1.toNatClampNeg).toNatClampNeg ((u.2.2.2.2.2.2.2.2.2.1 (u.2.2.2.2.2.1 p1.toNatClampNeg).toNatClampNeg) + r9)), u.2.2.2.2.2.2.2.2.2.2.1, u.2.2.2.2.2.2.2.2.2.2.2.1, u.2.2.2.2.2.2.2.2.2.2.2.2.1, u.2.2.2.2.2.2.2.2.2.2.2.2.2.1, (va_up u.2.2.2.2.2.2.2.2.2.2.2.2.2.2 (32 + p1.toNatClampNeg) u13))) H := hP
    replace hD : va_D A (CW cI cR ca qa (u.1, u.2.1, u.2.2.1, u.2.2.2.1, u.2.2.2.2.1, u.2.2.2.2.2.1, u.2.2.2.2.2.2.1, u.2.2.2.2.2.2.2.1, u.2.2.2.2.2.2.2.2.1, (upd u.2.2.2.2.2.2.2.2.2.1 (u.2.2.2.2.2.1 p1.toNatClampNeg).toNatClampNeg ((u.2.2.2.2.2.2.2.2.2.1 (u.2.2.2.2.2.1 p1.toNatClampNeg).toNatClampNeg) + r9)), u.2.2.2.2.2.2.2.2.2.2.1, u.2.2.2.2.2.2.2.2.2.2.2.1, u.2.2.2.2.2.2.2.2.2.2.2.2.1, u.2.2.2.2.2.2.2.2.2.2.2.2.2.1, (va_up u.2.2.2.2.2.2.2.2.2.2.2.2.2.2 (32 + p1.toNatClampNeg) u13))) := hD
    refine lv_iload_n hx hb dX1_dump_38 rfl (lv_at hl 0 rfl) ?_
    cases hF
    refine vx_ret ?_
    refine W.widen (k := 1) (n := 6) (Nat.le_of_ble_eq_true rfl) (Nat.le_of_ble_eq_true rfl) ?_
    exact W.iret hx hb hr (fun t ht hW => ⟨⟨_, _, rfl, ⟨rfl, rfl⟩, by rw [ht]; exact hP, va_K.moved hW.alike hK, hD⟩, hS.F ht⟩) hS.2.2 dX1_dump_39
def F_P_part (p1 : Int32) (p2 : Int32) (p3 : Int32) (u : CSt) : Option ((Nat ⊕ Unit) × CSt) := bi (F_P_checkWagon p1 ()) (fun or2 u1 => ox or2 (fun e_4 => some (.inl e_4, u)) (fun _ => bi (F_P_checkWagon p3 ()) (fun or7 u6 => ox or7 (fun e_9 => some (.inl e_9, u)) (fun _ => bi (F_P_checkNotBelowZero p2 ()) (fun or12 u11 => ox or12 (fun e_14 => some (.inl e_14, u)) (fun _ => bi (F_P_checkFellows p1 p3 u) (fun or17 u16 => ox or17 (fun e_19 => some (.inl e_19, u)) (fun _ => gd (inb p3 16) (bi (F_Row_total (u.2.2.2.2.2.2.2.2.2.2.2.2.2.2 (32 + p3.toNatClampNeg))) (fun r24 u23 => (if r24 ≤ (0 : Int32) then gd (inb p1 16) (bi (F_Row_total (u.2.2.2.2.2.2.2.2.2.2.2.2.2.2 (32 + p1.toNatClampNeg))) (fun r30 u29 => gd (inb p3 16) ((if (r30 - p2) ≤ (u.2.2.2.2.2.2.1 p3.toNatClampNeg) then gd (inb p1 16) (gd (inb p3 16) (gd (decide (¬ (32 + p1.toNatClampNeg) = (32 + p3.toNatClampNeg))) (bi (F_Row_moveAllBehind p2 (u.2.2.2.2.2.2.2.2.2.2.2.2.2.2 (32 + p1.toNatClampNeg), u.2.2.2.2.2.2.2.2.2.2.2.2.2.2 (32 + p3.toNatClampNeg))) (fun r39 u38 => some ((.inr ()), (u.1, u.2.1, u.2.2.1, u.2.2.2.1, u.2.2.2.2.1, u.2.2.2.2.2.1, u.2.2.2.2.2.2.1, u.2.2.2.2.2.2.2.1, u.2.2.2.2.2.2.2.2.1, u.2.2.2.2.2.2.2.2.2.1, u.2.2.2.2.2.2.2.2.2.2.1, u.2.2.2.2.2.2.2.2.2.2.2.1, u.2.2.2.2.2.2.2.2.2.2.2.2.1, u.2.2.2.2.2.2.2.2.2.2.2.2.2.1, (va_up (va_up u.2.2.2.2.2.2.2.2.2.2.2.2.2.2 (32 + p1.toNatClampNeg) u38.1) (32 + p3.toNatClampNeg) u38.2))))))) else some (.inl 2, u))))) else some (.inl 2, u))))))))))))
set_option maxHeartbeats 4000000 in
set_option maxRecDepth 100000 in
theorem c_P_part (l : Launch) (hl9 : l.stackTraces = false) (D : va_G) (cI cR : ClassId) (sa : Nat → Nat) (ca qa : Nat → Nat) (sz : Nat) (p1 : Int32) (p2 : Int32) (p3 : Int32) (u : CSt) (r : Nat ⊕ Unit) (u' : CSt) (hF : F_P_part p1 p2 p3 u = some (r, u')) : vx_Met l yX1_part wsX1_part ({ frames := 7, cells := 5, slots := 30, locals := 104 }) (va_Pc [.ref (ca 0), .int p1, .int p2, .int p3] (PREX D (TY cI cR) (CW cI cR ca qa u) sz sa)) (XV D (TY cI cR) (va_A (CW cI cR ca qa u) sz) (fun v => CW cI cR ca qa v) r u') (XX D (TY cI cR) (va_A (CW cI cR ca qa u) sz) (fun v => CW cI cR ca qa v) r u') 5 30 (va_A (CW cI cR ca qa u) sz) := by
  refine vx_ofW (cc := cX1_part) (maxL := 4) (ret := none) (by decide) rfl ?_
  intro p e s m args below meth c s₁ B hml hnx hv
  obtain ⟨rfl, ⟨hsz, hP, hK, hD0⟩, hXK⟩ := hv
  have hx := B.exec
  have hb := B.bytes
  have hr := B.returns
  have hts := atoms_spec (ws := wsX1_part) B.pre
  have hown : s.vm.findClass RX1 = some m.cls := findClass_of_methodNamed B.named
  have hlocks := B.notSynchronized
  subst hsz
  have hD := hD0.self (sz := s.heap.size)
  generalize hAe : va_A (CW cI cR ca qa u) s.heap.size = A at hD hXK ⊢
  have hA : ∀ q : Nat, s.heap.size ≤ q → A q := fun q h => by rw [← hAe]; exact Or.inr h
  have hS : va_S A s.heap s.heap [] := va_S.rf
  replace hP : va_P D vwCl (CW cI cR ca qa u) s.heap := hP
  have hl := lv_entry ([.ref (ca 0), .int p1, .int p2, .int p3]) (n := 4) (Nat.le_of_ble_eq_true rfl)
  rw [lg_entry_eq]
  generalize (lg_sl ([.ref (ca 0), .int p1, .int p2, .int p3]) ++ List.replicate (4 - (lg_sl ([.ref (ca 0), .int p1, .int p2, .int p3])).length) Slot.unset).toArray = ls at hl ⊢
  replace hl : lv_has ls 4 [(0, .ref (ca 0)), (1, .int p1), (2, .int p2), (3, .int p3)] := hl
  have hk_31 := (hts _ (cwc _ mw_41))
  have hk_37 := (hts _ (cwc _ mw_43))
  obtain ⟨hXU, hXN, hXc1, hXc2, hXd1, hXd2, hXd3, hXn, -⟩ := id hXK
  unfold F_P_part at hF
  refine (?_ : ∀ (H : Heap) (locs : List Loc), va_P D vwCl (CW cI cR ca qa u) H → va_S A s.heap H locs → W p l e _ s m _ below meth c H locs 0 0 _ (F0 m 0 ls [])) s.heap [] hP hS
  intro H locs hP hS
  refine lv_iload_n hx hb dX1_part_0 rfl (lv_at hl 1 rfl) ?_
  obtain ⟨or2, u1, hc_3, hF⟩ := bi_some hF
  refine kx_v (W1 := CW cI cR ca qa u) (vx_runS (As := [.int p1]) (rest := []) ⟨hx, hb, hml, hown, hts⟩ (c_P_checkWagon l hl9 D cI cR sa  H.size p1 () or2 u1 hc_3) (va_cwS 1 hts (gS cwc mw_224 mw_225 mw_1 mw_226) rfl rfl rfl (by decide +kernel) ⟨(Nat.le_of_ble_eq_true rfl), (Nat.le_of_ble_eq_true rfl)⟩) (kpX_S hXK hK hP hD hS hA (sb_nil _)) rfl rfl hl.1 rfl (lv_room (Nat.le_of_ble_eq_true rfl)) dX1_part_1 ⟨(Nat.le_of_ble_eq_true rfl), (Nat.le_of_ble_eq_true rfl)⟩) hP hD hS hA (sb_nil _) (jn_nil _) (fun e_4 ce q9 H locs ho_5 hP hD hS hce hcv hcl => ?_) (fun H locs ho_5 hP hD hS => ?_)
  · subst ho_5
    replace hF := ox_l hF
    cases hF
    exact kx_out hnx hlocks hK hP hD hS hce hcv hcl rfl (Nat.le_of_ble_eq_true rfl) (Nat.le_of_ble_eq_true rfl)
  · subst ho_5
    replace hF := ox_r hF
    refine lv_iload_n hx hb dX1_part_4 rfl (lv_at hl 3 rfl) ?_
    obtain ⟨or7, u6, hc_8, hF⟩ := bi_some hF
    refine kx_v (W1 := CW cI cR ca qa u) (vx_runS (As := [.int p3]) (rest := []) ⟨hx, hb, hml, hown, hts⟩ (c_P_checkWagon l hl9 D cI cR sa  H.size p3 () or7 u6 hc_8) (va_cwS 1 hts (gS cwc mw_224 mw_225 mw_1 mw_226) rfl rfl rfl (by decide +kernel) ⟨(Nat.le_of_ble_eq_true rfl), (Nat.le_of_ble_eq_true rfl)⟩) (kpX_S hXK hK hP hD hS hA (sb_nil _)) rfl rfl hl.1 rfl (lv_room (Nat.le_of_ble_eq_true rfl)) dX1_part_5 ⟨(Nat.le_of_ble_eq_true rfl), (Nat.le_of_ble_eq_true rfl)⟩) hP hD hS hA (sb_nil _) (jn_nil _) (fun e_9 ce q9 H locs ho_10 hP hD hS hce hcv hcl => ?_) (fun H locs ho_10 hP hD hS => ?_)
    · subst ho_10
      replace hF := ox_l hF
      cases hF
      exact kx_out hnx hlocks hK hP hD hS hce hcv hcl rfl (Nat.le_of_ble_eq_true rfl) (Nat.le_of_ble_eq_true rfl)
    · subst ho_10
      replace hF := ox_r hF
      refine lv_iload_n hx hb dX1_part_8 rfl (lv_at hl 2 rfl) ?_
      obtain ⟨or12, u11, hc_13, hF⟩ := bi_some hF
      refine kx_v (W1 := CW cI cR ca qa u) (vx_runS (As := [.int p2]) (rest := []) ⟨hx, hb, hml, hown, hts⟩ (c_P_checkNotBelowZero l hl9 D cI cR sa  H.size p2 () or12 u11 hc_13) (va_cwS 1 hts (gS cwc mw_257 mw_258 mw_1 mw_259) rfl rfl rfl (by decide +kernel) ⟨(Nat.le_of_ble_eq_true rfl), (Nat.le_of_ble_eq_true rfl)⟩) (kpX_S hXK hK hP hD hS hA (sb_nil _)) rfl rfl hl.1 rfl (lv_room (Nat.le_of_ble_eq_true rfl)) dX1_part_9 ⟨(Nat.le_of_ble_eq_true rfl), (Nat.le_of_ble_eq_true rfl)⟩) hP hD hS hA (sb_nil _) (jn_nil _) (fun e_14 ce q9 H locs ho_15 hP hD hS hce hcv hcl => ?_) (fun H locs ho_15 hP hD hS => ?_)
      · subst ho_15
        replace hF := ox_l hF
        cases hF
        exact kx_out hnx hlocks hK hP hD hS hce hcv hcl rfl (Nat.le_of_ble_eq_true rfl) (Nat.le_of_ble_eq_true rfl)
      · subst ho_15
        replace hF := ox_r hF
        refine lv_aload_n hx hb dX1_part_12 rfl (lv_at hl 0 rfl) ?_
        refine lv_iload_n hx hb dX1_part_13 rfl (lv_at hl 1 rfl) ?_
        refine lv_iload_n hx hb dX1_part_14 rfl (lv_at hl 3 rfl) ?_
        obtain ⟨or17, u16, hc_18, hF⟩ := bi_some hF
        refine kx_v (W1 := CW cI cR ca qa u) (vx_runV (As := [.int p1, .int p3]) (rest := []) ⟨hx, hb, hml, hown, hts⟩ (c_P_checkFellows l hl9 D cI cR sa ca qa H.size p1 p3 u or17 u16 hc_18) (cwV 2 hts (gV cwc mw_303 mw_304 mw_484 mw_1 mw_305) rfl rfl rfl (by decide +kernel) ⟨(Nat.le_of_ble_eq_true rfl), (Nat.le_of_ble_eq_true rfl)⟩) (kpX_V (ci := 1) (q := (RX1, TX1, 16)) hXK hK hP hD hS hA (sb_id _) rfl rfl) rfl rfl hl.1 rfl (lv_room (Nat.le_of_ble_eq_true rfl)) dX1_part_15 ⟨(Nat.le_of_ble_eq_true rfl), (Nat.le_of_ble_eq_true rfl)⟩) hP hD hS hA (sb_id _) (jn_same (sb_id _)) (fun e_19 ce q9 H locs ho_20 hP hD hS hce hcv hcl => ?_) (fun H locs ho_20 hP hD hS => ?_)
        · subst ho_20
          replace hF := ox_l hF
          cases hF
          exact kx_out hnx hlocks hK hP hD hS hce hcv hcl rfl (Nat.le_of_ble_eq_true rfl) (Nat.le_of_ble_eq_true rfl)
        · subst ho_20
          replace hF := ox_r hF
          refine lv_aload_n hx hb dX1_part_18 rfl (lv_at hl 0 rfl) ?_
          refine va_get (D := D) (ci := 1) (v := .ref (ca 7)) (C := RX1) (T := TX1) (N := 16) hx hb hts (fun w h => cwc w (in_X1 w h)) hown hK hP 0 rfl rfl 6 (by decide) hk_31 (fun _ h9 => h9) rfl dX1_part_19 ?_
          refine lv_iload_n hx hb dX1_part_22 rfl (lv_at hl 3 rfl) ?_
          obtain ⟨h_21, hF⟩ := gd_some hF
          refine va_aldq hx hb hK hP 7 1 rfl rfl (inb_in h_21) dX1_part_23 ?_
          refine W.eq (g2 := F0 m 24 ls [.ref (qa (4 * (32 + p3.toNatClampNeg)))]) rfl ?_
          have hj_22 : (32 + p3.toNatClampNeg) < 48 := by have := inb_lt h_21; omega
          obtain ⟨r24, u23, hc_25, hF⟩ := bi_some hF
          refine kc_i (W1 := CW cI cR ca qa u) (va_runV (As := []) (rest := []) ⟨hx, hb, hml, hown, hts⟩ (c_Row_total l D cI cR (qa (4 * (32 + p3.toNatClampNeg))) (qa (4 * (32 + p3.toNatClampNeg) + 1)) (qa (4 * (32 + p3.toNatClampNeg) + 2)) (qa (4 * (32 + p3.toNatClampNeg) + 3)) H.size  (u.2.2.2.2.2.2.2.2.2.2.2.2.2.2 (32 + p3.toNatClampNeg)) r24 u23 hc_25) (cwV 0 hts (gV cwc mw_97 mw_98 mw_99 mw_2 mw_100) rfl rfl rfl (by decide +kernel) ⟨(Nat.le_of_ble_eq_true rfl), (Nat.le_of_ble_eq_true rfl)⟩) (kp_V (ci := 0) (q := (RX0, TX0, 5)) hK hP hD (cw_sb hj_22) rfl rfl) rfl rfl hl.1 rfl (lv_room (Nat.le_of_ble_eq_true rfl)) dX1_part_24 ⟨(Nat.le_of_ble_eq_true rfl), (Nat.le_of_ble_eq_true rfl)⟩) hP hD hS hA (cw_sb hj_22) (jn_same (cw_sb hj_22)) (fun H locs hP hD hS => ?_)
          refine lv_if_le (tgt := 40) hx hb dX1_part_27 (by decide) (fun c_26 => ?_) (fun c_26 => ?_)
          · replace hF := (if_pos c_26).symm.trans hF
            refine lv_aload_n hx hb dX1_part_40 rfl (lv_at hl 0 rfl) ?_
            refine va_get (D := D) (ci := 1) (v := .ref (ca 7)) (C := RX1) (T := TX1) (N := 16) hx hb hts (fun w h => cwc w (in_X1 w h)) hown hK hP 0 rfl rfl 6 (by decide) hk_31 (fun _ h9 => h9) rfl dX1_part_41 ?_
            refine lv_iload_n hx hb dX1_part_44 rfl (lv_at hl 1 rfl) ?_
            obtain ⟨h_27, hF⟩ := gd_some hF
            refine va_aldq hx hb hK hP 7 1 rfl rfl (inb_in h_27) dX1_part_45 ?_
            refine W.eq (g2 := F0 m 46 ls [.ref (qa (4 * (32 + p1.toNatClampNeg)))]) rfl ?_
            have hj_28 : (32 + p1.toNatClampNeg) < 48 := by have := inb_lt h_27; omega
            obtain ⟨r30, u29, hc_31, hF⟩ := bi_some hF
            refine kc_i (W1 := CW cI cR ca qa u) (va_runV (As := []) (rest := []) ⟨hx, hb, hml, hown, hts⟩ (c_Row_total l D cI cR (qa (4 * (32 + p1.toNatClampNeg))) (qa (4 * (32 + p1.toNatClampNeg) + 1)) (qa (4 * (32 + p1.toNatClampNeg) + 2)) (qa (4 * (32 + p1.toNatClampNeg) + 3)) H.size  (u.2.2.2.2.2.2.2.2.2.2.2.2.2.2 (32 + p1.toNatClampNeg)) r30 u29 hc_31) (cwV 0 hts (gV cwc mw_97 mw_98 mw_99 mw_2 mw_100) rfl rfl rfl (by decide +kernel) ⟨(Nat.le_of_ble_eq_true rfl), (Nat.le_of_ble_eq_true rfl)⟩) (kp_V (ci := 0) (q := (RX0, TX0, 5)) hK hP hD (cw_sb hj_28) rfl rfl) rfl rfl hl.1 rfl (lv_room (Nat.le_of_ble_eq_true rfl)) dX1_part_46 ⟨(Nat.le_of_ble_eq_true rfl), (Nat.le_of_ble_eq_true rfl)⟩) hP hD hS hA (cw_sb hj_28) (jn_same (cw_sb hj_28)) (fun H locs hP hD hS => ?_)
            refine lv_iload_n hx hb dX1_part_49 rfl (lv_at hl 2 rfl) ?_
            refine lv_isub hx hb dX1_part_50 ?_
            refine lv_aload_n hx hb dX1_part_51 rfl (lv_at hl 0 rfl) ?_
            refine va_get (D := D) (ci := 1) (v := .ref (ca 9)) (C := RX1) (T := TX1) (N := 16) hx hb hts (fun w h => cwc w (in_X1 w h)) hown hK hP 0 rfl rfl 8 (by decide) hk_37 (fun _ h9 => h9) rfl dX1_part_52 ?_
            refine lv_iload_n hx hb dX1_part_55 rfl (lv_at hl 3 rfl) ?_
            obtain ⟨h_32, hF⟩ := gd_some hF
            refine va_iald (f := u.2.2.2.2.2.2.1) hx hb hK hP 9 0 rfl rfl (inb_in h_32) dX1_part_56 ?_
            refine lv_icmp_le (tgt := 70) hx hb dX1_part_57 (by decide) (fun c_33 => ?_) (fun c_33 => ?_)
            · replace hF := (if_pos c_33).symm.trans hF
              refine lv_aload_n hx hb dX1_part_70 rfl (lv_at hl 0 rfl) ?_
              refine va_get (D := D) (ci := 1) (v := .ref (ca 7)) (C := RX1) (T := TX1) (N := 16) hx hb hts (fun w h => cwc w (in_X1 w h)) hown hK hP 0 rfl rfl 6 (by decide) hk_31 (fun _ h9 => h9) rfl dX1_part_71 ?_
              refine lv_iload_n hx hb dX1_part_74 rfl (lv_at hl 1 rfl) ?_
              obtain ⟨h_34, hF⟩ := gd_some hF
              refine va_aldq hx hb hK hP 7 1 rfl rfl (inb_in h_34) dX1_part_75 ?_
              refine W.eq (g2 := F0 m 76 ls [.ref (qa (4 * (32 + p1.toNatClampNeg)))]) rfl ?_
              have hj_35 : (32 + p1.toNatClampNeg) < 48 := by have := inb_lt h_34; omega
              refine lv_iload_n hx hb dX1_part_76 rfl (lv_at hl 2 rfl) ?_
              refine lv_aload_n hx hb dX1_part_77 rfl (lv_at hl 0 rfl) ?_
              refine va_get (D := D) (ci := 1) (v := .ref (ca 7)) (C := RX1) (T := TX1) (N := 16) hx hb hts (fun w h => cwc w (in_X1 w h)) hown hK hP 0 rfl rfl 6 (by decide) hk_31 (fun _ h9 => h9) rfl dX1_part_78 ?_
              refine lv_iload_n hx hb dX1_part_81 rfl (lv_at hl 3 rfl) ?_
              obtain ⟨h_36, hF⟩ := gd_some hF
              refine va_aldq hx hb hK hP 7 1 rfl rfl (inb_in h_36) dX1_part_82 ?_
              refine W.eq (g2 := F0 m 83 ls [.ref (qa (4 * (32 + p3.toNatClampNeg))), .int p2, .ref (qa (4 * (32 + p1.toNatClampNeg)))]) rfl ?_
              have hj_37 : (32 + p3.toNatClampNeg) < 48 := by have := inb_lt h_36; omega
              obtain ⟨hn_40, hF⟩ := gd_some hF
              obtain ⟨r39, u38, hc_41, hF⟩ := bi_some hF
              refine kc_v (W1 := CW cI cR ca qa (u.1, u.2.1, u.2.2.1, u.2.2.2.1, u.2.2.2.2.1, u.2.2.2.2.2.1, u.2.2.2.2.2.2.1, u.2.2.2.2.2.2.2.1, u.2.2.2.2.2.2.2.2.1, u.2.2.2.2.2.2.2.2.2.1, u.2.2.2.2.2.2.2.2.2.2.1, u.2.2.2.2.2.2.2.2.2.2.2.1, u.2.2.2.2.2.2.2.2.2.2.2.2.1, u.2.2.2.2.2.2.2.2.2.2.2.2.2.1, (va_up (va_up u.2.2.2.2.2.2.2.2.2.2.2.2.2.2 (32 + p1.toNatClampNeg) u38.1) (32 + p3.toNatClampNeg) u38.2))) (va_runV (As := [.int p2, .ref (qa (4 * (32 + p3.toNatClampNeg)))]) (rest := []) ⟨hx, hb, hml, hown, hts⟩ (c_Row_moveAllBehind l D cI cR (qa (4 * (32 + p1.toNatClampNeg))) (qa (4 * (32 + p1.toNatClampNeg) + 1)) (qa (4 * (32 + p1.toNatClampNeg) + 2)) (qa (4 * (32 + p1.toNatClampNeg) + 3)) (qa (4 * (32 + p3.toNatClampNeg))) (qa (4 * (32 + p3.toNatClampNeg) + 1)) (qa (4 * (32 + p3.toNatClampNeg) + 2)) (qa (4 * (32 + p3.toNatClampNeg) + 3)) H.size p2 (u.2.2.2.2.2.2.2.2.2.2.2.2.2.2 (32 + p1.toNatClampNeg), u.2.2.2.2.2.2.2.2.2.2.2.2.2.2 (32 + p3.toNatClampNeg)) r39 u38 hc_41) (cwV 2 hts (gV cwc mw_313 mw_314 mw_315 mw_2 mw_316) rfl rfl rfl (by decide +kernel) ⟨(Nat.le_of_ble_eq_true rfl), (Nat.le_of_ble_eq_true rfl)⟩) (kp_V (ci := 0) (q := (RX0, TX0, 5)) hK hP hD (cw_sb2 hj_35 hj_37 (of_decide_eq_true hn_40)) rfl rfl) rfl rfl hl.1 rfl (lv_room (Nat.le_of_ble_eq_true rfl)) dX1_part_83 ⟨(Nat.le_of_ble_eq_true rfl), (Nat.le_of_ble_eq_true rfl)⟩) hP hD hS hA (cw_sb2 hj_35 hj_37 (of_decide_eq_true hn_40)) (cw_jn2 hj_35 hj_37 (of_decide_eq_true hn_40)) (fun H locs hP hD hS => ?_)
              cases hF
              refine vx_ret ?_
              refine W.widen (k := 5) (n := 30) (Nat.le_of_ble_eq_true rfl) (Nat.le_of_ble_eq_true rfl) ?_
              exact W.vret hx hb hr (fun t ht hW => ⟨⟨_, rfl, ⟨rfl, rfl⟩, by rw [ht]; exact hP, va_K.moved hW.alike hK, hD⟩, hS.F ht⟩) hS.2.2 dX1_part_86
            · replace hF := (if_neg c_33).symm.trans hF
              cases hF
              exact vx_throwS (own := RX1) (cls := "java/lang/IllegalArgumentException") (names := ["java/lang/RuntimeException", "java/lang/Exception"]) hx hb hl9 hown (by decide +kernel) (by decide +kernel) (hts _ (cwc _ mw_179)) (hts _ (cwc _ mw_8)) (XK_s120 hXK) (vx_hat (L := vx_atS RX1 86 "java/lang/IllegalArgumentException" ["java/lang/RuntimeException", "java/lang/Exception"]) (fun w hw => hts w (cwc w (hatA_2 w hw))) hatB_2 (vx_c (va_Nw.use rfl hXc2) (vx_c (va_Nw.use rfl hXd1) (vx_c (va_Nw.use rfl hXd2) (vx_c (va_Nw.use rfl hXd3) (vx_n)))))) hatC_2 hXU hXN hS (hl.1.trans hml.symm) dX1_part_60 dX1_part_63 dX1_part_64 dX1_part_66 dX1_part_69 (fun x hx9 => (hnx x hx9).elim) (Nat.le_of_ble_eq_true rfl) (Nat.le_of_ble_eq_true rfl) (Nat.le_of_ble_eq_true rfl) (Nat.le_of_ble_eq_true rfl) hlocks (fun t ha hsz hk => ⟨2, rfl, ⟨rfl, hP.kept (fun k q hq => hk q.1 (hP k q hq).lt), va_K.moved ha hK, hD⟩, Nat.le_trans hS.1 hsz, fun q h1 h2 => (hk q (Nat.lt_of_lt_of_le h1 hS.1)).trans (hS.2.1 q h1 h2)⟩) hS.2.2 (Nat.le_of_ble_eq_true rfl) (Nat.le_of_ble_eq_true rfl)
          · replace hF := (if_neg c_26).symm.trans hF
            cases hF
            exact vx_throwS (own := RX1) (cls := "java/lang/IllegalArgumentException") (names := ["java/lang/RuntimeException", "java/lang/Exception"]) hx hb hl9 hown (by decide +kernel) (by decide +kernel) (hts _ (cwc _ mw_179)) (hts _ (cwc _ mw_8)) (XK_s122 hXK) (vx_hat (L := vx_atS RX1 86 "java/lang/IllegalArgumentException" ["java/lang/RuntimeException", "java/lang/Exception"]) (fun w hw => hts w (cwc w (hatA_2 w hw))) hatB_2 (vx_c (va_Nw.use rfl hXc2) (vx_c (va_Nw.use rfl hXd1) (vx_c (va_Nw.use rfl hXd2) (vx_c (va_Nw.use rfl hXd3) (vx_n)))))) hatC_2 hXU hXN hS (hl.1.trans hml.symm) dX1_part_30 dX1_part_33 dX1_part_34 dX1_part_36 dX1_part_39 (fun x hx9 => (hnx x hx9).elim) (Nat.le_of_ble_eq_true rfl) (Nat.le_of_ble_eq_true rfl) (Nat.le_of_ble_eq_true rfl) (Nat.le_of_ble_eq_true rfl) hlocks (fun t ha hsz hk => ⟨2, rfl, ⟨rfl, hP.kept (fun k q hq => hk q.1 (hP k q hq).lt), va_K.moved ha hK, hD⟩, Nat.le_trans hS.1 hsz, fun q h1 h2 => (hk q (Nat.lt_of_lt_of_le h1 hS.1)).trans (hS.2.1 q h1 h2)⟩) hS.2.2 (Nat.le_of_ble_eq_true rfl) (Nat.le_of_ble_eq_true rfl)
