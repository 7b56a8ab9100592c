def F_P_earn (p1 : Int32) (u : CSt) : Option ((Unit) × CSt) := nm ((if ((2000000000 : Int32) - u.2.2.2.2.2.2.2.2.2.2.2.2.1) < ((2000000000 : Int32) - u.2.2.2.2.2.2.2.2.2.2.2.1) then ((2000000000 : Int32) - u.2.2.2.2.2.2.2.2.2.2.2.2.1) else ((2000000000 : Int32) - u.2.2.2.2.2.2.2.2.2.2.2.1))) (fun v1 => nm ((if v1 < p1 then v1 else p1)) (fun v2 => some ((), (u.1, u.2.1, u.2.2.1, u.2.2.2.1, u.2.2.2.2.1, u.2.2.2.2.2.1, u.2.2.2.2.2.2.1, u.2.2.2.2.2.2.2.1, u.2.2.2.2.2.2.2.2.1, u.2.2.2.2.2.2.2.2.2.1, u.2.2.2.2.2.2.2.2.2.2.1, (u.2.2.2.2.2.2.2.2.2.2.2.1 + v2), (u.2.2.2.2.2.2.2.2.2.2.2.2.1 + v2), u.2.2.2.2.2.2.2.2.2.2.2.2.2.1, u.2.2.2.2.2.2.2.2.2.2.2.2.2.2))))
set_option maxHeartbeats 4000000 in
set_option maxRecDepth 100000 in
theorem c_P_earn (l : Launch) (D : va_G) (cI cR : ClassId) (ca qa : Nat → Nat) (sz : Nat) (p1 : Int32) (u : CSt) (r : Unit) (u' : CSt) (hF : F_P_earn p1 u = some (r, u')) : Met l yX1_earn wsX1_earn ({ frames := 1, cells := 0, slots := 0, locals := 13 }) (va_Pc [.ref (ca 0), .int p1] (PRE D (TY cI cR) (CW cI cR ca qa u) sz)) (QV D (TY cI cR) (va_A (CW cI cR ca qa u) sz) (fun v => CW cI cR ca qa v) u') 0 0 (va_A (CW cI cR ca qa u) sz) := by
  refine Met.ofW (cc := cX1_earn) (maxL := 4) (ret := none) (by decide) rfl ?_
  intro p e s m args below meth c s₁ B hml hv
  obtain ⟨rfl, hsz, hP, hK, hD0⟩ := hv
  have hx := B.exec
  have hb := B.bytes
  have hr := B.returns
  have hts := atoms_spec (ws := wsX1_earn) B.pre
  have hown : s.vm.findClass RX1 = some m.cls := findClass_of_methodNamed B.named
  have hlocks := B.notSynchronized
  subst hsz
  have hD := hD0.self (sz := s.heap.size)
  generalize hAe : va_A (CW cI cR ca qa u) s.heap.size = A at hD ⊢
  have hA : ∀ q : Nat, s.heap.size ≤ q → A q := fun q h => by rw [← hAe]; exact Or.inr h
  have hS : va_S A s.heap s.heap [] := va_S.rf
  replace hP : va_P D vwCl (CW cI cR ca qa u) s.heap := hP
  have hl := lv_entry ([.ref (ca 0), .int p1]) (n := 4) (Nat.le_of_ble_eq_true rfl)
  rw [lg_entry_eq]
  generalize (lg_sl ([.ref (ca 0), .int p1]) ++ List.replicate (4 - (lg_sl ([.ref (ca 0), .int p1])).length) Slot.unset).toArray = ls at hl ⊢
  replace hl : lv_has ls 4 [(0, .ref (ca 0)), (1, .int p1)] := hl
  have hC_100 := (hts _ (cwc _ mw_72))
  have hk_53 := (hts _ (cwc _ mw_48))
  have hk_56 := (hts _ (cwc _ mw_49))
  have hmmin_l149 := (hts _ (cwc _ mw_240))
  have hmmin_s := (hts _ (cwc _ mw_241))
  have hm_i := (hts _ (cwc _ mw_9))
  have hmmin_c := (hts _ (cwc _ mw_242))
  unfold F_P_earn at hF
  refine (?_ : ∀ (H : Heap) (locs : List Loc), va_P D vwCl (CW cI cR ca qa u) H → va_S A s.heap H locs → W p l e _ s m _ below meth c H locs 0 0 _ (F0 m 0 ls [])) s.heap [] hP hS
  intro H locs hP hS
  refine lv_ldc (v := (2000000000 : Int32)) hx hb hown hC_100 dX1_earn_0 ?_
  refine lv_aload_n hx hb dX1_earn_2 rfl (lv_at hl 0 rfl) ?_
  refine va_get (D := D) (ci := 1) (v := .int u.2.2.2.2.2.2.2.2.2.2.2.1) (C := RX1) (T := TX1) (N := 16) hx hb hts (fun w h => cwc w (in_X1 w h)) hown hK hP 0 rfl rfl 13 (by decide) hk_53 (fun _ h9 => h9) rfl dX1_earn_3 ?_
  refine lv_isub hx hb dX1_earn_6 ?_
  refine lv_ldc (v := (2000000000 : Int32)) hx hb hown hC_100 dX1_earn_7 ?_
  refine lv_aload_n hx hb dX1_earn_9 rfl (lv_at hl 0 rfl) ?_
  refine va_get (D := D) (ci := 1) (v := .int u.2.2.2.2.2.2.2.2.2.2.2.2.1) (C := RX1) (T := TX1) (N := 16) hx hb hts (fun w h => cwc w (in_X1 w h)) hown hK hP 0 rfl rfl 14 (by decide) hk_56 (fun _ h9 => h9) rfl dX1_earn_10 ?_
  refine lv_isub hx hb dX1_earn_13 ?_
  refine va_mmin hx hb (hml.trans hl.1.symm) hown hmmin_l149 hmmin_s hm_i hmmin_c (Nat.le_of_ble_eq_true rfl) (Nat.le_of_ble_eq_true rfl) (Nat.zero_le _) (Nat.zero_le _) dX1_earn_14 ?_
  obtain ⟨v1, ev1, hF⟩ := nm_some hF
  refine W.eq (g2 := F0 m 17 ls (.int v1 :: [])) (congrArg (fun z => F0 m 17 ls (.int z :: [])) ev1.symm) ?_
  refine lv_istore_n (lv' := [(2, .int v1), (0, .ref (ca 0)), (1, .int p1)]) hx hb dX1_earn_17 rfl hl (by decide) rfl (fun ls hl => ?_)
  refine lv_iload_n hx hb dX1_earn_18 rfl (lv_at hl 2 rfl) ?_
  refine lv_iload_n hx hb dX1_earn_19 rfl (lv_at hl 0 rfl) ?_
  refine va_mmin hx hb (hml.trans hl.1.symm) hown hmmin_l149 hmmin_s hm_i hmmin_c (Nat.le_of_ble_eq_true rfl) (Nat.le_of_ble_eq_true rfl) (Nat.zero_le _) (Nat.zero_le _) dX1_earn_20 ?_
  obtain ⟨v2, ev2, hF⟩ := nm_some hF
  refine W.eq (g2 := F0 m 23 ls (.int v2 :: [])) (congrArg (fun z => F0 m 23 ls (.int z :: [])) ev2.symm) ?_
  refine lv_istore_n (lv' := [(3, .int v2), (2, .int v1), (0, .ref (ca 0)), (1, .int p1)]) hx hb dX1_earn_23 rfl hl (by decide) rfl (fun ls hl => ?_)
  refine lv_aload_n hx hb dX1_earn_24 rfl (lv_at hl 2 rfl) ?_
  refine lv_dup hx hb dX1_earn_25 rfl ?_
  refine va_get (D := D) (ci := 1) (v := .int u.2.2.2.2.2.2.2.2.2.2.2.1) (C := RX1) (T := TX1) (N := 16) hx hb hts (fun w h => cwc w (in_X1 w h)) hown hK hP 0 rfl rfl 13 (by decide) hk_53 (fun _ h9 => h9) rfl dX1_earn_26 ?_
  refine lv_iload_n hx hb dX1_earn_29 rfl (lv_at hl 0 rfl) ?_
  refine lv_iadd hx hb dX1_earn_30 ?_
  refine va_put (D := D) (ci := 1) (v := .int (u.2.2.2.2.2.2.2.2.2.2.2.1 + v2)) (ty := .int) (C := RX1) (T := TX1) (N := 16) hx hb hts (fun w h => cwc w (in_X1 w h)) tyX1 tyX1_ok nmX1 hown hK hP hD hS 0 rfl rfl 13 (by decide) hk_53 (fun _ h9 => h9) rfl (by decide +kernel) rfl rfl (Nat.le_of_ble_eq_true rfl) dX1_earn_31 (fun H locs hP hD hS => ?_)
  replace hP : va_P D vwCl (CW cI cR ca qa (u.1, u.2.1, u.2.2.1, u.2.2.2.1, u.2.2.2.2.1, u.2.2.2.2.2.1, u.2.2.2.2.2.2.1, u.2.2.2.2.2.2.2.1, u.2.2.2.2.2.2.2.2.1, u.2.2.2.2.2.2.2.2.2.1, u.2.2.2.2.2.2.2.2.2.2.1, (u.2.2.2.2.2.2.2.2.2.2.2.1 + v2), u.2.2.2.2.2.2.2.2.2.2.2.2.1, u.2.2.2.2.2.2.2.2.2.2.2.2.2.1, u.2.2.2.2.2.2.2.2.2.2.2.2.2.2)) H := hP
  replace hD : va_D A (CW cI cR ca qa (u.1, u.2.1, u.2.2.1, u.2.2.2.1, u.2.2.2.2.1, u.2.2.2.2.2.1, u.2.2.2.2.2.2.1, u.2.2.2.2.2.2.2.1, u.2.2.2.2.2.2.2.2.1, u.2.2.2.2.2.2.2.2.2.1, u.2.2.2.2.2.2.2.2.2.2.1, (u.2.2.2.2.2.2.2.2.2.2.2.1 + v2), u.2.2.2.2.2.2.2.2.2.2.2.2.1, u.2.2.2.2.2.2.2.2.2.2.2.2.2.1, u.2.2.2.2.2.2.2.2.2.2.2.2.2.2)) := hD
  refine lv_aload_n hx hb dX1_earn_34 rfl (lv_at hl 2 rfl) ?_
  refine lv_dup hx hb dX1_earn_35 rfl ?_
  refine va_get (D := D) (ci := 1) (v := .int u.2.2.2.2.2.2.2.2.2.2.2.2.1) (C := RX1) (T := TX1) (N := 16) hx hb hts (fun w h => cwc w (in_X1 w h)) hown hK hP 0 rfl rfl 14 (by decide) hk_56 (fun _ h9 => h9) rfl dX1_earn_36 ?_
  refine lv_iload_n hx hb dX1_earn_39 rfl (lv_at hl 0 rfl) ?_
  refine lv_iadd hx hb dX1_earn_40 ?_
  refine va_put (D := D) (ci := 1) (v := .int (u.2.2.2.2.2.2.2.2.2.2.2.2.1 + v2)) (ty := .int) (C := RX1) (T := TX1) (N := 16) hx hb hts (fun w h => cwc w (in_X1 w h)) tyX1 tyX1_ok nmX1 hown hK hP hD hS 0 rfl rfl 14 (by decide) hk_56 (fun _ h9 => h9) rfl (by decide +kernel) rfl rfl (Nat.le_of_ble_eq_true rfl) dX1_earn_41 (fun H locs hP hD hS => ?_)
  replace hP : va_P D vwCl (CW cI cR ca qa (u.1, u.2.1, u.2.2.1, u.2.2.2.1, u.2.2.2.2.1, u.2.2.2.2.2.1, u.2.2.2.2.2.2.1, u.2.2.2.2.2.2.2.1, u.2.2.2.2.2.2.2.2.1, u.2.2.2.2.2.2.2.2.2.1, u.2.2.2.2.2.2.2.2.2.2.1, (u.2.2.2.2.2.2.2.2.2.2.2.1 + v2), (u.2.2.2.2.2.2.2.2.2.2.2.2.1 + v2), u.2.2.2.2.2.2.2.2.2.2.2.2.2.1, u.2.2.2.2.2.2.2.2.2.2.2.2.2.2)) H := hP
  replace hD : va_D A (CW cI cR ca qa (u.1, u.2.1, u.2.2.1, u.2.2.2.1, u.2.2.2.2.1, u.2.2.2.2.2.1, u.2.2.2.2.2.2.1, u.2.2.2.2.2.2.2.1, u.2.2.2.2.2.2.2.2.1, u.2.2.2.2.2.2.2.2.2.1, u.2.2.2.2.2.2.2.2.2.2.1, (u.2.2.2.2.2.2.2.2.2.2.2.1 + v2), (u.2.2.2.2.2.2.2.2.2.2.2.2.1 + v2), u.2.2.2.2.2.2.2.2.2.2.2.2.2.1, u.2.2.2.2.2.2.2.2.2.2.2.2.2.2)) := hD
  cases hF
  refine W.widen (k := 0) (n := 0) (Nat.le_of_ble_eq_true rfl) (Nat.le_of_ble_eq_true rfl) ?_
  exact W.vret hx hb hr (fun t ht hW => ⟨⟨_, rfl, rfl, by rw [ht]; exact hP, va_K.moved hW.alike hK, hD⟩, hS.F ht⟩) hS.2.2 dX1_earn_44
def F_P_payOfOne (p1 : Int32) (p2 : Int32) (p3 : Int32) (u : CSt) : Option ((Int32) × Unit) := gd (inb p1 8) (gd (inb p3 8) (nm ((if 0 ≤ ((u.2.2.1 p1.toNatClampNeg) - (u.2.2.1 p3.toNatClampNeg)) then ((u.2.2.1 p1.toNatClampNeg) - (u.2.2.1 p3.toNatClampNeg)) else 0 - ((u.2.2.1 p1.toNatClampNeg) - (u.2.2.1 p3.toNatClampNeg)))) (fun v3 => gd (inb p1 8) (gd (inb p3 8) (nm ((if 0 ≤ ((u.2.2.2.1 p1.toNatClampNeg) - (u.2.2.2.1 p3.toNatClampNeg)) then ((u.2.2.2.1 p1.toNatClampNeg) - (u.2.2.2.1 p3.toNatClampNeg)) else 0 - ((u.2.2.2.1 p1.toNatClampNeg) - (u.2.2.2.1 p3.toNatClampNeg)))) (fun v6 => nm ((if (1 : Int32) < ((64 : Int32) - ((u.2.2.2.2.2.2.2.2.2.2.1 - p2) / (64 : Int32))) then ((64 : Int32) - ((u.2.2.2.2.2.2.2.2.2.2.1 - p2) / (64 : Int32))) else (1 : Int32))) (fun v7 => some (((v3 + v6) * v7), ()))))))))
set_option maxHeartbeats 4000000 in
set_option maxRecDepth 100000 in
theorem c_P_payOfOne (l : Launch) (D : va_G) (cI cR : ClassId) (ca qa : Nat → Nat) (sz : Nat) (p1 : Int32) (p2 : Int32) (p3 : Int32) (u : CSt) (r : Int32) (u' : Unit) (hF : F_P_payOfOne p1 p2 p3 u = some (r, u')) : Met l yX1_payOfOne wsX1_payOfOne ({ frames := 1, cells := 0, slots := 0, locals := 13 }) (va_Pc [.ref (ca 0), .int p1, .int p2, .int p3] (PRE D (TY cI cR) (CW cI cR ca qa u) sz)) (QI D (TY cI cR) (va_A (CW cI cR ca qa u) sz) (fun v => CW cI cR ca qa v) r u) 0 0 (va_A (CW cI cR ca qa u) sz) := by
  refine Met.ofW (cc := cX1_payOfOne) (maxL := 7) (ret := (some .int)) (by decide) rfl ?_
  intro p e s m args below meth c s₁ B hml hv
  obtain ⟨rfl, hsz, hP, hK, hD0⟩ := hv
  have hx := B.exec
  have hb := B.bytes
  have hr := B.returns
  have hts := atoms_spec (ws := wsX1_payOfOne) B.pre
  have hown : s.vm.findClass RX1 = some m.cls := findClass_of_methodNamed B.named
  have hlocks := B.notSynchronized
  subst hsz
  have hD := hD0.self (sz := s.heap.size)
  generalize hAe : va_A (CW cI cR ca qa u) s.heap.size = A at hD ⊢
  have hA : ∀ q : Nat, s.heap.size ≤ q → A q := fun q h => by rw [← hAe]; exact Or.inr h
  have hS : va_S A s.heap s.heap [] := va_S.rf
  replace hP : va_P D vwCl (CW cI cR ca qa u) s.heap := hP
  have hl := lv_entry ([.ref (ca 0), .int p1, .int p2, .int p3]) (n := 7) (Nat.le_of_ble_eq_true rfl)
  rw [lg_entry_eq]
  generalize (lg_sl ([.ref (ca 0), .int p1, .int p2, .int p3]) ++ List.replicate (7 - (lg_sl ([.ref (ca 0), .int p1, .int p2, .int p3])).length) Slot.unset).toArray = ls at hl ⊢
  replace hl : lv_has ls 7 [(0, .ref (ca 0)), (1, .int p1), (2, .int p2), (3, .int p3)] := hl
  have hk_22 := (hts _ (cwc _ mw_38))
  have hmabs_l167 := (hts _ (cwc _ mw_286))
  have hmabs_s := (hts _ (cwc _ mw_287))
  have hm_i := (hts _ (cwc _ mw_9))
  have hmabs_c := (hts _ (cwc _ mw_288))
  have hk_25 := (hts _ (cwc _ mw_39))
  have hk_49 := (hts _ (cwc _ mw_47))
  have hmmax_l170 := (hts _ (cwc _ mw_289))
  have hmmax_s := (hts _ (cwc _ mw_290))
  have hmmax_c := (hts _ (cwc _ mw_291))
  unfold F_P_payOfOne at hF
  refine (?_ : ∀ (H : Heap) (locs : List Loc), va_P D vwCl (CW cI cR ca qa u) H → va_S A s.heap H locs → W p l e _ s m _ below meth c H locs 0 0 _ (F0 m 0 ls [])) s.heap [] hP hS
  intro H locs hP hS
  refine lv_aload_n hx hb dX1_payOfOne_0 rfl (lv_at hl 0 rfl) ?_
  refine va_get (D := D) (ci := 1) (v := .ref (ca 4)) (C := RX1) (T := TX1) (N := 16) hx hb hts (fun w h => cwc w (in_X1 w h)) hown hK hP 0 rfl rfl 3 (by decide) hk_22 (fun _ h9 => h9) rfl dX1_payOfOne_1 ?_
  refine lv_iload_n hx hb dX1_payOfOne_4 rfl (lv_at hl 1 rfl) ?_
  obtain ⟨h_1, hF⟩ := gd_some hF
  refine va_iald (f := u.2.2.1) hx hb hK hP 4 0 rfl rfl (inb_in h_1) dX1_payOfOne_5 ?_
  refine lv_aload_n hx hb dX1_payOfOne_6 rfl (lv_at hl 0 rfl) ?_
  refine va_get (D := D) (ci := 1) (v := .ref (ca 4)) (C := RX1) (T := TX1) (N := 16) hx hb hts (fun w h => cwc w (in_X1 w h)) hown hK hP 0 rfl rfl 3 (by decide) hk_22 (fun _ h9 => h9) rfl dX1_payOfOne_7 ?_
  refine lv_iload_n hx hb dX1_payOfOne_10 rfl (lv_at hl 3 rfl) ?_
  obtain ⟨h_2, hF⟩ := gd_some hF
  refine va_iald (f := u.2.2.1) hx hb hK hP 4 0 rfl rfl (inb_in h_2) dX1_payOfOne_11 ?_
  refine lv_isub hx hb dX1_payOfOne_12 ?_
  refine va_mabs hx hb (hml.trans hl.1.symm) hown hmabs_l167 hmabs_s hm_i hmabs_c (Nat.le_of_ble_eq_true rfl) (Nat.le_of_ble_eq_true rfl) (Nat.zero_le _) (Nat.zero_le _) dX1_payOfOne_13 ?_
  obtain ⟨v3, ev3, hF⟩ := nm_some hF
  refine W.eq (g2 := F0 m 16 ls (.int v3 :: [])) (congrArg (fun z => F0 m 16 ls (.int z :: [])) ev3.symm) ?_
  refine lv_istore (lv' := [(4, .int v3), (0, .ref (ca 0)), (1, .int p1), (2, .int p2), (3, .int p3)]) hx hb dX1_payOfOne_16 hl (by decide) rfl (fun ls hl => ?_)
  refine lv_aload_n hx hb dX1_payOfOne_18 rfl (lv_at hl 1 rfl) ?_
  refine va_get (D := D) (ci := 1) (v := .ref (ca 5)) (C := RX1) (T := TX1) (N := 16) hx hb hts (fun w h => cwc w (in_X1 w h)) hown hK hP 0 rfl rfl 4 (by decide) hk_25 (fun _ h9 => h9) rfl dX1_payOfOne_19 ?_
  refine lv_iload_n hx hb dX1_payOfOne_22 rfl (lv_at hl 2 rfl) ?_
  obtain ⟨h_4, hF⟩ := gd_some hF
  refine va_iald (f := u.2.2.2.1) hx hb hK hP 5 0 rfl rfl (inb_in h_4) dX1_payOfOne_23 ?_
  refine lv_aload_n hx hb dX1_payOfOne_24 rfl (lv_at hl 1 rfl) ?_
  refine va_get (D := D) (ci := 1) (v := .ref (ca 5)) (C := RX1) (T := TX1) (N := 16) hx hb hts (fun w h => cwc w (in_X1 w h)) hown hK hP 0 rfl rfl 4 (by decide) hk_25 (fun _ h9 => h9) rfl dX1_payOfOne_25 ?_
  refine lv_iload_n hx hb dX1_payOfOne_28 rfl (lv_at hl 4 rfl) ?_
  obtain ⟨h_5, hF⟩ := gd_some hF
  refine va_iald (f := u.2.2.2.1) hx hb hK hP 5 0 rfl rfl (inb_in h_5) dX1_payOfOne_29 ?_
  refine lv_isub hx hb dX1_payOfOne_30 ?_
  refine va_mabs hx hb (hml.trans hl.1.symm) hown hmabs_l167 hmabs_s hm_i hmabs_c (Nat.le_of_ble_eq_true rfl) (Nat.le_of_ble_eq_true rfl) (Nat.zero_le _) (Nat.zero_le _) dX1_payOfOne_31 ?_
  obtain ⟨v6, ev6, hF⟩ := nm_some hF
  refine W.eq (g2 := F0 m 34 ls (.int v6 :: [])) (congrArg (fun z => F0 m 34 ls (.int z :: [])) ev6.symm) ?_
  refine lv_istore (lv' := [(5, .int v6), (4, .int v3), (0, .ref (ca 0)), (1, .int p1), (2, .int p2), (3, .int p3)]) hx hb dX1_payOfOne_34 hl (by decide) rfl (fun ls hl => ?_)
  refine lv_iconst (v := (1 : Int32)) hx hb dX1_payOfOne_36 (by decide +kernel) ?_
  refine lv_bipush (v := (64 : Int32)) hx hb dX1_payOfOne_37 (by decide +kernel) ?_
  refine lv_aload_n hx hb dX1_payOfOne_39 rfl (lv_at hl 2 rfl) ?_
  refine va_get (D := D) (ci := 1) (v := .int u.2.2.2.2.2.2.2.2.2.2.1) (C := RX1) (T := TX1) (N := 16) hx hb hts (fun w h => cwc w (in_X1 w h)) hown hK hP 0 rfl rfl 12 (by decide) hk_49 (fun _ h9 => h9) rfl dX1_payOfOne_40 ?_
  refine lv_iload_n hx hb dX1_payOfOne_43 rfl (lv_at hl 4 rfl) ?_
  refine lv_isub hx hb dX1_payOfOne_44 ?_
  refine lv_bipush (v := (64 : Int32)) hx hb dX1_payOfOne_45 (by decide +kernel) ?_
  refine lv_idiv hx hb dX1_payOfOne_47 (by decide +kernel) ?_
  refine lv_isub hx hb dX1_payOfOne_48 ?_
  refine va_mmax hx hb (hml.trans hl.1.symm) hown hmmax_l170 hmmax_s hm_i hmmax_c (Nat.le_of_ble_eq_true rfl) (Nat.le_of_ble_eq_true rfl) (Nat.zero_le _) (Nat.zero_le _) dX1_payOfOne_49 ?_
  obtain ⟨v7, ev7, hF⟩ := nm_some hF
  refine W.eq (g2 := F0 m 52 ls (.int v7 :: [])) (congrArg (fun z => F0 m 52 ls (.int z :: [])) ev7.symm) ?_
  refine lv_istore (lv' := [(6, .int v7), (5, .int v6), (4, .int v3), (0, .ref (ca 0)), (1, .int p1), (2, .int p2), (3, .int p3)]) hx hb dX1_payOfOne_52 hl (by decide) rfl (fun ls hl => ?_)
  refine lv_iload hx hb dX1_payOfOne_54 (lv_at hl 2 rfl) ?_
  refine lv_iload hx hb dX1_payOfOne_56 (lv_at hl 1 rfl) ?_
  refine lv_iadd hx hb dX1_payOfOne_58 ?_
  refine lv_iload hx hb dX1_payOfOne_59 (lv_at hl 0 rfl) ?_
  refine lv_imul hx hb dX1_payOfOne_61 ?_
  cases hF
  refine W.widen (k := 0) (n := 0) (Nat.le_of_ble_eq_true rfl) (Nat.le_of_ble_eq_true rfl) ?_
  exact W.iret hx hb hr (fun t ht hW => ⟨⟨_, _, rfl, ⟨rfl, rfl⟩, by rw [ht]; exact hP, va_K.moved hW.alike hK, hD⟩, hS.F ht⟩) hS.2.2 dX1_payOfOne_62
def F_P_produce (p1 : Int32) (p2 : Int32) (p3 : Int32) (u : CSt) : Option ((Unit) × CSt) := bi (F_P_stockIndex p1 p2 ()) (fun r2 u1 => gd (inb r2 32) (bi (F_Row_total (u.2.2.2.2.2.2.2.2.2.2.2.2.2.2 r2.toNatClampNeg)) (fun r7 u6 => gd (inb p2 4) (nm ((if ((2000000000 : Int32) - (u.2.2.2.2.2.2.2.1 p2.toNatClampNeg)) < ((999 : Int32) - r7) then ((2000000000 : Int32) - (u.2.2.2.2.2.2.2.1 p2.toNatClampNeg)) else ((999 : Int32) - r7))) (fun v10 => nm ((if v10 < p3 then v10 else p3)) (fun v11 => bi (F_Row_putBehind p1 u.2.2.2.2.2.2.2.2.2.2.1 v11 (u.2.2.2.2.2.2.2.2.2.2.2.2.2.2 r2.toNatClampNeg)) (fun r13 u12 => gd (inb p2 4) (gd (inb p2 4) (some ((), (u.1, u.2.1, u.2.2.1, u.2.2.2.1, u.2.2.2.2.1, u.2.2.2.2.2.1, u.2.2.2.2.2.2.1, (upd u.2.2.2.2.2.2.2.1 p2.toNatClampNeg ((u.2.2.2.2.2.2.2.1 p2.toNatClampNeg) + v11)), u.2.2.2.2.2.2.2.2.1, u.2.2.2.2.2.2.2.2.2.1, u.2.2.2.2.2.2.2.2.2.2.1, u.2.2.2.2.2.2.2.2.2.2.2.1, u.2.2.2.2.2.2.2.2.2.2.2.2.1, u.2.2.2.2.2.2.2.2.2.2.2.2.2.1, (va_up u.2.2.2.2.2.2.2.2.2.2.2.2.2.2 r2.toNatClampNeg u12))))))))))))
set_option maxHeartbeats 4000000 in
set_option maxRecDepth 100000 in
theorem c_P_produce (l : Launch) (D : va_G) (cI cR : ClassId) (ca qa : Nat → Nat) (sz : Nat) (p1 : Int32) (p2 : Int32) (p3 : Int32) (u : CSt) (r : Unit) (u' : CSt) (hF : F_P_produce p1 p2 p3 u = some (r, u')) : Met l yX1_produce wsX1_produce ({ frames := 2, cells := 0, slots := 0, locals := 46 }) (va_Pc [.ref (ca 0), .int p1, .int p2, .int p3] (PRE D (TY cI cR) (CW cI cR ca qa u) sz)) (QV D (TY cI cR) (va_A (CW cI cR ca qa u) sz) (fun v => CW cI cR ca qa v) u') 0 0 (va_A (CW cI cR ca qa u) sz) := by
  refine Met.ofW (cc := cX1_produce) (maxL := 7) (ret := none) (by decide) rfl ?_
  intro p e s m args below meth c s₁ B hml hv
  obtain ⟨rfl, hsz, hP, hK, hD0⟩ := hv
  have hx := B.exec
  have hb := B.bytes
  have hr := B.returns
  have hts := atoms_spec (ws := wsX1_produce) B.pre
  have hown : s.vm.findClass RX1 = some m.cls := findClass_of_methodNamed B.named
  have hlocks := B.notSynchronized
  subst hsz
  have hD := hD0.self (sz := s.heap.size)
  generalize hAe : va_A (CW cI cR ca qa u) s.heap.size = A at hD ⊢
  have hA : ∀ q : Nat, s.heap.size ≤ q → A q := fun q h => by rw [← hAe]; exact Or.inr h
  have hS : va_S A s.heap s.heap [] := va_S.rf
  replace hP : va_P D vwCl (CW cI cR ca qa u) s.heap := hP
  have hl := lv_entry ([.ref (ca 0), .int p1, .int p2, .int p3]) (n := 7) (Nat.le_of_ble_eq_true rfl)
  rw [lg_entry_eq]
  generalize (lg_sl ([.ref (ca 0), .int p1, .int p2, .int p3]) ++ List.replicate (7 - (lg_sl ([.ref (ca 0), .int p1, .int p2, .int p3])).length) Slot.unset).toArray = ls at hl ⊢
  replace hl : lv_has ls 7 [(0, .ref (ca 0)), (1, .int p1), (2, .int p2), (3, .int p3)] := hl
  have hk_11 := (hts _ (cwc _ mw_35))
  have hC_100 := (hts _ (cwc _ mw_72))
  have hk_40 := (hts _ (cwc _ mw_44))
  have hmmin_l149 := (hts _ (cwc _ mw_240))
  have hmmin_s := (hts _ (cwc _ mw_241))
  have hm_i := (hts _ (cwc _ mw_9))
  have hmmin_c := (hts _ (cwc _ mw_242))
  have hk_49 := (hts _ (cwc _ mw_47))
  unfold F_P_produce at hF
  refine (?_ : ∀ (H : Heap) (locs : List Loc), va_P D vwCl (CW cI cR ca qa u) H → va_S A s.heap H locs → W p l e _ s m _ below meth c H locs 0 0 _ (F0 m 0 ls [])) s.heap [] hP hS
  intro H locs hP hS
  refine lv_aload_n hx hb dX1_produce_0 rfl (lv_at hl 0 rfl) ?_
  refine va_get (D := D) (ci := 1) (v := .ref (ca 1)) (C := RX1) (T := TX1) (N := 16) hx hb hts (fun w h => cwc w (in_X1 w h)) hown hK hP 0 rfl rfl 0 (by decide) hk_11 (fun _ h9 => h9) rfl dX1_produce_1 ?_
  refine lv_iload_n hx hb dX1_produce_4 rfl (lv_at hl 1 rfl) ?_
  refine lv_iload_n hx hb dX1_produce_5 rfl (lv_at hl 2 rfl) ?_
  obtain ⟨r2, u1, hc_3, hF⟩ := bi_some hF
  refine kc_i (W1 := CW cI cR ca qa u) (va_runS (As := [.int p1, .int p2]) (rest := [.ref (ca 1)]) ⟨hx, hb, hml, hown, hts⟩ (c_P_stockIndex l D cI cR  H.size p1 p2 () r2 u1 hc_3) (va_cwS 2 hts (gS cwc mw_86 mw_87 mw_1 mw_88) rfl rfl rfl (by decide +kernel) ⟨(Nat.le_of_ble_eq_true rfl), (Nat.le_of_ble_eq_true rfl)⟩) (kp_S hK hP hD (sb_nil _)) rfl rfl hl.1 rfl (lv_room (Nat.le_of_ble_eq_true rfl)) dX1_produce_6 ⟨(Nat.le_of_ble_eq_true rfl), (Nat.le_of_ble_eq_true rfl)⟩) hP hD hS hA (sb_nil _) (jn_nil _) (fun H locs hP hD hS => ?_)
  obtain ⟨h_4, hF⟩ := gd_some hF
  refine va_aldq hx hb hK hP 1 1 rfl rfl (inb_in h_4) dX1_produce_9 ?_
  refine W.eq (g2 := F0 m 10 ls [.ref (qa (4 * r2.toNatClampNeg))]) rfl ?_
  have hj_5 : r2.toNatClampNeg < 48 := by have := inb_lt h_4; omega
  refine lv_astore (lv' := [(4, .ref (qa (4 * r2.toNatClampNeg))), (0, .ref (ca 0)), (1, .int p1), (2, .int p2), (3, .int p3)]) hx hb dX1_produce_10 hl (by decide) rfl (fun ls hl => ?_)
  refine lv_sipush (v := (999 : Int32)) hx hb dX1_produce_12 (by decide +kernel) ?_
  refine lv_aload hx hb dX1_produce_15 (lv_at hl 0 rfl) ?_
  obtain ⟨r7, u6, hc_8, hF⟩ := bi_some hF
  refine kc_i (W1 := CW cI cR ca qa u) (va_runV (As := []) (rest := [.int (999 : Int32)]) ⟨hx, hb, hml, hown, hts⟩ (c_Row_total l D cI cR (qa (4 * r2.toNatClampNeg)) (qa (4 * r2.toNatClampNeg + 1)) (qa (4 * r2.toNatClampNeg + 2)) (qa (4 * r2.toNatClampNeg + 3)) H.size  (u.2.2.2.2.2.2.2.2.2.2.2.2.2.2 r2.toNatClampNeg) r7 u6 hc_8) (cwV 0 hts (gV cwc mw_97 mw_98 mw_99 mw_2 mw_100) rfl rfl rfl (by decide +kernel) ⟨(Nat.le_of_ble_eq_true rfl), (Nat.le_of_ble_eq_true rfl)⟩) (kp_V (ci := 0) (q := (RX0, TX0, 5)) hK hP hD (cw_sb hj_5) rfl rfl) rfl rfl hl.1 rfl (lv_room (Nat.le_of_ble_eq_true rfl)) dX1_produce_17 ⟨(Nat.le_of_ble_eq_true rfl), (Nat.le_of_ble_eq_true rfl)⟩) hP hD hS hA (cw_sb hj_5) (jn_same (cw_sb hj_5)) (fun H locs hP hD hS => ?_)
  refine lv_isub hx hb dX1_produce_20 ?_
  refine lv_ldc (v := (2000000000 : Int32)) hx hb hown hC_100 dX1_produce_21 ?_
  refine lv_aload_n hx hb dX1_produce_23 rfl (lv_at hl 1 rfl) ?_
  refine va_get (D := D) (ci := 1) (v := .ref (ca 10)) (C := RX1) (T := TX1) (N := 16) hx hb hts (fun w h => cwc w (in_X1 w h)) hown hK hP 0 rfl rfl 9 (by decide) hk_40 (fun _ h9 => h9) rfl dX1_produce_24 ?_
  refine lv_iload_n hx hb dX1_produce_27 rfl (lv_at hl 3 rfl) ?_
  obtain ⟨h_9, hF⟩ := gd_some hF
  refine va_iald (f := u.2.2.2.2.2.2.2.1) hx hb hK hP 10 0 rfl rfl (inb_in h_9) dX1_produce_28 ?_
  refine lv_isub hx hb dX1_produce_29 ?_
  refine va_mmin hx hb (hml.trans hl.1.symm) hown hmmin_l149 hmmin_s hm_i hmmin_c (Nat.le_of_ble_eq_true rfl) (Nat.le_of_ble_eq_true rfl) (Nat.zero_le _) (Nat.zero_le _) dX1_produce_30 ?_
  obtain ⟨v10, ev10, hF⟩ := nm_some hF
  refine W.eq (g2 := F0 m 33 ls (.int v10 :: [])) (congrArg (fun z => F0 m 33 ls (.int z :: [])) ev10.symm) ?_
  refine lv_istore (lv' := [(5, .int v10), (4, .ref (qa (4 * r2.toNatClampNeg))), (0, .ref (ca 0)), (1, .int p1), (2, .int p2), (3, .int p3)]) hx hb dX1_produce_33 hl (by decide) rfl (fun ls hl => ?_)
  refine lv_iload_n hx hb dX1_produce_35 rfl (lv_at hl 5 rfl) ?_
  refine lv_iload hx hb dX1_produce_36 (lv_at hl 0 rfl) ?_
  refine va_mmin hx hb (hml.trans hl.1.symm) hown hmmin_l149 hmmin_s hm_i hmmin_c (Nat.le_of_ble_eq_true rfl) (Nat.le_of_ble_eq_true rfl) (Nat.zero_le _) (Nat.zero_le _) dX1_produce_38 ?_
  obtain ⟨v11, ev11, hF⟩ := nm_some hF
  refine W.eq (g2 := F0 m 41 ls (.int v11 :: [])) (congrArg (fun z => F0 m 41 ls (.int z :: [])) ev11.symm) ?_
  refine lv_istore (lv' := [(6, .int v11), (5, .int v10), (4, .ref (qa (4 * r2.toNatClampNeg))), (0, .ref (ca 0)), (1, .int p1), (2, .int p2), (3, .int p3)]) hx hb dX1_produce_41 hl (by decide) rfl (fun ls hl => ?_)
  refine lv_aload hx hb dX1_produce_43 (lv_at hl 2 rfl) ?_
  refine lv_iload_n hx hb dX1_produce_45 rfl (lv_at hl 4 rfl) ?_
  refine lv_aload_n hx hb dX1_produce_46 rfl (lv_at hl 3 rfl) ?_
  refine va_get (D := D) (ci := 1) (v := .int u.2.2.2.2.2.2.2.2.2.2.1) (C := RX1) (T := TX1) (N := 16) hx hb hts (fun w h => cwc w (in_X1 w h)) hown hK hP 0 rfl rfl 12 (by decide) hk_49 (fun _ h9 => h9) rfl dX1_produce_47 ?_
  refine lv_iload hx hb dX1_produce_50 (lv_at hl 0 rfl) ?_
  obtain ⟨r13, u12, hc_14, hF⟩ := bi_some hF
  refine kc_v (W1 := CW cI cR ca qa (u.1, u.2.1, u.2.2.1, u.2.2.2.1, u.2.2.2.2.1, u.2.2.2.2.2.1, u.2.2.2.2.2.2.1, u.2.2.2.2.2.2.2.1, u.2.2.2.2.2.2.2.2.1, u.2.2.2.2.2.2.2.2.2.1, u.2.2.2.2.2.2.2.2.2.2.1, u.2.2.2.2.2.2.2.2.2.2.2.1, u.2.2.2.2.2.2.2.2.2.2.2.2.1, u.2.2.2.2.2.2.2.2.2.2.2.2.2.1, (va_up u.2.2.2.2.2.2.2.2.2.2.2.2.2.2 r2.toNatClampNeg u12))) (va_runV (As := [.int p1, .int u.2.2.2.2.2.2.2.2.2.2.1, .int v11]) (rest := []) ⟨hx, hb, hml, hown, hts⟩ (c_Row_putBehind l D cI cR (qa (4 * r2.toNatClampNeg)) (qa (4 * r2.toNatClampNeg + 1)) (qa (4 * r2.toNatClampNeg + 2)) (qa (4 * r2.toNatClampNeg + 3)) H.size p1 u.2.2.2.2.2.2.2.2.2.2.1 v11 (u.2.2.2.2.2.2.2.2.2.2.2.2.2.2 r2.toNatClampNeg) r13 u12 hc_14) (cwV 3 hts (gV cwc mw_243 mw_244 mw_245 mw_2 mw_246) rfl rfl rfl (by decide +kernel) ⟨(Nat.le_of_ble_eq_true rfl), (Nat.le_of_ble_eq_true rfl)⟩) (kp_V (ci := 0) (q := (RX0, TX0, 5)) hK hP hD (cw_sb hj_5) rfl rfl) rfl rfl hl.1 rfl (lv_room (Nat.le_of_ble_eq_true rfl)) dX1_produce_52 ⟨(Nat.le_of_ble_eq_true rfl), (Nat.le_of_ble_eq_true rfl)⟩) hP hD hS hA (cw_sb hj_5) (cw_jn hj_5) (fun H locs hP hD hS => ?_)
  refine lv_aload_n hx hb dX1_produce_55 rfl (lv_at hl 3 rfl) ?_
  refine va_get (D := D) (ci := 1) (v := .ref (ca 10)) (C := RX1) (T := TX1) (N := 16) hx hb hts (fun w h => cwc w (in_X1 w h)) hown hK hP 0 rfl rfl 9 (by decide) hk_40 (fun _ h9 => h9) rfl dX1_produce_56 ?_
  refine lv_iload_n hx hb dX1_produce_59 rfl (lv_at hl 5 rfl) ?_
  refine lv_dup2_11 hx hb dX1_produce_60 rfl rfl ?_
  obtain ⟨h_15, hF⟩ := gd_some hF
  refine va_iald (f := u.2.2.2.2.2.2.2.1) hx hb hK hP 10 0 rfl rfl (inb_in h_15) dX1_produce_61 ?_
  refine lv_iload hx hb dX1_produce_62 (lv_at hl 0 rfl) ?_
  refine lv_iadd hx hb dX1_produce_64 ?_
  obtain ⟨h_16, hF⟩ := gd_some hF
  refine va_iast (f := u.2.2.2.2.2.2.2.1) hx hb hK hP hD hS 10 0 rfl rfl (inb_in h_16) dX1_produce_65 (fun H locs hP hD hS => ?_)
  replace hP : va_P D vwCl (CW cI cR ca qa (u.1, u.2.1, u.2.2.1, u.2.2.2.1, u.2.2.2.2.1, u.2.2.2.2.2.1, u.2.2.2.2.2.2.1, (upd u.2.2.2.2.2.2.2.1 p2.toNatClampNeg ((u.2.2.2.2.2.2.2.1 p2.toNatClampNeg) + v11)), u.2.2.2.2.2.2.2.2.1, u.2.2.2.2.2.2.2.2.2.1, u.2.2.2.2.2.2.2.2.2.2.1, u.2.2.2.2.2.2.2.2.2.2.2.1, u.2.2.2.2.2.2.2.2.2.2.2.2.1, u.2.2.2.2.2.2.2.2.2.2.2.2.2.1, (va_up u.2.2.2.2.2.2.2.2.2.2.2.2.2.2 r2.toNatClampNeg u12))) H := hP
  replace hD : va_D A (CW cI cR ca qa (u.1, u.2.1, u.2.2.1, u.2.2.2.1, u.2.2.2.2.1, u.2.2.2.2.2.1, u.2.2.2.2.2.2.1, (upd u.2.2.2.2.2.2.2.1 p2.toNatClampNeg ((u.2.2.2.2.2.2.2.1 p2.toNatClampNeg) + v11)), u.2.2.2.2.2.2.2.2.1, u.2.2.2.2.2.2.2.2.2.1, u.2.2.2.2.2.2.2.2.2.2.1, u.2.2.2.2.2.2.2.2.2.2.2.1, u.2.2.2.2.2.2.2.2.2.2.2.2.1, u.2.2.2.2.2.2.2.2.2.2.2.2.2.1, (va_up u.2.2.2.2.2.2.2.2.2.2.2.2.2.2 r2.toNatClampNeg u12))) := hD
  cases hF
  refine W.widen (k := 0) (n := 0) (Nat.le_of_ble_eq_true rfl) (Nat.le_of_ble_eq_true rfl) ?_
  exact W.vret hx hb hr (fun t ht hW => ⟨⟨_, rfl, rfl, by rw [ht]; exact hP, va_K.moved hW.alike hK, hD⟩, hS.F ht⟩) hS.2.2 dX1_produce_66
def F_P_deliverFrom_L18 (j : Nat) : Nat → Int32 → Int32 → Int32 → Int32 → Int32 → CSt → Option ((Int32) × CSt)
  | 0, _, _, _, _, _, _ => none
  | n + 1, x2, x3, x5, x6, x7, u => (if (8 : Int32) ≤ x7 then gd (inb x3 4) (gd (inb x3 4) (bi (F_P_stockIndex x2 x3 ()) (fun r9 u8 => gd (inb r9 32) (nm ((u.2.1 r9.toNatClampNeg)) (fun v12 => (if v12 = (-1 : Int32) then some (x5, (u.1, u.2.1, u.2.2.1, u.2.2.2.1, u.2.2.2.2.1, u.2.2.2.2.2.1, u.2.2.2.2.2.2.1, u.2.2.2.2.2.2.2.1, (upd u.2.2.2.2.2.2.2.2.1 x3.toNatClampNeg ((u.2.2.2.2.2.2.2.2.1 x3.toNatClampNeg) + x5)), u.2.2.2.2.2.2.2.2.2.1, u.2.2.2.2.2.2.2.2.2.2.1, u.2.2.2.2.2.2.2.2.2.2.2.1, u.2.2.2.2.2.2.2.2.2.2.2.2.1, u.2.2.2.2.2.2.2.2.2.2.2.2.2.1, u.2.2.2.2.2.2.2.2.2.2.2.2.2.2)) else bi (F_P_produce x2 v12 x5 (u.1, u.2.1, u.2.2.1, u.2.2.2.1, u.2.2.2.2.1, u.2.2.2.2.2.1, u.2.2.2.2.2.2.1, u.2.2.2.2.2.2.2.1, (upd u.2.2.2.2.2.2.2.2.1 x3.toNatClampNeg ((u.2.2.2.2.2.2.2.2.1 x3.toNatClampNeg) + x5)), u.2.2.2.2.2.2.2.2.2.1, u.2.2.2.2.2.2.2.2.2.2.1, u.2.2.2.2.2.2.2.2.2.2.2.1, u.2.2.2.2.2.2.2.2.2.2.2.2.1, u.2.2.2.2.2.2.2.2.2.2.2.2.2.1, u.2.2.2.2.2.2.2.2.2.2.2.2.2.2)) (fun r15 u14 => some (x5, u14)))))))) else (if x6 ≤ (0 : Int32) then gd (inb x3 4) (gd (inb x3 4) (bi (F_P_stockIndex x2 x3 ()) (fun r21 u20 => gd (inb r21 32) (nm ((u.2.1 r21.toNatClampNeg)) (fun v24 => (if v24 = (-1 : Int32) then some (x5, (u.1, u.2.1, u.2.2.1, u.2.2.2.1, u.2.2.2.2.1, u.2.2.2.2.2.1, u.2.2.2.2.2.2.1, u.2.2.2.2.2.2.2.1, (upd u.2.2.2.2.2.2.2.2.1 x3.toNatClampNeg ((u.2.2.2.2.2.2.2.2.1 x3.toNatClampNeg) + x5)), u.2.2.2.2.2.2.2.2.2.1, u.2.2.2.2.2.2.2.2.2.2.1, u.2.2.2.2.2.2.2.2.2.2.2.1, u.2.2.2.2.2.2.2.2.2.2.2.2.1, u.2.2.2.2.2.2.2.2.2.2.2.2.2.1, u.2.2.2.2.2.2.2.2.2.2.2.2.2.2)) else bi (F_P_produce x2 v24 x5 (u.1, u.2.1, u.2.2.1, u.2.2.2.1, u.2.2.2.2.1, u.2.2.2.2.2.1, u.2.2.2.2.2.2.1, u.2.2.2.2.2.2.2.1, (upd u.2.2.2.2.2.2.2.2.1 x3.toNatClampNeg ((u.2.2.2.2.2.2.2.2.1 x3.toNatClampNeg) + x5)), u.2.2.2.2.2.2.2.2.2.1, u.2.2.2.2.2.2.2.2.2.2.1, u.2.2.2.2.2.2.2.2.2.2.2.1, u.2.2.2.2.2.2.2.2.2.2.2.2.1, u.2.2.2.2.2.2.2.2.2.2.2.2.2.1, u.2.2.2.2.2.2.2.2.2.2.2.2.2.2)) (fun r27 u26 => some (x5, u26)))))))) else bi (F_Row_look (0 : Int32) (1 : Int32) (u.2.2.2.2.2.2.2.2.2.2.2.2.2.2 j)) (fun r30 u29 => nm ((if r30 < x6 then r30 else x6)) (fun v32 => bi (F_Row_look (0 : Int32) (0 : Int32) (u.2.2.2.2.2.2.2.2.2.2.2.2.2.2 j)) (fun r34 u33 => bi (F_Row_look (0 : Int32) (2 : Int32) (u.2.2.2.2.2.2.2.2.2.2.2.2.2.2 j)) (fun r37 u36 => bi (F_P_payOfOne r34 r37 x2 u) (fun r40 u39 => bi (F_P_earn (v32 * r40) u) (fun r43 u42 => bi (F_Row_takeFromFirst v32 (u42.2.2.2.2.2.2.2.2.2.2.2.2.2.2 j)) (fun r46 u45 => nm ((x6 - v32)) (fun v48 => F_P_deliverFrom_L18 j n x2 x3 x5 v48 (x7 + (1 : Int32)) (u42.1, u42.2.1, u42.2.2.1, u42.2.2.2.1, u42.2.2.2.2.1, u42.2.2.2.2.2.1, u42.2.2.2.2.2.2.1, u42.2.2.2.2.2.2.2.1, u42.2.2.2.2.2.2.2.2.1, u42.2.2.2.2.2.2.2.2.2.1, u42.2.2.2.2.2.2.2.2.2.2.1, u42.2.2.2.2.2.2.2.2.2.2.2.1, u42.2.2.2.2.2.2.2.2.2.2.2.2.1, u42.2.2.2.2.2.2.2.2.2.2.2.2.2.1, (va_up u42.2.2.2.2.2.2.2.2.2.2.2.2.2.2 j u45))))))))))))
def F_P_deliverFrom (j : Nat) (p2 : Int32) (p3 : Int32) (p4 : Int32) (u : CSt) : Option ((Int32) × CSt) := bi (F_Row_total (u.2.2.2.2.2.2.2.2.2.2.2.2.2.2 j)) (fun r2 u1 => nm ((if r2 < p4 then r2 else p4)) (fun v4 => F_P_deliverFrom_L18 j 9 p2 p3 v4 v4 (0 : Int32) u))
set_option maxHeartbeats 4000000 in
set_option maxRecDepth 100000 in
theorem w_P_deliverFrom_L18 {p : Program} {l : Launch} {e : Env} {s : State} {m : MethodId} {args : Array Value} {below : List Frame} {meth : Method} {c : Code} {A : Nat → Prop} {D : va_G} {cI cR : ClassId} {ca qa : Nat → Nat} (hx : p.tables.exec = Jvm.exec) (hb : c.code = cX1_deliverFrom) (hr : meth.sig.returnType = (some .int)) (hml : c.maxLocals = 9) (hown : s.vm.findClass RX1 = some m.cls) (hts : ∀ w ∈ wsX1_deliverFrom, w.before args s = true) (hlocks : meth.locks = false) (hA : ∀ q : Nat, s.heap.size ≤ q → A q) (hK : va_K D vwCl (TY cI cR) s) (j : Nat) (hj : j < 48) : ∀ (n : Nat) (x2 x3 x5 x6 x7 : Int32) (u : CSt) (r : Int32) (u' : CSt), F_P_deliverFrom_L18 j n x2 x3 x5 x6 x7 u = some (r, u') → ∀ (H : Heap) (locs : List Loc) (ls : Array Slot), va_P D vwCl (CW cI cR ca qa u) H → va_D A (CW cI cR ca qa u) → va_S A s.heap H locs → lv_has ls 9 [(0, .ref (ca 0)), (1, .ref (qa (4 * j))), (2, .int x2), (3, .int x3), (5, .int x5), (6, .int x6), (7, .int x7)] → W p l e (headSpec wsX1_deliverFrom ({ frames := 3, cells := 0, slots := 0, locals := 72 })).room s m args below meth c H locs 0 0 (MQ below (QI D (TY cI cR) A (fun v => CW cI cR ca qa v) r u') args s 0 0 A) (F0 m 18 ls []) := by
  have hmmin_l149 := (hts _ (cwc _ mw_240))
  have hmmin_s := (hts _ (cwc _ mw_241))
  have hm_i := (hts _ (cwc _ mw_9))
  have hmmin_c := (hts _ (cwc _ mw_242))
  have hk_43 := (hts _ (cwc _ mw_45))
  have hk_19 := (hts _ (cwc _ mw_37))
  intro n
  induction n with
  | zero =>
    intro x2 x3 x5 x6 x7 u r u' hF
    rw [F_P_deliverFrom_L18] at hF
    exact absurd hF (by simp)
  | succ n ih =>
    intro x2 x3 x5 x6 x7 u r u' hF H locs ls hP hD hS hl
    rw [F_P_deliverFrom_L18] at hF
    refine lv_iload hx hb dX1_deliverFrom_18 (lv_at hl 6 rfl) ?_
    refine lv_bipush (v := (8 : Int32)) hx hb dX1_deliverFrom_20 (by decide +kernel) ?_
    refine lv_icmp_ge (tgt := 86) hx hb dX1_deliverFrom_22 (by decide) (fun c_5 => ?_) (fun c_5 => ?_)
    · replace hF := (if_pos c_5).symm.trans hF
      refine lv_aload_n hx hb dX1_deliverFrom_86 rfl (lv_at hl 0 rfl) ?_
      refine va_get (D := D) (ci := 1) (v := .ref (ca 11)) (C := RX1) (T := TX1) (N := 16) hx hb hts (fun w h => cwc w (in_X1 w h)) hown hK hP 0 rfl rfl 10 (by decide) hk_43 (fun _ h9 => h9) rfl dX1_deliverFrom_87 ?_
      refine lv_iload_n hx hb dX1_deliverFrom_90 rfl (lv_at hl 3 rfl) ?_
      refine lv_dup2_11 hx hb dX1_deliverFrom_91 rfl rfl ?_
      obtain ⟨h_6, hF⟩ := gd_some hF
      refine va_iald (f := u.2.2.2.2.2.2.2.2.1) hx hb hK hP 11 0 rfl rfl (inb_in h_6) dX1_deliverFrom_92 ?_
      refine lv_iload hx hb dX1_deliverFrom_93 (lv_at hl 4 rfl) ?_
      refine lv_iadd hx hb dX1_deliverFrom_95 ?_
      obtain ⟨h_7, hF⟩ := gd_some hF
      refine va_iast (f := u.2.2.2.2.2.2.2.2.1) hx hb hK hP hD hS 11 0 rfl rfl (inb_in h_7) dX1_deliverFrom_96 (fun H locs hP hD hS => ?_)
      replace hP : va_P D vwCl (CW cI cR ca qa (u.1, u.2.1, u.2.2.1, u.2.2.2.1, u.2.2.2.2.1, u.2.2.2.2.2.1, u.2.2.2.2.2.2.1, u.2.2.2.2.2.2.2.1, (upd u.2.2.2.2.2.2.2.2.1 x3.toNatClampNeg ((u.2.2.2.2.2.2.2.2.1 x3.toNatClampNeg) + x5)), u.2.2.2.2.2.2.2.2.2.1, u.2.2.2.2.2.2.2.2.2.2.1, u.2.2.2.2.2.2.2.2.2.2.2.1, u.2.2.2.2.2.2.2.2.2.2.2.2.1, u.2.2.2.2.2.2.2.2.2.2.2.2.2.1, u.2.2.2.2.2.2.2.2.2.2.2.2.2.2)) H := hP
      replace hD : va_D A (CW cI cR ca qa (u.1, u.2.1, u.2.2.1, u.2.2.2.1, u.2.2.2.2.1, u.2.2.2.2.2.1, u.2.2.2.2.2.2.1, u.2.2.2.2.2.2.2.1, (upd u.2.2.2.2.2.2.2.2.1 x3.toNatClampNeg ((u.2.2.2.2.2.2.2.2.1 x3.toNatClampNeg) + x5)), u.2.2.2.2.2.2.2.2.2.1, u.2.2.2.2.2.2.2.2.2.2.1, u.2.2.2.2.2.2.2.2.2.2.2.1, u.2.2.2.2.2.2.2.2.2.2.2.2.1, u.2.2.2.2.2.2.2.2.2.2.2.2.2.1, u.2.2.2.2.2.2.2.2.2.2.2.2.2.2)) := hD
      refine lv_aload_n hx hb dX1_deliverFrom_97 rfl (lv_at hl 0 rfl) ?_
      refine va_get (D := D) (ci := 1) (v := .ref (ca 3)) (C := RX1) (T := TX1) (N := 16) hx hb hts (fun w h => cwc w (in_X1 w h)) hown hK hP 0 rfl rfl 2 (by decide) hk_19 (fun _ h9 => h9) rfl dX1_deliverFrom_98 ?_
      refine lv_iload_n hx hb dX1_deliverFrom_101 rfl (lv_at hl 2 rfl) ?_
      refine lv_iload_n hx hb dX1_deliverFrom_102 rfl (lv_at hl 3 rfl) ?_
      obtain ⟨r9, u8, hc_10, hF⟩ := bi_some hF
      refine kc_i (W1 := CW cI cR ca qa (u.1, u.2.1, u.2.2.1, u.2.2.2.1, u.2.2.2.2.1, u.2.2.2.2.2.1, u.2.2.2.2.2.2.1, u.2.2.2.2.2.2.2.1, (upd u.2.2.2.2.2.2.2.2.1 x3.toNatClampNeg ((u.2.2.2.2.2.2.2.2.1 x3.toNatClampNeg) + x5)), u.2.2.2.2.2.2.2.2.2.1, u.2.2.2.2.2.2.2.2.2.2.1, u.2.2.2.2.2.2.2.2.2.2.2.1, u.2.2.2.2.2.2.2.2.2.2.2.2.1, u.2.2.2.2.2.2.2.2.2.2.2.2.2.1, u.2.2.2.2.2.2.2.2.2.2.2.2.2.2)) (va_runS (As := [.int x2, .int x3]) (rest := [.ref (ca 3)]) ⟨hx, hb, hml, hown, hts⟩ (c_P_stockIndex l D cI cR  H.size x2 x3 () r9 u8 hc_10) (va_cwS 2 hts (gS cwc mw_86 mw_87 mw_1 mw_88) rfl rfl rfl (by decide +kernel) ⟨(Nat.le_of_ble_eq_true rfl), (Nat.le_of_ble_eq_true rfl)⟩) (kp_S hK hP hD (sb_nil _)) rfl rfl hl.1 rfl (lv_room (Nat.le_of_ble_eq_true rfl)) dX1_deliverFrom_103 ⟨(Nat.le_of_ble_eq_true rfl), (Nat.le_of_ble_eq_true rfl)⟩) hP hD hS hA (sb_nil _) (jn_nil _) (fun H locs hP hD hS => ?_)
      obtain ⟨h_11, hF⟩ := gd_some hF
      refine va_iald (f := u.2.1) hx hb hK hP 3 0 rfl rfl (inb_in h_11) dX1_deliverFrom_106 ?_
      obtain ⟨v12, ev12, hF⟩ := nm_some hF
      refine W.eq (g2 := F0 m 107 ls (.int v12 :: [])) (congrArg (fun z => F0 m 107 ls (.int z :: [])) ev12.symm) ?_
      refine lv_istore (lv' := [(7, .int v12), (0, .ref (ca 0)), (1, .ref (qa (4 * j))), (2, .int x2), (3, .int x3), (5, .int x5), (6, .int x6)]) hx hb dX1_deliverFrom_107 hl (by decide) rfl (fun ls hl => ?_)
      refine lv_iload hx hb dX1_deliverFrom_109 (lv_at hl 0 rfl) ?_
      refine lv_iconst (v := (-1 : Int32)) hx hb dX1_deliverFrom_111 (by decide +kernel) ?_
      refine lv_icmp_eq (tgt := 124) hx hb dX1_deliverFrom_112 (by decide) (fun c_13 => ?_) (fun c_13 => ?_)
      · replace hF := (if_pos c_13).symm.trans hF
        refine lv_iload hx hb dX1_deliverFrom_124 (lv_at hl 5 rfl) ?_
        cases hF
        refine W.widen (k := 0) (n := 0) (Nat.le_of_ble_eq_true rfl) (Nat.le_of_ble_eq_true rfl) ?_
        exact W.iret hx hb hr (fun t ht hW => ⟨⟨_, _, rfl, ⟨rfl, rfl⟩, by rw [ht]; exact hP, va_K.moved hW.alike hK, hD⟩, hS.F ht⟩) hS.2.2 dX1_deliverFrom_126
      · replace hF := (if_neg c_13).symm.trans hF
        refine lv_aload_n hx hb dX1_deliverFrom_115 rfl (lv_at hl 1 rfl) ?_
        refine lv_iload_n hx hb dX1_deliverFrom_116 rfl (lv_at hl 3 rfl) ?_
        refine lv_iload hx hb dX1_deliverFrom_117 (lv_at hl 0 rfl) ?_
        refine lv_iload hx hb dX1_deliverFrom_119 (lv_at hl 5 rfl) ?_
        obtain ⟨r15, u14, hc_16, hF⟩ := bi_some hF
        refine kc_v (W1 := CW cI cR ca qa u14) (va_runV (As := [.int x2, .int v12, .int x5]) (rest := []) ⟨hx, hb, hml, hown, hts⟩ (c_P_produce l D cI cR ca qa H.size x2 v12 x5 (u.1, u.2.1, u.2.2.1, u.2.2.2.1, u.2.2.2.2.1, u.2.2.2.2.2.1, u.2.2.2.2.2.2.1, u.2.2.2.2.2.2.2.1, (upd u.2.2.2.2.2.2.2.2.1 x3.toNatClampNeg ((u.2.2.2.2.2.2.2.2.1 x3.toNatClampNeg) + x5)), u.2.2.2.2.2.2.2.2.2.1, u.2.2.2.2.2.2.2.2.2.2.1, u.2.2.2.2.2.2.2.2.2.2.2.1, u.2.2.2.2.2.2.2.2.2.2.2.2.1, u.2.2.2.2.2.2.2.2.2.2.2.2.2.1, u.2.2.2.2.2.2.2.2.2.2.2.2.2.2) r15 u14 hc_16) (cwV 3 hts (gV cwc mw_237 mw_238 mw_478 mw_1 mw_239) rfl rfl rfl (by decide +kernel) ⟨(Nat.le_of_ble_eq_true rfl), (Nat.le_of_ble_eq_true rfl)⟩) (kp_V (ci := 1) (q := (RX1, TX1, 16)) hK hP hD (sb_id _) rfl rfl) rfl rfl hl.1 rfl (lv_room (Nat.le_of_ble_eq_true rfl)) dX1_deliverFrom_121 ⟨(Nat.le_of_ble_eq_true rfl), (Nat.le_of_ble_eq_true rfl)⟩) hP hD hS hA (sb_id _) (jn_id (cw_ad _ _)) (fun H locs hP hD hS => ?_)
        refine lv_iload hx hb dX1_deliverFrom_124 (lv_at hl 5 rfl) ?_
        cases hF
        refine W.widen (k := 0) (n := 0) (Nat.le_of_ble_eq_true rfl) (Nat.le_of_ble_eq_true rfl) ?_
        exact W.iret hx hb hr (fun t ht hW => ⟨⟨_, _, rfl, ⟨rfl, rfl⟩, by rw [ht]; exact hP, va_K.moved hW.alike hK, hD⟩, hS.F ht⟩) hS.2.2 dX1_deliverFrom_126
    · replace hF := (if_neg c_5).symm.trans hF
      refine lv_iload hx hb dX1_deliverFrom_25 (lv_at hl 5 rfl) ?_
      refine lv_if_le (tgt := 86) hx hb dX1_deliverFrom_27 (by decide) (fun c_17 => ?_) (fun c_17 => ?_)
      · replace hF := (if_pos c_17).symm.trans hF
        refine lv_aload_n hx hb dX1_deliverFrom_86 rfl (lv_at hl 0 rfl) ?_
        refine va_get (D := D) (ci := 1) (v := .ref (ca 11)) (C := RX1) (T := TX1) (N := 16) hx hb hts (fun w h => cwc w (in_X1 w h)) hown hK hP 0 rfl rfl 10 (by decide) hk_43 (fun _ h9 => h9) rfl dX1_deliverFrom_87 ?_
        refine lv_iload_n hx hb dX1_deliverFrom_90 rfl (lv_at hl 3 rfl) ?_
        refine lv_dup2_11 hx hb dX1_deliverFrom_91 rfl rfl ?_
        obtain ⟨h_18, hF⟩ := gd_some hF
        refine va_iald (f := u.2.2.2.2.2.2.2.2.1) hx hb hK hP 11 0 rfl rfl (inb_in h_18) dX1_deliverFrom_92 ?_
        refine lv_iload hx hb dX1_deliverFrom_93 (lv_at hl 4 rfl) ?_
        refine lv_iadd hx hb dX1_deliverFrom_95 ?_
        obtain ⟨h_19, hF⟩ := gd_some hF
        refine va_iast (f := u.2.2.2.2.2.2.2.2.1) hx hb hK hP hD hS 11 0 rfl rfl (inb_in h_19) dX1_deliverFrom_96 (fun H locs hP hD hS => ?_)
        replace hP : va_P D vwCl (CW cI cR ca qa (u.1, u.2.1, u.2.2.1, u.2.2.2.1, u.2.2.2.2.1, u.2.2.2.2.2.1, u.2.2.2.2.2.2.1, u.2.2.2.2.2.2.2.1, (upd u.2.2.2.2.2.2.2.2.1 x3.toNatClampNeg ((u.2.2.2.2.2.2.2.2.1 x3.toNatClampNeg) + x5)), u.2.2.2.2.2.2.2.2.2.1, u.2.2.2.2.2.2.2.2.2.2.1, u.2.2.2.2.2.2.2.2.2.2.2.1, u.2.2.2.2.2.2.2.2.2.2.2.2.1, u.2.2.2.2.2.2.2.2.2.2.2.2.2.1, u.2.2.2.2.2.2.2.2.2.2.2.2.2.2)) H := hP
        replace hD : va_D A (CW cI cR ca qa (u.1, u.2.1, u.2.2.1, u.2.2.2.1, u.2.2.2.2.1, u.2.2.2.2.2.1, u.2.2.2.2.2.2.1, u.2.2.2.2.2.2.2.1, (upd u.2.2.2.2.2.2.2.2.1 x3.toNatClampNeg ((u.2.2.2.2.2.2.2.2.1 x3.toNatClampNeg) + x5)), u.2.2.2.2.2.2.2.2.2.1, u.2.2.2.2.2.2.2.2.2.2.1, u.2.2.2.2.2.2.2.2.2.2.2.1, u.2.2.2.2.2.2.2.2.2.2.2.2.1, u.2.2.2.2.2.2.2.2.2.2.2.2.2.1, u.2.2.2.2.2.2.2.2.2.2.2.2.2.2)) := hD
        refine lv_aload_n hx hb dX1_deliverFrom_97 rfl (lv_at hl 0 rfl) ?_
        refine va_get (D := D) (ci := 1) (v := .ref (ca 3)) (C := RX1) (T := TX1) (N := 16) hx hb hts (fun w h => cwc w (in_X1 w h)) hown hK hP 0 rfl rfl 2 (by decide) hk_19 (fun _ h9 => h9) rfl dX1_deliverFrom_98 ?_
        refine lv_iload_n hx hb dX1_deliverFrom_101 rfl (lv_at hl 2 rfl) ?_
        refine lv_iload_n hx hb dX1_deliverFrom_102 rfl (lv_at hl 3 rfl) ?_
        obtain ⟨r21, u20, hc_22, hF⟩ := bi_some hF
        refine kc_i (W1 := CW cI cR ca qa (u.1, u.2.1, u.2.2.1, u.2.2.2.1, u.2.2.2.2.1, u.2.2.2.2.2.1, u.2.2.2.2.2.2.1, u.2.2.2.2.2.2.2.1, (upd u.2.2.2.2.2.2.2.2.1 x3.toNatClampNeg ((u.2.2.2.2.2.2.2.2.1 x3.toNatClampNeg) + x5)), u.2.2.2.2.2.2.2.2.2.1, u.2.2.2.2.2.2.2.2.2.2.1, u.2.2.2.2.2.2.2.2.2.2.2.1, u.2.2.2.2.2.2.2.2.2.2.2.2.1, u.2.2.2.2.2.2.2.2.2.2.2.2.2.1, u.2.2.2.2.2.2.2.2.2.2.2.2.2.2)) (va_runS (As := [.int x2, .int x3]) (rest := [.ref (ca 3)]) ⟨hx, hb, hml, hown, hts⟩ (c_P_stockIndex l D cI cR  H.size x2 x3 () r21 u20 hc_22) (va_cwS 2 hts (gS cwc mw_86 mw_87 mw_1 mw_88) rfl rfl rfl (by decide +kernel) ⟨(Nat.le_of_ble_eq_true rfl), (Nat.le_of_ble_eq_true rfl)⟩) (kp_S hK hP hD (sb_nil _)) rfl rfl hl.1 rfl (lv_room (Nat.le_of_ble_eq_true rfl)) dX1_deliverFrom_103 ⟨(Nat.le_of_ble_eq_true rfl), (Nat.le_of_ble_eq_true rfl)⟩) hP hD hS hA (sb_nil _) (jn_nil _) (fun H locs hP hD hS => ?_)
        obtain ⟨h_23, hF⟩ := gd_some hF
        refine va_iald (f := u.2.1) hx hb hK hP 3 0 rfl rfl (inb_in h_23) dX1_deliverFrom_106 ?_
        obtain ⟨v24, ev24, hF⟩ := nm_some hF
        refine W.eq (g2 := F0 m 107 ls (.int v24 :: [])) (congrArg (fun z => F0 m 107 ls (.int z :: [])) ev24.symm) ?_
        refine lv_istore (lv' := [(7, .int v24), (0, .ref (ca 0)), (1, .ref (qa (4 * j))), (2, .int x2), (3, .int x3), (5, .int x5), (6, .int x6)]) hx hb dX1_deliverFrom_107 hl (by decide) rfl (fun ls hl => ?_)
        refine lv_iload hx hb dX1_deliverFrom_109 (lv_at hl 0 rfl) ?_
        refine lv_iconst (v := (-1 : Int32)) hx hb dX1_deliverFrom_111 (by decide +kernel) ?_
        refine lv_icmp_eq (tgt := 124) hx hb dX1_deliverFrom_112 (by decide) (fun c_25 => ?_) (fun c_25 => ?_)
        · replace hF := (if_pos c_25).symm.trans hF
          refine lv_iload hx hb dX1_deliverFrom_124 (lv_at hl 5 rfl) ?_
          cases hF
          refine W.widen (k := 0) (n := 0) (Nat.le_of_ble_eq_true rfl) (Nat.le_of_ble_eq_true rfl) ?_
          exact W.iret hx hb hr (fun t ht hW => ⟨⟨_, _, rfl, ⟨rfl, rfl⟩, by rw [ht]; exact hP, va_K.moved hW.alike hK, hD⟩, hS.F ht⟩) hS.2.2 dX1_deliverFrom_126
        · replace hF := (if_neg c_25).symm.trans hF
          refine lv_aload_n hx hb dX1_deliverFrom_115 rfl (lv_at hl 1 rfl) ?_
          refine lv_iload_n hx hb dX1_deliverFrom_116 rfl (lv_at hl 3 rfl) ?_
          refine lv_iload hx hb dX1_deliverFrom_117 (lv_at hl 0 rfl) ?_
          refine lv_iload hx hb dX1_deliverFrom_119 (lv_at hl 5 rfl) ?_
          obtain ⟨r27, u26, hc_28, hF⟩ := bi_some hF
          refine kc_v (W1 := CW cI cR ca qa u26) (va_runV (As := [.int x2, .int v24, .int x5]) (rest := []) ⟨hx, hb, hml, hown, hts⟩ (c_P_produce l D cI cR ca qa H.size x2 v24 x5 (u.1, u.2.1, u.2.2.1, u.2.2.2.1, u.2.2.2.2.1, u.2.2.2.2.2.1, u.2.2.2.2.2.2.1, u.2.2.2.2.2.2.2.1, (upd u.2.2.2.2.2.2.2.2.1 x3.toNatClampNeg ((u.2.2.2.2.2.2.2.2.1 x3.toNatClampNeg) + x5)), u.2.2.2.2.2.2.2.2.2.1, u.2.2.2.2.2.2.2.2.2.2.1, u.2.2.2.2.2.2.2.2.2.2.2.1, u.2.2.2.2.2.2.2.2.2.2.2.2.1, u.2.2.2.2.2.2.2.2.2.2.2.2.2.1, u.2.2.2.2.2.2.2.2.2.2.2.2.2.2) r27 u26 hc_28) (cwV 3 hts (gV cwc mw_237 mw_238 mw_478 mw_1 mw_239) rfl rfl rfl (by decide +kernel) ⟨(Nat.le_of_ble_eq_true rfl), (Nat.le_of_ble_eq_true rfl)⟩) (kp_V (ci := 1) (q := (RX1, TX1, 16)) hK hP hD (sb_id _) rfl rfl) rfl rfl hl.1 rfl (lv_room (Nat.le_of_ble_eq_true rfl)) dX1_deliverFrom_121 ⟨(Nat.le_of_ble_eq_true rfl), (Nat.le_of_ble_eq_true rfl)⟩) hP hD hS hA (sb_id _) (jn_id (cw_ad _ _)) (fun H locs hP hD hS => ?_)
          refine lv_iload hx hb dX1_deliverFrom_124 (lv_at hl 5 rfl) ?_
          cases hF
          refine W.widen (k := 0) (n := 0) (Nat.le_of_ble_eq_true rfl) (Nat.le_of_ble_eq_true rfl) ?_
          exact W.iret hx hb hr (fun t ht hW => ⟨⟨_, _, rfl, ⟨rfl, rfl⟩, by rw [ht]; exact hP, va_K.moved hW.alike hK, hD⟩, hS.F ht⟩) hS.2.2 dX1_deliverFrom_126
      · replace hF := (if_neg c_17).symm.trans hF
        refine lv_iload hx hb dX1_deliverFrom_30 (lv_at hl 5 rfl) ?_
        refine lv_aload_n hx hb dX1_deliverFrom_32 rfl (lv_at hl 1 rfl) ?_
        refine lv_iconst (v := (0 : Int32)) hx hb dX1_deliverFrom_33 (by decide +kernel) ?_
        refine lv_iconst (v := (1 : Int32)) hx hb dX1_deliverFrom_34 (by decide +kernel) ?_
        obtain ⟨r30, u29, hc_31, hF⟩ := bi_some hF
        refine kc_i (W1 := CW cI cR ca qa u) (va_runV (As := [.int (0 : Int32), .int (1 : Int32)]) (rest := [.int x6]) ⟨hx, hb, hml, hown, hts⟩ (c_Row_look l D cI cR (qa (4 * j)) (qa (4 * j + 1)) (qa (4 * j + 2)) (qa (4 * j + 3)) H.size (0 : Int32) (1 : Int32) (u.2.2.2.2.2.2.2.2.2.2.2.2.2.2 j) r30 u29 hc_31) (cwV 2 hts (gV cwc mw_89 mw_90 mw_91 mw_2 mw_92) rfl rfl rfl (by decide +kernel) ⟨(Nat.le_of_ble_eq_true rfl), (Nat.le_of_ble_eq_true rfl)⟩) (kp_V (ci := 0) (q := (RX0, TX0, 5)) hK hP hD (cw_sb hj) rfl rfl) rfl rfl hl.1 rfl (lv_room (Nat.le_of_ble_eq_true rfl)) dX1_deliverFrom_35 ⟨(Nat.le_of_ble_eq_true rfl), (Nat.le_of_ble_eq_true rfl)⟩) hP hD hS hA (cw_sb hj) (jn_same (cw_sb hj)) (fun H locs hP hD hS => ?_)
        refine va_mmin hx hb (hml.trans hl.1.symm) hown hmmin_l149 hmmin_s hm_i hmmin_c (Nat.le_of_ble_eq_true rfl) (Nat.le_of_ble_eq_true rfl) (Nat.zero_le _) (Nat.zero_le _) dX1_deliverFrom_38 ?_
        obtain ⟨v32, ev32, hF⟩ := nm_some hF
        refine W.eq (g2 := F0 m 41 ls (.int v32 :: [])) (congrArg (fun z => F0 m 41 ls (.int z :: [])) ev32.symm) ?_
        refine lv_istore (lv' := [(8, .int v32), (0, .ref (ca 0)), (1, .ref (qa (4 * j))), (2, .int x2), (3, .int x3), (5, .int x5), (6, .int x6), (7, .int x7)]) hx hb dX1_deliverFrom_41 hl (by decide) rfl (fun ls hl => ?_)
        refine lv_aload_n hx hb dX1_deliverFrom_43 rfl (lv_at hl 1 rfl) ?_
        refine lv_iload hx hb dX1_deliverFrom_44 (lv_at hl 0 rfl) ?_
        refine lv_aload_n hx hb dX1_deliverFrom_46 rfl (lv_at hl 1 rfl) ?_
        refine lv_aload_n hx hb dX1_deliverFrom_47 rfl (lv_at hl 2 rfl) ?_
        refine lv_iconst (v := (0 : Int32)) hx hb dX1_deliverFrom_48 (by decide +kernel) ?_
        refine lv_iconst (v := (0 : Int32)) hx hb dX1_deliverFrom_49 (by decide +kernel) ?_
        obtain ⟨r34, u33, hc_35, hF⟩ := bi_some hF
        refine kc_i (W1 := CW cI cR ca qa u) (va_runV (As := [.int (0 : Int32), .int (0 : Int32)]) (rest := [.ref (ca 0), .int v32, .ref (ca 0)]) ⟨hx, hb, hml, hown, hts⟩ (c_Row_look l D cI cR (qa (4 * j)) (qa (4 * j + 1)) (qa (4 * j + 2)) (qa (4 * j + 3)) H.size (0 : Int32) (0 : Int32) (u.2.2.2.2.2.2.2.2.2.2.2.2.2.2 j) r34 u33 hc_35) (cwV 2 hts (gV cwc mw_89 mw_90 mw_91 mw_2 mw_92) rfl rfl rfl (by decide +kernel) ⟨(Nat.le_of_ble_eq_true rfl), (Nat.le_of_ble_eq_true rfl)⟩) (kp_V (ci := 0) (q := (RX0, TX0, 5)) hK hP hD (cw_sb hj) rfl rfl) rfl rfl hl.1 rfl (lv_room (Nat.le_of_ble_eq_true rfl)) dX1_deliverFrom_50 ⟨(Nat.le_of_ble_eq_true rfl), (Nat.le_of_ble_eq_true rfl)⟩) hP hD hS hA (cw_sb hj) (jn_same (cw_sb hj)) (fun H locs hP hD hS => ?_)
        refine lv_aload_n hx hb dX1_deliverFrom_53 rfl (lv_at hl 2 rfl) ?_
        refine lv_iconst (v := (0 : Int32)) hx hb dX1_deliverFrom_54 (by decide +kernel) ?_
        refine lv_iconst (v := (2 : Int32)) hx hb dX1_deliverFrom_55 (by decide +kernel) ?_
        obtain ⟨r37, u36, hc_38, hF⟩ := bi_some hF
        refine kc_i (W1 := CW cI cR ca qa u) (va_runV (As := [.int (0 : Int32), .int (2 : Int32)]) (rest := [.int r34, .ref (ca 0), .int v32, .ref (ca 0)]) ⟨hx, hb, hml, hown, hts⟩ (c_Row_look l D cI cR (qa (4 * j)) (qa (4 * j + 1)) (qa (4 * j + 2)) (qa (4 * j + 3)) H.size (0 : Int32) (2 : Int32) (u.2.2.2.2.2.2.2.2.2.2.2.2.2.2 j) r37 u36 hc_38) (cwV 2 hts (gV cwc mw_89 mw_90 mw_91 mw_2 mw_92) rfl rfl rfl (by decide +kernel) ⟨(Nat.le_of_ble_eq_true rfl), (Nat.le_of_ble_eq_true rfl)⟩) (kp_V (ci := 0) (q := (RX0, TX0, 5)) hK hP hD (cw_sb hj) rfl rfl) rfl rfl hl.1 rfl (lv_room (Nat.le_of_ble_eq_true rfl)) dX1_deliverFrom_56 ⟨(Nat.le_of_ble_eq_true rfl), (Nat.le_of_ble_eq_true rfl)⟩) hP hD hS hA (cw_sb hj) (jn_same (cw_sb hj)) (fun H locs hP hD hS => ?_)
        refine lv_iload_n hx hb dX1_deliverFrom_59 rfl (lv_at hl 3 rfl) ?_
        obtain ⟨r40, u39, hc_41, hF⟩ := bi_some hF
        refine kc_i (W1 := CW cI cR ca qa u) (va_runV (As := [.int r34, .int r37, .int x2]) (rest := [.int v32, .ref (ca 0)]) ⟨hx, hb, hml, hown, hts⟩ (c_P_payOfOne l D cI cR ca qa H.size r34 r37 x2 u r40 u39 hc_41) (cwV 3 hts (gV cwc mw_283 mw_284 mw_482 mw_1 mw_285) rfl rfl rfl (by decide +kernel) ⟨(Nat.le_of_ble_eq_true rfl), (Nat.le_of_ble_eq_true rfl)⟩) (kp_V (ci := 1) (q := (RX1, TX1, 16)) hK hP hD (sb_id _) rfl rfl) rfl rfl hl.1 rfl (lv_room (Nat.le_of_ble_eq_true rfl)) dX1_deliverFrom_60 ⟨(Nat.le_of_ble_eq_true rfl), (Nat.le_of_ble_eq_true rfl)⟩) hP hD hS hA (sb_id _) (jn_same (sb_id _)) (fun H locs hP hD hS => ?_)
        refine lv_imul hx hb dX1_deliverFrom_63 ?_
        obtain ⟨r43, u42, hc_44, hF⟩ := bi_some hF
        refine kc_v (W1 := CW cI cR ca qa u42) (va_runV (As := [.int (v32 * r40)]) (rest := []) ⟨hx, hb, hml, hown, hts⟩ (c_P_earn l D cI cR ca qa H.size (v32 * r40) u r43 u42 hc_44) (cwV 1 hts (gV cwc mw_292 mw_293 mw_483 mw_1 mw_294) rfl rfl rfl (by decide +kernel) ⟨(Nat.le_of_ble_eq_true rfl), (Nat.le_of_ble_eq_true rfl)⟩) (kp_V (ci := 1) (q := (RX1, TX1, 16)) hK hP hD (sb_id _) rfl rfl) rfl rfl hl.1 rfl (lv_room (Nat.le_of_ble_eq_true rfl)) dX1_deliverFrom_64 ⟨(Nat.le_of_ble_eq_true rfl), (Nat.le_of_ble_eq_true rfl)⟩) hP hD hS hA (sb_id _) (jn_id (cw_ad _ _)) (fun H locs hP hD hS => ?_)
        refine lv_aload_n hx hb dX1_deliverFrom_67 rfl (lv_at hl 2 rfl) ?_
        refine lv_iload hx hb dX1_deliverFrom_68 (lv_at hl 0 rfl) ?_
        obtain ⟨r46, u45, hc_47, hF⟩ := bi_some hF
        refine kc_v (W1 := CW cI cR ca qa (u42.1, u42.2.1, u42.2.2.1, u42.2.2.2.1, u42.2.2.2.2.1, u42.2.2.2.2.2.1, u42.2.2.2.2.2.2.1, u42.2.2.2.2.2.2.2.1, u42.2.2.2.2.2.2.2.2.1, u42.2.2.2.2.2.2.2.2.2.1, u42.2.2.2.2.2.2.2.2.2.2.1, u42.2.2.2.2.2.2.2.2.2.2.2.1, u42.2.2.2.2.2.2.2.2.2.2.2.2.1, u42.2.2.2.2.2.2.2.2.2.2.2.2.2.1, (va_up u42.2.2.2.2.2.2.2.2.2.2.2.2.2.2 j u45))) (va_runV (As := [.int v32]) (rest := []) ⟨hx, hb, hml, hown, hts⟩ (c_Row_takeFromFirst l D cI cR (qa (4 * j)) (qa (4 * j + 1)) (qa (4 * j + 2)) (qa (4 * j + 3)) H.size v32 (u42.2.2.2.2.2.2.2.2.2.2.2.2.2.2 j) r46 u45 hc_47) (cwV 1 hts (gV cwc mw_295 mw_267 mw_268 mw_2 mw_269) rfl rfl rfl (by decide +kernel) ⟨(Nat.le_of_ble_eq_true rfl), (Nat.le_of_ble_eq_true rfl)⟩) (kp_V (ci := 0) (q := (RX0, TX0, 5)) hK hP hD (cw_sb hj) rfl rfl) rfl rfl hl.1 rfl (lv_room (Nat.le_of_ble_eq_true rfl)) dX1_deliverFrom_70 ⟨(Nat.le_of_ble_eq_true rfl), (Nat.le_of_ble_eq_true rfl)⟩) hP hD hS hA (cw_sb hj) (cw_jn hj) (fun H locs hP hD hS => ?_)
        refine lv_iload hx hb dX1_deliverFrom_73 (lv_at hl 6 rfl) ?_
        refine lv_iload hx hb dX1_deliverFrom_75 (lv_at hl 0 rfl) ?_
        refine lv_isub hx hb dX1_deliverFrom_77 ?_
        obtain ⟨v48, ev48, hF⟩ := nm_some hF
        refine W.eq (g2 := F0 m 78 ls (.int v48 :: [])) (congrArg (fun z => F0 m 78 ls (.int z :: [])) ev48.symm) ?_
        refine lv_istore (lv' := [(6, .int v48), (8, .int v32), (0, .ref (ca 0)), (1, .ref (qa (4 * j))), (2, .int x2), (3, .int x3), (5, .int x5), (7, .int x7)]) hx hb dX1_deliverFrom_78 hl (by decide) rfl (fun ls hl => ?_)
        refine lv_iinc (v := (x7 + (1 : Int32))) (lv' := [(7, .int (x7 + (1 : Int32))), (6, .int v48), (8, .int v32), (0, .ref (ca 0)), (1, .ref (qa (4 * j))), (2, .int x2), (3, .int x3), (5, .int x5)]) hx hb dX1_deliverFrom_80 hl (k := 7) rfl rfl (by decide) rfl (fun ls hl => ?_)
        refine lv_goto (tgt := 18) hx hb dX1_deliverFrom_83 (by decide) ?_
        exact ih x2 x3 x5 v48 (x7 + (1 : Int32)) (u42.1, u42.2.1, u42.2.2.1, u42.2.2.2.1, u42.2.2.2.2.1, u42.2.2.2.2.2.1, u42.2.2.2.2.2.2.1, u42.2.2.2.2.2.2.2.1, u42.2.2.2.2.2.2.2.2.1, u42.2.2.2.2.2.2.2.2.2.1, u42.2.2.2.2.2.2.2.2.2.2.1, u42.2.2.2.2.2.2.2.2.2.2.2.1, u42.2.2.2.2.2.2.2.2.2.2.2.2.1, u42.2.2.2.2.2.2.2.2.2.2.2.2.2.1, (va_up u42.2.2.2.2.2.2.2.2.2.2.2.2.2.2 j u45)) _ _ hF H locs ls hP hD hS (lv_sub hl [3, 4, 5, 6, 7, 1, 0] rfl)
set_option maxHeartbeats 4000000 in
set_option maxRecDepth 100000 in
theorem c_P_deliverFrom (l : Launch) (D : va_G) (cI cR : ClassId) (ca qa : Nat → Nat) (sz : Nat) (j : Nat) (hj : j < 48) (p2 : Int32) (p3 : Int32) (p4 : Int32) (u : CSt) (r : Int32) (u' : CSt) (hF : F_P_deliverFrom j p2 p3 p4 u = some (r, u')) : Met l yX1_deliverFrom wsX1_deliverFrom ({ frames := 3, cells := 0, slots := 0, locals := 72 }) (va_Pc [.ref (ca 0), .ref (qa (4 * j)), .int p2, .int p3, .int p4] (PRE D (TY cI cR) (CW cI cR ca qa u) sz)) (QI D (TY cI cR) (va_A (CW cI cR ca qa u) sz) (fun v => CW cI cR ca qa v) r u') 0 0 (va_A (CW cI cR ca qa u) sz) := by
  refine Met.ofW (cc := cX1_deliverFrom) (maxL := 9) (ret := (some .int)) (by decide) rfl ?_
  intro p e s m args below meth c s₁ B hml hv
  obtain ⟨rfl, hsz, hP, hK, hD0⟩ := hv
  have hx := B.exec
  have hb := B.bytes
  have hr := B.returns
  have hts := atoms_spec (ws := wsX1_deliverFrom) B.pre
  have hown : s.vm.findClass RX1 = some m.cls := findClass_of_methodNamed B.named
  have hlocks := B.notSynchronized
  subst hsz
  have hD := hD0.self (sz := s.heap.size)
  generalize hAe : va_A (CW cI cR ca qa u) s.heap.size = A at hD ⊢
  have hA : ∀ q : Nat, s.heap.size ≤ q → A q := fun q h => by rw [← hAe]; exact Or.inr h
  have hS : va_S A s.heap s.heap [] := va_S.rf
  replace hP : va_P D vwCl (CW cI cR ca qa u) s.heap := hP
  have hl := lv_entry ([.ref (ca 0), .ref (qa (4 * j)), .int p2, .int p3, .int p4]) (n := 9) (Nat.le_of_ble_eq_true rfl)
  rw [lg_entry_eq]
  generalize (lg_sl ([.ref (ca 0), .ref (qa (4 * j)), .int p2, .int p3, .int p4]) ++ List.replicate (9 - (lg_sl ([.ref (ca 0), .ref (qa (4 * j)), .int p2, .int p3, .int p4])).length) Slot.unset).toArray = ls at hl ⊢
  replace hl : lv_has ls 9 [(0, .ref (ca 0)), (1, .ref (qa (4 * j))), (2, .int p2), (3, .int p3), (4, .int p4)] := hl
  have hmmin_l149 := (hts _ (cwc _ mw_240))
  have hmmin_s := (hts _ (cwc _ mw_241))
  have hm_i := (hts _ (cwc _ mw_9))
  have hmmin_c := (hts _ (cwc _ mw_242))
  have hk_43 := (hts _ (cwc _ mw_45))
  have hk_19 := (hts _ (cwc _ mw_37))
  unfold F_P_deliverFrom at hF
  refine (?_ : ∀ (H : Heap) (locs : List Loc), va_P D vwCl (CW cI cR ca qa u) H → va_S A s.heap H locs → W p l e _ s m _ below meth c H locs 0 0 _ (F0 m 0 ls [])) s.heap [] hP hS
  intro H locs hP hS
  refine lv_iload hx hb dX1_deliverFrom_0 (lv_at hl 4 rfl) ?_
  refine lv_aload_n hx hb dX1_deliverFrom_2 rfl (lv_at hl 1 rfl) ?_
  obtain ⟨r2, u1, hc_3, hF⟩ := bi_some hF
  refine kc_i (W1 := CW cI cR ca qa u) (va_runV (As := []) (rest := [.int p4]) ⟨hx, hb, hml, hown, hts⟩ (c_Row_total l D cI cR (qa (4 * j)) (qa (4 * j + 1)) (qa (4 * j + 2)) (qa (4 * j + 3)) H.size  (u.2.2.2.2.2.2.2.2.2.2.2.2.2.2 j) r2 u1 hc_3) (cwV 0 hts (gV cwc mw_97 mw_98 mw_99 mw_2 mw_100) rfl rfl rfl (by decide +kernel) ⟨(Nat.le_of_ble_eq_true rfl), (Nat.le_of_ble_eq_true rfl)⟩) (kp_V (ci := 0) (q := (RX0, TX0, 5)) hK hP hD (cw_sb hj) rfl rfl) rfl rfl hl.1 rfl (lv_room (Nat.le_of_ble_eq_true rfl)) dX1_deliverFrom_3 ⟨(Nat.le_of_ble_eq_true rfl), (Nat.le_of_ble_eq_true rfl)⟩) hP hD hS hA (cw_sb hj) (jn_same (cw_sb hj)) (fun H locs hP hD hS => ?_)
  refine va_mmin hx hb (hml.trans hl.1.symm) hown hmmin_l149 hmmin_s hm_i hmmin_c (Nat.le_of_ble_eq_true rfl) (Nat.le_of_ble_eq_true rfl) (Nat.zero_le _) (Nat.zero_le _) dX1_deliverFrom_6 ?_
  obtain ⟨v4, ev4, hF⟩ := nm_some hF
  refine W.eq (g2 := F0 m 9 ls (.int v4 :: [])) (congrArg (fun z => F0 m 9 ls (.int z :: [])) ev4.symm) ?_
  refine lv_istore (lv' := [(5, .int v4), (0, .ref (ca 0)), (1, .ref (qa (4 * j))), (2, .int p2), (3, .int p3), (4, .int p4)]) hx hb dX1_deliverFrom_9 hl (by decide) rfl (fun ls hl => ?_)
  refine lv_iload hx hb dX1_deliverFrom_11 (lv_at hl 0 rfl) ?_
  refine lv_istore (lv' := [(6, .int v4), (5, .int v4), (0, .ref (ca 0)), (1, .ref (qa (4 * j))), (2, .int p2), (3, .int p3), (4, .int p4)]) hx hb dX1_deliverFrom_13 hl (by decide) rfl (fun ls hl => ?_)
  refine lv_iconst (v := (0 : Int32)) hx hb dX1_deliverFrom_15 (by decide +kernel) ?_
  refine lv_istore (lv' := [(7, .int (0 : Int32)), (6, .int v4), (5, .int v4), (0, .ref (ca 0)), (1, .ref (qa (4 * j))), (2, .int p2), (3, .int p3), (4, .int p4)]) hx hb dX1_deliverFrom_16 hl (by decide) rfl (fun ls hl => ?_)
  exact w_P_deliverFrom_L18 hx hb hr hml hown hts hlocks hA hK j hj 9 p2 p3 v4 v4 (0 : Int32) u _ _ hF H locs ls hP hD hS (lv_sub hl [3, 4, 5, 6, 2, 1, 0] rfl)
def F_P_produceEverywhere_L10 (K2 : Int32 → CSt → Option ((Unit) × CSt)) : Nat → Int32 → Int32 → CSt → Option ((Unit) × CSt)
  | 0, _, _, _ => none
  | n + 1, x1, x2, u => (if (4 : Int32) ≤ x2 then K2 (x1 + (1 : Int32)) u else bi (F_P_stockIndex x1 x2 ()) (fun r4 u3 => gd (inb r4 32) (bi (F_P_produce x1 x2 (u.1 r4.toNatClampNeg) u) (fun r8 u7 => F_P_produceEverywhere_L10 K2 n x1 (x2 + (1 : Int32)) u7))))
def F_P_produceEverywhere_L2 : Nat → Int32 → CSt → Option ((Unit) × CSt)
  | 0, _, _ => none
  | n + 1, x1, u => (if (8 : Int32) ≤ x1 then some ((), u) else F_P_produceEverywhere_L10 (F_P_produceEverywhere_L2 n) 5 x1 (0 : Int32) u)
def F_P_produceEverywhere  (u : CSt) : Option ((Unit) × CSt) := F_P_produceEverywhere_L2 9 (0 : Int32) u
set_option maxHeartbeats 4000000 in
set_option maxRecDepth 100000 in
theorem w_P_produceEverywhere_L10 {p : Program} {l : Launch} {e : Env} {s : State} {m : MethodId} {args : Array Value} {below : List Frame} {meth : Method} {c : Code} {A : Nat → Prop} {D : va_G} {cI cR : ClassId} {ca qa : Nat → Nat} (hx : p.tables.exec = Jvm.exec) (hb : c.code = cX1_produceEverywhere) (hr : meth.sig.returnType = none) (hml : c.maxLocals = 3) (hown : s.vm.findClass RX1 = some m.cls) (hts : ∀ w ∈ wsX1_produceEverywhere, w.before args s = true) (hlocks : meth.locks = false) (hA : ∀ q : Nat, s.heap.size ≤ q → A q) (hK : va_K D vwCl (TY cI cR) s) (K2 : Int32 → CSt → Option ((Unit) × CSt)) (hK2 : ∀ (y1 : Int32) (u : CSt) (r : Unit) (u' : CSt), K2 y1 u = some (r, u') → ∀ (H : Heap) (locs : List Loc) (ls : Array Slot), va_P D vwCl (CW cI cR ca qa u) H → va_D A (CW cI cR ca qa u) → va_S A s.heap H locs → lv_has ls 3 [(0, .ref (ca 0)), (1, .int y1)] → W p l e (headSpec wsX1_produceEverywhere ({ frames := 3, cells := 0, slots := 0, locals := 72 })).room s m args below meth c H locs 0 0 (MQ below (QV D (TY cI cR) A (fun v => CW cI cR ca qa v) u') args s 0 0 A) (F0 m 2 ls [])) : ∀ (n : Nat) (x1 x2 : Int32) (u : CSt) (r : Unit) (u' : CSt), F_P_produceEverywhere_L10 K2 n x1 x2 u = some (r, u') → ∀ (H : Heap) (locs : List Loc) (ls : Array Slot), va_P D vwCl (CW cI cR ca qa u) H → va_D A (CW cI cR ca qa u) → va_S A s.heap H locs → lv_has ls 3 [(0, .ref (ca 0)), (1, .int x1), (2, .int x2)] → W p l e (headSpec wsX1_produceEverywhere ({ frames := 3, cells := 0, slots := 0, locals := 72 })).room s m args below meth c H locs 0 0 (MQ below (QV D (TY cI cR) A (fun v => CW cI cR ca qa v) u') args s 0 0 A) (F0 m 10 ls []) := by
  have hk_15 := (hts _ (cwc _ mw_36))
  intro n
  induction n with
  | zero =>
    intro x1 x2 u r u' hF
    rw [F_P_produceEverywhere_L10] at hF
    exact absurd hF (by simp)
  | succ n ih =>
    intro x1 x2 u r u' hF H locs ls hP hD hS hl
    rw [F_P_produceEverywhere_L10] at hF
    refine lv_iload_n hx hb dX1_produceEverywhere_10 rfl (lv_at hl 2 rfl) ?_
    refine lv_iconst (v := (4 : Int32)) hx hb dX1_produceEverywhere_11 (by decide +kernel) ?_
    refine lv_icmp_ge (tgt := 37) hx hb dX1_produceEverywhere_12 (by decide) (fun c_2 => ?_) (fun c_2 => ?_)
    · replace hF := (if_pos c_2).symm.trans hF
      refine lv_iinc (v := (x1 + (1 : Int32))) (lv' := [(1, .int (x1 + (1 : Int32))), (0, .ref (ca 0)), (2, .int x2)]) hx hb dX1_produceEverywhere_37 hl (k := 1) rfl rfl (by decide) rfl (fun ls hl => ?_)
      refine lv_goto (tgt := 2) hx hb dX1_produceEverywhere_40 (by decide) ?_
      exact hK2 (x1 + (1 : Int32)) u _ _ hF H locs ls hP hD hS (lv_sub hl [1, 0] rfl)
    · replace hF := (if_neg c_2).symm.trans hF
      refine lv_aload_n hx hb dX1_produceEverywhere_15 rfl (lv_at hl 0 rfl) ?_
      refine lv_iload_n hx hb dX1_produceEverywhere_16 rfl (lv_at hl 1 rfl) ?_
      refine lv_iload_n hx hb dX1_produceEverywhere_17 rfl (lv_at hl 2 rfl) ?_
      refine lv_aload_n hx hb dX1_produceEverywhere_18 rfl (lv_at hl 0 rfl) ?_
      refine va_get (D := D) (ci := 1) (v := .ref (ca 2)) (C := RX1) (T := TX1) (N := 16) hx hb hts (fun w h => cwc w (in_X1 w h)) hown hK hP 0 rfl rfl 1 (by decide) hk_15 (fun _ h9 => h9) rfl dX1_produceEverywhere_19 ?_
      refine lv_iload_n hx hb dX1_produceEverywhere_22 rfl (lv_at hl 1 rfl) ?_
      refine lv_iload_n hx hb dX1_produceEverywhere_23 rfl (lv_at hl 2 rfl) ?_
      obtain ⟨r4, u3, hc_5, hF⟩ := bi_some hF
      refine kc_i (W1 := CW cI cR ca qa u) (va_runS (As := [.int x1, .int x2]) (rest := [.ref (ca 2), .int x2, .int x1, .ref (ca 0)]) ⟨hx, hb, hml, hown, hts⟩ (c_P_stockIndex l D cI cR  H.size x1 x2 () r4 u3 hc_5) (va_cwS 2 hts (gS cwc mw_86 mw_87 mw_1 mw_88) rfl rfl rfl (by decide +kernel) ⟨(Nat.le_of_ble_eq_true rfl), (Nat.le_of_ble_eq_true rfl)⟩) (kp_S hK hP hD (sb_nil _)) rfl rfl hl.1 rfl (lv_room (Nat.le_of_ble_eq_true rfl)) dX1_produceEverywhere_24 ⟨(Nat.le_of_ble_eq_true rfl), (Nat.le_of_ble_eq_true rfl)⟩) hP hD hS hA (sb_nil _) (jn_nil _) (fun H locs hP hD hS => ?_)
      obtain ⟨h_6, hF⟩ := gd_some hF
      refine va_iald (f := u.1) hx hb hK hP 2 0 rfl rfl (inb_in h_6) dX1_produceEverywhere_27 ?_
      obtain ⟨r8, u7, hc_9, hF⟩ := bi_some hF
      refine kc_v (W1 := CW cI cR ca qa u7) (va_runV (As := [.int x1, .int x2, .int (u.1 r4.toNatClampNeg)]) (rest := []) ⟨hx, hb, hml, hown, hts⟩ (c_P_produce l D cI cR ca qa H.size x1 x2 (u.1 r4.toNatClampNeg) u r8 u7 hc_9) (cwV 3 hts (gV cwc mw_237 mw_238 mw_478 mw_1 mw_239) rfl rfl rfl (by decide +kernel) ⟨(Nat.le_of_ble_eq_true rfl), (Nat.le_of_ble_eq_true rfl)⟩) (kp_V (ci := 1) (q := (RX1, TX1, 16)) hK hP hD (sb_id _) rfl rfl) rfl rfl hl.1 rfl (lv_room (Nat.le_of_ble_eq_true rfl)) dX1_produceEverywhere_28 ⟨(Nat.le_of_ble_eq_true rfl), (Nat.le_of_ble_eq_true rfl)⟩) hP hD hS hA (sb_id _) (jn_id (cw_ad _ _)) (fun H locs hP hD hS => ?_)
      refine lv_iinc (v := (x2 + (1 : Int32))) (lv' := [(2, .int (x2 + (1 : Int32))), (0, .ref (ca 0)), (1, .int x1)]) hx hb dX1_produceEverywhere_31 hl (k := 2) rfl rfl (by decide) rfl (fun ls hl => ?_)
      refine lv_goto (tgt := 10) hx hb dX1_produceEverywhere_34 (by decide) ?_
      exact ih x1 (x2 + (1 : Int32)) u7 _ _ hF H locs ls hP hD hS (lv_sub hl [1, 2, 0] rfl)
set_option maxHeartbeats 4000000 in
set_option maxRecDepth 100000 in
theorem w_P_produceEverywhere_L2 {p : Program} {l : Launch} {e : Env} {s : State} {m : MethodId} {args : Array Value} {below : List Frame} {meth : Method} {c : Code} {A : Nat → Prop} {D : va_G} {cI cR : ClassId} {ca qa : Nat → Nat} (hx : p.tables.exec = Jvm.exec) (hb : c.code = cX1_produceEverywhere) (hr : meth.sig.returnType = none) (hml : c.maxLocals = 3) (hown : s.vm.findClass RX1 = some m.cls) (hts : ∀ w ∈ wsX1_produceEverywhere, w.before args s = true) (hlocks : meth.locks = false) (hA : ∀ q : Nat, s.heap.size ≤ q → A q) (hK : va_K D vwCl (TY cI cR) s) : ∀ (n : Nat) (x1 : Int32) (u : CSt) (r : Unit) (u' : CSt), F_P_produceEverywhere_L2 n x1 u = some (r, u') → ∀ (H : Heap) (locs : List Loc) (ls : Array Slot), va_P D vwCl (CW cI cR ca qa u) H → va_D A (CW cI cR ca qa u) → va_S A s.heap H locs → lv_has ls 3 [(0, .ref (ca 0)), (1, .int x1)] → W p l e (headSpec wsX1_produceEverywhere ({ frames := 3, cells := 0, slots := 0, locals := 72 })).room s m args below meth c H locs 0 0 (MQ below (QV D (TY cI cR) A (fun v => CW cI cR ca qa v) u') args s 0 0 A) (F0 m 2 ls []) := by
  have hk_15 := (hts _ (cwc _ mw_36))
  intro n
  induction n with
  | zero =>
    intro x1 u r u' hF
    rw [F_P_produceEverywhere_L2] at hF
    exact absurd hF (by simp)
  | succ n ih =>
    intro x1 u r u' hF H locs ls hP hD hS hl
    rw [F_P_produceEverywhere_L2] at hF
    refine lv_iload_n hx hb dX1_produceEverywhere_2 rfl (lv_at hl 1 rfl) ?_
    refine lv_bipush (v := (8 : Int32)) hx hb dX1_produceEverywhere_3 (by decide +kernel) ?_
    refine lv_icmp_ge (tgt := 43) hx hb dX1_produceEverywhere_5 (by decide) (fun c_1 => ?_) (fun c_1 => ?_)
    · replace hF := (if_pos c_1).symm.trans hF
      cases hF
      refine W.widen (k := 0) (n := 0) (Nat.le_of_ble_eq_true rfl) (Nat.le_of_ble_eq_true rfl) ?_
      exact W.vret hx hb hr (fun t ht hW => ⟨⟨_, rfl, rfl, by rw [ht]; exact hP, va_K.moved hW.alike hK, hD⟩, hS.F ht⟩) hS.2.2 dX1_produceEverywhere_43
    · replace hF := (if_neg c_1).symm.trans hF
      refine lv_iconst (v := (0 : Int32)) hx hb dX1_produceEverywhere_8 (by decide +kernel) ?_
      refine lv_istore_n (lv' := [(2, .int (0 : Int32)), (0, .ref (ca 0)), (1, .int x1)]) hx hb dX1_produceEverywhere_9 rfl hl (by decide) rfl (fun ls hl => ?_)
      exact w_P_produceEverywhere_L10 hx hb hr hml hown hts hlocks hA hK (F_P_produceEverywhere_L2 n) (fun y1 u9 r9 v9 h9 => ih y1 u9 r9 v9 h9) 5 x1 (0 : Int32) u _ _ hF H locs ls hP hD hS (lv_sub hl [1, 2, 0] rfl)
set_option maxHeartbeats 4000000 in
set_option maxRecDepth 100000 in
theorem c_P_produceEverywhere (l : Launch) (D : va_G) (cI cR : ClassId) (ca qa : Nat → Nat) (sz : Nat)  (u : CSt) (r : Unit) (u' : CSt) (hF : F_P_produceEverywhere  u = some (r, u')) : Met l yX1_produceEverywhere wsX1_produceEverywhere ({ frames := 3, cells := 0, slots := 0, locals := 72 }) (va_Pc [.ref (ca 0)] (PRE D (TY cI cR) (CW cI cR ca qa u) sz)) (QV D (TY cI cR) (va_A (CW cI cR ca qa u) sz) (fun v => CW cI cR ca qa v) u') 0 0 (va_A (CW cI cR ca qa u) sz) := by
  refine Met.ofW (cc := cX1_produceEverywhere) (maxL := 3) (ret := none) (by decide) rfl ?_
  intro p e s m args below meth c s₁ B hml hv
  obtain ⟨rfl, hsz, hP, hK, hD0⟩ := hv
  have hx := B.exec
  have hb := B.bytes
  have hr := B.returns
  have hts := atoms_spec (ws := wsX1_produceEverywhere) B.pre
  have hown : s.vm.findClass RX1 = some m.cls := findClass_of_methodNamed B.named
  have hlocks := B.notSynchronized
  subst hsz
  have hD := hD0.self (sz := s.heap.size)
  generalize hAe : va_A (CW cI cR ca qa u) s.heap.size = A at hD ⊢
  have hA : ∀ q : Nat, s.heap.size ≤ q → A q := fun q h => by rw [← hAe]; exact Or.inr h
  have hS : va_S A s.heap s.heap [] := va_S.rf
  replace hP : va_P D vwCl (CW cI cR ca qa u) s.heap := hP
  have hl := lv_entry ([.ref (ca 0)]) (n := 3) (Nat.le_of_ble_eq_true rfl)
  rw [lg_entry_eq]
  generalize (lg_sl ([.ref (ca 0)]) ++ List.replicate (3 - (lg_sl ([.ref (ca 0)])).length) Slot.unset).toArray = ls at hl ⊢
  replace hl : lv_has ls 3 [(0, .ref (ca 0))] := hl
  have hk_15 := (hts _ (cwc _ mw_36))
  unfold F_P_produceEverywhere at hF
  refine (?_ : ∀ (H : Heap) (locs : List Loc), va_P D vwCl (CW cI cR ca qa u) H → va_S A s.heap H locs → W p l e _ s m _ below meth c H locs 0 0 _ (F0 m 0 ls [])) s.heap [] hP hS
  intro H locs hP hS
  refine lv_iconst (v := (0 : Int32)) hx hb dX1_produceEverywhere_0 (by decide +kernel) ?_
  refine lv_istore_n (lv' := [(1, .int (0 : Int32)), (0, .ref (ca 0))]) hx hb dX1_produceEverywhere_1 rfl hl (by decide) rfl (fun ls hl => ?_)
  exact w_P_produceEverywhere_L2 hx hb hr hml hown hts hlocks hA hK 9 (0 : Int32) u _ _ hF H locs ls hP hD hS (lv_sub hl [1, 0] rfl)
def F_P_sum (p1 : Int32) (u : CSt) : Option ((Int32) × Unit) := (if p1 = (0 : Int32) then some (u.2.2.2.2.2.2.2.2.2.2.2.1, ()) else (if p1 = (1 : Int32) then some (u.2.2.2.2.2.2.2.2.2.2.2.2.1, ()) else (if p1 = (2 : Int32) then some (u.2.2.2.2.2.2.2.2.2.2.2.2.2.1, ()) else (if p1 = (3 : Int32) then some (u.2.2.2.2.2.2.2.2.2.2.1, ()) else some ((-1 : Int32), ())))))
set_option maxHeartbeats 4000000 in
set_option maxRecDepth 100000 in
theorem c_P_sum (l : Launch) (D : va_G) (cI cR : ClassId) (ca qa : Nat → Nat) (sz : Nat) (p1 : Int32) (u : CSt) (r : Int32) (u' : Unit) (hF : F_P_sum p1 u = some (r, u')) : Met l yX1_sum wsX1_sum ({ frames := 0, cells := 0, slots := 0, locals := 0 }) (va_Pc [.ref (ca 0), .int p1] (PRE D (TY cI cR) (CW cI cR ca qa u) sz)) (QI D (TY cI cR) (va_A (CW cI cR ca qa u) sz) (fun v => CW cI cR ca qa v) r u) 0 0 (va_A (CW cI cR ca qa u) sz) := by
  refine Met.ofW (cc := cX1_sum) (maxL := 2) (ret := (some .int)) (by decide) rfl ?_
  intro p e s m args below meth c s₁ B hml hv
  obtain ⟨rfl, hsz, hP, hK, hD0⟩ := hv
  have hx := B.exec
  have hb := B.bytes
  have hr := B.returns
  have hts := atoms_spec (ws := wsX1_sum) B.pre
  have hown : s.vm.findClass RX1 = some m.cls := findClass_of_methodNamed B.named
  have hlocks := B.notSynchronized
  subst hsz
  have hD := hD0.self (sz := s.heap.size)
  generalize hAe : va_A (CW cI cR ca qa u) s.heap.size = A at hD ⊢
  have hA : ∀ q : Nat, s.heap.size ≤ q → A q := fun q h => by rw [← hAe]; exact Or.inr h
  have hS : va_S A s.heap s.heap [] := va_S.rf
  replace hP : va_P D vwCl (CW cI cR ca qa u) s.heap := hP
  have hl := lv_entry ([.ref (ca 0), .int p1]) (n := 2) (Nat.le_of_ble_eq_true rfl)
  rw [lg_entry_eq]
  generalize (lg_sl ([.ref (ca 0), .int p1]) ++ List.replicate (2 - (lg_sl ([.ref (ca 0), .int p1])).length) Slot.unset).toArray = ls at hl ⊢
  replace hl : lv_has ls 2 [(0, .ref (ca 0)), (1, .int p1)] := hl
  have hk_53 := (hts _ (cwc _ mw_48))
  have hk_56 := (hts _ (cwc _ mw_49))
  have hk_59 := (hts _ (cwc _ mw_50))
  have hk_49 := (hts _ (cwc _ mw_47))
  unfold F_P_sum at hF
  refine (?_ : ∀ (H : Heap) (locs : List Loc), va_P D vwCl (CW cI cR ca qa u) H → va_S A s.heap H locs → W p l e _ s m _ below meth c H locs 0 0 _ (F0 m 0 ls [])) s.heap [] hP hS
  intro H locs hP hS
  refine lv_iload_n hx hb dX1_sum_0 rfl (lv_at hl 1 rfl) ?_
  by_cases c_1 : p1 = (0 : Int32)
  · replace hF := (if_pos c_1).symm.trans hF
    refine lv_tableIn (off := 31) (tgt := 32) hx hb dX1_sum_1 (by rw [c_1]; decide +kernel) (by rw [c_1]; decide +kernel) (by rw [c_1]; rfl) (by decide) ?_
    refine lv_aload_n hx hb dX1_sum_32 rfl (lv_at hl 0 rfl) ?_
    refine va_get (D := D) (ci := 1) (v := .int u.2.2.2.2.2.2.2.2.2.2.2.1) (C := RX1) (T := TX1) (N := 16) hx hb hts (fun w h => cwc w (in_X1 w h)) hown hK hP 0 rfl rfl 13 (by decide) hk_53 (fun _ h9 => h9) rfl dX1_sum_33 ?_
    cases hF
    refine W.widen (k := 0) (n := 0) (Nat.le_of_ble_eq_true rfl) (Nat.le_of_ble_eq_true rfl) ?_
    exact W.iret hx hb hr (fun t ht hW => ⟨⟨_, _, rfl, ⟨rfl, rfl⟩, by rw [ht]; exact hP, va_K.moved hW.alike hK, hD⟩, hS.F ht⟩) hS.2.2 dX1_sum_36
  · replace hF := (if_neg c_1).symm.trans hF
    by_cases c_2 : p1 = (1 : Int32)
    · replace hF := (if_pos c_2).symm.trans hF
      refine lv_tableIn (off := 36) (tgt := 37) hx hb dX1_sum_1 (by rw [c_2]; decide +kernel) (by rw [c_2]; decide +kernel) (by rw [c_2]; rfl) (by decide) ?_
      refine lv_aload_n hx hb dX1_sum_37 rfl (lv_at hl 0 rfl) ?_
      refine va_get (D := D) (ci := 1) (v := .int u.2.2.2.2.2.2.2.2.2.2.2.2.1) (C := RX1) (T := TX1) (N := 16) hx hb hts (fun w h => cwc w (in_X1 w h)) hown hK hP 0 rfl rfl 14 (by decide) hk_56 (fun _ h9 => h9) rfl dX1_sum_38 ?_
      cases hF
      refine W.widen (k := 0) (n := 0) (Nat.le_of_ble_eq_true rfl) (Nat.le_of_ble_eq_true rfl) ?_
      exact W.iret hx hb hr (fun t ht hW => ⟨⟨_, _, rfl, ⟨rfl, rfl⟩, by rw [ht]; exact hP, va_K.moved hW.alike hK, hD⟩, hS.F ht⟩) hS.2.2 dX1_sum_41
    · replace hF := (if_neg c_2).symm.trans hF
      by_cases c_3 : p1 = (2 : Int32)
      · replace hF := (if_pos c_3).symm.trans hF
        refine lv_tableIn (off := 41) (tgt := 42) hx hb dX1_sum_1 (by rw [c_3]; decide +kernel) (by rw [c_3]; decide +kernel) (by rw [c_3]; rfl) (by decide) ?_
        refine lv_aload_n hx hb dX1_sum_42 rfl (lv_at hl 0 rfl) ?_
        refine va_get (D := D) (ci := 1) (v := .int u.2.2.2.2.2.2.2.2.2.2.2.2.2.1) (C := RX1) (T := TX1) (N := 16) hx hb hts (fun w h => cwc w (in_X1 w h)) hown hK hP 0 rfl rfl 15 (by decide) hk_59 (fun _ h9 => h9) rfl dX1_sum_43 ?_
        cases hF
        refine W.widen (k := 0) (n := 0) (Nat.le_of_ble_eq_true rfl) (Nat.le_of_ble_eq_true rfl) ?_
        exact W.iret hx hb hr (fun t ht hW => ⟨⟨_, _, rfl, ⟨rfl, rfl⟩, by rw [ht]; exact hP, va_K.moved hW.alike hK, hD⟩, hS.F ht⟩) hS.2.2 dX1_sum_46
      · replace hF := (if_neg c_3).symm.trans hF
        by_cases c_4 : p1 = (3 : Int32)
        · replace hF := (if_pos c_4).symm.trans hF
          refine lv_tableIn (off := 46) (tgt := 47) hx hb dX1_sum_1 (by rw [c_4]; decide +kernel) (by rw [c_4]; decide +kernel) (by rw [c_4]; rfl) (by decide) ?_
          refine lv_aload_n hx hb dX1_sum_47 rfl (lv_at hl 0 rfl) ?_
          refine va_get (D := D) (ci := 1) (v := .int u.2.2.2.2.2.2.2.2.2.2.1) (C := RX1) (T := TX1) (N := 16) hx hb hts (fun w h => cwc w (in_X1 w h)) hown hK hP 0 rfl rfl 12 (by decide) hk_49 (fun _ h9 => h9) rfl dX1_sum_48 ?_
          cases hF
          refine W.widen (k := 0) (n := 0) (Nat.le_of_ble_eq_true rfl) (Nat.le_of_ble_eq_true rfl) ?_
          exact W.iret hx hb hr (fun t ht hW => ⟨⟨_, _, rfl, ⟨rfl, rfl⟩, by rw [ht]; exact hP, va_K.moved hW.alike hK, hD⟩, hS.F ht⟩) hS.2.2 dX1_sum_51
        · replace hF := (if_neg c_4).symm.trans hF
          refine lv_tableOut (tgt := 52) hx hb dX1_sum_1 (by have := i32nz c_1 (show (0 : Int32).toInt = 0 by decide +kernel); have := i32nz c_2 (show (1 : Int32).toInt = 1 by decide +kernel); have := i32nz c_3 (show (2 : Int32).toInt = 2 by decide +kernel); have := i32nz c_4 (show (3 : Int32).toInt = 3 by decide +kernel); omega) (by decide) ?_
          refine lv_iconst (v := (-1 : Int32)) hx hb dX1_sum_52 (by decide +kernel) ?_
          cases hF
          refine W.widen (k := 0) (n := 0) (Nat.le_of_ble_eq_true rfl) (Nat.le_of_ble_eq_true rfl) ?_
          exact W.iret hx hb hr (fun t ht hW => ⟨⟨_, _, rfl, ⟨rfl, rfl⟩, by rw [ht]; exact hP, va_K.moved hW.alike hK, hD⟩, hS.F ht⟩) hS.2.2 dX1_sum_53
