abbrev modNew (h : Nat) : va_W := [(h, .inr (2, [.int 0, .int 0, .int 0, .int 0, .int 0, .null, .null, .null, .null, .null, .null, .null, .null, .null, .null, .null, .null, .null]))]
abbrev mz (f : Nat → Int32) : MSt := (0, 0, 10000, 0, 0, (fun _ => 0), (fun _ => 0), (fun _ => 0), (fun _ => 0), f, (fun _ => 0), (fun _ => 0), (fun _ => 0), (fun _ => 0), (fun _ => 0), (fun _ => 0), (fun _ => 0), (fun _ => 0))
set_option maxHeartbeats 4000000 in
set_option maxRecDepth 100000 in
theorem c_M_init (l : Launch) (D : va_G) (cI cR : ClassId) (h sz : Nat) : Met l yX2_init wsX2_init ({ frames := 1, cells := 13, slots := 98181, locals := 12 }) (va_Pc [.ref h] (PRE D (TY cI cR) (modNew h) sz)) (va_Qv (fun _ : Unit => True) (fun _ t => ∃ (ma : Nat → Nat) (f : Nat → Int32), ma 0 = h ∧ (∀ k, k < 32 → f k = -1) ∧ va_P D vwCl (MW cI ma (mz f)) t.heap ∧ va_K D vwCl (TY cI cR) t ∧ va_D (va_A (modNew h) sz) (MW cI ma (mz f))) (va_A (modNew h) sz)) 13 98181 (va_A (modNew h) sz) := by
  refine Met.ofW (cc := cX2_init) (maxL := 2) (ret := none) (by decide) rfl ?_
  intro p e s m args below meth c s₁ B hml hv
  obtain ⟨rfl, hsz, hP, hK, hD0⟩ := hv
  have hx := B.exec
  have hb := B.bytes
  have hr := B.returns
  have hts := atoms_spec (ws := wsX2_init) B.pre
  have hown : s.vm.findClass RX2 = some m.cls := findClass_of_methodNamed B.named
  have hlocks := B.notSynchronized
  have hin9 : meth.name = "<init>" := (name_of_methodNamed B.named B.method).1
  subst hsz
  have hD := hD0.self (sz := s.heap.size)
  generalize hAe : va_A (modNew h) s.heap.size = A at hD ⊢
  have hA : ∀ q : Nat, s.heap.size ≤ q → A q := fun q h => by rw [← hAe]; exact Or.inr h
  have hS : va_S A s.heap s.heap [] := va_S.rf
  replace hP : va_P D vwCl (modNew h) s.heap := hP
  have hl := lv_entry ([.ref h]) (n := 2) (Nat.le_of_ble_eq_true rfl)
  rw [lg_entry_eq]
  generalize (lg_sl ([.ref h]) ++ List.replicate (2 - (lg_sl ([.ref h])).length) Slot.unset).toArray = ls at hl ⊢
  replace hl : lv_has ls 2 [(0, .ref h)] := hl
  refine (?_ : ∀ (H : Heap) (locs : List Loc), va_P D vwCl (modNew h) H → va_S A s.heap H locs → W p l e _ s m _ below meth c H locs 0 0 _ (F0 m 0 ls [])) s.heap [] hP hS
  intro H locs hP hS
  refine lv_aload_n hx hb dX2_init_0 rfl (lv_at hl 0 rfl) ?_
  refine W.objInit hx hb hown (hts _ (cwc _ mw_333)) (hts _ (cwc _ mw_16)) (hts _ (cwc _ mw_17)) rfl (by rw [hml]; exact hl.1) rfl dX2_init_1 (Nat.le_of_ble_eq_true rfl) (Nat.le_of_ble_eq_true rfl) ?_
  refine W.eq (g2 := F0 m 4 ls []) rfl ?_
  refine lv_aload_n hx hb dX2_init_4 rfl (lv_at hl 0 rfl) ?_
  refine lv_sipush (v := (10000 : Int32)) hx hb dX2_init_5 (by decide +kernel) ?_
  refine va_put (D := D) (ci := 2) (v := .int (10000 : Int32)) (ty := .int) (C := RX2) (T := TX2) (N := 18) hx hb hts (fun w h => cwc w (in_X2 w h)) tyX2 tyX2_ok nmX2 hown hK hP hD hS 0 rfl rfl 2 (by decide) (hts _ (cwc _ mw_337)) (fun _ h9 => h9) rfl (by decide +kernel) rfl rfl (Nat.le_of_ble_eq_true rfl) dX2_init_8 (fun H locs hP hD hS => ?_)
  replace hP : va_P D vwCl [(h, .inr (2, [.int 0, .int 0, .int (10000 : Int32), .int 0, .int 0, .null, .null, .null, .null, .null, .null, .null, .null, .null, .null, .null, .null, .null]))] H := hP
  replace hD : va_D A [(h, .inr (2, [.int 0, .int 0, .int (10000 : Int32), .int 0, .int 0, .null, .null, .null, .null, .null, .null, .null, .null, .null, .null, .null, .null, .null]))] := hD
  refine lv_aload_n hx hb dX2_init_11 rfl (lv_at hl 0 rfl) ?_
  refine lv_bipush (v := (8 : Int32)) hx hb dX2_init_12 (by decide +kernel) ?_
  refine va_newa (atype := .int) (N' := 8) (a0 := (8, .inl (fun _ => 0))) (ty := .int) (n := (8 : Int32)) hx hb (hts _ (cwc _ mw_34)) rfl hK hP hD hS hA (fun _ => rfl) (by decide +kernel) (by decide +kernel) (by decide +kernel) (Nat.le_of_ble_eq_true rfl) (Nat.le_of_ble_eq_true rfl) dX2_init_14 (fun q1 cA1 H hK9 hP hD hS => ?_)
  have hcA : cA1 = cI := kuniqI hK9 (i := 2) (j := 0) rfl rfl
  rw [hcA] at hP hD
  clear hK9
  clear hcA
  replace hP : va_P D vwCl [(h, .inr (2, [.int 0, .int 0, .int (10000 : Int32), .int 0, .int 0, .null, .null, .null, .null, .null, .null, .null, .null, .null, .null, .null, .null, .null])), (q1, .inl (cI, 8, .inl (fun _ => 0)))] H := hP
  replace hD : va_D A [(h, .inr (2, [.int 0, .int 0, .int (10000 : Int32), .int 0, .int 0, .null, .null, .null, .null, .null, .null, .null, .null, .null, .null, .null, .null, .null])), (q1, .inl (cI, 8, .inl (fun _ => 0)))] := hD
  refine (?_ : W p l e _ s m _ below meth c H _ 1 8 _ _)
  refine va_putF (D := D) (ci := 2) (v := .ref q1) (ty := .array .int) (C := RX2) (T := TX2) (N := 18) hx hb hts (fun w h => cwc w (in_X2 w h)) tyX2 tyX2_ok nmX2 hown hK hP hD hS 0 rfl rfl 5 (by decide) (hts _ (cwc _ mw_340)) (fun _ h9 => h9) rfl hin9 rfl (by decide +kernel) rfl rfl (Nat.le_of_ble_eq_true rfl) dX2_init_16 (fun H locs hP hD hS => ?_)
  replace hP : va_P D vwCl [(h, .inr (2, [.int 0, .int 0, .int (10000 : Int32), .int 0, .int 0, .ref q1, .null, .null, .null, .null, .null, .null, .null, .null, .null, .null, .null, .null])), (q1, .inl (cI, 8, .inl (fun _ => 0)))] H := hP
  replace hD : va_D A [(h, .inr (2, [.int 0, .int 0, .int (10000 : Int32), .int 0, .int 0, .ref q1, .null, .null, .null, .null, .null, .null, .null, .null, .null, .null, .null, .null])), (q1, .inl (cI, 8, .inl (fun _ => 0)))] := hD
  refine lv_aload_n hx hb dX2_init_19 rfl (lv_at hl 0 rfl) ?_
  refine lv_bipush (v := (8 : Int32)) hx hb dX2_init_20 (by decide +kernel) ?_
  refine va_newa (atype := .int) (N' := 8) (a0 := (8, .inl (fun _ => 0))) (ty := .int) (n := (8 : Int32)) hx hb (hts _ (cwc _ mw_34)) rfl hK hP hD hS hA (fun _ => rfl) (by decide +kernel) (by decide +kernel) (by decide +kernel) (Nat.le_of_ble_eq_true rfl) (Nat.le_of_ble_eq_true rfl) dX2_init_22 (fun q2 cA2 H hK9 hP hD hS => ?_)
  have hcA : cA2 = cI := kuniqI hK9 (i := 2) (j := 0) rfl rfl
  rw [hcA] at hP hD
  clear hK9
  clear hcA
  replace hP : va_P D vwCl [(h, .inr (2, [.int 0, .int 0, .int (10000 : Int32), .int 0, .int 0, .ref q1, .null, .null, .null, .null, .null, .null, .null, .null, .null, .null, .null, .null])), (q1, .inl (cI, 8, .inl (fun _ => 0))), (q2, .inl (cI, 8, .inl (fun _ => 0)))] H := hP
  replace hD : va_D A [(h, .inr (2, [.int 0, .int 0, .int (10000 : Int32), .int 0, .int 0, .ref q1, .null, .null, .null, .null, .null, .null, .null, .null, .null, .null, .null, .null])), (q1, .inl (cI, 8, .inl (fun _ => 0))), (q2, .inl (cI, 8, .inl (fun _ => 0)))] := hD
  refine (?_ : W p l e _ s m _ below meth c H _ 2 16 _ _)
  refine va_putF (D := D) (ci := 2) (v := .ref q2) (ty := .array .int) (C := RX2) (T := TX2) (N := 18) hx hb hts (fun w h => cwc w (in_X2 w h)) tyX2 tyX2_ok nmX2 hown hK hP hD hS 0 rfl rfl 6 (by decide) (hts _ (cwc _ mw_341)) (fun _ h9 => h9) rfl hin9 rfl (by decide +kernel) rfl rfl (Nat.le_of_ble_eq_true rfl) dX2_init_24 (fun H locs hP hD hS => ?_)
  replace hP : va_P D vwCl [(h, .inr (2, [.int 0, .int 0, .int (10000 : Int32), .int 0, .int 0, .ref q1, .ref q2, .null, .null, .null, .null, .null, .null, .null, .null, .null, .null, .null])), (q1, .inl (cI, 8, .inl (fun _ => 0))), (q2, .inl (cI, 8, .inl (fun _ => 0)))] H := hP
  replace hD : va_D A [(h, .inr (2, [.int 0, .int 0, .int (10000 : Int32), .int 0, .int 0, .ref q1, .ref q2, .null, .null, .null, .null, .null, .null, .null, .null, .null, .null, .null])), (q1, .inl (cI, 8, .inl (fun _ => 0))), (q2, .inl (cI, 8, .inl (fun _ => 0)))] := hD
  refine lv_aload_n hx hb dX2_init_27 rfl (lv_at hl 0 rfl) ?_
  refine lv_bipush (v := (8 : Int32)) hx hb dX2_init_28 (by decide +kernel) ?_
  refine va_newa (atype := .int) (N' := 8) (a0 := (8, .inl (fun _ => 0))) (ty := .int) (n := (8 : Int32)) hx hb (hts _ (cwc _ mw_34)) rfl hK hP hD hS hA (fun _ => rfl) (by decide +kernel) (by decide +kernel) (by decide +kernel) (Nat.le_of_ble_eq_true rfl) (Nat.le_of_ble_eq_true rfl) dX2_init_30 (fun q3 cA3 H hK9 hP hD hS => ?_)
  have hcA : cA3 = cI := kuniqI hK9 (i := 2) (j := 0) rfl rfl
  rw [hcA] at hP hD
  clear hK9
  clear hcA
  replace hP : va_P D vwCl [(h, .inr (2, [.int 0, .int 0, .int (10000 : Int32), .int 0, .int 0, .ref q1, .ref q2, .null, .null, .null, .null, .null, .null, .null, .null, .null, .null, .null])), (q1, .inl (cI, 8, .inl (fun _ => 0))), (q2, .inl (cI, 8, .inl (fun _ => 0))), (q3, .inl (cI, 8, .inl (fun _ => 0)))] H := hP
  replace hD : va_D A [(h, .inr (2, [.int 0, .int 0, .int (10000 : Int32), .int 0, .int 0, .ref q1, .ref q2, .null, .null, .null, .null, .null, .null, .null, .null, .null, .null, .null])), (q1, .inl (cI, 8, .inl (fun _ => 0))), (q2, .inl (cI, 8, .inl (fun _ => 0))), (q3, .inl (cI, 8, .inl (fun _ => 0)))] := hD
  refine (?_ : W p l e _ s m _ below meth c H _ 3 24 _ _)
  refine va_putF (D := D) (ci := 2) (v := .ref q3) (ty := .array .int) (C := RX2) (T := TX2) (N := 18) hx hb hts (fun w h => cwc w (in_X2 w h)) tyX2 tyX2_ok nmX2 hown hK hP hD hS 0 rfl rfl 7 (by decide) (hts _ (cwc _ mw_342)) (fun _ h9 => h9) rfl hin9 rfl (by decide +kernel) rfl rfl (Nat.le_of_ble_eq_true rfl) dX2_init_32 (fun H locs hP hD hS => ?_)
  replace hP : va_P D vwCl [(h, .inr (2, [.int 0, .int 0, .int (10000 : Int32), .int 0, .int 0, .ref q1, .ref q2, .ref q3, .null, .null, .null, .null, .null, .null, .null, .null, .null, .null])), (q1, .inl (cI, 8, .inl (fun _ => 0))), (q2, .inl (cI, 8, .inl (fun _ => 0))), (q3, .inl (cI, 8, .inl (fun _ => 0)))] H := hP
  replace hD : va_D A [(h, .inr (2, [.int 0, .int 0, .int (10000 : Int32), .int 0, .int 0, .ref q1, .ref q2, .ref q3, .null, .null, .null, .null, .null, .null, .null, .null, .null, .null])), (q1, .inl (cI, 8, .inl (fun _ => 0))), (q2, .inl (cI, 8, .inl (fun _ => 0))), (q3, .inl (cI, 8, .inl (fun _ => 0)))] := hD
  refine lv_aload_n hx hb dX2_init_35 rfl (lv_at hl 0 rfl) ?_
  refine lv_bipush (v := (32 : Int32)) hx hb dX2_init_36 (by decide +kernel) ?_
  refine va_newa (atype := .int) (N' := 32) (a0 := (32, .inl (fun _ => 0))) (ty := .int) (n := (32 : Int32)) hx hb (hts _ (cwc _ mw_34)) rfl hK hP hD hS hA (fun _ => rfl) (by decide +kernel) (by decide +kernel) (by decide +kernel) (Nat.le_of_ble_eq_true rfl) (Nat.le_of_ble_eq_true rfl) dX2_init_38 (fun q4 cA4 H hK9 hP hD hS => ?_)
  have hcA : cA4 = cI := kuniqI hK9 (i := 2) (j := 0) rfl rfl
  rw [hcA] at hP hD
  clear hK9
  clear hcA
  replace hP : va_P D vwCl [(h, .inr (2, [.int 0, .int 0, .int (10000 : Int32), .int 0, .int 0, .ref q1, .ref q2, .ref q3, .null, .null, .null, .null, .null, .null, .null, .null, .null, .null])), (q1, .inl (cI, 8, .inl (fun _ => 0))), (q2, .inl (cI, 8, .inl (fun _ => 0))), (q3, .inl (cI, 8, .inl (fun _ => 0))), (q4, .inl (cI, 32, .inl (fun _ => 0)))] H := hP
  replace hD : va_D A [(h, .inr (2, [.int 0, .int 0, .int (10000 : Int32), .int 0, .int 0, .ref q1, .ref q2, .ref q3, .null, .null, .null, .null, .null, .null, .null, .null, .null, .null])), (q1, .inl (cI, 8, .inl (fun _ => 0))), (q2, .inl (cI, 8, .inl (fun _ => 0))), (q3, .inl (cI, 8, .inl (fun _ => 0))), (q4, .inl (cI, 32, .inl (fun _ => 0)))] := hD
  refine (?_ : W p l e _ s m _ below meth c H _ 4 56 _ _)
  refine va_putF (D := D) (ci := 2) (v := .ref q4) (ty := .array .int) (C := RX2) (T := TX2) (N := 18) hx hb hts (fun w h => cwc w (in_X2 w h)) tyX2 tyX2_ok nmX2 hown hK hP hD hS 0 rfl rfl 8 (by decide) (hts _ (cwc _ mw_343)) (fun _ h9 => h9) rfl hin9 rfl (by decide +kernel) rfl rfl (Nat.le_of_ble_eq_true rfl) dX2_init_40 (fun H locs hP hD hS => ?_)
  replace hP : va_P D vwCl [(h, .inr (2, [.int 0, .int 0, .int (10000 : Int32), .int 0, .int 0, .ref q1, .ref q2, .ref q3, .ref q4, .null, .null, .null, .null, .null, .null, .null, .null, .null])), (q1, .inl (cI, 8, .inl (fun _ => 0))), (q2, .inl (cI, 8, .inl (fun _ => 0))), (q3, .inl (cI, 8, .inl (fun _ => 0))), (q4, .inl (cI, 32, .inl (fun _ => 0)))] H := hP
  replace hD : va_D A [(h, .inr (2, [.int 0, .int 0, .int (10000 : Int32), .int 0, .int 0, .ref q1, .ref q2, .ref q3, .ref q4, .null, .null, .null, .null, .null, .null, .null, .null, .null])), (q1, .inl (cI, 8, .inl (fun _ => 0))), (q2, .inl (cI, 8, .inl (fun _ => 0))), (q3, .inl (cI, 8, .inl (fun _ => 0))), (q4, .inl (cI, 32, .inl (fun _ => 0)))] := hD
  refine lv_aload_n hx hb dX2_init_43 rfl (lv_at hl 0 rfl) ?_
  refine lv_bipush (v := (32 : Int32)) hx hb dX2_init_44 (by decide +kernel) ?_
  refine va_newa (atype := .int) (N' := 32) (a0 := (32, .inl (fun _ => 0))) (ty := .int) (n := (32 : Int32)) hx hb (hts _ (cwc _ mw_34)) rfl hK hP hD hS hA (fun _ => rfl) (by decide +kernel) (by decide +kernel) (by decide +kernel) (Nat.le_of_ble_eq_true rfl) (Nat.le_of_ble_eq_true rfl) dX2_init_46 (fun q5 cA5 H hK9 hP hD hS => ?_)
  have hcA : cA5 = cI := kuniqI hK9 (i := 2) (j := 0) rfl rfl
  rw [hcA] at hP hD
  clear hK9
  clear hcA
  replace hP : va_P D vwCl [(h, .inr (2, [.int 0, .int 0, .int (10000 : Int32), .int 0, .int 0, .ref q1, .ref q2, .ref q3, .ref q4, .null, .null, .null, .null, .null, .null, .null, .null, .null])), (q1, .inl (cI, 8, .inl (fun _ => 0))), (q2, .inl (cI, 8, .inl (fun _ => 0))), (q3, .inl (cI, 8, .inl (fun _ => 0))), (q4, .inl (cI, 32, .inl (fun _ => 0))), (q5, .inl (cI, 32, .inl (fun _ => 0)))] H := hP
  replace hD : va_D A [(h, .inr (2, [.int 0, .int 0, .int (10000 : Int32), .int 0, .int 0, .ref q1, .ref q2, .ref q3, .ref q4, .null, .null, .null, .null, .null, .null, .null, .null, .null])), (q1, .inl (cI, 8, .inl (fun _ => 0))), (q2, .inl (cI, 8, .inl (fun _ => 0))), (q3, .inl (cI, 8, .inl (fun _ => 0))), (q4, .inl (cI, 32, .inl (fun _ => 0))), (q5, .inl (cI, 32, .inl (fun _ => 0)))] := hD
  refine (?_ : W p l e _ s m _ below meth c H _ 5 88 _ _)
  refine va_putF (D := D) (ci := 2) (v := .ref q5) (ty := .array .int) (C := RX2) (T := TX2) (N := 18) hx hb hts (fun w h => cwc w (in_X2 w h)) tyX2 tyX2_ok nmX2 hown hK hP hD hS 0 rfl rfl 9 (by decide) (hts _ (cwc _ mw_344)) (fun _ h9 => h9) rfl hin9 rfl (by decide +kernel) rfl rfl (Nat.le_of_ble_eq_true rfl) dX2_init_48 (fun H locs hP hD hS => ?_)
  replace hP : va_P D vwCl [(h, .inr (2, [.int 0, .int 0, .int (10000 : Int32), .int 0, .int 0, .ref q1, .ref q2, .ref q3, .ref q4, .ref q5, .null, .null, .null, .null, .null, .null, .null, .null])), (q1, .inl (cI, 8, .inl (fun _ => 0))), (q2, .inl (cI, 8, .inl (fun _ => 0))), (q3, .inl (cI, 8, .inl (fun _ => 0))), (q4, .inl (cI, 32, .inl (fun _ => 0))), (q5, .inl (cI, 32, .inl (fun _ => 0)))] H := hP
  replace hD : va_D A [(h, .inr (2, [.int 0, .int 0, .int (10000 : Int32), .int 0, .int 0, .ref q1, .ref q2, .ref q3, .ref q4, .ref q5, .null, .null, .null, .null, .null, .null, .null, .null])), (q1, .inl (cI, 8, .inl (fun _ => 0))), (q2, .inl (cI, 8, .inl (fun _ => 0))), (q3, .inl (cI, 8, .inl (fun _ => 0))), (q4, .inl (cI, 32, .inl (fun _ => 0))), (q5, .inl (cI, 32, .inl (fun _ => 0)))] := hD
  refine lv_aload_n hx hb dX2_init_51 rfl (lv_at hl 0 rfl) ?_
  refine lv_bipush (v := (16 : Int32)) hx hb dX2_init_52 (by decide +kernel) ?_
  refine va_newa (atype := .int) (N' := 16) (a0 := (16, .inl (fun _ => 0))) (ty := .int) (n := (16 : Int32)) hx hb (hts _ (cwc _ mw_34)) rfl hK hP hD hS hA (fun _ => rfl) (by decide +kernel) (by decide +kernel) (by decide +kernel) (Nat.le_of_ble_eq_true rfl) (Nat.le_of_ble_eq_true rfl) dX2_init_54 (fun q6 cA6 H hK9 hP hD hS => ?_)
  have hcA : cA6 = cI := kuniqI hK9 (i := 2) (j := 0) rfl rfl
  rw [hcA] at hP hD
  clear hK9
  clear hcA
  replace hP : va_P D vwCl [(h, .inr (2, [.int 0, .int 0, .int (10000 : Int32), .int 0, .int 0, .ref q1, .ref q2, .ref q3, .ref q4, .ref q5, .null, .null, .null, .null, .null, .null, .null, .null])), (q1, .inl (cI, 8, .inl (fun _ => 0))), (q2, .inl (cI, 8, .inl (fun _ => 0))), (q3, .inl (cI, 8, .inl (fun _ => 0))), (q4, .inl (cI, 32, .inl (fun _ => 0))), (q5, .inl (cI, 32, .inl (fun _ => 0))), (q6, .inl (cI, 16, .inl (fun _ => 0)))] H := hP
  replace hD : va_D A [(h, .inr (2, [.int 0, .int 0, .int (10000 : Int32), .int 0, .int 0, .ref q1, .ref q2, .ref q3, .ref q4, .ref q5, .null, .null, .null, .null, .null, .null, .null, .null])), (q1, .inl (cI, 8, .inl (fun _ => 0))), (q2, .inl (cI, 8, .inl (fun _ => 0))), (q3, .inl (cI, 8, .inl (fun _ => 0))), (q4, .inl (cI, 32, .inl (fun _ => 0))), (q5, .inl (cI, 32, .inl (fun _ => 0))), (q6, .inl (cI, 16, .inl (fun _ => 0)))] := hD
  refine (?_ : W p l e _ s m _ below meth c H _ 6 104 _ _)
  refine va_putF (D := D) (ci := 2) (v := .ref q6) (ty := .array .int) (C := RX2) (T := TX2) (N := 18) hx hb hts (fun w h => cwc w (in_X2 w h)) tyX2 tyX2_ok nmX2 hown hK hP hD hS 0 rfl rfl 10 (by decide) (hts _ (cwc _ mw_345)) (fun _ h9 => h9) rfl hin9 rfl (by decide +kernel) rfl rfl (Nat.le_of_ble_eq_true rfl) dX2_init_56 (fun H locs hP hD hS => ?_)
  replace hP : va_P D vwCl [(h, .inr (2, [.int 0, .int 0, .int (10000 : Int32), .int 0, .int 0, .ref q1, .ref q2, .ref q3, .ref q4, .ref q5, .ref q6, .null, .null, .null, .null, .null, .null, .null])), (q1, .inl (cI, 8, .inl (fun _ => 0))), (q2, .inl (cI, 8, .inl (fun _ => 0))), (q3, .inl (cI, 8, .inl (fun _ => 0))), (q4, .inl (cI, 32, .inl (fun _ => 0))), (q5, .inl (cI, 32, .inl (fun _ => 0))), (q6, .inl (cI, 16, .inl (fun _ => 0)))] H := hP
  replace hD : va_D A [(h, .inr (2, [.int 0, .int 0, .int (10000 : Int32), .int 0, .int 0, .ref q1, .ref q2, .ref q3, .ref q4, .ref q5, .ref q6, .null, .null, .null, .null, .null, .null, .null])), (q1, .inl (cI, 8, .inl (fun _ => 0))), (q2, .inl (cI, 8, .inl (fun _ => 0))), (q3, .inl (cI, 8, .inl (fun _ => 0))), (q4, .inl (cI, 32, .inl (fun _ => 0))), (q5, .inl (cI, 32, .inl (fun _ => 0))), (q6, .inl (cI, 16, .inl (fun _ => 0)))] := hD
  refine lv_aload_n hx hb dX2_init_59 rfl (lv_at hl 0 rfl) ?_
  refine lv_bipush (v := (16 : Int32)) hx hb dX2_init_60 (by decide +kernel) ?_
  refine va_newa (atype := .int) (N' := 16) (a0 := (16, .inl (fun _ => 0))) (ty := .int) (n := (16 : Int32)) hx hb (hts _ (cwc _ mw_34)) rfl hK hP hD hS hA (fun _ => rfl) (by decide +kernel) (by decide +kernel) (by decide +kernel) (Nat.le_of_ble_eq_true rfl) (Nat.le_of_ble_eq_true rfl) dX2_init_62 (fun q7 cA7 H hK9 hP hD hS => ?_)
  have hcA : cA7 = cI := kuniqI hK9 (i := 2) (j := 0) rfl rfl
  rw [hcA] at hP hD
  clear hK9
  clear hcA
  replace hP : va_P D vwCl [(h, .inr (2, [.int 0, .int 0, .int (10000 : Int32), .int 0, .int 0, .ref q1, .ref q2, .ref q3, .ref q4, .ref q5, .ref q6, .null, .null, .null, .null, .null, .null, .null])), (q1, .inl (cI, 8, .inl (fun _ => 0))), (q2, .inl (cI, 8, .inl (fun _ => 0))), (q3, .inl (cI, 8, .inl (fun _ => 0))), (q4, .inl (cI, 32, .inl (fun _ => 0))), (q5, .inl (cI, 32, .inl (fun _ => 0))), (q6, .inl (cI, 16, .inl (fun _ => 0))), (q7, .inl (cI, 16, .inl (fun _ => 0)))] H := hP
  replace hD : va_D A [(h, .inr (2, [.int 0, .int 0, .int (10000 : Int32), .int 0, .int 0, .ref q1, .ref q2, .ref q3, .ref q4, .ref q5, .ref q6, .null, .null, .null, .null, .null, .null, .null])), (q1, .inl (cI, 8, .inl (fun _ => 0))), (q2, .inl (cI, 8, .inl (fun _ => 0))), (q3, .inl (cI, 8, .inl (fun _ => 0))), (q4, .inl (cI, 32, .inl (fun _ => 0))), (q5, .inl (cI, 32, .inl (fun _ => 0))), (q6, .inl (cI, 16, .inl (fun _ => 0))), (q7, .inl (cI, 16, .inl (fun _ => 0)))] := hD
  refine (?_ : W p l e _ s m _ below meth c H _ 7 120 _ _)
  refine va_putF (D := D) (ci := 2) (v := .ref q7) (ty := .array .int) (C := RX2) (T := TX2) (N := 18) hx hb hts (fun w h => cwc w (in_X2 w h)) tyX2 tyX2_ok nmX2 hown hK hP hD hS 0 rfl rfl 11 (by decide) (hts _ (cwc _ mw_346)) (fun _ h9 => h9) rfl hin9 rfl (by decide +kernel) rfl rfl (Nat.le_of_ble_eq_true rfl) dX2_init_64 (fun H locs hP hD hS => ?_)
  replace hP : va_P D vwCl [(h, .inr (2, [.int 0, .int 0, .int (10000 : Int32), .int 0, .int 0, .ref q1, .ref q2, .ref q3, .ref q4, .ref q5, .ref q6, .ref q7, .null, .null, .null, .null, .null, .null])), (q1, .inl (cI, 8, .inl (fun _ => 0))), (q2, .inl (cI, 8, .inl (fun _ => 0))), (q3, .inl (cI, 8, .inl (fun _ => 0))), (q4, .inl (cI, 32, .inl (fun _ => 0))), (q5, .inl (cI, 32, .inl (fun _ => 0))), (q6, .inl (cI, 16, .inl (fun _ => 0))), (q7, .inl (cI, 16, .inl (fun _ => 0)))] H := hP
  replace hD : va_D A [(h, .inr (2, [.int 0, .int 0, .int (10000 : Int32), .int 0, .int 0, .ref q1, .ref q2, .ref q3, .ref q4, .ref q5, .ref q6, .ref q7, .null, .null, .null, .null, .null, .null])), (q1, .inl (cI, 8, .inl (fun _ => 0))), (q2, .inl (cI, 8, .inl (fun _ => 0))), (q3, .inl (cI, 8, .inl (fun _ => 0))), (q4, .inl (cI, 32, .inl (fun _ => 0))), (q5, .inl (cI, 32, .inl (fun _ => 0))), (q6, .inl (cI, 16, .inl (fun _ => 0))), (q7, .inl (cI, 16, .inl (fun _ => 0)))] := hD
  refine lv_aload_n hx hb dX2_init_67 rfl (lv_at hl 0 rfl) ?_
  refine lv_bipush (v := (49 : Int32)) hx hb dX2_init_68 (by decide +kernel) ?_
  refine va_newa (atype := .int) (N' := 49) (a0 := (49, .inl (fun _ => 0))) (ty := .int) (n := (49 : Int32)) hx hb (hts _ (cwc _ mw_34)) rfl hK hP hD hS hA (fun _ => rfl) (by decide +kernel) (by decide +kernel) (by decide +kernel) (Nat.le_of_ble_eq_true rfl) (Nat.le_of_ble_eq_true rfl) dX2_init_70 (fun q8 cA8 H hK9 hP hD hS => ?_)
  have hcA : cA8 = cI := kuniqI hK9 (i := 2) (j := 0) rfl rfl
  rw [hcA] at hP hD
  clear hK9
  clear hcA
  replace hP : va_P D vwCl [(h, .inr (2, [.int 0, .int 0, .int (10000 : Int32), .int 0, .int 0, .ref q1, .ref q2, .ref q3, .ref q4, .ref q5, .ref q6, .ref q7, .null, .null, .null, .null, .null, .null])), (q1, .inl (cI, 8, .inl (fun _ => 0))), (q2, .inl (cI, 8, .inl (fun _ => 0))), (q3, .inl (cI, 8, .inl (fun _ => 0))), (q4, .inl (cI, 32, .inl (fun _ => 0))), (q5, .inl (cI, 32, .inl (fun _ => 0))), (q6, .inl (cI, 16, .inl (fun _ => 0))), (q7, .inl (cI, 16, .inl (fun _ => 0))), (q8, .inl (cI, 49, .inl (fun _ => 0)))] H := hP
  replace hD : va_D A [(h, .inr (2, [.int 0, .int 0, .int (10000 : Int32), .int 0, .int 0, .ref q1, .ref q2, .ref q3, .ref q4, .ref q5, .ref q6, .ref q7, .null, .null, .null, .null, .null, .null])), (q1, .inl (cI, 8, .inl (fun _ => 0))), (q2, .inl (cI, 8, .inl (fun _ => 0))), (q3, .inl (cI, 8, .inl (fun _ => 0))), (q4, .inl (cI, 32, .inl (fun _ => 0))), (q5, .inl (cI, 32, .inl (fun _ => 0))), (q6, .inl (cI, 16, .inl (fun _ => 0))), (q7, .inl (cI, 16, .inl (fun _ => 0))), (q8, .inl (cI, 49, .inl (fun _ => 0)))] := hD
  refine (?_ : W p l e _ s m _ below meth c H _ 8 169 _ _)
  refine va_putF (D := D) (ci := 2) (v := .ref q8) (ty := .array .int) (C := RX2) (T := TX2) (N := 18) hx hb hts (fun w h => cwc w (in_X2 w h)) tyX2 tyX2_ok nmX2 hown hK hP hD hS 0 rfl rfl 12 (by decide) (hts _ (cwc _ mw_347)) (fun _ h9 => h9) rfl hin9 rfl (by decide +kernel) rfl rfl (Nat.le_of_ble_eq_true rfl) dX2_init_72 (fun H locs hP hD hS => ?_)
  replace hP : va_P D vwCl [(h, .inr (2, [.int 0, .int 0, .int (10000 : Int32), .int 0, .int 0, .ref q1, .ref q2, .ref q3, .ref q4, .ref q5, .ref q6, .ref q7, .ref q8, .null, .null, .null, .null, .null])), (q1, .inl (cI, 8, .inl (fun _ => 0))), (q2, .inl (cI, 8, .inl (fun _ => 0))), (q3, .inl (cI, 8, .inl (fun _ => 0))), (q4, .inl (cI, 32, .inl (fun _ => 0))), (q5, .inl (cI, 32, .inl (fun _ => 0))), (q6, .inl (cI, 16, .inl (fun _ => 0))), (q7, .inl (cI, 16, .inl (fun _ => 0))), (q8, .inl (cI, 49, .inl (fun _ => 0)))] H := hP
  replace hD : va_D A [(h, .inr (2, [.int 0, .int 0, .int (10000 : Int32), .int 0, .int 0, .ref q1, .ref q2, .ref q3, .ref q4, .ref q5, .ref q6, .ref q7, .ref q8, .null, .null, .null, .null, .null])), (q1, .inl (cI, 8, .inl (fun _ => 0))), (q2, .inl (cI, 8, .inl (fun _ => 0))), (q3, .inl (cI, 8, .inl (fun _ => 0))), (q4, .inl (cI, 32, .inl (fun _ => 0))), (q5, .inl (cI, 32, .inl (fun _ => 0))), (q6, .inl (cI, 16, .inl (fun _ => 0))), (q7, .inl (cI, 16, .inl (fun _ => 0))), (q8, .inl (cI, 49, .inl (fun _ => 0)))] := hD
  refine lv_aload_n hx hb dX2_init_75 rfl (lv_at hl 0 rfl) ?_
  refine lv_ldc (v := (49000 : Int32)) hx hb hown (hts _ (cwc _ mw_334)) dX2_init_76 ?_
  refine va_newa (atype := .int) (N' := 49000) (a0 := (49000, .inl (fun _ => 0))) (ty := .int) (n := (49000 : Int32)) hx hb (hts _ (cwc _ mw_34)) rfl hK hP hD hS hA (fun _ => rfl) (by decide +kernel) (by decide +kernel) (by decide +kernel) (Nat.le_of_ble_eq_true rfl) (Nat.le_of_ble_eq_true rfl) dX2_init_78 (fun q9 cA9 H hK9 hP hD hS => ?_)
  have hcA : cA9 = cI := kuniqI hK9 (i := 2) (j := 0) rfl rfl
  rw [hcA] at hP hD
  clear hK9
  clear hcA
  replace hP : va_P D vwCl [(h, .inr (2, [.int 0, .int 0, .int (10000 : Int32), .int 0, .int 0, .ref q1, .ref q2, .ref q3, .ref q4, .ref q5, .ref q6, .ref q7, .ref q8, .null, .null, .null, .null, .null])), (q1, .inl (cI, 8, .inl (fun _ => 0))), (q2, .inl (cI, 8, .inl (fun _ => 0))), (q3, .inl (cI, 8, .inl (fun _ => 0))), (q4, .inl (cI, 32, .inl (fun _ => 0))), (q5, .inl (cI, 32, .inl (fun _ => 0))), (q6, .inl (cI, 16, .inl (fun _ => 0))), (q7, .inl (cI, 16, .inl (fun _ => 0))), (q8, .inl (cI, 49, .inl (fun _ => 0))), (q9, .inl (cI, 49000, .inl (fun _ => 0)))] H := hP
  replace hD : va_D A [(h, .inr (2, [.int 0, .int 0, .int (10000 : Int32), .int 0, .int 0, .ref q1, .ref q2, .ref q3, .ref q4, .ref q5, .ref q6, .ref q7, .ref q8, .null, .null, .null, .null, .null])), (q1, .inl (cI, 8, .inl (fun _ => 0))), (q2, .inl (cI, 8, .inl (fun _ => 0))), (q3, .inl (cI, 8, .inl (fun _ => 0))), (q4, .inl (cI, 32, .inl (fun _ => 0))), (q5, .inl (cI, 32, .inl (fun _ => 0))), (q6, .inl (cI, 16, .inl (fun _ => 0))), (q7, .inl (cI, 16, .inl (fun _ => 0))), (q8, .inl (cI, 49, .inl (fun _ => 0))), (q9, .inl (cI, 49000, .inl (fun _ => 0)))] := hD
  refine (?_ : W p l e _ s m _ below meth c H _ 9 49169 _ _)
  refine va_putF (D := D) (ci := 2) (v := .ref q9) (ty := .array .int) (C := RX2) (T := TX2) (N := 18) hx hb hts (fun w h => cwc w (in_X2 w h)) tyX2 tyX2_ok nmX2 hown hK hP hD hS 0 rfl rfl 13 (by decide) (hts _ (cwc _ mw_348)) (fun _ h9 => h9) rfl hin9 rfl (by decide +kernel) rfl rfl (Nat.le_of_ble_eq_true rfl) dX2_init_80 (fun H locs hP hD hS => ?_)
  replace hP : va_P D vwCl [(h, .inr (2, [.int 0, .int 0, .int (10000 : Int32), .int 0, .int 0, .ref q1, .ref q2, .ref q3, .ref q4, .ref q5, .ref q6, .ref q7, .ref q8, .ref q9, .null, .null, .null, .null])), (q1, .inl (cI, 8, .inl (fun _ => 0))), (q2, .inl (cI, 8, .inl (fun _ => 0))), (q3, .inl (cI, 8, .inl (fun _ => 0))), (q4, .inl (cI, 32, .inl (fun _ => 0))), (q5, .inl (cI, 32, .inl (fun _ => 0))), (q6, .inl (cI, 16, .inl (fun _ => 0))), (q7, .inl (cI, 16, .inl (fun _ => 0))), (q8, .inl (cI, 49, .inl (fun _ => 0))), (q9, .inl (cI, 49000, .inl (fun _ => 0)))] H := hP
  replace hD : va_D A [(h, .inr (2, [.int 0, .int 0, .int (10000 : Int32), .int 0, .int 0, .ref q1, .ref q2, .ref q3, .ref q4, .ref q5, .ref q6, .ref q7, .ref q8, .ref q9, .null, .null, .null, .null])), (q1, .inl (cI, 8, .inl (fun _ => 0))), (q2, .inl (cI, 8, .inl (fun _ => 0))), (q3, .inl (cI, 8, .inl (fun _ => 0))), (q4, .inl (cI, 32, .inl (fun _ => 0))), (q5, .inl (cI, 32, .inl (fun _ => 0))), (q6, .inl (cI, 16, .inl (fun _ => 0))), (q7, .inl (cI, 16, .inl (fun _ => 0))), (q8, .inl (cI, 49, .inl (fun _ => 0))), (q9, .inl (cI, 49000, .inl (fun _ => 0)))] := hD
  refine lv_aload_n hx hb dX2_init_83 rfl (lv_at hl 0 rfl) ?_
  refine lv_ldc (v := (49000 : Int32)) hx hb hown (hts _ (cwc _ mw_334)) dX2_init_84 ?_
  refine va_newa (atype := .int) (N' := 49000) (a0 := (49000, .inl (fun _ => 0))) (ty := .int) (n := (49000 : Int32)) hx hb (hts _ (cwc _ mw_34)) rfl hK hP hD hS hA (fun _ => rfl) (by decide +kernel) (by decide +kernel) (by decide +kernel) (Nat.le_of_ble_eq_true rfl) (Nat.le_of_ble_eq_true rfl) dX2_init_86 (fun q10 cA10 H hK9 hP hD hS => ?_)
  have hcA : cA10 = cI := kuniqI hK9 (i := 2) (j := 0) rfl rfl
  rw [hcA] at hP hD
  clear hK9
  clear hcA
  replace hP : va_P D vwCl [(h, .inr (2, [.int 0, .int 0, .int (10000 : Int32), .int 0, .int 0, .ref q1, .ref q2, .ref q3, .ref q4, .ref q5, .ref q6, .ref q7, .ref q8, .ref q9, .null, .null, .null, .null])), (q1, .inl (cI, 8, .inl (fun _ => 0))), (q2, .inl (cI, 8, .inl (fun _ => 0))), (q3, .inl (cI, 8, .inl (fun _ => 0))), (q4, .inl (cI, 32, .inl (fun _ => 0))), (q5, .inl (cI, 32, .inl (fun _ => 0))), (q6, .inl (cI, 16, .inl (fun _ => 0))), (q7, .inl (cI, 16, .inl (fun _ => 0))), (q8, .inl (cI, 49, .inl (fun _ => 0))), (q9, .inl (cI, 49000, .inl (fun _ => 0))), (q10, .inl (cI, 49000, .inl (fun _ => 0)))] H := hP
  replace hD : va_D A [(h, .inr (2, [.int 0, .int 0, .int (10000 : Int32), .int 0, .int 0, .ref q1, .ref q2, .ref q3, .ref q4, .ref q5, .ref q6, .ref q7, .ref q8, .ref q9, .null, .null, .null, .null])), (q1, .inl (cI, 8, .inl (fun _ => 0))), (q2, .inl (cI, 8, .inl (fun _ => 0))), (q3, .inl (cI, 8, .inl (fun _ => 0))), (q4, .inl (cI, 32, .inl (fun _ => 0))), (q5, .inl (cI, 32, .inl (fun _ => 0))), (q6, .inl (cI, 16, .inl (fun _ => 0))), (q7, .inl (cI, 16, .inl (fun _ => 0))), (q8, .inl (cI, 49, .inl (fun _ => 0))), (q9, .inl (cI, 49000, .inl (fun _ => 0))), (q10, .inl (cI, 49000, .inl (fun _ => 0)))] := hD
  refine (?_ : W p l e _ s m _ below meth c H _ 10 98169 _ _)
  refine va_putF (D := D) (ci := 2) (v := .ref q10) (ty := .array .int) (C := RX2) (T := TX2) (N := 18) hx hb hts (fun w h => cwc w (in_X2 w h)) tyX2 tyX2_ok nmX2 hown hK hP hD hS 0 rfl rfl 14 (by decide) (hts _ (cwc _ mw_349)) (fun _ h9 => h9) rfl hin9 rfl (by decide +kernel) rfl rfl (Nat.le_of_ble_eq_true rfl) dX2_init_88 (fun H locs hP hD hS => ?_)
  replace hP : va_P D vwCl [(h, .inr (2, [.int 0, .int 0, .int (10000 : Int32), .int 0, .int 0, .ref q1, .ref q2, .ref q3, .ref q4, .ref q5, .ref q6, .ref q7, .ref q8, .ref q9, .ref q10, .null, .null, .null])), (q1, .inl (cI, 8, .inl (fun _ => 0))), (q2, .inl (cI, 8, .inl (fun _ => 0))), (q3, .inl (cI, 8, .inl (fun _ => 0))), (q4, .inl (cI, 32, .inl (fun _ => 0))), (q5, .inl (cI, 32, .inl (fun _ => 0))), (q6, .inl (cI, 16, .inl (fun _ => 0))), (q7, .inl (cI, 16, .inl (fun _ => 0))), (q8, .inl (cI, 49, .inl (fun _ => 0))), (q9, .inl (cI, 49000, .inl (fun _ => 0))), (q10, .inl (cI, 49000, .inl (fun _ => 0)))] H := hP
  replace hD : va_D A [(h, .inr (2, [.int 0, .int 0, .int (10000 : Int32), .int 0, .int 0, .ref q1, .ref q2, .ref q3, .ref q4, .ref q5, .ref q6, .ref q7, .ref q8, .ref q9, .ref q10, .null, .null, .null])), (q1, .inl (cI, 8, .inl (fun _ => 0))), (q2, .inl (cI, 8, .inl (fun _ => 0))), (q3, .inl (cI, 8, .inl (fun _ => 0))), (q4, .inl (cI, 32, .inl (fun _ => 0))), (q5, .inl (cI, 32, .inl (fun _ => 0))), (q6, .inl (cI, 16, .inl (fun _ => 0))), (q7, .inl (cI, 16, .inl (fun _ => 0))), (q8, .inl (cI, 49, .inl (fun _ => 0))), (q9, .inl (cI, 49000, .inl (fun _ => 0))), (q10, .inl (cI, 49000, .inl (fun _ => 0)))] := hD
  refine lv_aload_n hx hb dX2_init_91 rfl (lv_at hl 0 rfl) ?_
  refine lv_iconst (v := (4 : Int32)) hx hb dX2_init_92 (by decide +kernel) ?_
  refine va_newa (atype := .int) (N' := 4) (a0 := (4, .inl (fun _ => 0))) (ty := .int) (n := (4 : Int32)) hx hb (hts _ (cwc _ mw_34)) rfl hK hP hD hS hA (fun _ => rfl) (by decide +kernel) (by decide +kernel) (by decide +kernel) (Nat.le_of_ble_eq_true rfl) (Nat.le_of_ble_eq_true rfl) dX2_init_93 (fun q11 cA11 H hK9 hP hD hS => ?_)
  have hcA : cA11 = cI := kuniqI hK9 (i := 2) (j := 0) rfl rfl
  rw [hcA] at hP hD
  clear hK9
  clear hcA
  replace hP : va_P D vwCl [(h, .inr (2, [.int 0, .int 0, .int (10000 : Int32), .int 0, .int 0, .ref q1, .ref q2, .ref q3, .ref q4, .ref q5, .ref q6, .ref q7, .ref q8, .ref q9, .ref q10, .null, .null, .null])), (q1, .inl (cI, 8, .inl (fun _ => 0))), (q2, .inl (cI, 8, .inl (fun _ => 0))), (q3, .inl (cI, 8, .inl (fun _ => 0))), (q4, .inl (cI, 32, .inl (fun _ => 0))), (q5, .inl (cI, 32, .inl (fun _ => 0))), (q6, .inl (cI, 16, .inl (fun _ => 0))), (q7, .inl (cI, 16, .inl (fun _ => 0))), (q8, .inl (cI, 49, .inl (fun _ => 0))), (q9, .inl (cI, 49000, .inl (fun _ => 0))), (q10, .inl (cI, 49000, .inl (fun _ => 0))), (q11, .inl (cI, 4, .inl (fun _ => 0)))] H := hP
  replace hD : va_D A [(h, .inr (2, [.int 0, .int 0, .int (10000 : Int32), .int 0, .int 0, .ref q1, .ref q2, .ref q3, .ref q4, .ref q5, .ref q6, .ref q7, .ref q8, .ref q9, .ref q10, .null, .null, .null])), (q1, .inl (cI, 8, .inl (fun _ => 0))), (q2, .inl (cI, 8, .inl (fun _ => 0))), (q3, .inl (cI, 8, .inl (fun _ => 0))), (q4, .inl (cI, 32, .inl (fun _ => 0))), (q5, .inl (cI, 32, .inl (fun _ => 0))), (q6, .inl (cI, 16, .inl (fun _ => 0))), (q7, .inl (cI, 16, .inl (fun _ => 0))), (q8, .inl (cI, 49, .inl (fun _ => 0))), (q9, .inl (cI, 49000, .inl (fun _ => 0))), (q10, .inl (cI, 49000, .inl (fun _ => 0))), (q11, .inl (cI, 4, .inl (fun _ => 0)))] := hD
  refine (?_ : W p l e _ s m _ below meth c H _ 11 98173 _ _)
  refine va_putF (D := D) (ci := 2) (v := .ref q11) (ty := .array .int) (C := RX2) (T := TX2) (N := 18) hx hb hts (fun w h => cwc w (in_X2 w h)) tyX2 tyX2_ok nmX2 hown hK hP hD hS 0 rfl rfl 15 (by decide) (hts _ (cwc _ mw_350)) (fun _ h9 => h9) rfl hin9 rfl (by decide +kernel) rfl rfl (Nat.le_of_ble_eq_true rfl) dX2_init_95 (fun H locs hP hD hS => ?_)
  replace hP : va_P D vwCl [(h, .inr (2, [.int 0, .int 0, .int (10000 : Int32), .int 0, .int 0, .ref q1, .ref q2, .ref q3, .ref q4, .ref q5, .ref q6, .ref q7, .ref q8, .ref q9, .ref q10, .ref q11, .null, .null])), (q1, .inl (cI, 8, .inl (fun _ => 0))), (q2, .inl (cI, 8, .inl (fun _ => 0))), (q3, .inl (cI, 8, .inl (fun _ => 0))), (q4, .inl (cI, 32, .inl (fun _ => 0))), (q5, .inl (cI, 32, .inl (fun _ => 0))), (q6, .inl (cI, 16, .inl (fun _ => 0))), (q7, .inl (cI, 16, .inl (fun _ => 0))), (q8, .inl (cI, 49, .inl (fun _ => 0))), (q9, .inl (cI, 49000, .inl (fun _ => 0))), (q10, .inl (cI, 49000, .inl (fun _ => 0))), (q11, .inl (cI, 4, .inl (fun _ => 0)))] H := hP
  replace hD : va_D A [(h, .inr (2, [.int 0, .int 0, .int (10000 : Int32), .int 0, .int 0, .ref q1, .ref q2, .ref q3, .ref q4, .ref q5, .ref q6, .ref q7, .ref q8, .ref q9, .ref q10, .ref q11, .null, .null])), (q1, .inl (cI, 8, .inl (fun _ => 0))), (q2, .inl (cI, 8, .inl (fun _ => 0))), (q3, .inl (cI, 8, .inl (fun _ => 0))), (q4, .inl (cI, 32, .inl (fun _ => 0))), (q5, .inl (cI, 32, .inl (fun _ => 0))), (q6, .inl (cI, 16, .inl (fun _ => 0))), (q7, .inl (cI, 16, .inl (fun _ => 0))), (q8, .inl (cI, 49, .inl (fun _ => 0))), (q9, .inl (cI, 49000, .inl (fun _ => 0))), (q10, .inl (cI, 49000, .inl (fun _ => 0))), (q11, .inl (cI, 4, .inl (fun _ => 0)))] := hD
  refine lv_aload_n hx hb dX2_init_98 rfl (lv_at hl 0 rfl) ?_
  refine lv_iconst (v := (4 : Int32)) hx hb dX2_init_99 (by decide +kernel) ?_
  refine va_newa (atype := .int) (N' := 4) (a0 := (4, .inl (fun _ => 0))) (ty := .int) (n := (4 : Int32)) hx hb (hts _ (cwc _ mw_34)) rfl hK hP hD hS hA (fun _ => rfl) (by decide +kernel) (by decide +kernel) (by decide +kernel) (Nat.le_of_ble_eq_true rfl) (Nat.le_of_ble_eq_true rfl) dX2_init_100 (fun q12 cA12 H hK9 hP hD hS => ?_)
  have hcA : cA12 = cI := kuniqI hK9 (i := 2) (j := 0) rfl rfl
  rw [hcA] at hP hD
  clear hK9
  clear hcA
  replace hP : va_P D vwCl [(h, .inr (2, [.int 0, .int 0, .int (10000 : Int32), .int 0, .int 0, .ref q1, .ref q2, .ref q3, .ref q4, .ref q5, .ref q6, .ref q7, .ref q8, .ref q9, .ref q10, .ref q11, .null, .null])), (q1, .inl (cI, 8, .inl (fun _ => 0))), (q2, .inl (cI, 8, .inl (fun _ => 0))), (q3, .inl (cI, 8, .inl (fun _ => 0))), (q4, .inl (cI, 32, .inl (fun _ => 0))), (q5, .inl (cI, 32, .inl (fun _ => 0))), (q6, .inl (cI, 16, .inl (fun _ => 0))), (q7, .inl (cI, 16, .inl (fun _ => 0))), (q8, .inl (cI, 49, .inl (fun _ => 0))), (q9, .inl (cI, 49000, .inl (fun _ => 0))), (q10, .inl (cI, 49000, .inl (fun _ => 0))), (q11, .inl (cI, 4, .inl (fun _ => 0))), (q12, .inl (cI, 4, .inl (fun _ => 0)))] H := hP
  replace hD : va_D A [(h, .inr (2, [.int 0, .int 0, .int (10000 : Int32), .int 0, .int 0, .ref q1, .ref q2, .ref q3, .ref q4, .ref q5, .ref q6, .ref q7, .ref q8, .ref q9, .ref q10, .ref q11, .null, .null])), (q1, .inl (cI, 8, .inl (fun _ => 0))), (q2, .inl (cI, 8, .inl (fun _ => 0))), (q3, .inl (cI, 8, .inl (fun _ => 0))), (q4, .inl (cI, 32, .inl (fun _ => 0))), (q5, .inl (cI, 32, .inl (fun _ => 0))), (q6, .inl (cI, 16, .inl (fun _ => 0))), (q7, .inl (cI, 16, .inl (fun _ => 0))), (q8, .inl (cI, 49, .inl (fun _ => 0))), (q9, .inl (cI, 49000, .inl (fun _ => 0))), (q10, .inl (cI, 49000, .inl (fun _ => 0))), (q11, .inl (cI, 4, .inl (fun _ => 0))), (q12, .inl (cI, 4, .inl (fun _ => 0)))] := hD
  refine (?_ : W p l e _ s m _ below meth c H _ 12 98177 _ _)
  refine va_putF (D := D) (ci := 2) (v := .ref q12) (ty := .array .int) (C := RX2) (T := TX2) (N := 18) hx hb hts (fun w h => cwc w (in_X2 w h)) tyX2 tyX2_ok nmX2 hown hK hP hD hS 0 rfl rfl 16 (by decide) (hts _ (cwc _ mw_351)) (fun _ h9 => h9) rfl hin9 rfl (by decide +kernel) rfl rfl (Nat.le_of_ble_eq_true rfl) dX2_init_102 (fun H locs hP hD hS => ?_)
  replace hP : va_P D vwCl [(h, .inr (2, [.int 0, .int 0, .int (10000 : Int32), .int 0, .int 0, .ref q1, .ref q2, .ref q3, .ref q4, .ref q5, .ref q6, .ref q7, .ref q8, .ref q9, .ref q10, .ref q11, .ref q12, .null])), (q1, .inl (cI, 8, .inl (fun _ => 0))), (q2, .inl (cI, 8, .inl (fun _ => 0))), (q3, .inl (cI, 8, .inl (fun _ => 0))), (q4, .inl (cI, 32, .inl (fun _ => 0))), (q5, .inl (cI, 32, .inl (fun _ => 0))), (q6, .inl (cI, 16, .inl (fun _ => 0))), (q7, .inl (cI, 16, .inl (fun _ => 0))), (q8, .inl (cI, 49, .inl (fun _ => 0))), (q9, .inl (cI, 49000, .inl (fun _ => 0))), (q10, .inl (cI, 49000, .inl (fun _ => 0))), (q11, .inl (cI, 4, .inl (fun _ => 0))), (q12, .inl (cI, 4, .inl (fun _ => 0)))] H := hP
  replace hD : va_D A [(h, .inr (2, [.int 0, .int 0, .int (10000 : Int32), .int 0, .int 0, .ref q1, .ref q2, .ref q3, .ref q4, .ref q5, .ref q6, .ref q7, .ref q8, .ref q9, .ref q10, .ref q11, .ref q12, .null])), (q1, .inl (cI, 8, .inl (fun _ => 0))), (q2, .inl (cI, 8, .inl (fun _ => 0))), (q3, .inl (cI, 8, .inl (fun _ => 0))), (q4, .inl (cI, 32, .inl (fun _ => 0))), (q5, .inl (cI, 32, .inl (fun _ => 0))), (q6, .inl (cI, 16, .inl (fun _ => 0))), (q7, .inl (cI, 16, .inl (fun _ => 0))), (q8, .inl (cI, 49, .inl (fun _ => 0))), (q9, .inl (cI, 49000, .inl (fun _ => 0))), (q10, .inl (cI, 49000, .inl (fun _ => 0))), (q11, .inl (cI, 4, .inl (fun _ => 0))), (q12, .inl (cI, 4, .inl (fun _ => 0)))] := hD
  refine lv_aload_n hx hb dX2_init_105 rfl (lv_at hl 0 rfl) ?_
  refine lv_iconst (v := (4 : Int32)) hx hb dX2_init_106 (by decide +kernel) ?_
  refine va_newa (atype := .int) (N' := 4) (a0 := (4, .inl (fun _ => 0))) (ty := .int) (n := (4 : Int32)) hx hb (hts _ (cwc _ mw_34)) rfl hK hP hD hS hA (fun _ => rfl) (by decide +kernel) (by decide +kernel) (by decide +kernel) (Nat.le_of_ble_eq_true rfl) (Nat.le_of_ble_eq_true rfl) dX2_init_107 (fun q13 cA13 H hK9 hP hD hS => ?_)
  have hcA : cA13 = cI := kuniqI hK9 (i := 2) (j := 0) rfl rfl
  rw [hcA] at hP hD
  clear hK9
  clear hcA
  replace hP : va_P D vwCl [(h, .inr (2, [.int 0, .int 0, .int (10000 : Int32), .int 0, .int 0, .ref q1, .ref q2, .ref q3, .ref q4, .ref q5, .ref q6, .ref q7, .ref q8, .ref q9, .ref q10, .ref q11, .ref q12, .null])), (q1, .inl (cI, 8, .inl (fun _ => 0))), (q2, .inl (cI, 8, .inl (fun _ => 0))), (q3, .inl (cI, 8, .inl (fun _ => 0))), (q4, .inl (cI, 32, .inl (fun _ => 0))), (q5, .inl (cI, 32, .inl (fun _ => 0))), (q6, .inl (cI, 16, .inl (fun _ => 0))), (q7, .inl (cI, 16, .inl (fun _ => 0))), (q8, .inl (cI, 49, .inl (fun _ => 0))), (q9, .inl (cI, 49000, .inl (fun _ => 0))), (q10, .inl (cI, 49000, .inl (fun _ => 0))), (q11, .inl (cI, 4, .inl (fun _ => 0))), (q12, .inl (cI, 4, .inl (fun _ => 0))), (q13, .inl (cI, 4, .inl (fun _ => 0)))] H := hP
  replace hD : va_D A [(h, .inr (2, [.int 0, .int 0, .int (10000 : Int32), .int 0, .int 0, .ref q1, .ref q2, .ref q3, .ref q4, .ref q5, .ref q6, .ref q7, .ref q8, .ref q9, .ref q10, .ref q11, .ref q12, .null])), (q1, .inl (cI, 8, .inl (fun _ => 0))), (q2, .inl (cI, 8, .inl (fun _ => 0))), (q3, .inl (cI, 8, .inl (fun _ => 0))), (q4, .inl (cI, 32, .inl (fun _ => 0))), (q5, .inl (cI, 32, .inl (fun _ => 0))), (q6, .inl (cI, 16, .inl (fun _ => 0))), (q7, .inl (cI, 16, .inl (fun _ => 0))), (q8, .inl (cI, 49, .inl (fun _ => 0))), (q9, .inl (cI, 49000, .inl (fun _ => 0))), (q10, .inl (cI, 49000, .inl (fun _ => 0))), (q11, .inl (cI, 4, .inl (fun _ => 0))), (q12, .inl (cI, 4, .inl (fun _ => 0))), (q13, .inl (cI, 4, .inl (fun _ => 0)))] := hD
  refine (?_ : W p l e _ s m _ below meth c H _ 13 98181 _ _)
  refine va_putF (D := D) (ci := 2) (v := .ref q13) (ty := .array .int) (C := RX2) (T := TX2) (N := 18) hx hb hts (fun w h => cwc w (in_X2 w h)) tyX2 tyX2_ok nmX2 hown hK hP hD hS 0 rfl rfl 17 (by decide) (hts _ (cwc _ mw_352)) (fun _ h9 => h9) rfl hin9 rfl (by decide +kernel) rfl rfl (Nat.le_of_ble_eq_true rfl) dX2_init_109 (fun H locs hP hD hS => ?_)
  replace hP : va_P D vwCl [(h, .inr (2, [.int 0, .int 0, .int (10000 : Int32), .int 0, .int 0, .ref q1, .ref q2, .ref q3, .ref q4, .ref q5, .ref q6, .ref q7, .ref q8, .ref q9, .ref q10, .ref q11, .ref q12, .ref q13])), (q1, .inl (cI, 8, .inl (fun _ => 0))), (q2, .inl (cI, 8, .inl (fun _ => 0))), (q3, .inl (cI, 8, .inl (fun _ => 0))), (q4, .inl (cI, 32, .inl (fun _ => 0))), (q5, .inl (cI, 32, .inl (fun _ => 0))), (q6, .inl (cI, 16, .inl (fun _ => 0))), (q7, .inl (cI, 16, .inl (fun _ => 0))), (q8, .inl (cI, 49, .inl (fun _ => 0))), (q9, .inl (cI, 49000, .inl (fun _ => 0))), (q10, .inl (cI, 49000, .inl (fun _ => 0))), (q11, .inl (cI, 4, .inl (fun _ => 0))), (q12, .inl (cI, 4, .inl (fun _ => 0))), (q13, .inl (cI, 4, .inl (fun _ => 0)))] H := hP
  replace hD : va_D A [(h, .inr (2, [.int 0, .int 0, .int (10000 : Int32), .int 0, .int 0, .ref q1, .ref q2, .ref q3, .ref q4, .ref q5, .ref q6, .ref q7, .ref q8, .ref q9, .ref q10, .ref q11, .ref q12, .ref q13])), (q1, .inl (cI, 8, .inl (fun _ => 0))), (q2, .inl (cI, 8, .inl (fun _ => 0))), (q3, .inl (cI, 8, .inl (fun _ => 0))), (q4, .inl (cI, 32, .inl (fun _ => 0))), (q5, .inl (cI, 32, .inl (fun _ => 0))), (q6, .inl (cI, 16, .inl (fun _ => 0))), (q7, .inl (cI, 16, .inl (fun _ => 0))), (q8, .inl (cI, 49, .inl (fun _ => 0))), (q9, .inl (cI, 49000, .inl (fun _ => 0))), (q10, .inl (cI, 49000, .inl (fun _ => 0))), (q11, .inl (cI, 4, .inl (fun _ => 0))), (q12, .inl (cI, 4, .inl (fun _ => 0))), (q13, .inl (cI, 4, .inl (fun _ => 0)))] := hD
  replace hP : va_P D vwCl (MW cI (fun k => ([h, q1, q2, q3, q4, q5, q6, q7, q8, q9, q10, q11, q12, q13] : List Nat).getD k 0) (mz (fun _ => 0))) H := hP
  replace hD : va_D A (MW cI (fun k => ([h, q1, q2, q3, q4, q5, q6, q7, q8, q9, q10, q11, q12, q13] : List Nat).getD k 0) (mz (fun _ => 0))) := hD
  have hm0 : (fun k => ([h, q1, q2, q3, q4, q5, q6, q7, q8, q9, q10, q11, q12, q13] : List Nat).getD k 0) 0 = h := rfl
  generalize (fun k => ([h, q1, q2, q3, q4, q5, q6, q7, q8, q9, q10, q11, q12, q13] : List Nat).getD k 0) = ma at hP hD hm0
  rw [← hm0] at hl
  refine lv_iconst (v := (0 : Int32)) hx hb dX2_init_112 (by decide +kernel) ?_
  refine lv_istore_n (lv' := [(1, .int (nI 0)), (0, .ref (ma 0))]) hx hb dX2_init_113 rfl hl (by decide) rfl (fun ls hl => ?_)
  refine (?_ : ∀ (n i : Nat) (f : Nat → Int32) (H : Heap) (locs : List Loc) (ls : Array Slot), i + n = 32 → (∀ k, k < i → f k = -1) → lv_has ls 2 [(1, .int (nI i)), (0, .ref (ma 0))] → va_P D vwCl (MW cI ma (mz f)) H → va_D A (MW cI ma (mz f)) → va_S A s.heap H locs → W p l e _ s m _ below meth c H locs 13 98181 _ (F0 m 114 ls [])) 32 0 (fun _ => 0) H _ ls rfl (fun k hk => absurd hk (by omega)) hl hP hD hS
  clear hl hP hD hS
  intro n
  induction n with
  | zero =>
    intro i f H locs ls hi hf hl hP hD hS
    have hi32 : i = 32 := by omega
    subst hi32
    refine lv_iload_n hx hb dX2_init_114 rfl (lv_at hl 0 rfl) ?_
    refine lv_bipush (v := (32 : Int32)) hx hb dX2_init_115 (by decide +kernel) ?_
    refine lv_icmp_ge (tgt := 133) hx hb dX2_init_117 (by decide) (fun c_1 => ?_) (fun c_1 => ?_)
    · exact W.vret hx hb hr (fun t ht hW => ⟨⟨(), rfl, trivial, ma, f, hm0, hf, by rw [ht]; exact hP, va_K.moved hW.alike hK, hD⟩, hS.F ht⟩) hS.2.2 dX2_init_133
    · exact absurd (by decide +kernel) c_1
  | succ n ih =>
    intro i f H locs ls hi hf hl hP hD hS
    refine lv_iload_n hx hb dX2_init_114 rfl (lv_at hl 0 rfl) ?_
    refine lv_bipush (v := (32 : Int32)) hx hb dX2_init_115 (by decide +kernel) ?_
    refine lv_icmp_ge (tgt := 133) hx hb dX2_init_117 (by decide) (fun c_1 => ?_) (fun c_1 => ?_)
    · exact absurd c_1 (nI_ge (b := 32) (by omega) (by decide))
    refine lv_aload_n hx hb dX2_init_120 rfl (lv_at hl 1 rfl) ?_
    refine va_get (D := D) (ci := 2) (v := .ref (ma 5)) (C := RX2) (T := TX2) (N := 18) hx hb hts (fun w h => cwc w (in_X2 w h)) hown hK hP 0 rfl rfl 9 (by decide) (hts _ (cwc _ mw_344)) (fun _ h9 => h9) rfl dX2_init_121 ?_
    refine lv_iload_n hx hb dX2_init_124 rfl (lv_at hl 0 rfl) ?_
    refine lv_iconst (v := (-1 : Int32)) hx hb dX2_init_125 (by decide +kernel) ?_
    refine va_iast (f := f) hx hb hK hP hD hS 5 0 rfl rfl (vp_in_nI (show i < 32 by omega) (by decide)) dX2_init_126 (fun H locs hP hD hS => ?_)
    rw [nI_clamp (show i < 2 ^ 31 by omega)] at hP hD
    replace hP : va_P D vwCl (MW cI ma (mz (upd f i (-1)))) H := hP
    replace hD : va_D A (MW cI ma (mz (upd f i (-1)))) := hD
    refine lv_iinc (v := nI (i + 1)) (lv' := [(1, .int (nI (i + 1))), (0, .ref (ma 0))]) hx hb dX2_init_127 hl (k := 0) rfl (nI_1 i) (by decide) rfl (fun ls hl => ?_)
    refine lv_goto (tgt := 114) hx hb dX2_init_130 (by decide) ?_
    refine ih (i + 1) (upd f i (-1)) H _ ls (by omega) (fun k hk => ?_) hl hP hD hS
    show (if k = i then (-1 : Int32) else f k) = -1
    by_cases e9 : k = i
    · rw [if_pos e9]
    · rw [if_neg e9]; exact hf k (by omega)
