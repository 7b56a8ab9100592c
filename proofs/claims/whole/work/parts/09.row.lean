def F_Row_total  (u : RowS) : Option ((Int32) × Unit) := some (u.2.2.2.2, ())
set_option maxHeartbeats 4000000 in
set_option maxRecDepth 100000 in
theorem c_Row_total (l : Launch) (D : va_G) (cI cR : ClassId) (q o a b : Nat) (sz : Nat)  (u : RowS) (r : Int32) (u' : Unit) (hF : F_Row_total  u = some (r, u')) : Met l yX0_total wsX0_total ({ frames := 0, cells := 0, slots := 0, locals := 0 }) (va_Pc [.ref q] (PRE D (TY cI cR) (RW cI q o a b u) sz)) (QI D (TY cI cR) (va_A (RW cI q o a b u) sz) (fun v => RW cI q o a b v) r u) 0 0 (va_A (RW cI q o a b u) sz) := by
  refine Met.ofW (cc := cX0_total) (maxL := 1) (ret := (some .int)) (by decide) rfl ?_
  intro p e s m args below meth c s₁ B hml hv
  obtain ⟨rfl, hsz, hP, hK, hD0⟩ := hv
  have hx := B.exec
  have hb := B.bytes
  have hr := B.returns
  have hts := atoms_spec (ws := wsX0_total) B.pre
  have hown : s.vm.findClass RX0 = some m.cls := findClass_of_methodNamed B.named
  have hlocks := B.notSynchronized
  subst hsz
  have hD := hD0.self (sz := s.heap.size)
  generalize hAe : va_A (RW cI q o a b u) s.heap.size = A at hD ⊢
  have hA : ∀ q : Nat, s.heap.size ≤ q → A q := fun q h => by rw [← hAe]; exact Or.inr h
  have hS : va_S A s.heap s.heap [] := va_S.rf
  replace hP : va_P D vwCl (RW cI q o a b u) s.heap := hP
  have hl := lv_entry ([.ref q]) (n := 1) (Nat.le_of_ble_eq_true rfl)
  rw [lg_entry_eq]
  generalize (lg_sl ([.ref q]) ++ List.replicate (1 - (lg_sl ([.ref q])).length) Slot.unset).toArray = ls at hl ⊢
  replace hl : lv_has ls 1 [(0, .ref q)] := hl
  have hk_25 := (hts _ (cwc _ mw_27))
  unfold F_Row_total at hF
  refine (?_ : ∀ (H : Heap) (locs : List Loc), va_P D vwCl (RW cI q o a b u) H → va_S A s.heap H locs → W p l e _ s m _ below meth c H locs 0 0 _ (F0 m 0 ls [])) s.heap [] hP hS
  intro H locs hP hS
  refine lv_aload_n hx hb dX0_total_0 rfl (lv_at hl 0 rfl) ?_
  refine va_get (D := D) (ci := 0) (v := .int u.2.2.2.2) (C := RX0) (T := TX0) (N := 5) hx hb hts (fun w h => cwc w (in_X0 w h)) hown hK hP 0 rfl rfl 4 (by decide) hk_25 (fun _ h9 => h9) rfl dX0_total_1 ?_
  cases hF
  refine W.widen (k := 0) (n := 0) (Nat.le_of_ble_eq_true rfl) (Nat.le_of_ble_eq_true rfl) ?_
  exact W.iret hx hb hr (fun t ht hW => ⟨⟨_, _, rfl, ⟨rfl, rfl⟩, by rw [ht]; exact hP, va_K.moved hW.alike hK, hD⟩, hS.F ht⟩) hS.2.2 dX0_total_4
def F_Row_look (p1 : Int32) (p2 : Int32) (u : RowS) : Option ((Int32) × Unit) := (if p1 < (0 : Int32) then some ((-1 : Int32), ()) else (if p1 < u.2.2.2.1 then (if p2 = (0 : Int32) then gd (inb p1 8) (some ((u.1 p1.toNatClampNeg), ())) else (if p2 = (1 : Int32) then gd (inb p1 8) (some ((u.2.1 p1.toNatClampNeg), ())) else (if p2 = (2 : Int32) then gd (inb p1 8) (some ((u.2.2.1 p1.toNatClampNeg), ())) else some ((-1 : Int32), ())))) else some ((-1 : Int32), ())))
set_option maxHeartbeats 4000000 in
set_option maxRecDepth 100000 in
theorem c_Row_look (l : Launch) (D : va_G) (cI cR : ClassId) (q o a b : Nat) (sz : Nat) (p1 : Int32) (p2 : Int32) (u : RowS) (r : Int32) (u' : Unit) (hF : F_Row_look p1 p2 u = some (r, u')) : Met l yX0_look wsX0_look ({ frames := 0, cells := 0, slots := 0, locals := 0 }) (va_Pc [.ref q, .int p1, .int p2] (PRE D (TY cI cR) (RW cI q o a b u) sz)) (QI D (TY cI cR) (va_A (RW cI q o a b u) sz) (fun v => RW cI q o a b v) r u) 0 0 (va_A (RW cI q o a b u) sz) := by
  refine Met.ofW (cc := cX0_look) (maxL := 3) (ret := (some .int)) (by decide) rfl ?_
  intro p e s m args below meth c s₁ B hml hv
  obtain ⟨rfl, hsz, hP, hK, hD0⟩ := hv
  have hx := B.exec
  have hb := B.bytes
  have hr := B.returns
  have hts := atoms_spec (ws := wsX0_look) B.pre
  have hown : s.vm.findClass RX0 = some m.cls := findClass_of_methodNamed B.named
  have hlocks := B.notSynchronized
  subst hsz
  have hD := hD0.self (sz := s.heap.size)
  generalize hAe : va_A (RW cI q o a b u) s.heap.size = A at hD ⊢
  have hA : ∀ q : Nat, s.heap.size ≤ q → A q := fun q h => by rw [← hAe]; exact Or.inr h
  have hS : va_S A s.heap s.heap [] := va_S.rf
  replace hP : va_P D vwCl (RW cI q o a b u) s.heap := hP
  have hl := lv_entry ([.ref q, .int p1, .int p2]) (n := 3) (Nat.le_of_ble_eq_true rfl)
  rw [lg_entry_eq]
  generalize (lg_sl ([.ref q, .int p1, .int p2]) ++ List.replicate (3 - (lg_sl ([.ref q, .int p1, .int p2])).length) Slot.unset).toArray = ls at hl ⊢
  replace hl : lv_has ls 3 [(0, .ref q), (1, .int p1), (2, .int p2)] := hl
  have hk_21 := (hts _ (cwc _ mw_26))
  have hk_9 := (hts _ (cwc _ mw_23))
  have hk_15 := (hts _ (cwc _ mw_24))
  have hk_18 := (hts _ (cwc _ mw_25))
  unfold F_Row_look at hF
  refine (?_ : ∀ (H : Heap) (locs : List Loc), va_P D vwCl (RW cI q o a b u) H → va_S A s.heap H locs → W p l e _ s m _ below meth c H locs 0 0 _ (F0 m 0 ls [])) s.heap [] hP hS
  intro H locs hP hS
  refine lv_iload_n hx hb dX0_look_0 rfl (lv_at hl 1 rfl) ?_
  refine lv_if_lt (tgt := 12) hx hb dX0_look_1 (by decide) (fun c_1 => ?_) (fun c_1 => ?_)
  · replace hF := (if_pos c_1).symm.trans hF
    refine lv_iconst (v := (-1 : Int32)) hx hb dX0_look_12 (by decide +kernel) ?_
    cases hF
    refine W.widen (k := 0) (n := 0) (Nat.le_of_ble_eq_true rfl) (Nat.le_of_ble_eq_true rfl) ?_
    exact W.iret hx hb hr (fun t ht hW => ⟨⟨_, _, rfl, ⟨rfl, rfl⟩, by rw [ht]; exact hP, va_K.moved hW.alike hK, hD⟩, hS.F ht⟩) hS.2.2 dX0_look_13
  · replace hF := (if_neg c_1).symm.trans hF
    refine lv_iload_n hx hb dX0_look_4 rfl (lv_at hl 1 rfl) ?_
    refine lv_aload_n hx hb dX0_look_5 rfl (lv_at hl 0 rfl) ?_
    refine va_get (D := D) (ci := 0) (v := .int u.2.2.2.1) (C := RX0) (T := TX0) (N := 5) hx hb hts (fun w h => cwc w (in_X0 w h)) hown hK hP 0 rfl rfl 3 (by decide) hk_21 (fun _ h9 => h9) rfl dX0_look_6 ?_
    refine lv_icmp_lt (tgt := 14) hx hb dX0_look_9 (by decide) (fun c_2 => ?_) (fun c_2 => ?_)
    · replace hF := (if_pos c_2).symm.trans hF
      refine lv_iload_n hx hb dX0_look_14 rfl (lv_at hl 2 rfl) ?_
      by_cases c_3 : p2 = (0 : Int32)
      · replace hF := (if_pos c_3).symm.trans hF
        refine lv_tableIn (off := 25) (tgt := 40) hx hb dX0_look_15 (by rw [c_3]; decide +kernel) (by rw [c_3]; decide +kernel) (by rw [c_3]; rfl) (by decide) ?_
        refine lv_aload_n hx hb dX0_look_40 rfl (lv_at hl 0 rfl) ?_
        refine va_get (D := D) (ci := 0) (v := .ref o) (C := RX0) (T := TX0) (N := 5) hx hb hts (fun w h => cwc w (in_X0 w h)) hown hK hP 0 rfl rfl 0 (by decide) hk_9 (fun _ h9 => h9) rfl dX0_look_41 ?_
        refine lv_iload_n hx hb dX0_look_44 rfl (lv_at hl 1 rfl) ?_
        obtain ⟨h_4, hF⟩ := gd_some hF
        refine va_iald (f := u.1) hx hb hK hP 1 0 rfl rfl (inb_in h_4) dX0_look_45 ?_
        cases hF
        refine W.widen (k := 0) (n := 0) (Nat.le_of_ble_eq_true rfl) (Nat.le_of_ble_eq_true rfl) ?_
        exact W.iret hx hb hr (fun t ht hW => ⟨⟨_, _, rfl, ⟨rfl, rfl⟩, by rw [ht]; exact hP, va_K.moved hW.alike hK, hD⟩, hS.F ht⟩) hS.2.2 dX0_look_46
      · replace hF := (if_neg c_3).symm.trans hF
        by_cases c_5 : p2 = (1 : Int32)
        · replace hF := (if_pos c_5).symm.trans hF
          refine lv_tableIn (off := 32) (tgt := 47) hx hb dX0_look_15 (by rw [c_5]; decide +kernel) (by rw [c_5]; decide +kernel) (by rw [c_5]; rfl) (by decide) ?_
          refine lv_aload_n hx hb dX0_look_47 rfl (lv_at hl 0 rfl) ?_
          refine va_get (D := D) (ci := 0) (v := .ref a) (C := RX0) (T := TX0) (N := 5) hx hb hts (fun w h => cwc w (in_X0 w h)) hown hK hP 0 rfl rfl 1 (by decide) hk_15 (fun _ h9 => h9) rfl dX0_look_48 ?_
          refine lv_iload_n hx hb dX0_look_51 rfl (lv_at hl 1 rfl) ?_
          obtain ⟨h_6, hF⟩ := gd_some hF
          refine va_iald (f := u.2.1) hx hb hK hP 2 0 rfl rfl (inb_in h_6) dX0_look_52 ?_
          cases hF
          refine W.widen (k := 0) (n := 0) (Nat.le_of_ble_eq_true rfl) (Nat.le_of_ble_eq_true rfl) ?_
          exact W.iret hx hb hr (fun t ht hW => ⟨⟨_, _, rfl, ⟨rfl, rfl⟩, by rw [ht]; exact hP, va_K.moved hW.alike hK, hD⟩, hS.F ht⟩) hS.2.2 dX0_look_53
        · replace hF := (if_neg c_5).symm.trans hF
          by_cases c_7 : p2 = (2 : Int32)
          · replace hF := (if_pos c_7).symm.trans hF
            refine lv_tableIn (off := 39) (tgt := 54) hx hb dX0_look_15 (by rw [c_7]; decide +kernel) (by rw [c_7]; decide +kernel) (by rw [c_7]; rfl) (by decide) ?_
            refine lv_aload_n hx hb dX0_look_54 rfl (lv_at hl 0 rfl) ?_
            refine va_get (D := D) (ci := 0) (v := .ref b) (C := RX0) (T := TX0) (N := 5) hx hb hts (fun w h => cwc w (in_X0 w h)) hown hK hP 0 rfl rfl 2 (by decide) hk_18 (fun _ h9 => h9) rfl dX0_look_55 ?_
            refine lv_iload_n hx hb dX0_look_58 rfl (lv_at hl 1 rfl) ?_
            obtain ⟨h_8, hF⟩ := gd_some hF
            refine va_iald (f := u.2.2.1) hx hb hK hP 3 0 rfl rfl (inb_in h_8) dX0_look_59 ?_
            cases hF
            refine W.widen (k := 0) (n := 0) (Nat.le_of_ble_eq_true rfl) (Nat.le_of_ble_eq_true rfl) ?_
            exact W.iret hx hb hr (fun t ht hW => ⟨⟨_, _, rfl, ⟨rfl, rfl⟩, by rw [ht]; exact hP, va_K.moved hW.alike hK, hD⟩, hS.F ht⟩) hS.2.2 dX0_look_60
          · replace hF := (if_neg c_7).symm.trans hF
            refine lv_tableOut (tgt := 61) hx hb dX0_look_15 (by have := i32nz c_3 (show (0 : Int32).toInt = 0 by decide +kernel); have := i32nz c_5 (show (1 : Int32).toInt = 1 by decide +kernel); have := i32nz c_7 (show (2 : Int32).toInt = 2 by decide +kernel); omega) (by decide) ?_
            refine lv_iconst (v := (-1 : Int32)) hx hb dX0_look_61 (by decide +kernel) ?_
            cases hF
            refine W.widen (k := 0) (n := 0) (Nat.le_of_ble_eq_true rfl) (Nat.le_of_ble_eq_true rfl) ?_
            exact W.iret hx hb hr (fun t ht hW => ⟨⟨_, _, rfl, ⟨rfl, rfl⟩, by rw [ht]; exact hP, va_K.moved hW.alike hK, hD⟩, hS.F ht⟩) hS.2.2 dX0_look_62
    · replace hF := (if_neg c_2).symm.trans hF
      refine lv_iconst (v := (-1 : Int32)) hx hb dX0_look_12 (by decide +kernel) ?_
      cases hF
      refine W.widen (k := 0) (n := 0) (Nat.le_of_ble_eq_true rfl) (Nat.le_of_ble_eq_true rfl) ?_
      exact W.iret hx hb hr (fun t ht hW => ⟨⟨_, _, rfl, ⟨rfl, rfl⟩, by rw [ht]; exact hP, va_K.moved hW.alike hK, hD⟩, hS.F ht⟩) hS.2.2 dX0_look_13
def F_Row_clear  (u : RowS) : Option ((Unit) × RowS) := some ((), (u.1, u.2.1, u.2.2.1, (0 : Int32), (0 : Int32)))
set_option maxHeartbeats 4000000 in
set_option maxRecDepth 100000 in
theorem c_Row_clear (l : Launch) (D : va_G) (cI cR : ClassId) (q o a b : Nat) (sz : Nat)  (u : RowS) (r : Unit) (u' : RowS) (hF : F_Row_clear  u = some (r, u')) : Met l yX0_clear wsX0_clear ({ frames := 0, cells := 0, slots := 0, locals := 0 }) (va_Pc [.ref q] (PRE D (TY cI cR) (RW cI q o a b u) sz)) (QV D (TY cI cR) (va_A (RW cI q o a b u) sz) (fun v => RW cI q o a b v) u') 0 0 (va_A (RW cI q o a b u) sz) := by
  refine Met.ofW (cc := cX0_clear) (maxL := 1) (ret := none) (by decide) rfl ?_
  intro p e s m args below meth c s₁ B hml hv
  obtain ⟨rfl, hsz, hP, hK, hD0⟩ := hv
  have hx := B.exec
  have hb := B.bytes
  have hr := B.returns
  have hts := atoms_spec (ws := wsX0_clear) B.pre
  have hown : s.vm.findClass RX0 = some m.cls := findClass_of_methodNamed B.named
  have hlocks := B.notSynchronized
  subst hsz
  have hD := hD0.self (sz := s.heap.size)
  generalize hAe : va_A (RW cI q o a b u) s.heap.size = A at hD ⊢
  have hA : ∀ q : Nat, s.heap.size ≤ q → A q := fun q h => by rw [← hAe]; exact Or.inr h
  have hS : va_S A s.heap s.heap [] := va_S.rf
  replace hP : va_P D vwCl (RW cI q o a b u) s.heap := hP
  have hl := lv_entry ([.ref q]) (n := 1) (Nat.le_of_ble_eq_true rfl)
  rw [lg_entry_eq]
  generalize (lg_sl ([.ref q]) ++ List.replicate (1 - (lg_sl ([.ref q])).length) Slot.unset).toArray = ls at hl ⊢
  replace hl : lv_has ls 1 [(0, .ref q)] := hl
  have hk_21 := (hts _ (cwc _ mw_26))
  have hk_25 := (hts _ (cwc _ mw_27))
  unfold F_Row_clear at hF
  refine (?_ : ∀ (H : Heap) (locs : List Loc), va_P D vwCl (RW cI q o a b u) H → va_S A s.heap H locs → W p l e _ s m _ below meth c H locs 0 0 _ (F0 m 0 ls [])) s.heap [] hP hS
  intro H locs hP hS
  refine lv_aload_n hx hb dX0_clear_0 rfl (lv_at hl 0 rfl) ?_
  refine lv_iconst (v := (0 : Int32)) hx hb dX0_clear_1 (by decide +kernel) ?_
  refine va_put (D := D) (ci := 0) (v := .int (0 : Int32)) (ty := .int) (C := RX0) (T := TX0) (N := 5) hx hb hts (fun w h => cwc w (in_X0 w h)) tyX0 tyX0_ok nmX0 hown hK hP hD hS 0 rfl rfl 3 (by decide) hk_21 (fun _ h9 => h9) rfl (by decide +kernel) rfl rfl (Nat.le_of_ble_eq_true rfl) dX0_clear_2 (fun H locs hP hD hS => ?_)
  replace hP : va_P D vwCl (RW cI q o a b (u.1, u.2.1, u.2.2.1, (0 : Int32), u.2.2.2.2)) H := hP
  replace hD : va_D A (RW cI q o a b (u.1, u.2.1, u.2.2.1, (0 : Int32), u.2.2.2.2)) := hD
  refine lv_aload_n hx hb dX0_clear_5 rfl (lv_at hl 0 rfl) ?_
  refine lv_iconst (v := (0 : Int32)) hx hb dX0_clear_6 (by decide +kernel) ?_
  refine va_put (D := D) (ci := 0) (v := .int (0 : Int32)) (ty := .int) (C := RX0) (T := TX0) (N := 5) hx hb hts (fun w h => cwc w (in_X0 w h)) tyX0 tyX0_ok nmX0 hown hK hP hD hS 0 rfl rfl 4 (by decide) hk_25 (fun _ h9 => h9) rfl (by decide +kernel) rfl rfl (Nat.le_of_ble_eq_true rfl) dX0_clear_7 (fun H locs hP hD hS => ?_)
  replace hP : va_P D vwCl (RW cI q o a b (u.1, u.2.1, u.2.2.1, (0 : Int32), (0 : Int32))) H := hP
  replace hD : va_D A (RW cI q o a b (u.1, u.2.1, u.2.2.1, (0 : Int32), (0 : Int32))) := hD
  cases hF
  refine W.widen (k := 0) (n := 0) (Nat.le_of_ble_eq_true rfl) (Nat.le_of_ble_eq_true rfl) ?_
  exact W.vret hx hb hr (fun t ht hW => ⟨⟨_, rfl, rfl, by rw [ht]; exact hP, va_K.moved hW.alike hK, hD⟩, hS.F ht⟩) hS.2.2 dX0_clear_10
def F_Row_lastIs (p1 : Int32) (p2 : Int32) (u : RowS) : Option ((Int32) × Unit) := nm ((u.2.2.2.1 - (1 : Int32))) (fun v1 => (if v1 < (0 : Int32) then some ((0 : Int32), ()) else gd (inb v1 8) ((if (u.1 v1.toNatClampNeg) = p1 then gd (inb v1 8) ((if (u.2.2.1 v1.toNatClampNeg) = p2 then some ((1 : Int32), ()) else some ((0 : Int32), ()))) else some ((0 : Int32), ())))))
set_option maxHeartbeats 4000000 in
set_option maxRecDepth 100000 in
theorem c_Row_lastIs (l : Launch) (D : va_G) (cI cR : ClassId) (q o a b : Nat) (sz : Nat) (p1 : Int32) (p2 : Int32) (u : RowS) (r : Int32) (u' : Unit) (hF : F_Row_lastIs p1 p2 u = some (r, u')) : Met l yX0_lastIs wsX0_lastIs ({ frames := 0, cells := 0, slots := 0, locals := 0 }) (va_Pc [.ref q, .int p1, .int p2] (PRE D (TY cI cR) (RW cI q o a b u) sz)) (QI D (TY cI cR) (va_A (RW cI q o a b u) sz) (fun v => RW cI q o a b v) r u) 0 0 (va_A (RW cI q o a b u) sz) := by
  refine Met.ofW (cc := cX0_lastIs) (maxL := 4) (ret := (some .boolean)) (by decide) rfl ?_
  intro p e s m args below meth c s₁ B hml hv
  obtain ⟨rfl, hsz, hP, hK, hD0⟩ := hv
  have hx := B.exec
  have hb := B.bytes
  have hr := B.returns
  have hts := atoms_spec (ws := wsX0_lastIs) B.pre
  have hown : s.vm.findClass RX0 = some m.cls := findClass_of_methodNamed B.named
  have hlocks := B.notSynchronized
  subst hsz
  have hD := hD0.self (sz := s.heap.size)
  generalize hAe : va_A (RW cI q o a b u) s.heap.size = A at hD ⊢
  have hA : ∀ q : Nat, s.heap.size ≤ q → A q := fun q h => by rw [← hAe]; exact Or.inr h
  have hS : va_S A s.heap s.heap [] := va_S.rf
  replace hP : va_P D vwCl (RW cI q o a b u) s.heap := hP
  have hl := lv_entry ([.ref q, .int p1, .int p2]) (n := 4) (Nat.le_of_ble_eq_true rfl)
  rw [lg_entry_eq]
  generalize (lg_sl ([.ref q, .int p1, .int p2]) ++ List.replicate (4 - (lg_sl ([.ref q, .int p1, .int p2])).length) Slot.unset).toArray = ls at hl ⊢
  replace hl : lv_has ls 4 [(0, .ref q), (1, .int p1), (2, .int p2)] := hl
  have hk_21 := (hts _ (cwc _ mw_26))
  have hk_9 := (hts _ (cwc _ mw_23))
  have hk_18 := (hts _ (cwc _ mw_25))
  unfold F_Row_lastIs at hF
  refine (?_ : ∀ (H : Heap) (locs : List Loc), va_P D vwCl (RW cI q o a b u) H → va_S A s.heap H locs → W p l e _ s m _ below meth c H locs 0 0 _ (F0 m 0 ls [])) s.heap [] hP hS
  intro H locs hP hS
  refine lv_aload_n hx hb dX0_lastIs_0 rfl (lv_at hl 0 rfl) ?_
  refine va_get (D := D) (ci := 0) (v := .int u.2.2.2.1) (C := RX0) (T := TX0) (N := 5) hx hb hts (fun w h => cwc w (in_X0 w h)) hown hK hP 0 rfl rfl 3 (by decide) hk_21 (fun _ h9 => h9) rfl dX0_lastIs_1 ?_
  refine lv_iconst (v := (1 : Int32)) hx hb dX0_lastIs_4 (by decide +kernel) ?_
  refine lv_isub hx hb dX0_lastIs_5 ?_
  obtain ⟨v1, ev1, hF⟩ := nm_some hF
  refine W.eq (g2 := F0 m 6 ls (.int v1 :: [])) (congrArg (fun z => F0 m 6 ls (.int z :: [])) ev1.symm) ?_
  refine lv_istore_n (lv' := [(3, .int v1), (0, .ref q), (1, .int p1), (2, .int p2)]) hx hb dX0_lastIs_6 rfl hl (by decide) rfl (fun ls hl => ?_)
  refine lv_iload_n hx hb dX0_lastIs_7 rfl (lv_at hl 0 rfl) ?_
  refine lv_if_lt (tgt := 35) hx hb dX0_lastIs_8 (by decide) (fun c_2 => ?_) (fun c_2 => ?_)
  · replace hF := (if_pos c_2).symm.trans hF
    refine lv_iconst (v := (0 : Int32)) hx hb dX0_lastIs_35 (by decide +kernel) ?_
    cases hF
    refine W.widen (k := 0) (n := 0) (Nat.le_of_ble_eq_true rfl) (Nat.le_of_ble_eq_true rfl) ?_
    exact W.zret hx hb hr rfl (fun t ht hW => ⟨⟨_, _, rfl, ⟨rfl, rfl⟩, by rw [ht]; exact hP, va_K.moved hW.alike hK, hD⟩, hS.F ht⟩) hS.2.2 dX0_lastIs_36
  · replace hF := (if_neg c_2).symm.trans hF
    refine lv_aload_n hx hb dX0_lastIs_11 rfl (lv_at hl 1 rfl) ?_
    refine va_get (D := D) (ci := 0) (v := .ref o) (C := RX0) (T := TX0) (N := 5) hx hb hts (fun w h => cwc w (in_X0 w h)) hown hK hP 0 rfl rfl 0 (by decide) hk_9 (fun _ h9 => h9) rfl dX0_lastIs_12 ?_
    refine lv_iload_n hx hb dX0_lastIs_15 rfl (lv_at hl 0 rfl) ?_
    obtain ⟨h_3, hF⟩ := gd_some hF
    refine va_iald (f := u.1) hx hb hK hP 1 0 rfl rfl (inb_in h_3) dX0_lastIs_16 ?_
    refine lv_iload_n hx hb dX0_lastIs_17 rfl (lv_at hl 2 rfl) ?_
    refine lv_icmp_ne (tgt := 35) hx hb dX0_lastIs_18 (by decide) (fun c_4 => ?_) (fun c_4 => ?_)
    · replace hF := (if_neg c_4).symm.trans hF
      refine lv_iconst (v := (0 : Int32)) hx hb dX0_lastIs_35 (by decide +kernel) ?_
      cases hF
      refine W.widen (k := 0) (n := 0) (Nat.le_of_ble_eq_true rfl) (Nat.le_of_ble_eq_true rfl) ?_
      exact W.zret hx hb hr rfl (fun t ht hW => ⟨⟨_, _, rfl, ⟨rfl, rfl⟩, by rw [ht]; exact hP, va_K.moved hW.alike hK, hD⟩, hS.F ht⟩) hS.2.2 dX0_lastIs_36
    · replace hF := (if_pos c_4).symm.trans hF
      refine lv_aload_n hx hb dX0_lastIs_21 rfl (lv_at hl 1 rfl) ?_
      refine va_get (D := D) (ci := 0) (v := .ref b) (C := RX0) (T := TX0) (N := 5) hx hb hts (fun w h => cwc w (in_X0 w h)) hown hK hP 0 rfl rfl 2 (by decide) hk_18 (fun _ h9 => h9) rfl dX0_lastIs_22 ?_
      refine lv_iload_n hx hb dX0_lastIs_25 rfl (lv_at hl 0 rfl) ?_
      obtain ⟨h_5, hF⟩ := gd_some hF
      refine va_iald (f := u.2.2.1) hx hb hK hP 3 0 rfl rfl (inb_in h_5) dX0_lastIs_26 ?_
      refine lv_iload_n hx hb dX0_lastIs_27 rfl (lv_at hl 3 rfl) ?_
      refine lv_icmp_ne (tgt := 35) hx hb dX0_lastIs_28 (by decide) (fun c_6 => ?_) (fun c_6 => ?_)
      · replace hF := (if_neg c_6).symm.trans hF
        refine lv_iconst (v := (0 : Int32)) hx hb dX0_lastIs_35 (by decide +kernel) ?_
        cases hF
        refine W.widen (k := 0) (n := 0) (Nat.le_of_ble_eq_true rfl) (Nat.le_of_ble_eq_true rfl) ?_
        exact W.zret hx hb hr rfl (fun t ht hW => ⟨⟨_, _, rfl, ⟨rfl, rfl⟩, by rw [ht]; exact hP, va_K.moved hW.alike hK, hD⟩, hS.F ht⟩) hS.2.2 dX0_lastIs_36
      · replace hF := (if_pos c_6).symm.trans hF
        refine lv_iconst (v := (1 : Int32)) hx hb dX0_lastIs_31 (by decide +kernel) ?_
        refine lv_goto (tgt := 36) hx hb dX0_lastIs_32 (by decide) ?_
        cases hF
        refine W.widen (k := 0) (n := 0) (Nat.le_of_ble_eq_true rfl) (Nat.le_of_ble_eq_true rfl) ?_
        exact W.zret hx hb hr rfl (fun t ht hW => ⟨⟨_, _, rfl, ⟨rfl, rfl⟩, by rw [ht]; exact hP, va_K.moved hW.alike hK, hD⟩, hS.F ht⟩) hS.2.2 dX0_lastIs_36
def F_Row_putBehind (p1 : Int32) (p2 : Int32) (p3 : Int32) (u : RowS) : Option ((Unit) × RowS) := (if (0 : Int32) < p3 then (if (8 : Int32) ≤ u.2.2.2.1 then gd (inb (u.2.2.2.1 - (1 : Int32)) 8) (gd (inb (u.2.2.2.1 - (1 : Int32)) 8) (some ((), (u.1, (upd u.2.1 (u.2.2.2.1 - (1 : Int32)).toNatClampNeg ((u.2.1 (u.2.2.2.1 - (1 : Int32)).toNatClampNeg) + p3)), u.2.2.1, u.2.2.2.1, (u.2.2.2.2 + p3))))) else bi (F_Row_lastIs p1 p2 u) (fun r6 u5 => (if r6 = (0 : Int32) then gd (inb u.2.2.2.1 8) (gd (inb u.2.2.2.1 8) (gd (inb u.2.2.2.1 8) (gd (inb ((u.2.2.2.1 + (1 : Int32)) - (1 : Int32)) 8) (gd (inb ((u.2.2.2.1 + (1 : Int32)) - (1 : Int32)) 8) (some ((), ((upd u.1 u.2.2.2.1.toNatClampNeg p1), (upd (upd u.2.1 u.2.2.2.1.toNatClampNeg (0 : Int32)) ((u.2.2.2.1 + (1 : Int32)) - (1 : Int32)).toNatClampNeg (((upd u.2.1 u.2.2.2.1.toNatClampNeg (0 : Int32)) ((u.2.2.2.1 + (1 : Int32)) - (1 : Int32)).toNatClampNeg) + p3)), (upd u.2.2.1 u.2.2.2.1.toNatClampNeg p2), (u.2.2.2.1 + (1 : Int32)), (u.2.2.2.2 + p3)))))))) else gd (inb (u.2.2.2.1 - (1 : Int32)) 8) (gd (inb (u.2.2.2.1 - (1 : Int32)) 8) (some ((), (u.1, (upd u.2.1 (u.2.2.2.1 - (1 : Int32)).toNatClampNeg ((u.2.1 (u.2.2.2.1 - (1 : Int32)).toNatClampNeg) + p3)), u.2.2.1, u.2.2.2.1, (u.2.2.2.2 + p3)))))))) else some ((), u))
set_option maxHeartbeats 4000000 in
set_option maxRecDepth 100000 in
theorem c_Row_putBehind (l : Launch) (D : va_G) (cI cR : ClassId) (q o a b : Nat) (sz : Nat) (p1 : Int32) (p2 : Int32) (p3 : Int32) (u : RowS) (r : Unit) (u' : RowS) (hF : F_Row_putBehind p1 p2 p3 u = some (r, u')) : Met l yX0_putBehind wsX0_putBehind ({ frames := 1, cells := 0, slots := 0, locals := 23 }) (va_Pc [.ref q, .int p1, .int p2, .int p3] (PRE D (TY cI cR) (RW cI q o a b u) sz)) (QV D (TY cI cR) (va_A (RW cI q o a b u) sz) (fun v => RW cI q o a b v) u') 0 0 (va_A (RW cI q o a b u) sz) := by
  refine Met.ofW (cc := cX0_putBehind) (maxL := 4) (ret := none) (by decide) rfl ?_
  intro p e s m args below meth c s₁ B hml hv
  obtain ⟨rfl, hsz, hP, hK, hD0⟩ := hv
  have hx := B.exec
  have hb := B.bytes
  have hr := B.returns
  have hts := atoms_spec (ws := wsX0_putBehind) B.pre
  have hown : s.vm.findClass RX0 = some m.cls := findClass_of_methodNamed B.named
  have hlocks := B.notSynchronized
  subst hsz
  have hD := hD0.self (sz := s.heap.size)
  generalize hAe : va_A (RW cI q o a b u) s.heap.size = A at hD ⊢
  have hA : ∀ q : Nat, s.heap.size ≤ q → A q := fun q h => by rw [← hAe]; exact Or.inr h
  have hS : va_S A s.heap s.heap [] := va_S.rf
  replace hP : va_P D vwCl (RW cI q o a b u) s.heap := hP
  have hl := lv_entry ([.ref q, .int p1, .int p2, .int p3]) (n := 4) (Nat.le_of_ble_eq_true rfl)
  rw [lg_entry_eq]
  generalize (lg_sl ([.ref q, .int p1, .int p2, .int p3]) ++ List.replicate (4 - (lg_sl ([.ref q, .int p1, .int p2, .int p3])).length) Slot.unset).toArray = ls at hl ⊢
  replace hl : lv_has ls 4 [(0, .ref q), (1, .int p1), (2, .int p2), (3, .int p3)] := hl
  have hk_21 := (hts _ (cwc _ mw_26))
  have hk_15 := (hts _ (cwc _ mw_24))
  have hk_25 := (hts _ (cwc _ mw_27))
  have hk_9 := (hts _ (cwc _ mw_23))
  have hk_18 := (hts _ (cwc _ mw_25))
  unfold F_Row_putBehind at hF
  refine (?_ : ∀ (H : Heap) (locs : List Loc), va_P D vwCl (RW cI q o a b u) H → va_S A s.heap H locs → W p l e _ s m _ below meth c H locs 0 0 _ (F0 m 0 ls [])) s.heap [] hP hS
  intro H locs hP hS
  refine lv_iload_n hx hb dX0_putBehind_0 rfl (lv_at hl 3 rfl) ?_
  refine lv_if_gt (tgt := 5) hx hb dX0_putBehind_1 (by decide) (fun c_1 => ?_) (fun c_1 => ?_)
  · replace hF := (if_pos c_1).symm.trans hF
    refine lv_aload_n hx hb dX0_putBehind_5 rfl (lv_at hl 0 rfl) ?_
    refine va_get (D := D) (ci := 0) (v := .int u.2.2.2.1) (C := RX0) (T := TX0) (N := 5) hx hb hts (fun w h => cwc w (in_X0 w h)) hown hK hP 0 rfl rfl 3 (by decide) hk_21 (fun _ h9 => h9) rfl dX0_putBehind_6 ?_
    refine lv_bipush (v := (8 : Int32)) hx hb dX0_putBehind_9 (by decide +kernel) ?_
    refine lv_icmp_ge (tgt := 63) hx hb dX0_putBehind_11 (by decide) (fun c_2 => ?_) (fun c_2 => ?_)
    · replace hF := (if_pos c_2).symm.trans hF
      refine lv_aload_n hx hb dX0_putBehind_63 rfl (lv_at hl 0 rfl) ?_
      refine va_get (D := D) (ci := 0) (v := .ref a) (C := RX0) (T := TX0) (N := 5) hx hb hts (fun w h => cwc w (in_X0 w h)) hown hK hP 0 rfl rfl 1 (by decide) hk_15 (fun _ h9 => h9) rfl dX0_putBehind_64 ?_
      refine lv_aload_n hx hb dX0_putBehind_67 rfl (lv_at hl 0 rfl) ?_
      refine va_get (D := D) (ci := 0) (v := .int u.2.2.2.1) (C := RX0) (T := TX0) (N := 5) hx hb hts (fun w h => cwc w (in_X0 w h)) hown hK hP 0 rfl rfl 3 (by decide) hk_21 (fun _ h9 => h9) rfl dX0_putBehind_68 ?_
      refine lv_iconst (v := (1 : Int32)) hx hb dX0_putBehind_71 (by decide +kernel) ?_
      refine lv_isub hx hb dX0_putBehind_72 ?_
      refine lv_dup2_11 hx hb dX0_putBehind_73 rfl rfl ?_
      obtain ⟨h_3, hF⟩ := gd_some hF
      refine va_iald (f := u.2.1) hx hb hK hP 2 0 rfl rfl (inb_in h_3) dX0_putBehind_74 ?_
      refine lv_iload_n hx hb dX0_putBehind_75 rfl (lv_at hl 3 rfl) ?_
      refine lv_iadd hx hb dX0_putBehind_76 ?_
      obtain ⟨h_4, hF⟩ := gd_some hF
      refine va_iast (f := u.2.1) hx hb hK hP hD hS 2 0 rfl rfl (inb_in h_4) dX0_putBehind_77 (fun H locs hP hD hS => ?_)
      replace hP : va_P D vwCl (RW cI q o a b (u.1, (upd u.2.1 (u.2.2.2.1 - (1 : Int32)).toNatClampNeg ((u.2.1 (u.2.2.2.1 - (1 : Int32)).toNatClampNeg) + p3)), u.2.2.1, u.2.2.2.1, u.2.2.2.2)) H := hP
      replace hD : va_D A (RW cI q o a b (u.1, (upd u.2.1 (u.2.2.2.1 - (1 : Int32)).toNatClampNeg ((u.2.1 (u.2.2.2.1 - (1 : Int32)).toNatClampNeg) + p3)), u.2.2.1, u.2.2.2.1, u.2.2.2.2)) := hD
      refine lv_aload_n hx hb dX0_putBehind_78 rfl (lv_at hl 0 rfl) ?_
      refine lv_dup hx hb dX0_putBehind_79 rfl ?_
      refine va_get (D := D) (ci := 0) (v := .int u.2.2.2.2) (C := RX0) (T := TX0) (N := 5) hx hb hts (fun w h => cwc w (in_X0 w h)) hown hK hP 0 rfl rfl 4 (by decide) hk_25 (fun _ h9 => h9) rfl dX0_putBehind_80 ?_
      refine lv_iload_n hx hb dX0_putBehind_83 rfl (lv_at hl 3 rfl) ?_
      refine lv_iadd hx hb dX0_putBehind_84 ?_
      refine va_put (D := D) (ci := 0) (v := .int (u.2.2.2.2 + p3)) (ty := .int) (C := RX0) (T := TX0) (N := 5) hx hb hts (fun w h => cwc w (in_X0 w h)) tyX0 tyX0_ok nmX0 hown hK hP hD hS 0 rfl rfl 4 (by decide) hk_25 (fun _ h9 => h9) rfl (by decide +kernel) rfl rfl (Nat.le_of_ble_eq_true rfl) dX0_putBehind_85 (fun H locs hP hD hS => ?_)
      replace hP : va_P D vwCl (RW cI q o a b (u.1, (upd u.2.1 (u.2.2.2.1 - (1 : Int32)).toNatClampNeg ((u.2.1 (u.2.2.2.1 - (1 : Int32)).toNatClampNeg) + p3)), u.2.2.1, u.2.2.2.1, (u.2.2.2.2 + p3))) H := hP
      replace hD : va_D A (RW cI q o a b (u.1, (upd u.2.1 (u.2.2.2.1 - (1 : Int32)).toNatClampNeg ((u.2.1 (u.2.2.2.1 - (1 : Int32)).toNatClampNeg) + p3)), u.2.2.1, u.2.2.2.1, (u.2.2.2.2 + p3))) := hD
      cases hF
      refine W.widen (k := 0) (n := 0) (Nat.le_of_ble_eq_true rfl) (Nat.le_of_ble_eq_true rfl) ?_
      exact W.vret hx hb hr (fun t ht hW => ⟨⟨_, rfl, rfl, by rw [ht]; exact hP, va_K.moved hW.alike hK, hD⟩, hS.F ht⟩) hS.2.2 dX0_putBehind_88
    · replace hF := (if_neg c_2).symm.trans hF
      refine lv_aload_n hx hb dX0_putBehind_14 rfl (lv_at hl 0 rfl) ?_
      refine lv_iload_n hx hb dX0_putBehind_15 rfl (lv_at hl 1 rfl) ?_
      refine lv_iload_n hx hb dX0_putBehind_16 rfl (lv_at hl 2 rfl) ?_
      obtain ⟨r6, u5, hc_7, hF⟩ := bi_some hF
      refine kc_i (W1 := RW cI q o a b u) (va_runV (As := [.int p1, .int p2]) (rest := []) ⟨hx, hb, hml, hown, hts⟩ (c_Row_lastIs l D cI cR q o a b H.size p1 p2 u r6 u5 hc_7) (cwV 2 hts (gV cwc mw_247 mw_248 mw_479 mw_2 mw_249) rfl rfl rfl (by decide +kernel) ⟨(Nat.le_of_ble_eq_true rfl), (Nat.le_of_ble_eq_true rfl)⟩) (kp_V (ci := 0) (q := (RX0, TX0, 5)) hK hP hD (sb_id _) rfl rfl) rfl rfl hl.1 rfl (lv_room (Nat.le_of_ble_eq_true rfl)) dX0_putBehind_17 ⟨(Nat.le_of_ble_eq_true rfl), (Nat.le_of_ble_eq_true rfl)⟩) hP hD hS hA (sb_id _) (jn_same (sb_id _)) (fun H locs hP hD hS => ?_)
      refine lv_if_ne (tgt := 63) hx hb dX0_putBehind_20 (by decide) (fun c_8 => ?_) (fun c_8 => ?_)
      · replace hF := (if_neg c_8).symm.trans hF
        refine lv_aload_n hx hb dX0_putBehind_63 rfl (lv_at hl 0 rfl) ?_
        refine va_get (D := D) (ci := 0) (v := .ref a) (C := RX0) (T := TX0) (N := 5) hx hb hts (fun w h => cwc w (in_X0 w h)) hown hK hP 0 rfl rfl 1 (by decide) hk_15 (fun _ h9 => h9) rfl dX0_putBehind_64 ?_
        refine lv_aload_n hx hb dX0_putBehind_67 rfl (lv_at hl 0 rfl) ?_
        refine va_get (D := D) (ci := 0) (v := .int u.2.2.2.1) (C := RX0) (T := TX0) (N := 5) hx hb hts (fun w h => cwc w (in_X0 w h)) hown hK hP 0 rfl rfl 3 (by decide) hk_21 (fun _ h9 => h9) rfl dX0_putBehind_68 ?_
        refine lv_iconst (v := (1 : Int32)) hx hb dX0_putBehind_71 (by decide +kernel) ?_
        refine lv_isub hx hb dX0_putBehind_72 ?_
        refine lv_dup2_11 hx hb dX0_putBehind_73 rfl rfl ?_
        obtain ⟨h_9, hF⟩ := gd_some hF
        refine va_iald (f := u.2.1) hx hb hK hP 2 0 rfl rfl (inb_in h_9) dX0_putBehind_74 ?_
        refine lv_iload_n hx hb dX0_putBehind_75 rfl (lv_at hl 3 rfl) ?_
        refine lv_iadd hx hb dX0_putBehind_76 ?_
        obtain ⟨h_10, hF⟩ := gd_some hF
        refine va_iast (f := u.2.1) hx hb hK hP hD hS 2 0 rfl rfl (inb_in h_10) dX0_putBehind_77 (fun H locs hP hD hS => ?_)
        replace hP : va_P D vwCl (RW cI q o a b (u.1, (upd u.2.1 (u.2.2.2.1 - (1 : Int32)).toNatClampNeg ((u.2.1 (u.2.2.2.1 - (1 : Int32)).toNatClampNeg) + p3)), u.2.2.1, u.2.2.2.1, u.2.2.2.2)) H := hP
        replace hD : va_D A (RW cI q o a b (u.1, (upd u.2.1 (u.2.2.2.1 - (1 : Int32)).toNatClampNeg ((u.2.1 (u.2.2.2.1 - (1 : Int32)).toNatClampNeg) + p3)), u.2.2.1, u.2.2.2.1, u.2.2.2.2)) := hD
        refine lv_aload_n hx hb dX0_putBehind_78 rfl (lv_at hl 0 rfl) ?_
        refine lv_dup hx hb dX0_putBehind_79 rfl ?_
        refine va_get (D := D) (ci := 0) (v := .int u.2.2.2.2) (C := RX0) (T := TX0) (N := 5) hx hb hts (fun w h => cwc w (in_X0 w h)) hown hK hP 0 rfl rfl 4 (by decide) hk_25 (fun _ h9 => h9) rfl dX0_putBehind_80 ?_
        refine lv_iload_n hx hb dX0_putBehind_83 rfl (lv_at hl 3 rfl) ?_
        refine lv_iadd hx hb dX0_putBehind_84 ?_
        refine va_put (D := D) (ci := 0) (v := .int (u.2.2.2.2 + p3)) (ty := .int) (C := RX0) (T := TX0) (N := 5) hx hb hts (fun w h => cwc w (in_X0 w h)) tyX0 tyX0_ok nmX0 hown hK hP hD hS 0 rfl rfl 4 (by decide) hk_25 (fun _ h9 => h9) rfl (by decide +kernel) rfl rfl (Nat.le_of_ble_eq_true rfl) dX0_putBehind_85 (fun H locs hP hD hS => ?_)
        replace hP : va_P D vwCl (RW cI q o a b (u.1, (upd u.2.1 (u.2.2.2.1 - (1 : Int32)).toNatClampNeg ((u.2.1 (u.2.2.2.1 - (1 : Int32)).toNatClampNeg) + p3)), u.2.2.1, u.2.2.2.1, (u.2.2.2.2 + p3))) H := hP
        replace hD : va_D A (RW cI q o a b (u.1, (upd u.2.1 (u.2.2.2.1 - (1 : Int32)).toNatClampNeg ((u.2.1 (u.2.2.2.1 - (1 : Int32)).toNatClampNeg) + p3)), u.2.2.1, u.2.2.2.1, (u.2.2.2.2 + p3))) := hD
        cases hF
        refine W.widen (k := 0) (n := 0) (Nat.le_of_ble_eq_true rfl) (Nat.le_of_ble_eq_true rfl) ?_
        exact W.vret hx hb hr (fun t ht hW => ⟨⟨_, rfl, rfl, by rw [ht]; exact hP, va_K.moved hW.alike hK, hD⟩, hS.F ht⟩) hS.2.2 dX0_putBehind_88
      · replace hF := (if_pos c_8).symm.trans hF
        refine lv_aload_n hx hb dX0_putBehind_23 rfl (lv_at hl 0 rfl) ?_
        refine va_get (D := D) (ci := 0) (v := .ref o) (C := RX0) (T := TX0) (N := 5) hx hb hts (fun w h => cwc w (in_X0 w h)) hown hK hP 0 rfl rfl 0 (by decide) hk_9 (fun _ h9 => h9) rfl dX0_putBehind_24 ?_
        refine lv_aload_n hx hb dX0_putBehind_27 rfl (lv_at hl 0 rfl) ?_
        refine va_get (D := D) (ci := 0) (v := .int u.2.2.2.1) (C := RX0) (T := TX0) (N := 5) hx hb hts (fun w h => cwc w (in_X0 w h)) hown hK hP 0 rfl rfl 3 (by decide) hk_21 (fun _ h9 => h9) rfl dX0_putBehind_28 ?_
        refine lv_iload_n hx hb dX0_putBehind_31 rfl (lv_at hl 1 rfl) ?_
        obtain ⟨h_11, hF⟩ := gd_some hF
        refine va_iast (f := u.1) hx hb hK hP hD hS 1 0 rfl rfl (inb_in h_11) dX0_putBehind_32 (fun H locs hP hD hS => ?_)
        replace hP : va_P D vwCl (RW cI q o a b ((upd u.1 u.2.2.2.1.toNatClampNeg p1), u.2.1, u.2.2.1, u.2.2.2.1, u.2.2.2.2)) H := hP
        replace hD : va_D A (RW cI q o a b ((upd u.1 u.2.2.2.1.toNatClampNeg p1), u.2.1, u.2.2.1, u.2.2.2.1, u.2.2.2.2)) := hD
        refine lv_aload_n hx hb dX0_putBehind_33 rfl (lv_at hl 0 rfl) ?_
        refine va_get (D := D) (ci := 0) (v := .ref b) (C := RX0) (T := TX0) (N := 5) hx hb hts (fun w h => cwc w (in_X0 w h)) hown hK hP 0 rfl rfl 2 (by decide) hk_18 (fun _ h9 => h9) rfl dX0_putBehind_34 ?_
        refine lv_aload_n hx hb dX0_putBehind_37 rfl (lv_at hl 0 rfl) ?_
        refine va_get (D := D) (ci := 0) (v := .int u.2.2.2.1) (C := RX0) (T := TX0) (N := 5) hx hb hts (fun w h => cwc w (in_X0 w h)) hown hK hP 0 rfl rfl 3 (by decide) hk_21 (fun _ h9 => h9) rfl dX0_putBehind_38 ?_
        refine lv_iload_n hx hb dX0_putBehind_41 rfl (lv_at hl 2 rfl) ?_
        obtain ⟨h_12, hF⟩ := gd_some hF
        refine va_iast (f := u.2.2.1) hx hb hK hP hD hS 3 0 rfl rfl (inb_in h_12) dX0_putBehind_42 (fun H locs hP hD hS => ?_)
        replace hP : va_P D vwCl (RW cI q o a b ((upd u.1 u.2.2.2.1.toNatClampNeg p1), u.2.1, (upd u.2.2.1 u.2.2.2.1.toNatClampNeg p2), u.2.2.2.1, u.2.2.2.2)) H := hP
        replace hD : va_D A (RW cI q o a b ((upd u.1 u.2.2.2.1.toNatClampNeg p1), u.2.1, (upd u.2.2.1 u.2.2.2.1.toNatClampNeg p2), u.2.2.2.1, u.2.2.2.2)) := hD
        refine lv_aload_n hx hb dX0_putBehind_43 rfl (lv_at hl 0 rfl) ?_
        refine va_get (D := D) (ci := 0) (v := .ref a) (C := RX0) (T := TX0) (N := 5) hx hb hts (fun w h => cwc w (in_X0 w h)) hown hK hP 0 rfl rfl 1 (by decide) hk_15 (fun _ h9 => h9) rfl dX0_putBehind_44 ?_
        refine lv_aload_n hx hb dX0_putBehind_47 rfl (lv_at hl 0 rfl) ?_
        refine va_get (D := D) (ci := 0) (v := .int u.2.2.2.1) (C := RX0) (T := TX0) (N := 5) hx hb hts (fun w h => cwc w (in_X0 w h)) hown hK hP 0 rfl rfl 3 (by decide) hk_21 (fun _ h9 => h9) rfl dX0_putBehind_48 ?_
        refine lv_iconst (v := (0 : Int32)) hx hb dX0_putBehind_51 (by decide +kernel) ?_
        obtain ⟨h_13, hF⟩ := gd_some hF
        refine va_iast (f := u.2.1) hx hb hK hP hD hS 2 0 rfl rfl (inb_in h_13) dX0_putBehind_52 (fun H locs hP hD hS => ?_)
        replace hP : va_P D vwCl (RW cI q o a b ((upd u.1 u.2.2.2.1.toNatClampNeg p1), (upd u.2.1 u.2.2.2.1.toNatClampNeg (0 : Int32)), (upd u.2.2.1 u.2.2.2.1.toNatClampNeg p2), u.2.2.2.1, u.2.2.2.2)) H := hP
        replace hD : va_D A (RW cI q o a b ((upd u.1 u.2.2.2.1.toNatClampNeg p1), (upd u.2.1 u.2.2.2.1.toNatClampNeg (0 : Int32)), (upd u.2.2.1 u.2.2.2.1.toNatClampNeg p2), u.2.2.2.1, u.2.2.2.2)) := hD
        refine lv_aload_n hx hb dX0_putBehind_53 rfl (lv_at hl 0 rfl) ?_
        refine lv_dup hx hb dX0_putBehind_54 rfl ?_
        refine va_get (D := D) (ci := 0) (v := .int u.2.2.2.1) (C := RX0) (T := TX0) (N := 5) hx hb hts (fun w h => cwc w (in_X0 w h)) hown hK hP 0 rfl rfl 3 (by decide) hk_21 (fun _ h9 => h9) rfl dX0_putBehind_55 ?_
        refine lv_iconst (v := (1 : Int32)) hx hb dX0_putBehind_58 (by decide +kernel) ?_
        refine lv_iadd hx hb dX0_putBehind_59 ?_
        refine va_put (D := D) (ci := 0) (v := .int (u.2.2.2.1 + (1 : Int32))) (ty := .int) (C := RX0) (T := TX0) (N := 5) hx hb hts (fun w h => cwc w (in_X0 w h)) tyX0 tyX0_ok nmX0 hown hK hP hD hS 0 rfl rfl 3 (by decide) hk_21 (fun _ h9 => h9) rfl (by decide +kernel) rfl rfl (Nat.le_of_ble_eq_true rfl) dX0_putBehind_60 (fun H locs hP hD hS => ?_)
        replace hP : va_P D vwCl (RW cI q o a b ((upd u.1 u.2.2.2.1.toNatClampNeg p1), (upd u.2.1 u.2.2.2.1.toNatClampNeg (0 : Int32)), (upd u.2.2.1 u.2.2.2.1.toNatClampNeg p2), (u.2.2.2.1 + (1 : Int32)), u.2.2.2.2)) H := hP
        replace hD : va_D A (RW cI q o a b ((upd u.1 u.2.2.2.1.toNatClampNeg p1), (upd u.2.1 u.2.2.2.1.toNatClampNeg (0 : Int32)), (upd u.2.2.1 u.2.2.2.1.toNatClampNeg p2), (u.2.2.2.1 + (1 : Int32)), u.2.2.2.2)) := hD
        refine lv_aload_n hx hb dX0_putBehind_63 rfl (lv_at hl 0 rfl) ?_
        refine va_get (D := D) (ci := 0) (v := .ref a) (C := RX0) (T := TX0) (N := 5) hx hb hts (fun w h => cwc w (in_X0 w h)) hown hK hP 0 rfl rfl 1 (by decide) hk_15 (fun _ h9 => h9) rfl dX0_putBehind_64 ?_
        refine lv_aload_n hx hb dX0_putBehind_67 rfl (lv_at hl 0 rfl) ?_
        refine va_get (D := D) (ci := 0) (v := .int (u.2.2.2.1 + (1 : Int32))) (C := RX0) (T := TX0) (N := 5) hx hb hts (fun w h => cwc w (in_X0 w h)) hown hK hP 0 rfl rfl 3 (by decide) hk_21 (fun _ h9 => h9) rfl dX0_putBehind_68 ?_
        refine lv_iconst (v := (1 : Int32)) hx hb dX0_putBehind_71 (by decide +kernel) ?_
        refine lv_isub hx hb dX0_putBehind_72 ?_
        refine lv_dup2_11 hx hb dX0_putBehind_73 rfl rfl ?_
        obtain ⟨h_14, hF⟩ := gd_some hF
        refine va_iald (f := (upd u.2.1 u.2.2.2.1.toNatClampNeg (0 : Int32))) hx hb hK hP 2 0 rfl rfl (inb_in h_14) dX0_putBehind_74 ?_
        refine lv_iload_n hx hb dX0_putBehind_75 rfl (lv_at hl 3 rfl) ?_
        refine lv_iadd hx hb dX0_putBehind_76 ?_
        obtain ⟨h_15, hF⟩ := gd_some hF
        refine va_iast (f := (upd u.2.1 u.2.2.2.1.toNatClampNeg (0 : Int32))) hx hb hK hP hD hS 2 0 rfl rfl (inb_in h_15) dX0_putBehind_77 (fun H locs hP hD hS => ?_)
        replace hP : va_P D vwCl (RW cI q o a b ((upd u.1 u.2.2.2.1.toNatClampNeg p1), (upd (upd u.2.1 u.2.2.2.1.toNatClampNeg (0 : Int32)) ((u.2.2.2.1 + (1 : Int32)) - (1 : Int32)).toNatClampNeg (((upd u.2.1 u.2.2.2.1.toNatClampNeg (0 : Int32)) ((u.2.2.2.1 + (1 : Int32)) - (1 : Int32)).toNatClampNeg) + p3)), (upd u.2.2.1 u.2.2.2.1.toNatClampNeg p2), (u.2.2.2.1 + (1 : Int32)), u.2.2.2.2)) H := hP
        replace hD : va_D A (RW cI q o a b ((upd u.1 u.2.2.2.1.toNatClampNeg p1), (upd (upd u.2.1 u.2.2.2.1.toNatClampNeg (0 : Int32)) ((u.2.2.2.1 + (1 : Int32)) - (1 : Int32)).toNatClampNeg (((upd u.2.1 u.2.2.2.1.toNatClampNeg (0 : Int32)) ((u.2.2.2.1 + (1 : Int32)) - (1 : Int32)).toNatClampNeg) + p3)), (upd u.2.2.1 u.2.2.2.1.toNatClampNeg p2), (u.2.2.2.1 + (1 : Int32)), u.2.2.2.2)) := hD
        refine lv_aload_n hx hb dX0_putBehind_78 rfl (lv_at hl 0 rfl) ?_
        refine lv_dup hx hb dX0_putBehind_79 rfl ?_
        refine va_get (D := D) (ci := 0) (v := .int u.2.2.2.2) (C := RX0) (T := TX0) (N := 5) hx hb hts (fun w h => cwc w (in_X0 w h)) hown hK hP 0 rfl rfl 4 (by decide) hk_25 (fun _ h9 => h9) rfl dX0_putBehind_80 ?_
        refine lv_iload_n hx hb dX0_putBehind_83 rfl (lv_at hl 3 rfl) ?_
        refine lv_iadd hx hb dX0_putBehind_84 ?_
        refine va_put (D := D) (ci := 0) (v := .int (u.2.2.2.2 + p3)) (ty := .int) (C := RX0) (T := TX0) (N := 5) hx hb hts (fun w h => cwc w (in_X0 w h)) tyX0 tyX0_ok nmX0 hown hK hP hD hS 0 rfl rfl 4 (by decide) hk_25 (fun _ h9 => h9) rfl (by decide +kernel) rfl rfl (Nat.le_of_ble_eq_true rfl) dX0_putBehind_85 (fun H locs hP hD hS => ?_)
        replace hP : va_P D vwCl (RW cI q o a b ((upd u.1 u.2.2.2.1.toNatClampNeg p1), (upd (upd u.2.1 u.2.2.2.1.toNatClampNeg (0 : Int32)) ((u.2.2.2.1 + (1 : Int32)) - (1 : Int32)).toNatClampNeg (((upd u.2.1 u.2.2.2.1.toNatClampNeg (0 : Int32)) ((u.2.2.2.1 + (1 : Int32)) - (1 : Int32)).toNatClampNeg) + p3)), (upd u.2.2.1 u.2.2.2.1.toNatClampNeg p2), (u.2.2.2.1 + (1 : Int32)), (u.2.2.2.2 + p3))) H := hP
        replace hD : va_D A (RW cI q o a b ((upd u.1 u.2.2.2.1.toNatClampNeg p1), (upd (upd u.2.1 u.2.2.2.1.toNatClampNeg (0 : Int32)) ((u.2.2.2.1 + (1 : Int32)) - (1 : Int32)).toNatClampNeg (((upd u.2.1 u.2.2.2.1.toNatClampNeg (0 : Int32)) ((u.2.2.2.1 + (1 : Int32)) - (1 : Int32)).toNatClampNeg) + p3)), (upd u.2.2.1 u.2.2.2.1.toNatClampNeg p2), (u.2.2.2.1 + (1 : Int32)), (u.2.2.2.2 + p3))) := hD
        cases hF
        refine W.widen (k := 0) (n := 0) (Nat.le_of_ble_eq_true rfl) (Nat.le_of_ble_eq_true rfl) ?_
        exact W.vret hx hb hr (fun t ht hW => ⟨⟨_, rfl, rfl, by rw [ht]; exact hP, va_K.moved hW.alike hK, hD⟩, hS.F ht⟩) hS.2.2 dX0_putBehind_88
  · replace hF := (if_neg c_1).symm.trans hF
    cases hF
    refine W.widen (k := 0) (n := 0) (Nat.le_of_ble_eq_true rfl) (Nat.le_of_ble_eq_true rfl) ?_
    exact W.vret hx hb hr (fun t ht hW => ⟨⟨_, rfl, rfl, by rw [ht]; exact hP, va_K.moved hW.alike hK, hD⟩, hS.F ht⟩) hS.2.2 dX0_putBehind_4
def F_Row_dropFirst_L2 : Nat → Int32 → RowS → Option ((Unit) × RowS)
  | 0, _, _ => none
  | n + 1, x1, u => (if u.2.2.2.1 ≤ x1 then some ((), (u.1, u.2.1, u.2.2.1, (u.2.2.2.1 - (1 : Int32)), u.2.2.2.2)) else gd (inb x1 8) (gd (inb (x1 - (1 : Int32)) 8) (gd (inb x1 8) (gd (inb (x1 - (1 : Int32)) 8) (gd (inb x1 8) (gd (inb (x1 - (1 : Int32)) 8) (F_Row_dropFirst_L2 n (x1 + (1 : Int32)) ((upd u.1 (x1 - (1 : Int32)).toNatClampNeg (u.1 x1.toNatClampNeg)), (upd u.2.1 (x1 - (1 : Int32)).toNatClampNeg (u.2.1 x1.toNatClampNeg)), (upd u.2.2.1 (x1 - (1 : Int32)).toNatClampNeg (u.2.2.1 x1.toNatClampNeg)), u.2.2.2.1, u.2.2.2.2))))))))
def F_Row_dropFirst  (u : RowS) : Option ((Unit) × RowS) := F_Row_dropFirst_L2 9 (1 : Int32) u
set_option maxHeartbeats 4000000 in
set_option maxRecDepth 100000 in
theorem w_Row_dropFirst_L2 {p : Program} {l : Launch} {e : Env} {s : State} {m : MethodId} {args : Array Value} {below : List Frame} {meth : Method} {c : Code} {A : Nat → Prop} {D : va_G} {cI cR : ClassId} {q o a b : Nat} (hx : p.tables.exec = Jvm.exec) (hb : c.code = cX0_dropFirst) (hr : meth.sig.returnType = none) (hml : c.maxLocals = 2) (hown : s.vm.findClass RX0 = some m.cls) (hts : ∀ w ∈ wsX0_dropFirst, w.before args s = true) (hlocks : meth.locks = false) (hA : ∀ q : Nat, s.heap.size ≤ q → A q) (hK : va_K D vwCl (TY cI cR) s) : ∀ (n : Nat) (x1 : Int32) (u : RowS) (r : Unit) (u' : RowS), F_Row_dropFirst_L2 n x1 u = some (r, u') → ∀ (H : Heap) (locs : List Loc) (ls : Array Slot), va_P D vwCl (RW cI q o a b u) H → va_D A (RW cI q o a b u) → va_S A s.heap H locs → lv_has ls 2 [(0, .ref q), (1, .int x1)] → W p l e (headSpec wsX0_dropFirst ({ frames := 0, cells := 0, slots := 0, locals := 0 })).room s m args below meth c H locs 0 0 (MQ below (QV D (TY cI cR) A (fun v => RW cI q o a b v) u') args s 0 0 A) (F0 m 2 ls []) := by
  have hk_21 := (hts _ (cwc _ mw_26))
  have hk_9 := (hts _ (cwc _ mw_23))
  have hk_15 := (hts _ (cwc _ mw_24))
  have hk_18 := (hts _ (cwc _ mw_25))
  intro n
  induction n with
  | zero =>
    intro x1 u r u' hF
    rw [F_Row_dropFirst_L2] at hF
    exact absurd hF (by simp)
  | succ n ih =>
    intro x1 u r u' hF H locs ls hP hD hS hl
    rw [F_Row_dropFirst_L2] at hF
    refine lv_iload_n hx hb dX0_dropFirst_2 rfl (lv_at hl 1 rfl) ?_
    refine lv_aload_n hx hb dX0_dropFirst_3 rfl (lv_at hl 0 rfl) ?_
    refine va_get (D := D) (ci := 0) (v := .int u.2.2.2.1) (C := RX0) (T := TX0) (N := 5) hx hb hts (fun w h => cwc w (in_X0 w h)) hown hK hP 0 rfl rfl 3 (by decide) hk_21 (fun _ h9 => h9) rfl dX0_dropFirst_4 ?_
    refine lv_icmp_ge (tgt := 58) hx hb dX0_dropFirst_7 (by decide) (fun c_1 => ?_) (fun c_1 => ?_)
    · replace hF := (if_pos c_1).symm.trans hF
      refine lv_aload_n hx hb dX0_dropFirst_58 rfl (lv_at hl 0 rfl) ?_
      refine lv_dup hx hb dX0_dropFirst_59 rfl ?_
      refine va_get (D := D) (ci := 0) (v := .int u.2.2.2.1) (C := RX0) (T := TX0) (N := 5) hx hb hts (fun w h => cwc w (in_X0 w h)) hown hK hP 0 rfl rfl 3 (by decide) hk_21 (fun _ h9 => h9) rfl dX0_dropFirst_60 ?_
      refine lv_iconst (v := (1 : Int32)) hx hb dX0_dropFirst_63 (by decide +kernel) ?_
      refine lv_isub hx hb dX0_dropFirst_64 ?_
      refine va_put (D := D) (ci := 0) (v := .int (u.2.2.2.1 - (1 : Int32))) (ty := .int) (C := RX0) (T := TX0) (N := 5) hx hb hts (fun w h => cwc w (in_X0 w h)) tyX0 tyX0_ok nmX0 hown hK hP hD hS 0 rfl rfl 3 (by decide) hk_21 (fun _ h9 => h9) rfl (by decide +kernel) rfl rfl (Nat.le_of_ble_eq_true rfl) dX0_dropFirst_65 (fun H locs hP hD hS => ?_)
      replace hP : va_P D vwCl (RW cI q o a b (u.1, u.2.1, u.2.2.1, (u.2.2.2.1 - (1 : Int32)), u.2.2.2.2)) H := hP
      replace hD : va_D A (RW cI q o a b (u.1, u.2.1, u.2.2.1, (u.2.2.2.1 - (1 : Int32)), u.2.2.2.2)) := hD
      cases hF
      refine W.widen (k := 0) (n := 0) (Nat.le_of_ble_eq_true rfl) (Nat.le_of_ble_eq_true rfl) ?_
      exact W.vret hx hb hr (fun t ht hW => ⟨⟨_, rfl, rfl, by rw [ht]; exact hP, va_K.moved hW.alike hK, hD⟩, hS.F ht⟩) hS.2.2 dX0_dropFirst_68
    · replace hF := (if_neg c_1).symm.trans hF
      refine lv_aload_n hx hb dX0_dropFirst_10 rfl (lv_at hl 0 rfl) ?_
      refine va_get (D := D) (ci := 0) (v := .ref o) (C := RX0) (T := TX0) (N := 5) hx hb hts (fun w h => cwc w (in_X0 w h)) hown hK hP 0 rfl rfl 0 (by decide) hk_9 (fun _ h9 => h9) rfl dX0_dropFirst_11 ?_
      refine lv_iload_n hx hb dX0_dropFirst_14 rfl (lv_at hl 1 rfl) ?_
      refine lv_iconst (v := (1 : Int32)) hx hb dX0_dropFirst_15 (by decide +kernel) ?_
      refine lv_isub hx hb dX0_dropFirst_16 ?_
      refine lv_aload_n hx hb dX0_dropFirst_17 rfl (lv_at hl 0 rfl) ?_
      refine va_get (D := D) (ci := 0) (v := .ref o) (C := RX0) (T := TX0) (N := 5) hx hb hts (fun w h => cwc w (in_X0 w h)) hown hK hP 0 rfl rfl 0 (by decide) hk_9 (fun _ h9 => h9) rfl dX0_dropFirst_18 ?_
      refine lv_iload_n hx hb dX0_dropFirst_21 rfl (lv_at hl 1 rfl) ?_
      obtain ⟨h_2, hF⟩ := gd_some hF
      refine va_iald (f := u.1) hx hb hK hP 1 0 rfl rfl (inb_in h_2) dX0_dropFirst_22 ?_
      obtain ⟨h_3, hF⟩ := gd_some hF
      refine va_iast (f := u.1) hx hb hK hP hD hS 1 0 rfl rfl (inb_in h_3) dX0_dropFirst_23 (fun H locs hP hD hS => ?_)
      replace hP : va_P D vwCl (RW cI q o a b ((upd u.1 (x1 - (1 : Int32)).toNatClampNeg (u.1 x1.toNatClampNeg)), u.2.1, u.2.2.1, u.2.2.2.1, u.2.2.2.2)) H := hP
      replace hD : va_D A (RW cI q o a b ((upd u.1 (x1 - (1 : Int32)).toNatClampNeg (u.1 x1.toNatClampNeg)), u.2.1, u.2.2.1, u.2.2.2.1, u.2.2.2.2)) := hD
      refine lv_aload_n hx hb dX0_dropFirst_24 rfl (lv_at hl 0 rfl) ?_
      refine va_get (D := D) (ci := 0) (v := .ref a) (C := RX0) (T := TX0) (N := 5) hx hb hts (fun w h => cwc w (in_X0 w h)) hown hK hP 0 rfl rfl 1 (by decide) hk_15 (fun _ h9 => h9) rfl dX0_dropFirst_25 ?_
      refine lv_iload_n hx hb dX0_dropFirst_28 rfl (lv_at hl 1 rfl) ?_
      refine lv_iconst (v := (1 : Int32)) hx hb dX0_dropFirst_29 (by decide +kernel) ?_
      refine lv_isub hx hb dX0_dropFirst_30 ?_
      refine lv_aload_n hx hb dX0_dropFirst_31 rfl (lv_at hl 0 rfl) ?_
      refine va_get (D := D) (ci := 0) (v := .ref a) (C := RX0) (T := TX0) (N := 5) hx hb hts (fun w h => cwc w (in_X0 w h)) hown hK hP 0 rfl rfl 1 (by decide) hk_15 (fun _ h9 => h9) rfl dX0_dropFirst_32 ?_
      refine lv_iload_n hx hb dX0_dropFirst_35 rfl (lv_at hl 1 rfl) ?_
      obtain ⟨h_4, hF⟩ := gd_some hF
      refine va_iald (f := u.2.1) hx hb hK hP 2 0 rfl rfl (inb_in h_4) dX0_dropFirst_36 ?_
      obtain ⟨h_5, hF⟩ := gd_some hF
      refine va_iast (f := u.2.1) hx hb hK hP hD hS 2 0 rfl rfl (inb_in h_5) dX0_dropFirst_37 (fun H locs hP hD hS => ?_)
      replace hP : va_P D vwCl (RW cI q o a b ((upd u.1 (x1 - (1 : Int32)).toNatClampNeg (u.1 x1.toNatClampNeg)), (upd u.2.1 (x1 - (1 : Int32)).toNatClampNeg (u.2.1 x1.toNatClampNeg)), u.2.2.1, u.2.2.2.1, u.2.2.2.2)) H := hP
      replace hD : va_D A (RW cI q o a b ((upd u.1 (x1 - (1 : Int32)).toNatClampNeg (u.1 x1.toNatClampNeg)), (upd u.2.1 (x1 - (1 : Int32)).toNatClampNeg (u.2.1 x1.toNatClampNeg)), u.2.2.1, u.2.2.2.1, u.2.2.2.2)) := hD
      refine lv_aload_n hx hb dX0_dropFirst_38 rfl (lv_at hl 0 rfl) ?_
      refine va_get (D := D) (ci := 0) (v := .ref b) (C := RX0) (T := TX0) (N := 5) hx hb hts (fun w h => cwc w (in_X0 w h)) hown hK hP 0 rfl rfl 2 (by decide) hk_18 (fun _ h9 => h9) rfl dX0_dropFirst_39 ?_
      refine lv_iload_n hx hb dX0_dropFirst_42 rfl (lv_at hl 1 rfl) ?_
      refine lv_iconst (v := (1 : Int32)) hx hb dX0_dropFirst_43 (by decide +kernel) ?_
      refine lv_isub hx hb dX0_dropFirst_44 ?_
      refine lv_aload_n hx hb dX0_dropFirst_45 rfl (lv_at hl 0 rfl) ?_
      refine va_get (D := D) (ci := 0) (v := .ref b) (C := RX0) (T := TX0) (N := 5) hx hb hts (fun w h => cwc w (in_X0 w h)) hown hK hP 0 rfl rfl 2 (by decide) hk_18 (fun _ h9 => h9) rfl dX0_dropFirst_46 ?_
      refine lv_iload_n hx hb dX0_dropFirst_49 rfl (lv_at hl 1 rfl) ?_
      obtain ⟨h_6, hF⟩ := gd_some hF
      refine va_iald (f := u.2.2.1) hx hb hK hP 3 0 rfl rfl (inb_in h_6) dX0_dropFirst_50 ?_
      obtain ⟨h_7, hF⟩ := gd_some hF
      refine va_iast (f := u.2.2.1) hx hb hK hP hD hS 3 0 rfl rfl (inb_in h_7) dX0_dropFirst_51 (fun H locs hP hD hS => ?_)
      replace hP : va_P D vwCl (RW cI q o a b ((upd u.1 (x1 - (1 : Int32)).toNatClampNeg (u.1 x1.toNatClampNeg)), (upd u.2.1 (x1 - (1 : Int32)).toNatClampNeg (u.2.1 x1.toNatClampNeg)), (upd u.2.2.1 (x1 - (1 : Int32)).toNatClampNeg (u.2.2.1 x1.toNatClampNeg)), u.2.2.2.1, u.2.2.2.2)) H := hP
      replace hD : va_D A (RW cI q o a b ((upd u.1 (x1 - (1 : Int32)).toNatClampNeg (u.1 x1.toNatClampNeg)), (upd u.2.1 (x1 - (1 : Int32)).toNatClampNeg (u.2.1 x1.toNatClampNeg)), (upd u.2.2.1 (x1 - (1 : Int32)).toNatClampNeg (u.2.2.1 x1.toNatClampNeg)), u.2.2.2.1, u.2.2.2.2)) := hD
      refine lv_iinc (v := (x1 + (1 : Int32))) (lv' := [(1, .int (x1 + (1 : Int32))), (0, .ref q)]) hx hb dX0_dropFirst_52 hl (k := 1) rfl rfl (by decide) rfl (fun ls hl => ?_)
      refine lv_goto (tgt := 2) hx hb dX0_dropFirst_55 (by decide) ?_
      exact ih (x1 + (1 : Int32)) ((upd u.1 (x1 - (1 : Int32)).toNatClampNeg (u.1 x1.toNatClampNeg)), (upd u.2.1 (x1 - (1 : Int32)).toNatClampNeg (u.2.1 x1.toNatClampNeg)), (upd u.2.2.1 (x1 - (1 : Int32)).toNatClampNeg (u.2.2.1 x1.toNatClampNeg)), u.2.2.2.1, u.2.2.2.2) _ _ hF H locs ls hP hD hS (lv_sub hl [1, 0] rfl)
set_option maxHeartbeats 4000000 in
set_option maxRecDepth 100000 in
theorem c_Row_dropFirst (l : Launch) (D : va_G) (cI cR : ClassId) (q o a b : Nat) (sz : Nat)  (u : RowS) (r : Unit) (u' : RowS) (hF : F_Row_dropFirst  u = some (r, u')) : Met l yX0_dropFirst wsX0_dropFirst ({ frames := 0, cells := 0, slots := 0, locals := 0 }) (va_Pc [.ref q] (PRE D (TY cI cR) (RW cI q o a b u) sz)) (QV D (TY cI cR) (va_A (RW cI q o a b u) sz) (fun v => RW cI q o a b v) u') 0 0 (va_A (RW cI q o a b u) sz) := by
  refine Met.ofW (cc := cX0_dropFirst) (maxL := 2) (ret := none) (by decide) rfl ?_
  intro p e s m args below meth c s₁ B hml hv
  obtain ⟨rfl, hsz, hP, hK, hD0⟩ := hv
  have hx := B.exec
  have hb := B.bytes
  have hr := B.returns
  have hts := atoms_spec (ws := wsX0_dropFirst) B.pre
  have hown : s.vm.findClass RX0 = some m.cls := findClass_of_methodNamed B.named
  have hlocks := B.notSynchronized
  subst hsz
  have hD := hD0.self (sz := s.heap.size)
  generalize hAe : va_A (RW cI q o a b u) s.heap.size = A at hD ⊢
  have hA : ∀ q : Nat, s.heap.size ≤ q → A q := fun q h => by rw [← hAe]; exact Or.inr h
  have hS : va_S A s.heap s.heap [] := va_S.rf
  replace hP : va_P D vwCl (RW cI q o a b u) s.heap := hP
  have hl := lv_entry ([.ref q]) (n := 2) (Nat.le_of_ble_eq_true rfl)
  rw [lg_entry_eq]
  generalize (lg_sl ([.ref q]) ++ List.replicate (2 - (lg_sl ([.ref q])).length) Slot.unset).toArray = ls at hl ⊢
  replace hl : lv_has ls 2 [(0, .ref q)] := hl
  have hk_21 := (hts _ (cwc _ mw_26))
  have hk_9 := (hts _ (cwc _ mw_23))
  have hk_15 := (hts _ (cwc _ mw_24))
  have hk_18 := (hts _ (cwc _ mw_25))
  unfold F_Row_dropFirst at hF
  refine (?_ : ∀ (H : Heap) (locs : List Loc), va_P D vwCl (RW cI q o a b u) H → va_S A s.heap H locs → W p l e _ s m _ below meth c H locs 0 0 _ (F0 m 0 ls [])) s.heap [] hP hS
  intro H locs hP hS
  refine lv_iconst (v := (1 : Int32)) hx hb dX0_dropFirst_0 (by decide +kernel) ?_
  refine lv_istore_n (lv' := [(1, .int (1 : Int32)), (0, .ref q)]) hx hb dX0_dropFirst_1 rfl hl (by decide) rfl (fun ls hl => ?_)
  exact w_Row_dropFirst_L2 hx hb hr hml hown hts hlocks hA hK 9 (1 : Int32) u _ _ hF H locs ls hP hD hS (lv_sub hl [1, 0] rfl)
def F_Row_takeFromFirst (p1 : Int32) (u : RowS) : Option ((Unit) × RowS) := gd (inb (0 : Int32) 8) (gd (inb (0 : Int32) 8) (gd (inb (0 : Int32) 8) ((if ((upd u.2.1 (0 : Int32).toNatClampNeg ((u.2.1 (0 : Int32).toNatClampNeg) - p1)) (0 : Int32).toNatClampNeg) = (0 : Int32) then bi (F_Row_dropFirst (u.1, (upd u.2.1 (0 : Int32).toNatClampNeg ((u.2.1 (0 : Int32).toNatClampNeg) - p1)), u.2.2.1, u.2.2.2.1, (u.2.2.2.2 - p1))) (fun r6 u5 => some ((), u5)) else some ((), (u.1, (upd u.2.1 (0 : Int32).toNatClampNeg ((u.2.1 (0 : Int32).toNatClampNeg) - p1)), u.2.2.1, u.2.2.2.1, (u.2.2.2.2 - p1)))))))
set_option maxHeartbeats 4000000 in
set_option maxRecDepth 100000 in
theorem c_Row_takeFromFirst (l : Launch) (D : va_G) (cI cR : ClassId) (q o a b : Nat) (sz : Nat) (p1 : Int32) (u : RowS) (r : Unit) (u' : RowS) (hF : F_Row_takeFromFirst p1 u = some (r, u')) : Met l yX0_takeFromFirst wsX0_takeFromFirst ({ frames := 1, cells := 0, slots := 0, locals := 21 }) (va_Pc [.ref q, .int p1] (PRE D (TY cI cR) (RW cI q o a b u) sz)) (QV D (TY cI cR) (va_A (RW cI q o a b u) sz) (fun v => RW cI q o a b v) u') 0 0 (va_A (RW cI q o a b u) sz) := by
  refine Met.ofW (cc := cX0_takeFromFirst) (maxL := 2) (ret := none) (by decide) rfl ?_
  intro p e s m args below meth c s₁ B hml hv
  obtain ⟨rfl, hsz, hP, hK, hD0⟩ := hv
  have hx := B.exec
  have hb := B.bytes
  have hr := B.returns
  have hts := atoms_spec (ws := wsX0_takeFromFirst) B.pre
  have hown : s.vm.findClass RX0 = some m.cls := findClass_of_methodNamed B.named
  have hlocks := B.notSynchronized
  subst hsz
  have hD := hD0.self (sz := s.heap.size)
  generalize hAe : va_A (RW cI q o a b u) s.heap.size = A at hD ⊢
  have hA : ∀ q : Nat, s.heap.size ≤ q → A q := fun q h => by rw [← hAe]; exact Or.inr h
  have hS : va_S A s.heap s.heap [] := va_S.rf
  replace hP : va_P D vwCl (RW cI q o a b u) s.heap := hP
  have hl := lv_entry ([.ref q, .int p1]) (n := 2) (Nat.le_of_ble_eq_true rfl)
  rw [lg_entry_eq]
  generalize (lg_sl ([.ref q, .int p1]) ++ List.replicate (2 - (lg_sl ([.ref q, .int p1])).length) Slot.unset).toArray = ls at hl ⊢
  replace hl : lv_has ls 2 [(0, .ref q), (1, .int p1)] := hl
  have hk_15 := (hts _ (cwc _ mw_24))
  have hk_25 := (hts _ (cwc _ mw_27))
  unfold F_Row_takeFromFirst at hF
  refine (?_ : ∀ (H : Heap) (locs : List Loc), va_P D vwCl (RW cI q o a b u) H → va_S A s.heap H locs → W p l e _ s m _ below meth c H locs 0 0 _ (F0 m 0 ls [])) s.heap [] hP hS
  intro H locs hP hS
  refine lv_aload_n hx hb dX0_takeFromFirst_0 rfl (lv_at hl 0 rfl) ?_
  refine va_get (D := D) (ci := 0) (v := .ref a) (C := RX0) (T := TX0) (N := 5) hx hb hts (fun w h => cwc w (in_X0 w h)) hown hK hP 0 rfl rfl 1 (by decide) hk_15 (fun _ h9 => h9) rfl dX0_takeFromFirst_1 ?_
  refine lv_iconst (v := (0 : Int32)) hx hb dX0_takeFromFirst_4 (by decide +kernel) ?_
  refine lv_dup2_11 hx hb dX0_takeFromFirst_5 rfl rfl ?_
  obtain ⟨h_1, hF⟩ := gd_some hF
  refine va_iald (f := u.2.1) hx hb hK hP 2 0 rfl rfl (inb_in h_1) dX0_takeFromFirst_6 ?_
  refine lv_iload_n hx hb dX0_takeFromFirst_7 rfl (lv_at hl 1 rfl) ?_
  refine lv_isub hx hb dX0_takeFromFirst_8 ?_
  obtain ⟨h_2, hF⟩ := gd_some hF
  refine va_iast (f := u.2.1) hx hb hK hP hD hS 2 0 rfl rfl (inb_in h_2) dX0_takeFromFirst_9 (fun H locs hP hD hS => ?_)
  replace hP : va_P D vwCl (RW cI q o a b (u.1, (upd u.2.1 (0 : Int32).toNatClampNeg ((u.2.1 (0 : Int32).toNatClampNeg) - p1)), u.2.2.1, u.2.2.2.1, u.2.2.2.2)) H := hP
  replace hD : va_D A (RW cI q o a b (u.1, (upd u.2.1 (0 : Int32).toNatClampNeg ((u.2.1 (0 : Int32).toNatClampNeg) - p1)), u.2.2.1, u.2.2.2.1, u.2.2.2.2)) := hD
  refine lv_aload_n hx hb dX0_takeFromFirst_10 rfl (lv_at hl 0 rfl) ?_
  refine lv_dup hx hb dX0_takeFromFirst_11 rfl ?_
  refine va_get (D := D) (ci := 0) (v := .int u.2.2.2.2) (C := RX0) (T := TX0) (N := 5) hx hb hts (fun w h => cwc w (in_X0 w h)) hown hK hP 0 rfl rfl 4 (by decide) hk_25 (fun _ h9 => h9) rfl dX0_takeFromFirst_12 ?_
  refine lv_iload_n hx hb dX0_takeFromFirst_15 rfl (lv_at hl 1 rfl) ?_
  refine lv_isub hx hb dX0_takeFromFirst_16 ?_
  refine va_put (D := D) (ci := 0) (v := .int (u.2.2.2.2 - p1)) (ty := .int) (C := RX0) (T := TX0) (N := 5) hx hb hts (fun w h => cwc w (in_X0 w h)) tyX0 tyX0_ok nmX0 hown hK hP hD hS 0 rfl rfl 4 (by decide) hk_25 (fun _ h9 => h9) rfl (by decide +kernel) rfl rfl (Nat.le_of_ble_eq_true rfl) dX0_takeFromFirst_17 (fun H locs hP hD hS => ?_)
  replace hP : va_P D vwCl (RW cI q o a b (u.1, (upd u.2.1 (0 : Int32).toNatClampNeg ((u.2.1 (0 : Int32).toNatClampNeg) - p1)), u.2.2.1, u.2.2.2.1, (u.2.2.2.2 - p1))) H := hP
  replace hD : va_D A (RW cI q o a b (u.1, (upd u.2.1 (0 : Int32).toNatClampNeg ((u.2.1 (0 : Int32).toNatClampNeg) - p1)), u.2.2.1, u.2.2.2.1, (u.2.2.2.2 - p1))) := hD
  refine lv_aload_n hx hb dX0_takeFromFirst_20 rfl (lv_at hl 0 rfl) ?_
  refine va_get (D := D) (ci := 0) (v := .ref a) (C := RX0) (T := TX0) (N := 5) hx hb hts (fun w h => cwc w (in_X0 w h)) hown hK hP 0 rfl rfl 1 (by decide) hk_15 (fun _ h9 => h9) rfl dX0_takeFromFirst_21 ?_
  refine lv_iconst (v := (0 : Int32)) hx hb dX0_takeFromFirst_24 (by decide +kernel) ?_
  obtain ⟨h_3, hF⟩ := gd_some hF
  refine va_iald (f := (upd u.2.1 (0 : Int32).toNatClampNeg ((u.2.1 (0 : Int32).toNatClampNeg) - p1))) hx hb hK hP 2 0 rfl rfl (inb_in h_3) dX0_takeFromFirst_25 ?_
  refine lv_if_ne (tgt := 33) hx hb dX0_takeFromFirst_26 (by decide) (fun c_4 => ?_) (fun c_4 => ?_)
  · replace hF := (if_neg c_4).symm.trans hF
    cases hF
    refine W.widen (k := 0) (n := 0) (Nat.le_of_ble_eq_true rfl) (Nat.le_of_ble_eq_true rfl) ?_
    exact W.vret hx hb hr (fun t ht hW => ⟨⟨_, rfl, rfl, by rw [ht]; exact hP, va_K.moved hW.alike hK, hD⟩, hS.F ht⟩) hS.2.2 dX0_takeFromFirst_33
  · replace hF := (if_pos c_4).symm.trans hF
    refine lv_aload_n hx hb dX0_takeFromFirst_29 rfl (lv_at hl 0 rfl) ?_
    obtain ⟨r6, u5, hc_7, hF⟩ := bi_some hF
    refine kc_v (W1 := RW cI q o a b u5) (va_runV (As := []) (rest := []) ⟨hx, hb, hml, hown, hts⟩ (c_Row_dropFirst l D cI cR q o a b H.size  (u.1, (upd u.2.1 (0 : Int32).toNatClampNeg ((u.2.1 (0 : Int32).toNatClampNeg) - p1)), u.2.2.1, u.2.2.2.1, (u.2.2.2.2 - p1)) r6 u5 hc_7) (cwV 0 hts (gV cwc mw_270 mw_271 mw_480 mw_2 mw_272) rfl rfl rfl (by decide +kernel) ⟨(Nat.le_of_ble_eq_true rfl), (Nat.le_of_ble_eq_true rfl)⟩) (kp_V (ci := 0) (q := (RX0, TX0, 5)) hK hP hD (sb_id _) rfl rfl) rfl rfl hl.1 rfl (lv_room (Nat.le_of_ble_eq_true rfl)) dX0_takeFromFirst_30 ⟨(Nat.le_of_ble_eq_true rfl), (Nat.le_of_ble_eq_true rfl)⟩) hP hD hS hA (sb_id _) (jn_id rfl) (fun H locs hP hD hS => ?_)
    cases hF
    refine W.widen (k := 0) (n := 0) (Nat.le_of_ble_eq_true rfl) (Nat.le_of_ble_eq_true rfl) ?_
    exact W.vret hx hb hr (fun t ht hW => ⟨⟨_, rfl, rfl, by rw [ht]; exact hP, va_K.moved hW.alike hK, hD⟩, hS.F ht⟩) hS.2.2 dX0_takeFromFirst_33
def F_Row_moveTo_L26 : Nat → Int32 → Int32 → Int32 → (RowS × RowS) → Option ((Int32) × (RowS × RowS))
  | 0, _, _, _, _ => none
  | n + 1, x4, x5, x6, u => (if (8 : Int32) ≤ x6 then some (x4, u) else (if x5 ≤ (0 : Int32) then some (x4, u) else gd (inb (0 : Int32) 8) (nm ((if (u.1.2.1 (0 : Int32).toNatClampNeg) < x5 then (u.1.2.1 (0 : Int32).toNatClampNeg) else x5)) (fun v6 => gd (inb (0 : Int32) 8) (gd (inb (0 : Int32) 8) (bi (F_Row_putBehind (u.1.1 (0 : Int32).toNatClampNeg) (u.1.2.2.1 (0 : Int32).toNatClampNeg) v6 u.2) (fun r10 u9 => bi (F_Row_takeFromFirst v6 u.1) (fun r13 u12 => nm ((x5 - v6)) (fun v15 => F_Row_moveTo_L26 n x4 v15 (x6 + (1 : Int32)) (u12, u9))))))))))
def F_Row_moveTo (p2 : Int32) (p3 : Int32) (u : (RowS × RowS)) : Option ((Int32) × (RowS × RowS)) := nm ((if (p3 - u.2.2.2.2.2) < u.1.2.2.2.2 then (p3 - u.2.2.2.2.2) else u.1.2.2.2.2)) (fun v1 => nm ((if v1 < p2 then v1 else p2)) (fun v2 => F_Row_moveTo_L26 9 v2 v2 (0 : Int32) u))
set_option maxHeartbeats 4000000 in
set_option maxRecDepth 100000 in
theorem w_Row_moveTo_L26 {p : Program} {l : Launch} {e : Env} {s : State} {m : MethodId} {args : Array Value} {below : List Frame} {meth : Method} {c : Code} {A : Nat → Prop} {D : va_G} {cI cR : ClassId} {q o a b q2 o2 a2 b2 : Nat} (hx : p.tables.exec = Jvm.exec) (hb : c.code = cX0_moveTo) (hr : meth.sig.returnType = (some .int)) (hml : c.maxLocals = 8) (hown : s.vm.findClass RX0 = some m.cls) (hts : ∀ w ∈ wsX0_moveTo, w.before args s = true) (hlocks : meth.locks = false) (hA : ∀ q : Nat, s.heap.size ≤ q → A q) (hK : va_K D vwCl (TY cI cR) s) : ∀ (n : Nat) (x4 x5 x6 : Int32) (u : (RowS × RowS)) (r : Int32) (u' : (RowS × RowS)), F_Row_moveTo_L26 n x4 x5 x6 u = some (r, u') → ∀ (H : Heap) (locs : List Loc) (ls : Array Slot), va_P D vwCl (RW2 cI q o a b q2 o2 a2 b2 u) H → va_D A (RW2 cI q o a b q2 o2 a2 b2 u) → va_S A s.heap H locs → lv_has ls 8 [(0, .ref q), (1, .ref q2), (4, .int x4), (5, .int x5), (6, .int x6)] → W p l e (headSpec wsX0_moveTo ({ frames := 2, cells := 0, slots := 0, locals := 46 })).room s m args below meth c H locs 0 0 (MQ below (QI D (TY cI cR) A (fun v => RW2 cI q o a b q2 o2 a2 b2 v) r u') args s 0 0 A) (F0 m 26 ls []) := by
  have hk_25 := (hts _ (cwc _ mw_27))
  have hmmin_l35 := (hts _ (cwc _ mw_264))
  have hmmin_s := (hts _ (cwc _ mw_241))
  have hm_i := (hts _ (cwc _ mw_9))
  have hmmin_c := (hts _ (cwc _ mw_242))
  have hk_15 := (hts _ (cwc _ mw_24))
  have hk_9 := (hts _ (cwc _ mw_23))
  have hk_18 := (hts _ (cwc _ mw_25))
  intro n
  induction n with
  | zero =>
    intro x4 x5 x6 u r u' hF
    rw [F_Row_moveTo_L26] at hF
    exact absurd hF (by simp)
  | succ n ih =>
    intro x4 x5 x6 u r u' hF H locs ls hP hD hS hl
    rw [F_Row_moveTo_L26] at hF
    refine lv_iload hx hb dX0_moveTo_26 (lv_at hl 4 rfl) ?_
    refine lv_bipush (v := (8 : Int32)) hx hb dX0_moveTo_28 (by decide +kernel) ?_
    refine lv_icmp_ge (tgt := 88) hx hb dX0_moveTo_30 (by decide) (fun c_3 => ?_) (fun c_3 => ?_)
    · replace hF := (if_pos c_3).symm.trans hF
      refine lv_iload hx hb dX0_moveTo_88 (lv_at hl 2 rfl) ?_
      cases hF
      refine W.widen (k := 0) (n := 0) (Nat.le_of_ble_eq_true rfl) (Nat.le_of_ble_eq_true rfl) ?_
      exact W.iret hx hb hr (fun t ht hW => ⟨⟨_, _, rfl, ⟨rfl, rfl⟩, by rw [ht]; exact hP, va_K.moved hW.alike hK, hD⟩, hS.F ht⟩) hS.2.2 dX0_moveTo_90
    · replace hF := (if_neg c_3).symm.trans hF
      refine lv_iload hx hb dX0_moveTo_33 (lv_at hl 3 rfl) ?_
      refine lv_if_le (tgt := 88) hx hb dX0_moveTo_35 (by decide) (fun c_4 => ?_) (fun c_4 => ?_)
      · replace hF := (if_pos c_4).symm.trans hF
        refine lv_iload hx hb dX0_moveTo_88 (lv_at hl 2 rfl) ?_
        cases hF
        refine W.widen (k := 0) (n := 0) (Nat.le_of_ble_eq_true rfl) (Nat.le_of_ble_eq_true rfl) ?_
        exact W.iret hx hb hr (fun t ht hW => ⟨⟨_, _, rfl, ⟨rfl, rfl⟩, by rw [ht]; exact hP, va_K.moved hW.alike hK, hD⟩, hS.F ht⟩) hS.2.2 dX0_moveTo_90
      · replace hF := (if_neg c_4).symm.trans hF
        refine lv_iload hx hb dX0_moveTo_38 (lv_at hl 3 rfl) ?_
        refine lv_aload_n hx hb dX0_moveTo_40 rfl (lv_at hl 0 rfl) ?_
        refine va_get (D := D) (ci := 0) (v := .ref a) (C := RX0) (T := TX0) (N := 5) hx hb hts (fun w h => cwc w (in_X0 w h)) hown hK hP 0 rfl rfl 1 (by decide) hk_15 (fun _ h9 => h9) rfl dX0_moveTo_41 ?_
        refine lv_iconst (v := (0 : Int32)) hx hb dX0_moveTo_44 (by decide +kernel) ?_
        obtain ⟨h_5, hF⟩ := gd_some hF
        refine va_iald (f := u.1.2.1) hx hb hK hP 2 0 rfl rfl (inb_in h_5) dX0_moveTo_45 ?_
        refine va_mmin hx hb (hml.trans hl.1.symm) hown hmmin_l35 hmmin_s hm_i hmmin_c (Nat.le_of_ble_eq_true rfl) (Nat.le_of_ble_eq_true rfl) (Nat.zero_le _) (Nat.zero_le _) dX0_moveTo_46 ?_
        obtain ⟨v6, ev6, hF⟩ := nm_some hF
        refine W.eq (g2 := F0 m 49 ls (.int v6 :: [])) (congrArg (fun z => F0 m 49 ls (.int z :: [])) ev6.symm) ?_
        refine lv_istore (lv' := [(7, .int v6), (0, .ref q), (1, .ref q2), (4, .int x4), (5, .int x5), (6, .int x6)]) hx hb dX0_moveTo_49 hl (by decide) rfl (fun ls hl => ?_)
        refine lv_aload_n hx hb dX0_moveTo_51 rfl (lv_at hl 2 rfl) ?_
        refine lv_aload_n hx hb dX0_moveTo_52 rfl (lv_at hl 1 rfl) ?_
        refine va_get (D := D) (ci := 0) (v := .ref o) (C := RX0) (T := TX0) (N := 5) hx hb hts (fun w h => cwc w (in_X0 w h)) hown hK hP 0 rfl rfl 0 (by decide) hk_9 (fun _ h9 => h9) rfl dX0_moveTo_53 ?_
        refine lv_iconst (v := (0 : Int32)) hx hb dX0_moveTo_56 (by decide +kernel) ?_
        obtain ⟨h_7, hF⟩ := gd_some hF
        refine va_iald (f := u.1.1) hx hb hK hP 1 0 rfl rfl (inb_in h_7) dX0_moveTo_57 ?_
        refine lv_aload_n hx hb dX0_moveTo_58 rfl (lv_at hl 1 rfl) ?_
        refine va_get (D := D) (ci := 0) (v := .ref b) (C := RX0) (T := TX0) (N := 5) hx hb hts (fun w h => cwc w (in_X0 w h)) hown hK hP 0 rfl rfl 2 (by decide) hk_18 (fun _ h9 => h9) rfl dX0_moveTo_59 ?_
        refine lv_iconst (v := (0 : Int32)) hx hb dX0_moveTo_62 (by decide +kernel) ?_
        obtain ⟨h_8, hF⟩ := gd_some hF
        refine va_iald (f := u.1.2.2.1) hx hb hK hP 3 0 rfl rfl (inb_in h_8) dX0_moveTo_63 ?_
        refine lv_iload hx hb dX0_moveTo_64 (lv_at hl 0 rfl) ?_
        obtain ⟨r10, u9, hc_11, hF⟩ := bi_some hF
        refine kc_v (W1 := RW2 cI q o a b q2 o2 a2 b2 (u.1, u9)) (va_runV (As := [.int (u.1.1 (0 : Int32).toNatClampNeg), .int (u.1.2.2.1 (0 : Int32).toNatClampNeg), .int v6]) (rest := []) ⟨hx, hb, hml, hown, hts⟩ (c_Row_putBehind l D cI cR q2 o2 a2 b2 H.size (u.1.1 (0 : Int32).toNatClampNeg) (u.1.2.2.1 (0 : Int32).toNatClampNeg) v6 u.2 r10 u9 hc_11) (cwV 3 hts (gV cwc mw_265 mw_244 mw_245 mw_2 mw_246) rfl rfl rfl (by decide +kernel) ⟨(Nat.le_of_ble_eq_true rfl), (Nat.le_of_ble_eq_true rfl)⟩) (kp_V (ci := 0) (q := (RX0, TX0, 5)) hK hP hD (sb_seg (RW cI q o a b u.1) (RW cI q2 o2 a2 b2 u.2) []) rfl rfl) rfl rfl hl.1 rfl (lv_room (Nat.le_of_ble_eq_true rfl)) dX0_moveTo_66 ⟨(Nat.le_of_ble_eq_true rfl), (Nat.le_of_ble_eq_true rfl)⟩) hP hD hS hA (sb_seg (RW cI q o a b u.1) (RW cI q2 o2 a2 b2 u.2) []) (jn_seg (RW cI q o a b u.1) (RW cI q2 o2 a2 b2 u.2) (RW cI q2 o2 a2 b2 u9) [] rfl) (fun H locs hP hD hS => ?_)
        refine lv_aload_n hx hb dX0_moveTo_69 rfl (lv_at hl 1 rfl) ?_
        refine lv_iload hx hb dX0_moveTo_70 (lv_at hl 0 rfl) ?_
        obtain ⟨r13, u12, hc_14, hF⟩ := bi_some hF
        refine kc_v (W1 := RW2 cI q o a b q2 o2 a2 b2 (u12, u9)) (va_runV (As := [.int v6]) (rest := []) ⟨hx, hb, hml, hown, hts⟩ (c_Row_takeFromFirst l D cI cR q o a b H.size v6 u.1 r13 u12 hc_14) (cwV 1 hts (gV cwc mw_266 mw_267 mw_268 mw_2 mw_269) rfl rfl rfl (by decide +kernel) ⟨(Nat.le_of_ble_eq_true rfl), (Nat.le_of_ble_eq_true rfl)⟩) (kp_V (ci := 0) (q := (RX0, TX0, 5)) hK hP hD (sb_seg [] (RW cI q o a b u.1) (RW cI q2 o2 a2 b2 u9)) rfl rfl) rfl rfl hl.1 rfl (lv_room (Nat.le_of_ble_eq_true rfl)) dX0_moveTo_72 ⟨(Nat.le_of_ble_eq_true rfl), (Nat.le_of_ble_eq_true rfl)⟩) hP hD hS hA (sb_seg [] (RW cI q o a b u.1) (RW cI q2 o2 a2 b2 u9)) (jn_seg [] (RW cI q o a b u.1) (RW cI q o a b u12) (RW cI q2 o2 a2 b2 u9) rfl) (fun H locs hP hD hS => ?_)
        refine lv_iload hx hb dX0_moveTo_75 (lv_at hl 4 rfl) ?_
        refine lv_iload hx hb dX0_moveTo_77 (lv_at hl 0 rfl) ?_
        refine lv_isub hx hb dX0_moveTo_79 ?_
        obtain ⟨v15, ev15, hF⟩ := nm_some hF
        refine W.eq (g2 := F0 m 80 ls (.int v15 :: [])) (congrArg (fun z => F0 m 80 ls (.int z :: [])) ev15.symm) ?_
        refine lv_istore (lv' := [(5, .int v15), (7, .int v6), (0, .ref q), (1, .ref q2), (4, .int x4), (6, .int x6)]) hx hb dX0_moveTo_80 hl (by decide) rfl (fun ls hl => ?_)
        refine lv_iinc (v := (x6 + (1 : Int32))) (lv' := [(6, .int (x6 + (1 : Int32))), (5, .int v15), (7, .int v6), (0, .ref q), (1, .ref q2), (4, .int x4)]) hx hb dX0_moveTo_82 hl (k := 5) rfl rfl (by decide) rfl (fun ls hl => ?_)
        refine lv_goto (tgt := 26) hx hb dX0_moveTo_85 (by decide) ?_
        exact ih x4 v15 (x6 + (1 : Int32)) (u12, u9) _ _ hF H locs ls hP hD hS (lv_sub hl [3, 4, 5, 1, 0] rfl)
set_option maxHeartbeats 4000000 in
set_option maxRecDepth 100000 in
theorem c_Row_moveTo (l : Launch) (D : va_G) (cI cR : ClassId) (q o a b q2 o2 a2 b2 : Nat) (sz : Nat) (p2 : Int32) (p3 : Int32) (u : (RowS × RowS)) (r : Int32) (u' : (RowS × RowS)) (hF : F_Row_moveTo p2 p3 u = some (r, u')) : Met l yX0_moveTo wsX0_moveTo ({ frames := 2, cells := 0, slots := 0, locals := 46 }) (va_Pc [.ref q, .ref q2, .int p2, .int p3] (PRE D (TY cI cR) (RW2 cI q o a b q2 o2 a2 b2 u) sz)) (QI D (TY cI cR) (va_A (RW2 cI q o a b q2 o2 a2 b2 u) sz) (fun v => RW2 cI q o a b q2 o2 a2 b2 v) r u') 0 0 (va_A (RW2 cI q o a b q2 o2 a2 b2 u) sz) := by
  refine Met.ofW (cc := cX0_moveTo) (maxL := 8) (ret := (some .int)) (by decide) rfl ?_
  intro p e s m args below meth c s₁ B hml hv
  obtain ⟨rfl, hsz, hP, hK, hD0⟩ := hv
  have hx := B.exec
  have hb := B.bytes
  have hr := B.returns
  have hts := atoms_spec (ws := wsX0_moveTo) B.pre
  have hown : s.vm.findClass RX0 = some m.cls := findClass_of_methodNamed B.named
  have hlocks := B.notSynchronized
  subst hsz
  have hD := hD0.self (sz := s.heap.size)
  generalize hAe : va_A (RW2 cI q o a b q2 o2 a2 b2 u) s.heap.size = A at hD ⊢
  have hA : ∀ q : Nat, s.heap.size ≤ q → A q := fun q h => by rw [← hAe]; exact Or.inr h
  have hS : va_S A s.heap s.heap [] := va_S.rf
  replace hP : va_P D vwCl (RW2 cI q o a b q2 o2 a2 b2 u) s.heap := hP
  have hl := lv_entry ([.ref q, .ref q2, .int p2, .int p3]) (n := 8) (Nat.le_of_ble_eq_true rfl)
  rw [lg_entry_eq]
  generalize (lg_sl ([.ref q, .ref q2, .int p2, .int p3]) ++ List.replicate (8 - (lg_sl ([.ref q, .ref q2, .int p2, .int p3])).length) Slot.unset).toArray = ls at hl ⊢
  replace hl : lv_has ls 8 [(0, .ref q), (1, .ref q2), (2, .int p2), (3, .int p3)] := hl
  have hk_25 := (hts _ (cwc _ mw_27))
  have hmmin_l35 := (hts _ (cwc _ mw_264))
  have hmmin_s := (hts _ (cwc _ mw_241))
  have hm_i := (hts _ (cwc _ mw_9))
  have hmmin_c := (hts _ (cwc _ mw_242))
  have hk_15 := (hts _ (cwc _ mw_24))
  have hk_9 := (hts _ (cwc _ mw_23))
  have hk_18 := (hts _ (cwc _ mw_25))
  unfold F_Row_moveTo at hF
  refine (?_ : ∀ (H : Heap) (locs : List Loc), va_P D vwCl (RW2 cI q o a b q2 o2 a2 b2 u) H → va_S A s.heap H locs → W p l e _ s m _ below meth c H locs 0 0 _ (F0 m 0 ls [])) s.heap [] hP hS
  intro H locs hP hS
  refine lv_iload_n hx hb dX0_moveTo_0 rfl (lv_at hl 2 rfl) ?_
  refine lv_aload_n hx hb dX0_moveTo_1 rfl (lv_at hl 0 rfl) ?_
  refine va_get (D := D) (ci := 0) (v := .int u.1.2.2.2.2) (C := RX0) (T := TX0) (N := 5) hx hb hts (fun w h => cwc w (in_X0 w h)) hown hK hP 0 rfl rfl 4 (by decide) hk_25 (fun _ h9 => h9) rfl dX0_moveTo_2 ?_
  refine lv_iload_n hx hb dX0_moveTo_5 rfl (lv_at hl 3 rfl) ?_
  refine lv_aload_n hx hb dX0_moveTo_6 rfl (lv_at hl 1 rfl) ?_
  refine va_get (D := D) (ci := 0) (v := .int u.2.2.2.2.2) (C := RX0) (T := TX0) (N := 5) hx hb hts (fun w h => cwc w (in_X0 w h)) hown hK hP 4 rfl rfl 4 (by decide) hk_25 (fun _ h9 => h9) rfl dX0_moveTo_7 ?_
  refine lv_isub hx hb dX0_moveTo_10 ?_
  refine va_mmin hx hb (hml.trans hl.1.symm) hown hmmin_l35 hmmin_s hm_i hmmin_c (Nat.le_of_ble_eq_true rfl) (Nat.le_of_ble_eq_true rfl) (Nat.zero_le _) (Nat.zero_le _) dX0_moveTo_11 ?_
  obtain ⟨v1, ev1, hF⟩ := nm_some hF
  refine W.eq (g2 := F0 m 14 ls (.int v1 :: [.int p2])) (congrArg (fun z => F0 m 14 ls (.int z :: [.int p2])) ev1.symm) ?_
  refine va_mmin hx hb (hml.trans hl.1.symm) hown hmmin_l35 hmmin_s hm_i hmmin_c (Nat.le_of_ble_eq_true rfl) (Nat.le_of_ble_eq_true rfl) (Nat.zero_le _) (Nat.zero_le _) dX0_moveTo_14 ?_
  obtain ⟨v2, ev2, hF⟩ := nm_some hF
  refine W.eq (g2 := F0 m 17 ls (.int v2 :: [])) (congrArg (fun z => F0 m 17 ls (.int z :: [])) ev2.symm) ?_
  refine lv_istore (lv' := [(4, .int v2), (0, .ref q), (1, .ref q2), (2, .int p2), (3, .int p3)]) hx hb dX0_moveTo_17 hl (by decide) rfl (fun ls hl => ?_)
  refine lv_iload hx hb dX0_moveTo_19 (lv_at hl 0 rfl) ?_
  refine lv_istore (lv' := [(5, .int v2), (4, .int v2), (0, .ref q), (1, .ref q2), (2, .int p2), (3, .int p3)]) hx hb dX0_moveTo_21 hl (by decide) rfl (fun ls hl => ?_)
  refine lv_iconst (v := (0 : Int32)) hx hb dX0_moveTo_23 (by decide +kernel) ?_
  refine lv_istore (lv' := [(6, .int (0 : Int32)), (5, .int v2), (4, .int v2), (0, .ref q), (1, .ref q2), (2, .int p2), (3, .int p3)]) hx hb dX0_moveTo_24 hl (by decide) rfl (fun ls hl => ?_)
  exact w_Row_moveTo_L26 hx hb hr hml hown hts hlocks hA hK 9 v2 v2 (0 : Int32) u _ _ hF H locs ls hP hD hS (lv_sub hl [3, 4, 2, 1, 0] rfl)
def F_Row_moveAllBehind_L18 : Nat → Int32 → Int32 → Int32 → Int32 → (RowS × RowS) → Option ((Unit) × (RowS × RowS))
  | 0, _, _, _, _, _ => none
  | n + 1, x3, x4, x5, x6, u => (if u.1.2.2.2.1 ≤ x6 then some ((), ((u.1.1, u.1.2.1, u.1.2.2.1, x5, x3), u.2)) else gd (inb x6 8) (nm ((if (u.1.2.1 x6.toNatClampNeg) < x4 then (u.1.2.1 x6.toNatClampNeg) else x4)) (fun v4 => gd (inb x6 8) (gd (inb x6 8) (gd (inb x6 8) (bi (F_Row_putBehind (u.1.1 x6.toNatClampNeg) (u.1.2.2.1 x6.toNatClampNeg) ((u.1.2.1 x6.toNatClampNeg) - v4) u.2) (fun r9 u8 => gd (inb x6 8) (nm ((x4 - v4)) (fun v12 => (if v4 ≤ (0 : Int32) then F_Row_moveAllBehind_L18 n x3 v12 x5 (x6 + (1 : Int32)) ((u.1.1, (upd u.1.2.1 x6.toNatClampNeg v4), u.1.2.2.1, u.1.2.2.2.1, u.1.2.2.2.2), u8) else nm ((x6 + (1 : Int32))) (fun v14 => F_Row_moveAllBehind_L18 n x3 v12 v14 (x6 + (1 : Int32)) ((u.1.1, (upd u.1.2.1 x6.toNatClampNeg v4), u.1.2.2.1, u.1.2.2.2.1, u.1.2.2.2.2), u8))))))))))))
def F_Row_moveAllBehind (p1 : Int32) (u : (RowS × RowS)) : Option ((Unit) × (RowS × RowS)) := nm ((if u.1.2.2.2.2 < p1 then u.1.2.2.2.2 else p1)) (fun v1 => F_Row_moveAllBehind_L18 9 v1 v1 (0 : Int32) (0 : Int32) u)
set_option maxHeartbeats 4000000 in
set_option maxRecDepth 100000 in
theorem w_Row_moveAllBehind_L18 {p : Program} {l : Launch} {e : Env} {s : State} {m : MethodId} {args : Array Value} {below : List Frame} {meth : Method} {c : Code} {A : Nat → Prop} {D : va_G} {cI cR : ClassId} {q o a b q2 o2 a2 b2 : Nat} (hx : p.tables.exec = Jvm.exec) (hb : c.code = cX0_moveAllBehind) (hr : meth.sig.returnType = none) (hml : c.maxLocals = 8) (hown : s.vm.findClass RX0 = some m.cls) (hts : ∀ w ∈ wsX0_moveAllBehind, w.before args s = true) (hlocks : meth.locks = false) (hA : ∀ q : Nat, s.heap.size ≤ q → A q) (hK : va_K D vwCl (TY cI cR) s) : ∀ (n : Nat) (x3 x4 x5 x6 : Int32) (u : (RowS × RowS)) (r : Unit) (u' : (RowS × RowS)), F_Row_moveAllBehind_L18 n x3 x4 x5 x6 u = some (r, u') → ∀ (H : Heap) (locs : List Loc) (ls : Array Slot), va_P D vwCl (RW2 cI q o a b q2 o2 a2 b2 u) H → va_D A (RW2 cI q o a b q2 o2 a2 b2 u) → va_S A s.heap H locs → lv_has ls 8 [(0, .ref q), (2, .ref q2), (3, .int x3), (4, .int x4), (5, .int x5), (6, .int x6)] → W p l e (headSpec wsX0_moveAllBehind ({ frames := 2, cells := 0, slots := 0, locals := 46 })).room s m args below meth c H locs 0 0 (MQ below (QV D (TY cI cR) A (fun v => RW2 cI q o a b q2 o2 a2 b2 v) u') args s 0 0 A) (F0 m 18 ls []) := by
  have hk_25 := (hts _ (cwc _ mw_27))
  have hmmin_l35 := (hts _ (cwc _ mw_264))
  have hmmin_s := (hts _ (cwc _ mw_241))
  have hm_i := (hts _ (cwc _ mw_9))
  have hmmin_c := (hts _ (cwc _ mw_242))
  have hk_21 := (hts _ (cwc _ mw_26))
  have hk_15 := (hts _ (cwc _ mw_24))
  have hk_9 := (hts _ (cwc _ mw_23))
  have hk_18 := (hts _ (cwc _ mw_25))
  intro n
  induction n with
  | zero =>
    intro x3 x4 x5 x6 u r u' hF
    rw [F_Row_moveAllBehind_L18] at hF
    exact absurd hF (by simp)
  | succ n ih =>
    intro x3 x4 x5 x6 u r u' hF H locs ls hP hD hS hl
    rw [F_Row_moveAllBehind_L18] at hF
    refine lv_iload hx hb dX0_moveAllBehind_18 (lv_at hl 5 rfl) ?_
    refine lv_aload_n hx hb dX0_moveAllBehind_20 rfl (lv_at hl 0 rfl) ?_
    refine va_get (D := D) (ci := 0) (v := .int u.1.2.2.2.1) (C := RX0) (T := TX0) (N := 5) hx hb hts (fun w h => cwc w (in_X0 w h)) hown hK hP 0 rfl rfl 3 (by decide) hk_21 (fun _ h9 => h9) rfl dX0_moveAllBehind_21 ?_
    refine lv_icmp_ge (tgt := 102) hx hb dX0_moveAllBehind_24 (by decide) (fun c_2 => ?_) (fun c_2 => ?_)
    · replace hF := (if_pos c_2).symm.trans hF
      refine lv_aload_n hx hb dX0_moveAllBehind_102 rfl (lv_at hl 0 rfl) ?_
      refine lv_iload hx hb dX0_moveAllBehind_103 (lv_at hl 4 rfl) ?_
      refine va_put (D := D) (ci := 0) (v := .int x5) (ty := .int) (C := RX0) (T := TX0) (N := 5) hx hb hts (fun w h => cwc w (in_X0 w h)) tyX0 tyX0_ok nmX0 hown hK hP hD hS 0 rfl rfl 3 (by decide) hk_21 (fun _ h9 => h9) rfl (by decide +kernel) rfl rfl (Nat.le_of_ble_eq_true rfl) dX0_moveAllBehind_105 (fun H locs hP hD hS => ?_)
      replace hP : va_P D vwCl (RW2 cI q o a b q2 o2 a2 b2 ((u.1.1, u.1.2.1, u.1.2.2.1, x5, u.1.2.2.2.2), u.2)) H := hP
      replace hD : va_D A (RW2 cI q o a b q2 o2 a2 b2 ((u.1.1, u.1.2.1, u.1.2.2.1, x5, u.1.2.2.2.2), u.2)) := hD
      refine lv_aload_n hx hb dX0_moveAllBehind_108 rfl (lv_at hl 0 rfl) ?_
      refine lv_iload_n hx hb dX0_moveAllBehind_109 rfl (lv_at hl 2 rfl) ?_
      refine va_put (D := D) (ci := 0) (v := .int x3) (ty := .int) (C := RX0) (T := TX0) (N := 5) hx hb hts (fun w h => cwc w (in_X0 w h)) tyX0 tyX0_ok nmX0 hown hK hP hD hS 0 rfl rfl 4 (by decide) hk_25 (fun _ h9 => h9) rfl (by decide +kernel) rfl rfl (Nat.le_of_ble_eq_true rfl) dX0_moveAllBehind_110 (fun H locs hP hD hS => ?_)
      replace hP : va_P D vwCl (RW2 cI q o a b q2 o2 a2 b2 ((u.1.1, u.1.2.1, u.1.2.2.1, x5, x3), u.2)) H := hP
      replace hD : va_D A (RW2 cI q o a b q2 o2 a2 b2 ((u.1.1, u.1.2.1, u.1.2.2.1, x5, x3), u.2)) := hD
      cases hF
      refine W.widen (k := 0) (n := 0) (Nat.le_of_ble_eq_true rfl) (Nat.le_of_ble_eq_true rfl) ?_
      exact W.vret hx hb hr (fun t ht hW => ⟨⟨_, rfl, rfl, by rw [ht]; exact hP, va_K.moved hW.alike hK, hD⟩, hS.F ht⟩) hS.2.2 dX0_moveAllBehind_113
    · replace hF := (if_neg c_2).symm.trans hF
      refine lv_iload hx hb dX0_moveAllBehind_27 (lv_at hl 3 rfl) ?_
      refine lv_aload_n hx hb dX0_moveAllBehind_29 rfl (lv_at hl 0 rfl) ?_
      refine va_get (D := D) (ci := 0) (v := .ref a) (C := RX0) (T := TX0) (N := 5) hx hb hts (fun w h => cwc w (in_X0 w h)) hown hK hP 0 rfl rfl 1 (by decide) hk_15 (fun _ h9 => h9) rfl dX0_moveAllBehind_30 ?_
      refine lv_iload hx hb dX0_moveAllBehind_33 (lv_at hl 5 rfl) ?_
      obtain ⟨h_3, hF⟩ := gd_some hF
      refine va_iald (f := u.1.2.1) hx hb hK hP 2 0 rfl rfl (inb_in h_3) dX0_moveAllBehind_35 ?_
      refine va_mmin hx hb (hml.trans hl.1.symm) hown hmmin_l35 hmmin_s hm_i hmmin_c (Nat.le_of_ble_eq_true rfl) (Nat.le_of_ble_eq_true rfl) (Nat.zero_le _) (Nat.zero_le _) dX0_moveAllBehind_36 ?_
      obtain ⟨v4, ev4, hF⟩ := nm_some hF
      refine W.eq (g2 := F0 m 39 ls (.int v4 :: [])) (congrArg (fun z => F0 m 39 ls (.int z :: [])) ev4.symm) ?_
      refine lv_istore (lv' := [(7, .int v4), (0, .ref q), (2, .ref q2), (3, .int x3), (4, .int x4), (5, .int x5), (6, .int x6)]) hx hb dX0_moveAllBehind_39 hl (by decide) rfl (fun ls hl => ?_)
      refine lv_aload_n hx hb dX0_moveAllBehind_41 rfl (lv_at hl 2 rfl) ?_
      refine lv_aload_n hx hb dX0_moveAllBehind_42 rfl (lv_at hl 1 rfl) ?_
      refine va_get (D := D) (ci := 0) (v := .ref o) (C := RX0) (T := TX0) (N := 5) hx hb hts (fun w h => cwc w (in_X0 w h)) hown hK hP 0 rfl rfl 0 (by decide) hk_9 (fun _ h9 => h9) rfl dX0_moveAllBehind_43 ?_
      refine lv_iload hx hb dX0_moveAllBehind_46 (lv_at hl 6 rfl) ?_
      obtain ⟨h_5, hF⟩ := gd_some hF
      refine va_iald (f := u.1.1) hx hb hK hP 1 0 rfl rfl (inb_in h_5) dX0_moveAllBehind_48 ?_
      refine lv_aload_n hx hb dX0_moveAllBehind_49 rfl (lv_at hl 1 rfl) ?_
      refine va_get (D := D) (ci := 0) (v := .ref b) (C := RX0) (T := TX0) (N := 5) hx hb hts (fun w h => cwc w (in_X0 w h)) hown hK hP 0 rfl rfl 2 (by decide) hk_18 (fun _ h9 => h9) rfl dX0_moveAllBehind_50 ?_
      refine lv_iload hx hb dX0_moveAllBehind_53 (lv_at hl 6 rfl) ?_
      obtain ⟨h_6, hF⟩ := gd_some hF
      refine va_iald (f := u.1.2.2.1) hx hb hK hP 3 0 rfl rfl (inb_in h_6) dX0_moveAllBehind_55 ?_
      refine lv_aload_n hx hb dX0_moveAllBehind_56 rfl (lv_at hl 1 rfl) ?_
      refine va_get (D := D) (ci := 0) (v := .ref a) (C := RX0) (T := TX0) (N := 5) hx hb hts (fun w h => cwc w (in_X0 w h)) hown hK hP 0 rfl rfl 1 (by decide) hk_15 (fun _ h9 => h9) rfl dX0_moveAllBehind_57 ?_
      refine lv_iload hx hb dX0_moveAllBehind_60 (lv_at hl 6 rfl) ?_
      obtain ⟨h_7, hF⟩ := gd_some hF
      refine va_iald (f := u.1.2.1) hx hb hK hP 2 0 rfl rfl (inb_in h_7) dX0_moveAllBehind_62 ?_
      refine lv_iload hx hb dX0_moveAllBehind_63 (lv_at hl 0 rfl) ?_
      refine lv_isub hx hb dX0_moveAllBehind_65 ?_
      obtain ⟨r9, u8, hc_10, hF⟩ := bi_some hF
      refine kc_v (W1 := RW2 cI q o a b q2 o2 a2 b2 (u.1, u8)) (va_runV (As := [.int (u.1.1 x6.toNatClampNeg), .int (u.1.2.2.1 x6.toNatClampNeg), .int ((u.1.2.1 x6.toNatClampNeg) - v4)]) (rest := []) ⟨hx, hb, hml, hown, hts⟩ (c_Row_putBehind l D cI cR q2 o2 a2 b2 H.size (u.1.1 x6.toNatClampNeg) (u.1.2.2.1 x6.toNatClampNeg) ((u.1.2.1 x6.toNatClampNeg) - v4) u.2 r9 u8 hc_10) (cwV 3 hts (gV cwc mw_265 mw_244 mw_245 mw_2 mw_246) rfl rfl rfl (by decide +kernel) ⟨(Nat.le_of_ble_eq_true rfl), (Nat.le_of_ble_eq_true rfl)⟩) (kp_V (ci := 0) (q := (RX0, TX0, 5)) hK hP hD (sb_seg (RW cI q o a b u.1) (RW cI q2 o2 a2 b2 u.2) []) rfl rfl) rfl rfl hl.1 rfl (lv_room (Nat.le_of_ble_eq_true rfl)) dX0_moveAllBehind_66 ⟨(Nat.le_of_ble_eq_true rfl), (Nat.le_of_ble_eq_true rfl)⟩) hP hD hS hA (sb_seg (RW cI q o a b u.1) (RW cI q2 o2 a2 b2 u.2) []) (jn_seg (RW cI q o a b u.1) (RW cI q2 o2 a2 b2 u.2) (RW cI q2 o2 a2 b2 u8) [] rfl) (fun H locs hP hD hS => ?_)
      refine lv_aload_n hx hb dX0_moveAllBehind_69 rfl (lv_at hl 1 rfl) ?_
      refine va_get (D := D) (ci := 0) (v := .ref a) (C := RX0) (T := TX0) (N := 5) hx hb hts (fun w h => cwc w (in_X0 w h)) hown hK hP 0 rfl rfl 1 (by decide) hk_15 (fun _ h9 => h9) rfl dX0_moveAllBehind_70 ?_
      refine lv_iload hx hb dX0_moveAllBehind_73 (lv_at hl 6 rfl) ?_
      refine lv_iload hx hb dX0_moveAllBehind_75 (lv_at hl 0 rfl) ?_
      obtain ⟨h_11, hF⟩ := gd_some hF
      refine va_iast (f := u.1.2.1) hx hb hK hP hD hS 2 0 rfl rfl (inb_in h_11) dX0_moveAllBehind_77 (fun H locs hP hD hS => ?_)
      replace hP : va_P D vwCl (RW2 cI q o a b q2 o2 a2 b2 ((u.1.1, (upd u.1.2.1 x6.toNatClampNeg v4), u.1.2.2.1, u.1.2.2.2.1, u.1.2.2.2.2), u8)) H := hP
      replace hD : va_D A (RW2 cI q o a b q2 o2 a2 b2 ((u.1.1, (upd u.1.2.1 x6.toNatClampNeg v4), u.1.2.2.1, u.1.2.2.2.1, u.1.2.2.2.2), u8)) := hD
      refine lv_iload hx hb dX0_moveAllBehind_78 (lv_at hl 4 rfl) ?_
      refine lv_iload hx hb dX0_moveAllBehind_80 (lv_at hl 0 rfl) ?_
      refine lv_isub hx hb dX0_moveAllBehind_82 ?_
      obtain ⟨v12, ev12, hF⟩ := nm_some hF
      refine W.eq (g2 := F0 m 83 ls (.int v12 :: [])) (congrArg (fun z => F0 m 83 ls (.int z :: [])) ev12.symm) ?_
      refine lv_istore (lv' := [(4, .int v12), (7, .int v4), (0, .ref q), (2, .ref q2), (3, .int x3), (5, .int x5), (6, .int x6)]) hx hb dX0_moveAllBehind_83 hl (by decide) rfl (fun ls hl => ?_)
      refine lv_iload hx hb dX0_moveAllBehind_85 (lv_at hl 1 rfl) ?_
      refine lv_if_le (tgt := 96) hx hb dX0_moveAllBehind_87 (by decide) (fun c_13 => ?_) (fun c_13 => ?_)
      · replace hF := (if_pos c_13).symm.trans hF
        refine lv_iinc (v := (x6 + (1 : Int32))) (lv' := [(6, .int (x6 + (1 : Int32))), (4, .int v12), (7, .int v4), (0, .ref q), (2, .ref q2), (3, .int x3), (5, .int x5)]) hx hb dX0_moveAllBehind_96 hl (k := 6) rfl rfl (by decide) rfl (fun ls hl => ?_)
        refine lv_goto (tgt := 18) hx hb dX0_moveAllBehind_99 (by decide) ?_
        exact ih x3 v12 x5 (x6 + (1 : Int32)) ((u.1.1, (upd u.1.2.1 x6.toNatClampNeg v4), u.1.2.2.1, u.1.2.2.2.1, u.1.2.2.2.2), u8) _ _ hF H locs ls hP hD hS (lv_sub hl [3, 4, 5, 1, 6, 0] rfl)
      · replace hF := (if_neg c_13).symm.trans hF
        refine lv_iload hx hb dX0_moveAllBehind_90 (lv_at hl 6 rfl) ?_
        refine lv_iconst (v := (1 : Int32)) hx hb dX0_moveAllBehind_92 (by decide +kernel) ?_
        refine lv_iadd hx hb dX0_moveAllBehind_93 ?_
        obtain ⟨v14, ev14, hF⟩ := nm_some hF
        refine W.eq (g2 := F0 m 94 ls (.int v14 :: [])) (congrArg (fun z => F0 m 94 ls (.int z :: [])) ev14.symm) ?_
        refine lv_istore (lv' := [(5, .int v14), (4, .int v12), (7, .int v4), (0, .ref q), (2, .ref q2), (3, .int x3), (6, .int x6)]) hx hb dX0_moveAllBehind_94 hl (by decide) rfl (fun ls hl => ?_)
        refine lv_iinc (v := (x6 + (1 : Int32))) (lv' := [(6, .int (x6 + (1 : Int32))), (5, .int v14), (4, .int v12), (7, .int v4), (0, .ref q), (2, .ref q2), (3, .int x3)]) hx hb dX0_moveAllBehind_96 hl (k := 6) rfl rfl (by decide) rfl (fun ls hl => ?_)
        refine lv_goto (tgt := 18) hx hb dX0_moveAllBehind_99 (by decide) ?_
        exact ih x3 v12 v14 (x6 + (1 : Int32)) ((u.1.1, (upd u.1.2.1 x6.toNatClampNeg v4), u.1.2.2.1, u.1.2.2.2.1, u.1.2.2.2.2), u8) _ _ hF H locs ls hP hD hS (lv_sub hl [4, 5, 6, 2, 1, 0] rfl)
set_option maxHeartbeats 4000000 in
set_option maxRecDepth 100000 in
theorem c_Row_moveAllBehind (l : Launch) (D : va_G) (cI cR : ClassId) (q o a b q2 o2 a2 b2 : Nat) (sz : Nat) (p1 : Int32) (u : (RowS × RowS)) (r : Unit) (u' : (RowS × RowS)) (hF : F_Row_moveAllBehind p1 u = some (r, u')) : Met l yX0_moveAllBehind wsX0_moveAllBehind ({ frames := 2, cells := 0, slots := 0, locals := 46 }) (va_Pc [.ref q, .int p1, .ref q2] (PRE D (TY cI cR) (RW2 cI q o a b q2 o2 a2 b2 u) sz)) (QV D (TY cI cR) (va_A (RW2 cI q o a b q2 o2 a2 b2 u) sz) (fun v => RW2 cI q o a b q2 o2 a2 b2 v) u') 0 0 (va_A (RW2 cI q o a b q2 o2 a2 b2 u) sz) := by
  refine Met.ofW (cc := cX0_moveAllBehind) (maxL := 8) (ret := none) (by decide) rfl ?_
  intro p e s m args below meth c s₁ B hml hv
  obtain ⟨rfl, hsz, hP, hK, hD0⟩ := hv
  have hx := B.exec
  have hb := B.bytes
  have hr := B.returns
  have hts := atoms_spec (ws := wsX0_moveAllBehind) B.pre
  have hown : s.vm.findClass RX0 = some m.cls := findClass_of_methodNamed B.named
  have hlocks := B.notSynchronized
  subst hsz
  have hD := hD0.self (sz := s.heap.size)
  generalize hAe : va_A (RW2 cI q o a b q2 o2 a2 b2 u) s.heap.size = A at hD ⊢
  have hA : ∀ q : Nat, s.heap.size ≤ q → A q := fun q h => by rw [← hAe]; exact Or.inr h
  have hS : va_S A s.heap s.heap [] := va_S.rf
  replace hP : va_P D vwCl (RW2 cI q o a b q2 o2 a2 b2 u) s.heap := hP
  have hl := lv_entry ([.ref q, .int p1, .ref q2]) (n := 8) (Nat.le_of_ble_eq_true rfl)
  rw [lg_entry_eq]
  generalize (lg_sl ([.ref q, .int p1, .ref q2]) ++ List.replicate (8 - (lg_sl ([.ref q, .int p1, .ref q2])).length) Slot.unset).toArray = ls at hl ⊢
  replace hl : lv_has ls 8 [(0, .ref q), (1, .int p1), (2, .ref q2)] := hl
  have hk_25 := (hts _ (cwc _ mw_27))
  have hmmin_l35 := (hts _ (cwc _ mw_264))
  have hmmin_s := (hts _ (cwc _ mw_241))
  have hm_i := (hts _ (cwc _ mw_9))
  have hmmin_c := (hts _ (cwc _ mw_242))
  have hk_21 := (hts _ (cwc _ mw_26))
  have hk_15 := (hts _ (cwc _ mw_24))
  have hk_9 := (hts _ (cwc _ mw_23))
  have hk_18 := (hts _ (cwc _ mw_25))
  unfold F_Row_moveAllBehind at hF
  refine (?_ : ∀ (H : Heap) (locs : List Loc), va_P D vwCl (RW2 cI q o a b q2 o2 a2 b2 u) H → va_S A s.heap H locs → W p l e _ s m _ below meth c H locs 0 0 _ (F0 m 0 ls [])) s.heap [] hP hS
  intro H locs hP hS
  refine lv_iload_n hx hb dX0_moveAllBehind_0 rfl (lv_at hl 1 rfl) ?_
  refine lv_aload_n hx hb dX0_moveAllBehind_1 rfl (lv_at hl 0 rfl) ?_
  refine va_get (D := D) (ci := 0) (v := .int u.1.2.2.2.2) (C := RX0) (T := TX0) (N := 5) hx hb hts (fun w h => cwc w (in_X0 w h)) hown hK hP 0 rfl rfl 4 (by decide) hk_25 (fun _ h9 => h9) rfl dX0_moveAllBehind_2 ?_
  refine va_mmin hx hb (hml.trans hl.1.symm) hown hmmin_l35 hmmin_s hm_i hmmin_c (Nat.le_of_ble_eq_true rfl) (Nat.le_of_ble_eq_true rfl) (Nat.zero_le _) (Nat.zero_le _) dX0_moveAllBehind_5 ?_
  obtain ⟨v1, ev1, hF⟩ := nm_some hF
  refine W.eq (g2 := F0 m 8 ls (.int v1 :: [])) (congrArg (fun z => F0 m 8 ls (.int z :: [])) ev1.symm) ?_
  refine lv_istore_n (lv' := [(3, .int v1), (0, .ref q), (1, .int p1), (2, .ref q2)]) hx hb dX0_moveAllBehind_8 rfl hl (by decide) rfl (fun ls hl => ?_)
  refine lv_iload_n hx hb dX0_moveAllBehind_9 rfl (lv_at hl 0 rfl) ?_
  refine lv_istore (lv' := [(4, .int v1), (3, .int v1), (0, .ref q), (1, .int p1), (2, .ref q2)]) hx hb dX0_moveAllBehind_10 hl (by decide) rfl (fun ls hl => ?_)
  refine lv_iconst (v := (0 : Int32)) hx hb dX0_moveAllBehind_12 (by decide +kernel) ?_
  refine lv_istore (lv' := [(5, .int (0 : Int32)), (4, .int v1), (3, .int v1), (0, .ref q), (1, .int p1), (2, .ref q2)]) hx hb dX0_moveAllBehind_13 hl (by decide) rfl (fun ls hl => ?_)
  refine lv_iconst (v := (0 : Int32)) hx hb dX0_moveAllBehind_15 (by decide +kernel) ?_
  refine lv_istore (lv' := [(6, .int (0 : Int32)), (5, .int (0 : Int32)), (4, .int v1), (3, .int v1), (0, .ref q), (1, .int p1), (2, .ref q2)]) hx hb dX0_moveAllBehind_16 hl (by decide) rfl (fun ls hl => ?_)
  exact w_Row_moveAllBehind_L18 hx hb hr hml hown hts hlocks hA hK 9 v1 v1 (0 : Int32) (0 : Int32) u _ _ hF H locs ls hP hD hS (lv_sub hl [4, 6, 3, 2, 1, 0] rfl)
