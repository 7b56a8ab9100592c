def F_M_thrown  (u : MSt) : Option ((Int32) × Unit) := some (u.1, ())
set_option maxHeartbeats 4000000 in
set_option maxRecDepth 100000 in
theorem c_M_thrown (l : Launch) (D : va_G) (cI cR : ClassId) (ma : Nat → Nat) (sz : Nat)  (u : MSt) (r : Int32) (u' : Unit) (hF : F_M_thrown  u = some (r, u')) : Met l yX2_thrown wsX2_thrown ({ frames := 0, cells := 0, slots := 0, locals := 0 }) (va_Pc [.ref (ma 0)] (PRE D (TY cI cR) (MW cI ma u) sz)) (QI D (TY cI cR) (va_A (MW cI ma u) sz) (fun v => MW cI ma v) r u) 0 0 (va_A (MW cI ma u) sz) := by
  refine Met.ofW (cc := cX2_thrown) (maxL := 1) (ret := (some .int)) (by decide) rfl ?_
  intro p e s m args below meth c s₁ B hml hv
  obtain ⟨rfl, hsz, hP, hK, hD0⟩ := hv
  have hx := B.exec
  have hb := B.bytes
  have hr := B.returns
  have hts := atoms_spec (ws := wsX2_thrown) B.pre
  have hown : s.vm.findClass RX2 = some m.cls := findClass_of_methodNamed B.named
  have hlocks := B.notSynchronized
  subst hsz
  have hD := hD0.self (sz := s.heap.size)
  generalize hAe : va_A (MW cI ma u) s.heap.size = A at hD ⊢
  have hA : ∀ q : Nat, s.heap.size ≤ q → A q := fun q h => by rw [← hAe]; exact Or.inr h
  have hS : va_S A s.heap s.heap [] := va_S.rf
  replace hP : va_P D vwCl (MW cI ma u) s.heap := hP
  have hl := lv_entry ([.ref (ma 0)]) (n := 1) (Nat.le_of_ble_eq_true rfl)
  rw [lg_entry_eq]
  generalize (lg_sl ([.ref (ma 0)]) ++ List.replicate (1 - (lg_sl ([.ref (ma 0)])).length) Slot.unset).toArray = ls at hl ⊢
  replace hl : lv_has ls 1 [(0, .ref (ma 0))] := hl
  have hk_54 := (hts _ (cwc _ mw_335))
  unfold F_M_thrown at hF
  refine (?_ : ∀ (H : Heap) (locs : List Loc), va_P D vwCl (MW cI ma u) H → va_S A s.heap H locs → W p l e _ s m _ below meth c H locs 0 0 _ (F0 m 0 ls [])) s.heap [] hP hS
  intro H locs hP hS
  refine lv_aload_n hx hb dX2_thrown_0 rfl (lv_at hl 0 rfl) ?_
  refine va_get (D := D) (ci := 2) (v := .int u.1) (C := RX2) (T := TX2) (N := 18) hx hb hts (fun w h => cwc w (in_X2 w h)) hown hK hP 0 rfl rfl 0 (by decide) hk_54 (fun _ h9 => h9) rfl dX2_thrown_1 ?_
  cases hF
  refine W.widen (k := 0) (n := 0) (Nat.le_of_ble_eq_true rfl) (Nat.le_of_ble_eq_true rfl) ?_
  exact W.iret hx hb hr (fun t ht hW => ⟨⟨_, _, rfl, ⟨rfl, rfl⟩, by rw [ht]; exact hP, va_K.moved hW.alike hK, hD⟩, hS.F ht⟩) hS.2.2 dX2_thrown_4
def F_M_in (p0 : Int32) (p1 : Int32) (u : Unit) : Option ((Int32) × Unit) := (if p0 < (0 : Int32) then some ((0 : Int32), ()) else (if p1 ≤ p0 then some ((0 : Int32), ()) else some ((1 : Int32), ())))
set_option maxHeartbeats 4000000 in
set_option maxRecDepth 100000 in
theorem c_M_in (l : Launch) (D : va_G) (cI cR : ClassId)  (sz : Nat) (p0 : Int32) (p1 : Int32) (u : Unit) (r : Int32) (u' : Unit) (hF : F_M_in p0 p1 u = some (r, u')) : Met l yX2_in wsX2_in ({ frames := 0, cells := 0, slots := 0, locals := 0 }) (va_Pc [.int p0, .int p1] (PRE D (TY cI cR) ([] : va_W) sz)) (QI D (TY cI cR) (va_A ([] : va_W) sz) (fun (_ : Unit) => ([] : va_W)) r u') 0 0 (va_A ([] : va_W) sz) := by
  refine Met.ofW (cc := cX2_in) (maxL := 2) (ret := (some .boolean)) (by decide) rfl ?_
  intro p e s m args below meth c s₁ B hml hv
  obtain ⟨rfl, hsz, hP, hK, hD0⟩ := hv
  have hx := B.exec
  have hb := B.bytes
  have hr := B.returns
  have hts := atoms_spec (ws := wsX2_in) B.pre
  have hown : s.vm.findClass RX2 = some m.cls := findClass_of_methodNamed B.named
  have hlocks := B.notSynchronized
  subst hsz
  have hD := hD0.self (sz := s.heap.size)
  generalize hAe : va_A ([] : va_W) s.heap.size = A at hD ⊢
  have hA : ∀ q : Nat, s.heap.size ≤ q → A q := fun q h => by rw [← hAe]; exact Or.inr h
  have hS : va_S A s.heap s.heap [] := va_S.rf
  replace hP : va_P D vwCl ([] : va_W) s.heap := hP
  have hl := lv_entry ([.int p0, .int p1]) (n := 2) (Nat.le_of_ble_eq_true rfl)
  rw [lg_entry_eq]
  generalize (lg_sl ([.int p0, .int p1]) ++ List.replicate (2 - (lg_sl ([.int p0, .int p1])).length) Slot.unset).toArray = ls at hl ⊢
  replace hl : lv_has ls 2 [(0, .int p0), (1, .int p1)] := hl
  unfold F_M_in at hF
  refine (?_ : ∀ (H : Heap) (locs : List Loc), va_P D vwCl ([] : va_W) H → va_S A s.heap H locs → W p l e _ s m _ below meth c H locs 0 0 _ (F0 m 0 ls [])) s.heap [] hP hS
  intro H locs hP hS
  refine lv_iload_n hx hb dX2_in_0 rfl (lv_at hl 0 rfl) ?_
  refine lv_if_lt (tgt := 13) hx hb dX2_in_1 (by decide) (fun c_1 => ?_) (fun c_1 => ?_)
  · replace hF := (if_pos c_1).symm.trans hF
    refine lv_iconst (v := (0 : Int32)) hx hb dX2_in_13 (by decide +kernel) ?_
    cases hF
    refine W.widen (k := 0) (n := 0) (Nat.le_of_ble_eq_true rfl) (Nat.le_of_ble_eq_true rfl) ?_
    exact W.zret hx hb hr rfl (fun t ht hW => ⟨⟨_, _, rfl, ⟨rfl, rfl⟩, by rw [ht]; exact hP, va_K.moved hW.alike hK, hD⟩, hS.F ht⟩) hS.2.2 dX2_in_14
  · replace hF := (if_neg c_1).symm.trans hF
    refine lv_iload_n hx hb dX2_in_4 rfl (lv_at hl 0 rfl) ?_
    refine lv_iload_n hx hb dX2_in_5 rfl (lv_at hl 1 rfl) ?_
    refine lv_icmp_ge (tgt := 13) hx hb dX2_in_6 (by decide) (fun c_2 => ?_) (fun c_2 => ?_)
    · replace hF := (if_pos c_2).symm.trans hF
      refine lv_iconst (v := (0 : Int32)) hx hb dX2_in_13 (by decide +kernel) ?_
      cases hF
      refine W.widen (k := 0) (n := 0) (Nat.le_of_ble_eq_true rfl) (Nat.le_of_ble_eq_true rfl) ?_
      exact W.zret hx hb hr rfl (fun t ht hW => ⟨⟨_, _, rfl, ⟨rfl, rfl⟩, by rw [ht]; exact hP, va_K.moved hW.alike hK, hD⟩, hS.F ht⟩) hS.2.2 dX2_in_14
    · replace hF := (if_neg c_2).symm.trans hF
      refine lv_iconst (v := (1 : Int32)) hx hb dX2_in_9 (by decide +kernel) ?_
      refine lv_goto (tgt := 14) hx hb dX2_in_10 (by decide) ?_
      cases hF
      refine W.widen (k := 0) (n := 0) (Nat.le_of_ble_eq_true rfl) (Nat.le_of_ble_eq_true rfl) ?_
      exact W.zret hx hb hr rfl (fun t ht hW => ⟨⟨_, _, rfl, ⟨rfl, rfl⟩, by rw [ht]; exact hP, va_K.moved hW.alike hK, hD⟩, hS.F ht⟩) hS.2.2 dX2_in_14
def F_M_isFirst (p1 : Int32) (p2 : Int32) (u : MSt) : Option ((Int32) × Unit) := (if p2 = (0 : Int32) then some ((1 : Int32), ()) else gd (inb (((1000 : Int32) * p1) + p2) 49000) (gd (inb ((((1000 : Int32) * p1) + p2) - (1 : Int32)) 49000) ((if (u.2.2.2.2.2.2.2.2.2.2.2.2.2.1 (((1000 : Int32) * p1) + p2).toNatClampNeg) = (u.2.2.2.2.2.2.2.2.2.2.2.2.2.1 ((((1000 : Int32) * p1) + p2) - (1 : Int32)).toNatClampNeg) then gd (inb (((1000 : Int32) * p1) + p2) 49000) (gd (inb ((((1000 : Int32) * p1) + p2) - (1 : Int32)) 49000) ((if (u.2.2.2.2.2.2.2.2.2.2.2.2.2.2.1 (((1000 : Int32) * p1) + p2).toNatClampNeg) = (u.2.2.2.2.2.2.2.2.2.2.2.2.2.2.1 ((((1000 : Int32) * p1) + p2) - (1 : Int32)).toNatClampNeg) then some ((0 : Int32), ()) else some ((1 : Int32), ())))) else some ((1 : Int32), ())))))
set_option maxHeartbeats 4000000 in
set_option maxRecDepth 100000 in
theorem c_M_isFirst (l : Launch) (D : va_G) (cI cR : ClassId) (ma : Nat → Nat) (sz : Nat) (p1 : Int32) (p2 : Int32) (u : MSt) (r : Int32) (u' : Unit) (hF : F_M_isFirst p1 p2 u = some (r, u')) : Met l yX2_isFirst wsX2_isFirst ({ frames := 0, cells := 0, slots := 0, locals := 0 }) (va_Pc [.ref (ma 0), .int p1, .int p2] (PRE D (TY cI cR) (MW cI ma u) sz)) (QI D (TY cI cR) (va_A (MW cI ma u) sz) (fun v => MW cI ma v) r u) 0 0 (va_A (MW cI ma u) sz) := by
  refine Met.ofW (cc := cX2_isFirst) (maxL := 3) (ret := (some .boolean)) (by decide) rfl ?_
  intro p e s m args below meth c s₁ B hml hv
  obtain ⟨rfl, hsz, hP, hK, hD0⟩ := hv
  have hx := B.exec
  have hb := B.bytes
  have hr := B.returns
  have hts := atoms_spec (ws := wsX2_isFirst) B.pre
  have hown : s.vm.findClass RX2 = some m.cls := findClass_of_methodNamed B.named
  have hlocks := B.notSynchronized
  subst hsz
  have hD := hD0.self (sz := s.heap.size)
  generalize hAe : va_A (MW cI ma u) s.heap.size = A at hD ⊢
  have hA : ∀ q : Nat, s.heap.size ≤ q → A q := fun q h => by rw [← hAe]; exact Or.inr h
  have hS : va_S A s.heap s.heap [] := va_S.rf
  replace hP : va_P D vwCl (MW cI ma u) s.heap := hP
  have hl := lv_entry ([.ref (ma 0), .int p1, .int p2]) (n := 3) (Nat.le_of_ble_eq_true rfl)
  rw [lg_entry_eq]
  generalize (lg_sl ([.ref (ma 0), .int p1, .int p2]) ++ List.replicate (3 - (lg_sl ([.ref (ma 0), .int p1, .int p2])).length) Slot.unset).toArray = ls at hl ⊢
  replace hl : lv_has ls 3 [(0, .ref (ma 0)), (1, .int p1), (2, .int p2)] := hl
  have hk_39 := (hts _ (cwc _ mw_348))
  have hk_42 := (hts _ (cwc _ mw_349))
  unfold F_M_isFirst at hF
  refine (?_ : ∀ (H : Heap) (locs : List Loc), va_P D vwCl (MW cI ma u) H → va_S A s.heap H locs → W p l e _ s m _ below meth c H locs 0 0 _ (F0 m 0 ls [])) s.heap [] hP hS
  intro H locs hP hS
  refine lv_iload_n hx hb dX2_isFirst_0 rfl (lv_at hl 2 rfl) ?_
  refine lv_if_eq (tgt := 62) hx hb dX2_isFirst_1 (by decide) (fun c_1 => ?_) (fun c_1 => ?_)
  · replace hF := (if_pos c_1).symm.trans hF
    refine lv_iconst (v := (1 : Int32)) hx hb dX2_isFirst_62 (by decide +kernel) ?_
    refine lv_goto (tgt := 67) hx hb dX2_isFirst_63 (by decide) ?_
    cases hF
    refine W.widen (k := 0) (n := 0) (Nat.le_of_ble_eq_true rfl) (Nat.le_of_ble_eq_true rfl) ?_
    exact W.zret hx hb hr rfl (fun t ht hW => ⟨⟨_, _, rfl, ⟨rfl, rfl⟩, by rw [ht]; exact hP, va_K.moved hW.alike hK, hD⟩, hS.F ht⟩) hS.2.2 dX2_isFirst_67
  · replace hF := (if_neg c_1).symm.trans hF
    refine lv_aload_n hx hb dX2_isFirst_4 rfl (lv_at hl 0 rfl) ?_
    refine va_get (D := D) (ci := 2) (v := .ref (ma 9)) (C := RX2) (T := TX2) (N := 18) hx hb hts (fun w h => cwc w (in_X2 w h)) hown hK hP 0 rfl rfl 13 (by decide) hk_39 (fun _ h9 => h9) rfl dX2_isFirst_5 ?_
    refine lv_sipush (v := (1000 : Int32)) hx hb dX2_isFirst_8 (by decide +kernel) ?_
    refine lv_iload_n hx hb dX2_isFirst_11 rfl (lv_at hl 1 rfl) ?_
    refine lv_imul hx hb dX2_isFirst_12 ?_
    refine lv_iload_n hx hb dX2_isFirst_13 rfl (lv_at hl 2 rfl) ?_
    refine lv_iadd hx hb dX2_isFirst_14 ?_
    obtain ⟨h_2, hF⟩ := gd_some hF
    refine va_iald (f := u.2.2.2.2.2.2.2.2.2.2.2.2.2.1) hx hb hK hP 9 0 rfl rfl (inb_in h_2) dX2_isFirst_15 ?_
    refine lv_aload_n hx hb dX2_isFirst_16 rfl (lv_at hl 0 rfl) ?_
    refine va_get (D := D) (ci := 2) (v := .ref (ma 9)) (C := RX2) (T := TX2) (N := 18) hx hb hts (fun w h => cwc w (in_X2 w h)) hown hK hP 0 rfl rfl 13 (by decide) hk_39 (fun _ h9 => h9) rfl dX2_isFirst_17 ?_
    refine lv_sipush (v := (1000 : Int32)) hx hb dX2_isFirst_20 (by decide +kernel) ?_
    refine lv_iload_n hx hb dX2_isFirst_23 rfl (lv_at hl 1 rfl) ?_
    refine lv_imul hx hb dX2_isFirst_24 ?_
    refine lv_iload_n hx hb dX2_isFirst_25 rfl (lv_at hl 2 rfl) ?_
    refine lv_iadd hx hb dX2_isFirst_26 ?_
    refine lv_iconst (v := (1 : Int32)) hx hb dX2_isFirst_27 (by decide +kernel) ?_
    refine lv_isub hx hb dX2_isFirst_28 ?_
    obtain ⟨h_3, hF⟩ := gd_some hF
    refine va_iald (f := u.2.2.2.2.2.2.2.2.2.2.2.2.2.1) hx hb hK hP 9 0 rfl rfl (inb_in h_3) dX2_isFirst_29 ?_
    refine lv_icmp_ne (tgt := 62) hx hb dX2_isFirst_30 (by decide) (fun c_4 => ?_) (fun c_4 => ?_)
    · replace hF := (if_neg c_4).symm.trans hF
      refine lv_iconst (v := (1 : Int32)) hx hb dX2_isFirst_62 (by decide +kernel) ?_
      refine lv_goto (tgt := 67) hx hb dX2_isFirst_63 (by decide) ?_
      cases hF
      refine W.widen (k := 0) (n := 0) (Nat.le_of_ble_eq_true rfl) (Nat.le_of_ble_eq_true rfl) ?_
      exact W.zret hx hb hr rfl (fun t ht hW => ⟨⟨_, _, rfl, ⟨rfl, rfl⟩, by rw [ht]; exact hP, va_K.moved hW.alike hK, hD⟩, hS.F ht⟩) hS.2.2 dX2_isFirst_67
    · replace hF := (if_pos c_4).symm.trans hF
      refine lv_aload_n hx hb dX2_isFirst_33 rfl (lv_at hl 0 rfl) ?_
      refine va_get (D := D) (ci := 2) (v := .ref (ma 10)) (C := RX2) (T := TX2) (N := 18) hx hb hts (fun w h => cwc w (in_X2 w h)) hown hK hP 0 rfl rfl 14 (by decide) hk_42 (fun _ h9 => h9) rfl dX2_isFirst_34 ?_
      refine lv_sipush (v := (1000 : Int32)) hx hb dX2_isFirst_37 (by decide +kernel) ?_
      refine lv_iload_n hx hb dX2_isFirst_40 rfl (lv_at hl 1 rfl) ?_
      refine lv_imul hx hb dX2_isFirst_41 ?_
      refine lv_iload_n hx hb dX2_isFirst_42 rfl (lv_at hl 2 rfl) ?_
      refine lv_iadd hx hb dX2_isFirst_43 ?_
      obtain ⟨h_5, hF⟩ := gd_some hF
      refine va_iald (f := u.2.2.2.2.2.2.2.2.2.2.2.2.2.2.1) hx hb hK hP 10 0 rfl rfl (inb_in h_5) dX2_isFirst_44 ?_
      refine lv_aload_n hx hb dX2_isFirst_45 rfl (lv_at hl 0 rfl) ?_
      refine va_get (D := D) (ci := 2) (v := .ref (ma 10)) (C := RX2) (T := TX2) (N := 18) hx hb hts (fun w h => cwc w (in_X2 w h)) hown hK hP 0 rfl rfl 14 (by decide) hk_42 (fun _ h9 => h9) rfl dX2_isFirst_46 ?_
      refine lv_sipush (v := (1000 : Int32)) hx hb dX2_isFirst_49 (by decide +kernel) ?_
      refine lv_iload_n hx hb dX2_isFirst_52 rfl (lv_at hl 1 rfl) ?_
      refine lv_imul hx hb dX2_isFirst_53 ?_
      refine lv_iload_n hx hb dX2_isFirst_54 rfl (lv_at hl 2 rfl) ?_
      refine lv_iadd hx hb dX2_isFirst_55 ?_
      refine lv_iconst (v := (1 : Int32)) hx hb dX2_isFirst_56 (by decide +kernel) ?_
      refine lv_isub hx hb dX2_isFirst_57 ?_
      obtain ⟨h_6, hF⟩ := gd_some hF
      refine va_iald (f := u.2.2.2.2.2.2.2.2.2.2.2.2.2.2.1) hx hb hK hP 10 0 rfl rfl (inb_in h_6) dX2_isFirst_58 ?_
      refine lv_icmp_eq (tgt := 66) hx hb dX2_isFirst_59 (by decide) (fun c_7 => ?_) (fun c_7 => ?_)
      · replace hF := (if_pos c_7).symm.trans hF
        refine lv_iconst (v := (0 : Int32)) hx hb dX2_isFirst_66 (by decide +kernel) ?_
        cases hF
        refine W.widen (k := 0) (n := 0) (Nat.le_of_ble_eq_true rfl) (Nat.le_of_ble_eq_true rfl) ?_
        exact W.zret hx hb hr rfl (fun t ht hW => ⟨⟨_, _, rfl, ⟨rfl, rfl⟩, by rw [ht]; exact hP, va_K.moved hW.alike hK, hD⟩, hS.F ht⟩) hS.2.2 dX2_isFirst_67
      · replace hF := (if_neg c_7).symm.trans hF
        refine lv_iconst (v := (1 : Int32)) hx hb dX2_isFirst_62 (by decide +kernel) ?_
        refine lv_goto (tgt := 67) hx hb dX2_isFirst_63 (by decide) ?_
        cases hF
        refine W.widen (k := 0) (n := 0) (Nat.le_of_ble_eq_true rfl) (Nat.le_of_ble_eq_true rfl) ?_
        exact W.zret hx hb hr rfl (fun t ht hW => ⟨⟨_, _, rfl, ⟨rfl, rfl⟩, by rw [ht]; exact hP, va_K.moved hW.alike hK, hD⟩, hS.F ht⟩) hS.2.2 dX2_isFirst_67
def F_M_packets_L4 : Nat → Int32 → Int32 → Int32 → MSt → Option ((Int32) × Unit)
  | 0, _, _, _, _ => none
  | n + 1, x1, x2, x3, u => gd (inb x1 49) ((if (u.2.2.2.2.2.2.2.2.2.2.2.2.1 x1.toNatClampNeg) ≤ x3 then some (x2, ()) else bi (F_M_isFirst x1 x3 u) (fun r4 u3 => (if r4 = (0 : Int32) then F_M_packets_L4 n x1 x2 (x3 + (1 : Int32)) u else F_M_packets_L4 n x1 (x2 + (1 : Int32)) (x3 + (1 : Int32)) u))))
def F_M_packets (p1 : Int32) (u : MSt) : Option ((Int32) × Unit) := F_M_packets_L4 1001 p1 (0 : Int32) (0 : Int32) u
set_option maxHeartbeats 4000000 in
set_option maxRecDepth 100000 in
theorem w_M_packets_L4 {p : Program} {l : Launch} {e : Env} {s : State} {m : MethodId} {args : Array Value} {below : List Frame} {meth : Method} {c : Code} {A : Nat → Prop} {D : va_G} {cI cR : ClassId} {ma : Nat → Nat} (hx : p.tables.exec = Jvm.exec) (hb : c.code = cX2_packets) (hr : meth.sig.returnType = (some .int)) (hml : c.maxLocals = 4) (hown : s.vm.findClass RX2 = some m.cls) (hts : ∀ w ∈ wsX2_packets, w.before args s = true) (hlocks : meth.locks = false) (hA : ∀ q : Nat, s.heap.size ≤ q → A q) (hK : va_K D vwCl (TY cI cR) s) : ∀ (n : Nat) (x1 x2 x3 : Int32) (u : MSt) (r : Int32) (u' : Unit), F_M_packets_L4 n x1 x2 x3 u = some (r, u') → ∀ (H : Heap) (locs : List Loc) (ls : Array Slot), va_P D vwCl (MW cI ma u) H → va_D A (MW cI ma u) → va_S A s.heap H locs → lv_has ls 4 [(0, .ref (ma 0)), (1, .int x1), (2, .int x2), (3, .int x3)] → W p l e (headSpec wsX2_packets ({ frames := 1, cells := 0, slots := 0, locals := 22 })).room s m args below meth c H locs 0 0 (MQ below (QI D (TY cI cR) A (fun v => MW cI ma v) r u) args s 0 0 A) (F0 m 4 ls []) := by
  have hk_35 := (hts _ (cwc _ mw_347))
  intro n
  induction n with
  | zero =>
    intro x1 x2 x3 u r u' hF
    rw [F_M_packets_L4] at hF
    exact absurd hF (by simp)
  | succ n ih =>
    intro x1 x2 x3 u r u' hF H locs ls hP hD hS hl
    rw [F_M_packets_L4] at hF
    refine lv_iload_n hx hb dX2_packets_4 rfl (lv_at hl 3 rfl) ?_
    refine lv_aload_n hx hb dX2_packets_5 rfl (lv_at hl 0 rfl) ?_
    refine va_get (D := D) (ci := 2) (v := .ref (ma 8)) (C := RX2) (T := TX2) (N := 18) hx hb hts (fun w h => cwc w (in_X2 w h)) hown hK hP 0 rfl rfl 12 (by decide) hk_35 (fun _ h9 => h9) rfl dX2_packets_6 ?_
    refine lv_iload_n hx hb dX2_packets_9 rfl (lv_at hl 1 rfl) ?_
    obtain ⟨h_1, hF⟩ := gd_some hF
    refine va_iald (f := u.2.2.2.2.2.2.2.2.2.2.2.2.1) hx hb hK hP 8 0 rfl rfl (inb_in h_1) dX2_packets_10 ?_
    refine lv_icmp_ge (tgt := 32) hx hb dX2_packets_11 (by decide) (fun c_2 => ?_) (fun c_2 => ?_)
    · replace hF := (if_pos c_2).symm.trans hF
      refine lv_iload_n hx hb dX2_packets_32 rfl (lv_at hl 2 rfl) ?_
      cases hF
      refine W.widen (k := 0) (n := 0) (Nat.le_of_ble_eq_true rfl) (Nat.le_of_ble_eq_true rfl) ?_
      exact W.iret hx hb hr (fun t ht hW => ⟨⟨_, _, rfl, ⟨rfl, rfl⟩, by rw [ht]; exact hP, va_K.moved hW.alike hK, hD⟩, hS.F ht⟩) hS.2.2 dX2_packets_33
    · replace hF := (if_neg c_2).symm.trans hF
      refine lv_aload_n hx hb dX2_packets_14 rfl (lv_at hl 0 rfl) ?_
      refine lv_iload_n hx hb dX2_packets_15 rfl (lv_at hl 1 rfl) ?_
      refine lv_iload_n hx hb dX2_packets_16 rfl (lv_at hl 3 rfl) ?_
      obtain ⟨r4, u3, hc_5, hF⟩ := bi_some hF
      refine kc_i (W1 := MW cI ma u) (va_runV (As := [.int x1, .int x3]) (rest := []) ⟨hx, hb, hml, hown, hts⟩ (c_M_isFirst l D cI cR ma H.size x1 x3 u r4 u3 hc_5) (cwV 2 hts (gV cwc mw_413 mw_414 mw_488 mw_3 mw_415) rfl rfl rfl (by decide +kernel) ⟨(Nat.le_of_ble_eq_true rfl), (Nat.le_of_ble_eq_true rfl)⟩) (kp_V (ci := 2) (q := (RX2, TX2, 18)) hK hP hD (sb_id _) rfl rfl) rfl rfl hl.1 rfl (lv_room (Nat.le_of_ble_eq_true rfl)) dX2_packets_17 ⟨(Nat.le_of_ble_eq_true rfl), (Nat.le_of_ble_eq_true rfl)⟩) hP hD hS hA (sb_id _) (jn_same (sb_id _)) (fun H locs hP hD hS => ?_)
      refine lv_if_eq (tgt := 26) hx hb dX2_packets_20 (by decide) (fun c_6 => ?_) (fun c_6 => ?_)
      · replace hF := (if_pos c_6).symm.trans hF
        refine lv_iinc (v := (x3 + (1 : Int32))) (lv' := [(3, .int (x3 + (1 : Int32))), (0, .ref (ma 0)), (1, .int x1), (2, .int x2)]) hx hb dX2_packets_26 hl (k := 3) rfl rfl (by decide) rfl (fun ls hl => ?_)
        refine lv_goto (tgt := 4) hx hb dX2_packets_29 (by decide) ?_
        exact ih x1 x2 (x3 + (1 : Int32)) u _ _ hF H locs ls hP hD hS (lv_sub hl [1, 2, 3, 0] rfl)
      · replace hF := (if_neg c_6).symm.trans hF
        refine lv_iinc (v := (x2 + (1 : Int32))) (lv' := [(2, .int (x2 + (1 : Int32))), (0, .ref (ma 0)), (1, .int x1), (3, .int x3)]) hx hb dX2_packets_23 hl (k := 2) rfl rfl (by decide) rfl (fun ls hl => ?_)
        refine lv_iinc (v := (x3 + (1 : Int32))) (lv' := [(3, .int (x3 + (1 : Int32))), (2, .int (x2 + (1 : Int32))), (0, .ref (ma 0)), (1, .int x1)]) hx hb dX2_packets_26 hl (k := 3) rfl rfl (by decide) rfl (fun ls hl => ?_)
        refine lv_goto (tgt := 4) hx hb dX2_packets_29 (by decide) ?_
        exact ih x1 (x2 + (1 : Int32)) (x3 + (1 : Int32)) u _ _ hF H locs ls hP hD hS (lv_sub hl [2, 3, 1, 0] rfl)
set_option maxHeartbeats 4000000 in
set_option maxRecDepth 100000 in
theorem c_M_packets (l : Launch) (D : va_G) (cI cR : ClassId) (ma : Nat → Nat) (sz : Nat) (p1 : Int32) (u : MSt) (r : Int32) (u' : Unit) (hF : F_M_packets p1 u = some (r, u')) : Met l yX2_packets wsX2_packets ({ frames := 1, cells := 0, slots := 0, locals := 22 }) (va_Pc [.ref (ma 0), .int p1] (PRE D (TY cI cR) (MW cI ma u) sz)) (QI D (TY cI cR) (va_A (MW cI ma u) sz) (fun v => MW cI ma v) r u) 0 0 (va_A (MW cI ma u) sz) := by
  refine Met.ofW (cc := cX2_packets) (maxL := 4) (ret := (some .int)) (by decide) rfl ?_
  intro p e s m args below meth c s₁ B hml hv
  obtain ⟨rfl, hsz, hP, hK, hD0⟩ := hv
  have hx := B.exec
  have hb := B.bytes
  have hr := B.returns
  have hts := atoms_spec (ws := wsX2_packets) B.pre
  have hown : s.vm.findClass RX2 = some m.cls := findClass_of_methodNamed B.named
  have hlocks := B.notSynchronized
  subst hsz
  have hD := hD0.self (sz := s.heap.size)
  generalize hAe : va_A (MW cI ma u) s.heap.size = A at hD ⊢
  have hA : ∀ q : Nat, s.heap.size ≤ q → A q := fun q h => by rw [← hAe]; exact Or.inr h
  have hS : va_S A s.heap s.heap [] := va_S.rf
  replace hP : va_P D vwCl (MW cI ma u) s.heap := hP
  have hl := lv_entry ([.ref (ma 0), .int p1]) (n := 4) (Nat.le_of_ble_eq_true rfl)
  rw [lg_entry_eq]
  generalize (lg_sl ([.ref (ma 0), .int p1]) ++ List.replicate (4 - (lg_sl ([.ref (ma 0), .int p1])).length) Slot.unset).toArray = ls at hl ⊢
  replace hl : lv_has ls 4 [(0, .ref (ma 0)), (1, .int p1)] := hl
  have hk_35 := (hts _ (cwc _ mw_347))
  unfold F_M_packets at hF
  refine (?_ : ∀ (H : Heap) (locs : List Loc), va_P D vwCl (MW cI ma u) H → va_S A s.heap H locs → W p l e _ s m _ below meth c H locs 0 0 _ (F0 m 0 ls [])) s.heap [] hP hS
  intro H locs hP hS
  refine lv_iconst (v := (0 : Int32)) hx hb dX2_packets_0 (by decide +kernel) ?_
  refine lv_istore_n (lv' := [(2, .int (0 : Int32)), (0, .ref (ma 0)), (1, .int p1)]) hx hb dX2_packets_1 rfl hl (by decide) rfl (fun ls hl => ?_)
  refine lv_iconst (v := (0 : Int32)) hx hb dX2_packets_2 (by decide +kernel) ?_
  refine lv_istore_n (lv' := [(3, .int (0 : Int32)), (2, .int (0 : Int32)), (0, .ref (ma 0)), (1, .int p1)]) hx hb dX2_packets_3 rfl hl (by decide) rfl (fun ls hl => ?_)
  exact w_M_packets_L4 hx hb hr hml hown hts hlocks hA hK 1001 p1 (0 : Int32) (0 : Int32) u _ _ hF H locs ls hP hD hS (lv_sub hl [2, 3, 1, 0] rfl)
def F_M_put_J113 (x1 s0 s1 : Int32) (u : MSt) : Option ((Unit) × MSt) := gd (inb s1 49000) (gd (inb x1 49) (gd (inb x1 49) (some ((), (u.1, u.2.1, u.2.2.1, u.2.2.2.1, u.2.2.2.2.1, u.2.2.2.2.2.1, u.2.2.2.2.2.2.1, u.2.2.2.2.2.2.2.1, u.2.2.2.2.2.2.2.2.1, u.2.2.2.2.2.2.2.2.2.1, u.2.2.2.2.2.2.2.2.2.2.1, u.2.2.2.2.2.2.2.2.2.2.2.1, (upd u.2.2.2.2.2.2.2.2.2.2.2.2.1 x1.toNatClampNeg ((u.2.2.2.2.2.2.2.2.2.2.2.2.1 x1.toNatClampNeg) + (1 : Int32))), u.2.2.2.2.2.2.2.2.2.2.2.2.2.1, (upd u.2.2.2.2.2.2.2.2.2.2.2.2.2.2.1 s1.toNatClampNeg s0), u.2.2.2.2.2.2.2.2.2.2.2.2.2.2.2.1, u.2.2.2.2.2.2.2.2.2.2.2.2.2.2.2.2.1, u.2.2.2.2.2.2.2.2.2.2.2.2.2.2.2.2.2)))))
def F_M_put_J88 (x1 x3 x4 x5 s0 s1 : Int32) (u : MSt) : Option ((Unit) × MSt) := gd (inb s1 49000) ((if x5 = (0 : Int32) then F_M_put_J113 x1 x3 (x4 + (1 : Int32)) (u.1, u.2.1, u.2.2.1, u.2.2.2.1, u.2.2.2.2.1, u.2.2.2.2.2.1, u.2.2.2.2.2.2.1, u.2.2.2.2.2.2.2.1, u.2.2.2.2.2.2.2.2.1, u.2.2.2.2.2.2.2.2.2.1, u.2.2.2.2.2.2.2.2.2.2.1, u.2.2.2.2.2.2.2.2.2.2.2.1, u.2.2.2.2.2.2.2.2.2.2.2.2.1, (upd u.2.2.2.2.2.2.2.2.2.2.2.2.2.1 s1.toNatClampNeg s0), u.2.2.2.2.2.2.2.2.2.2.2.2.2.2.1, u.2.2.2.2.2.2.2.2.2.2.2.2.2.2.2.1, u.2.2.2.2.2.2.2.2.2.2.2.2.2.2.2.2.1, u.2.2.2.2.2.2.2.2.2.2.2.2.2.2.2.2.2) else gd (inb x4 49000) (F_M_put_J113 x1 (u.2.2.2.2.2.2.2.2.2.2.2.2.2.2.1 x4.toNatClampNeg) (x4 + (1 : Int32)) (u.1, u.2.1, u.2.2.1, u.2.2.2.1, u.2.2.2.2.1, u.2.2.2.2.2.1, u.2.2.2.2.2.2.1, u.2.2.2.2.2.2.2.1, u.2.2.2.2.2.2.2.2.1, u.2.2.2.2.2.2.2.2.2.1, u.2.2.2.2.2.2.2.2.2.2.1, u.2.2.2.2.2.2.2.2.2.2.2.1, u.2.2.2.2.2.2.2.2.2.2.2.2.1, (upd u.2.2.2.2.2.2.2.2.2.2.2.2.2.1 s1.toNatClampNeg s0), u.2.2.2.2.2.2.2.2.2.2.2.2.2.2.1, u.2.2.2.2.2.2.2.2.2.2.2.2.2.2.2.1, u.2.2.2.2.2.2.2.2.2.2.2.2.2.2.2.2.1, u.2.2.2.2.2.2.2.2.2.2.2.2.2.2.2.2.2))))
def F_M_put_J62 (x1 x2 x3 x4 s0 : Int32) (u : MSt) : Option ((Unit) × MSt) := (if s0 = (0 : Int32) then F_M_put_J88 x1 x3 x4 s0 x2 (x4 + (1 : Int32)) u else gd (inb x4 49000) (F_M_put_J88 x1 x3 x4 s0 (u.2.2.2.2.2.2.2.2.2.2.2.2.2.1 x4.toNatClampNeg) (x4 + (1 : Int32)) u))
def F_M_put_J61 (x1 x2 x3 x4 : Int32) (u : MSt) : Option ((Unit) × MSt) := F_M_put_J62 x1 x2 x3 x4 (0 : Int32) u
def F_M_put_J47 (x1 x2 x3 x4 : Int32) (u : MSt) : Option ((Unit) × MSt) := bi (F_M_packets x1 u) (fun r16 u15 => (if r16 = (8 : Int32) then F_M_put_J62 x1 x2 x3 x4 (1 : Int32) u else F_M_put_J61 x1 x2 x3 x4 u))
def F_M_put (p1 : Int32) (p2 : Int32) (p3 : Int32) (u : MSt) : Option ((Unit) × MSt) := gd (inb p1 49) (nm (((((1000 : Int32) * p1) + (u.2.2.2.2.2.2.2.2.2.2.2.2.1 p1.toNatClampNeg)) - (1 : Int32))) (fun v2 => gd (inb p1 49) ((if (u.2.2.2.2.2.2.2.2.2.2.2.2.1 p1.toNatClampNeg) ≤ (0 : Int32) then F_M_put_J61 p1 p2 p3 v2 u else gd (inb v2 49000) ((if (u.2.2.2.2.2.2.2.2.2.2.2.2.2.1 v2.toNatClampNeg) = p2 then gd (inb v2 49000) ((if (u.2.2.2.2.2.2.2.2.2.2.2.2.2.2.1 v2.toNatClampNeg) = p3 then F_M_put_J61 p1 p2 p3 v2 u else F_M_put_J47 p1 p2 p3 v2 u)) else F_M_put_J47 p1 p2 p3 v2 u))))))
set_option maxHeartbeats 4000000 in
set_option maxRecDepth 100000 in
theorem w_M_put_J113 {p : Program} {l : Launch} {e : Env} {s : State} {m : MethodId} {args : Array Value} {below : List Frame} {meth : Method} {c : Code} {A : Nat → Prop} {D : va_G} {cI cR : ClassId} {ma : Nat → Nat} (hx : p.tables.exec = Jvm.exec) (hb : c.code = cX2_put) (hr : meth.sig.returnType = none) (hml : c.maxLocals = 6) (hown : s.vm.findClass RX2 = some m.cls) (hts : ∀ w ∈ wsX2_put, w.before args s = true) (hlocks : meth.locks = false) (hA : ∀ q : Nat, s.heap.size ≤ q → A q) (hK : va_K D vwCl (TY cI cR) s) : ∀ (x1 s0 s1 : Int32) (u : MSt) (r : Unit) (u' : MSt), F_M_put_J113 x1 s0 s1 u = some (r, u') → ∀ (H : Heap) (locs : List Loc) (ls : Array Slot), va_P D vwCl (MW cI ma u) H → va_D A (MW cI ma u) → va_S A s.heap H locs → lv_has ls 6 [(0, .ref (ma 0)), (1, .int x1)] → W p l e (headSpec wsX2_put ({ frames := 2, cells := 0, slots := 0, locals := 45 })).room s m args below meth c H locs 0 0 (MQ below (QV D (TY cI cR) A (fun v => MW cI ma v) u') args s 0 0 A) (F0 m 113 ls [.int s0, .int s1, .ref (ma 10)]) := by
  have hk_35 := (hts _ (cwc _ mw_347))
  have hk_39 := (hts _ (cwc _ mw_348))
  have hk_42 := (hts _ (cwc _ mw_349))
  intro x1 s0 s1 u r u' hF H locs ls hP hD hS hl
  unfold F_M_put_J113 at hF
  obtain ⟨h_8, hF⟩ := gd_some hF
  refine va_iast (f := u.2.2.2.2.2.2.2.2.2.2.2.2.2.2.1) hx hb hK hP hD hS 10 0 rfl rfl (inb_in h_8) dX2_put_113 (fun H locs hP hD hS => ?_)
  replace hP : va_P D vwCl (MW cI ma (u.1, u.2.1, u.2.2.1, u.2.2.2.1, u.2.2.2.2.1, u.2.2.2.2.2.1, u.2.2.2.2.2.2.1, u.2.2.2.2.2.2.2.1, u.2.2.2.2.2.2.2.2.1, u.2.2.2.2.2.2.2.2.2.1, u.2.2.2.2.2.2.2.2.2.2.1, u.2.2.2.2.2.2.2.2.2.2.2.1, u.2.2.2.2.2.2.2.2.2.2.2.2.1, u.2.2.2.2.2.2.2.2.2.2.2.2.2.1, (upd u.2.2.2.2.2.2.2.2.2.2.2.2.2.2.1 s1.toNatClampNeg s0), u.2.2.2.2.2.2.2.2.2.2.2.2.2.2.2.1, u.2.2.2.2.2.2.2.2.2.2.2.2.2.2.2.2.1, u.2.2.2.2.2.2.2.2.2.2.2.2.2.2.2.2.2)) H := hP
  replace hD : va_D A (MW cI ma (u.1, u.2.1, u.2.2.1, u.2.2.2.1, u.2.2.2.2.1, u.2.2.2.2.2.1, u.2.2.2.2.2.2.1, u.2.2.2.2.2.2.2.1, u.2.2.2.2.2.2.2.2.1, u.2.2.2.2.2.2.2.2.2.1, u.2.2.2.2.2.2.2.2.2.2.1, u.2.2.2.2.2.2.2.2.2.2.2.1, u.2.2.2.2.2.2.2.2.2.2.2.2.1, u.2.2.2.2.2.2.2.2.2.2.2.2.2.1, (upd u.2.2.2.2.2.2.2.2.2.2.2.2.2.2.1 s1.toNatClampNeg s0), u.2.2.2.2.2.2.2.2.2.2.2.2.2.2.2.1, u.2.2.2.2.2.2.2.2.2.2.2.2.2.2.2.2.1, u.2.2.2.2.2.2.2.2.2.2.2.2.2.2.2.2.2)) := hD
  refine lv_aload_n hx hb dX2_put_114 rfl (lv_at hl 0 rfl) ?_
  refine va_get (D := D) (ci := 2) (v := .ref (ma 8)) (C := RX2) (T := TX2) (N := 18) hx hb hts (fun w h => cwc w (in_X2 w h)) hown hK hP 0 rfl rfl 12 (by decide) hk_35 (fun _ h9 => h9) rfl dX2_put_115 ?_
  refine lv_iload_n hx hb dX2_put_118 rfl (lv_at hl 1 rfl) ?_
  refine lv_dup2_11 hx hb dX2_put_119 rfl rfl ?_
  obtain ⟨h_9, hF⟩ := gd_some hF
  refine va_iald (f := u.2.2.2.2.2.2.2.2.2.2.2.2.1) hx hb hK hP 8 0 rfl rfl (inb_in h_9) dX2_put_120 ?_
  refine lv_iconst (v := (1 : Int32)) hx hb dX2_put_121 (by decide +kernel) ?_
  refine lv_iadd hx hb dX2_put_122 ?_
  obtain ⟨h_10, hF⟩ := gd_some hF
  refine va_iast (f := u.2.2.2.2.2.2.2.2.2.2.2.2.1) hx hb hK hP hD hS 8 0 rfl rfl (inb_in h_10) dX2_put_123 (fun H locs hP hD hS => ?_)
  replace hP : va_P D vwCl (MW cI ma (u.1, u.2.1, u.2.2.1, u.2.2.2.1, u.2.2.2.2.1, u.2.2.2.2.2.1, u.2.2.2.2.2.2.1, u.2.2.2.2.2.2.2.1, u.2.2.2.2.2.2.2.2.1, u.2.2.2.2.2.2.2.2.2.1, u.2.2.2.2.2.2.2.2.2.2.1, u.2.2.2.2.2.2.2.2.2.2.2.1, (upd u.2.2.2.2.2.2.2.2.2.2.2.2.1 x1.toNatClampNeg ((u.2.2.2.2.2.2.2.2.2.2.2.2.1 x1.toNatClampNeg) + (1 : Int32))), u.2.2.2.2.2.2.2.2.2.2.2.2.2.1, (upd u.2.2.2.2.2.2.2.2.2.2.2.2.2.2.1 s1.toNatClampNeg s0), u.2.2.2.2.2.2.2.2.2.2.2.2.2.2.2.1, u.2.2.2.2.2.2.2.2.2.2.2.2.2.2.2.2.1, u.2.2.2.2.2.2.2.2.2.2.2.2.2.2.2.2.2)) H := hP
  replace hD : va_D A (MW cI ma (u.1, u.2.1, u.2.2.1, u.2.2.2.1, u.2.2.2.2.1, u.2.2.2.2.2.1, u.2.2.2.2.2.2.1, u.2.2.2.2.2.2.2.1, u.2.2.2.2.2.2.2.2.1, u.2.2.2.2.2.2.2.2.2.1, u.2.2.2.2.2.2.2.2.2.2.1, u.2.2.2.2.2.2.2.2.2.2.2.1, (upd u.2.2.2.2.2.2.2.2.2.2.2.2.1 x1.toNatClampNeg ((u.2.2.2.2.2.2.2.2.2.2.2.2.1 x1.toNatClampNeg) + (1 : Int32))), u.2.2.2.2.2.2.2.2.2.2.2.2.2.1, (upd u.2.2.2.2.2.2.2.2.2.2.2.2.2.2.1 s1.toNatClampNeg s0), u.2.2.2.2.2.2.2.2.2.2.2.2.2.2.2.1, u.2.2.2.2.2.2.2.2.2.2.2.2.2.2.2.2.1, u.2.2.2.2.2.2.2.2.2.2.2.2.2.2.2.2.2)) := hD
  cases hF
  refine W.widen (k := 0) (n := 0) (Nat.le_of_ble_eq_true rfl) (Nat.le_of_ble_eq_true rfl) ?_
  exact W.vret hx hb hr (fun t ht hW => ⟨⟨_, rfl, rfl, by rw [ht]; exact hP, va_K.moved hW.alike hK, hD⟩, hS.F ht⟩) hS.2.2 dX2_put_124
set_option maxHeartbeats 4000000 in
set_option maxRecDepth 100000 in
theorem w_M_put_J88 {p : Program} {l : Launch} {e : Env} {s : State} {m : MethodId} {args : Array Value} {below : List Frame} {meth : Method} {c : Code} {A : Nat → Prop} {D : va_G} {cI cR : ClassId} {ma : Nat → Nat} (hx : p.tables.exec = Jvm.exec) (hb : c.code = cX2_put) (hr : meth.sig.returnType = none) (hml : c.maxLocals = 6) (hown : s.vm.findClass RX2 = some m.cls) (hts : ∀ w ∈ wsX2_put, w.before args s = true) (hlocks : meth.locks = false) (hA : ∀ q : Nat, s.heap.size ≤ q → A q) (hK : va_K D vwCl (TY cI cR) s) : ∀ (x1 x3 x4 x5 s0 s1 : Int32) (u : MSt) (r : Unit) (u' : MSt), F_M_put_J88 x1 x3 x4 x5 s0 s1 u = some (r, u') → ∀ (H : Heap) (locs : List Loc) (ls : Array Slot), va_P D vwCl (MW cI ma u) H → va_D A (MW cI ma u) → va_S A s.heap H locs → lv_has ls 6 [(0, .ref (ma 0)), (1, .int x1), (3, .int x3), (4, .int x4), (5, .int x5)] → W p l e (headSpec wsX2_put ({ frames := 2, cells := 0, slots := 0, locals := 45 })).room s m args below meth c H locs 0 0 (MQ below (QV D (TY cI cR) A (fun v => MW cI ma v) u') args s 0 0 A) (F0 m 88 ls [.int s0, .int s1, .ref (ma 9)]) := by
  have hk_35 := (hts _ (cwc _ mw_347))
  have hk_39 := (hts _ (cwc _ mw_348))
  have hk_42 := (hts _ (cwc _ mw_349))
  intro x1 x3 x4 x5 s0 s1 u r u' hF H locs ls hP hD hS hl
  unfold F_M_put_J88 at hF
  obtain ⟨h_6, hF⟩ := gd_some hF
  refine va_iast (f := u.2.2.2.2.2.2.2.2.2.2.2.2.2.1) hx hb hK hP hD hS 9 0 rfl rfl (inb_in h_6) dX2_put_88 (fun H locs hP hD hS => ?_)
  replace hP : va_P D vwCl (MW cI ma (u.1, u.2.1, u.2.2.1, u.2.2.2.1, u.2.2.2.2.1, u.2.2.2.2.2.1, u.2.2.2.2.2.2.1, u.2.2.2.2.2.2.2.1, u.2.2.2.2.2.2.2.2.1, u.2.2.2.2.2.2.2.2.2.1, u.2.2.2.2.2.2.2.2.2.2.1, u.2.2.2.2.2.2.2.2.2.2.2.1, u.2.2.2.2.2.2.2.2.2.2.2.2.1, (upd u.2.2.2.2.2.2.2.2.2.2.2.2.2.1 s1.toNatClampNeg s0), u.2.2.2.2.2.2.2.2.2.2.2.2.2.2.1, u.2.2.2.2.2.2.2.2.2.2.2.2.2.2.2.1, u.2.2.2.2.2.2.2.2.2.2.2.2.2.2.2.2.1, u.2.2.2.2.2.2.2.2.2.2.2.2.2.2.2.2.2)) H := hP
  replace hD : va_D A (MW cI ma (u.1, u.2.1, u.2.2.1, u.2.2.2.1, u.2.2.2.2.1, u.2.2.2.2.2.1, u.2.2.2.2.2.2.1, u.2.2.2.2.2.2.2.1, u.2.2.2.2.2.2.2.2.1, u.2.2.2.2.2.2.2.2.2.1, u.2.2.2.2.2.2.2.2.2.2.1, u.2.2.2.2.2.2.2.2.2.2.2.1, u.2.2.2.2.2.2.2.2.2.2.2.2.1, (upd u.2.2.2.2.2.2.2.2.2.2.2.2.2.1 s1.toNatClampNeg s0), u.2.2.2.2.2.2.2.2.2.2.2.2.2.2.1, u.2.2.2.2.2.2.2.2.2.2.2.2.2.2.2.1, u.2.2.2.2.2.2.2.2.2.2.2.2.2.2.2.2.1, u.2.2.2.2.2.2.2.2.2.2.2.2.2.2.2.2.2)) := hD
  refine lv_aload_n hx hb dX2_put_89 rfl (lv_at hl 0 rfl) ?_
  refine va_get (D := D) (ci := 2) (v := .ref (ma 10)) (C := RX2) (T := TX2) (N := 18) hx hb hts (fun w h => cwc w (in_X2 w h)) hown hK hP 0 rfl rfl 14 (by decide) hk_42 (fun _ h9 => h9) rfl dX2_put_90 ?_
  refine lv_iload hx hb dX2_put_93 (lv_at hl 3 rfl) ?_
  refine lv_iconst (v := (1 : Int32)) hx hb dX2_put_95 (by decide +kernel) ?_
  refine lv_iadd hx hb dX2_put_96 ?_
  refine lv_iload hx hb dX2_put_97 (lv_at hl 4 rfl) ?_
  refine lv_if_eq (tgt := 112) hx hb dX2_put_99 (by decide) (fun c_7 => ?_) (fun c_7 => ?_)
  · replace hF := (if_pos c_7).symm.trans hF
    refine lv_iload_n hx hb dX2_put_112 rfl (lv_at hl 2 rfl) ?_
    exact w_M_put_J113 hx hb hr hml hown hts hlocks hA hK x1 x3 (x4 + (1 : Int32)) (u.1, u.2.1, u.2.2.1, u.2.2.2.1, u.2.2.2.2.1, u.2.2.2.2.2.1, u.2.2.2.2.2.2.1, u.2.2.2.2.2.2.2.1, u.2.2.2.2.2.2.2.2.1, u.2.2.2.2.2.2.2.2.2.1, u.2.2.2.2.2.2.2.2.2.2.1, u.2.2.2.2.2.2.2.2.2.2.2.1, u.2.2.2.2.2.2.2.2.2.2.2.2.1, (upd u.2.2.2.2.2.2.2.2.2.2.2.2.2.1 s1.toNatClampNeg s0), u.2.2.2.2.2.2.2.2.2.2.2.2.2.2.1, u.2.2.2.2.2.2.2.2.2.2.2.2.2.2.2.1, u.2.2.2.2.2.2.2.2.2.2.2.2.2.2.2.2.1, u.2.2.2.2.2.2.2.2.2.2.2.2.2.2.2.2.2) _ _ hF H locs ls hP hD hS (lv_sub hl [0, 1] rfl)
  · replace hF := (if_neg c_7).symm.trans hF
    refine lv_aload_n hx hb dX2_put_102 rfl (lv_at hl 0 rfl) ?_
    refine va_get (D := D) (ci := 2) (v := .ref (ma 10)) (C := RX2) (T := TX2) (N := 18) hx hb hts (fun w h => cwc w (in_X2 w h)) hown hK hP 0 rfl rfl 14 (by decide) hk_42 (fun _ h9 => h9) rfl dX2_put_103 ?_
    refine lv_iload hx hb dX2_put_106 (lv_at hl 3 rfl) ?_
    obtain ⟨h_11, hF⟩ := gd_some hF
    refine va_iald (f := u.2.2.2.2.2.2.2.2.2.2.2.2.2.2.1) hx hb hK hP 10 0 rfl rfl (inb_in h_11) dX2_put_108 ?_
    refine lv_goto (tgt := 113) hx hb dX2_put_109 (by decide) ?_
    exact w_M_put_J113 hx hb hr hml hown hts hlocks hA hK x1 (u.2.2.2.2.2.2.2.2.2.2.2.2.2.2.1 x4.toNatClampNeg) (x4 + (1 : Int32)) (u.1, u.2.1, u.2.2.1, u.2.2.2.1, u.2.2.2.2.1, u.2.2.2.2.2.1, u.2.2.2.2.2.2.1, u.2.2.2.2.2.2.2.1, u.2.2.2.2.2.2.2.2.1, u.2.2.2.2.2.2.2.2.2.1, u.2.2.2.2.2.2.2.2.2.2.1, u.2.2.2.2.2.2.2.2.2.2.2.1, u.2.2.2.2.2.2.2.2.2.2.2.2.1, (upd u.2.2.2.2.2.2.2.2.2.2.2.2.2.1 s1.toNatClampNeg s0), u.2.2.2.2.2.2.2.2.2.2.2.2.2.2.1, u.2.2.2.2.2.2.2.2.2.2.2.2.2.2.2.1, u.2.2.2.2.2.2.2.2.2.2.2.2.2.2.2.2.1, u.2.2.2.2.2.2.2.2.2.2.2.2.2.2.2.2.2) _ _ hF H locs ls hP hD hS (lv_sub hl [0, 1] rfl)
set_option maxHeartbeats 4000000 in
set_option maxRecDepth 100000 in
theorem w_M_put_J62 {p : Program} {l : Launch} {e : Env} {s : State} {m : MethodId} {args : Array Value} {below : List Frame} {meth : Method} {c : Code} {A : Nat → Prop} {D : va_G} {cI cR : ClassId} {ma : Nat → Nat} (hx : p.tables.exec = Jvm.exec) (hb : c.code = cX2_put) (hr : meth.sig.returnType = none) (hml : c.maxLocals = 6) (hown : s.vm.findClass RX2 = some m.cls) (hts : ∀ w ∈ wsX2_put, w.before args s = true) (hlocks : meth.locks = false) (hA : ∀ q : Nat, s.heap.size ≤ q → A q) (hK : va_K D vwCl (TY cI cR) s) : ∀ (x1 x2 x3 x4 s0 : Int32) (u : MSt) (r : Unit) (u' : MSt), F_M_put_J62 x1 x2 x3 x4 s0 u = some (r, u') → ∀ (H : Heap) (locs : List Loc) (ls : Array Slot), va_P D vwCl (MW cI ma u) H → va_D A (MW cI ma u) → va_S A s.heap H locs → lv_has ls 6 [(0, .ref (ma 0)), (1, .int x1), (2, .int x2), (3, .int x3), (4, .int x4)] → W p l e (headSpec wsX2_put ({ frames := 2, cells := 0, slots := 0, locals := 45 })).room s m args below meth c H locs 0 0 (MQ below (QV D (TY cI cR) A (fun v => MW cI ma v) u') args s 0 0 A) (F0 m 62 ls [.int s0]) := by
  have hk_35 := (hts _ (cwc _ mw_347))
  have hk_39 := (hts _ (cwc _ mw_348))
  have hk_42 := (hts _ (cwc _ mw_349))
  intro x1 x2 x3 x4 s0 u r u' hF H locs ls hP hD hS hl
  unfold F_M_put_J62 at hF
  refine lv_istore (lv' := [(5, .int s0), (0, .ref (ma 0)), (1, .int x1), (2, .int x2), (3, .int x3), (4, .int x4)]) hx hb dX2_put_62 hl (by decide) rfl (fun ls hl => ?_)
  refine lv_aload_n hx hb dX2_put_64 rfl (lv_at hl 1 rfl) ?_
  refine va_get (D := D) (ci := 2) (v := .ref (ma 9)) (C := RX2) (T := TX2) (N := 18) hx hb hts (fun w h => cwc w (in_X2 w h)) hown hK hP 0 rfl rfl 13 (by decide) hk_39 (fun _ h9 => h9) rfl dX2_put_65 ?_
  refine lv_iload hx hb dX2_put_68 (lv_at hl 5 rfl) ?_
  refine lv_iconst (v := (1 : Int32)) hx hb dX2_put_70 (by decide +kernel) ?_
  refine lv_iadd hx hb dX2_put_71 ?_
  refine lv_iload hx hb dX2_put_72 (lv_at hl 0 rfl) ?_
  refine lv_if_eq (tgt := 87) hx hb dX2_put_74 (by decide) (fun c_5 => ?_) (fun c_5 => ?_)
  · replace hF := (if_pos c_5).symm.trans hF
    refine lv_iload_n hx hb dX2_put_87 rfl (lv_at hl 3 rfl) ?_
    exact w_M_put_J88 hx hb hr hml hown hts hlocks hA hK x1 x3 x4 s0 x2 (x4 + (1 : Int32)) u _ _ hF H locs ls hP hD hS (lv_sub hl [1, 2, 4, 5, 0] rfl)
  · replace hF := (if_neg c_5).symm.trans hF
    refine lv_aload_n hx hb dX2_put_77 rfl (lv_at hl 1 rfl) ?_
    refine va_get (D := D) (ci := 2) (v := .ref (ma 9)) (C := RX2) (T := TX2) (N := 18) hx hb hts (fun w h => cwc w (in_X2 w h)) hown hK hP 0 rfl rfl 13 (by decide) hk_39 (fun _ h9 => h9) rfl dX2_put_78 ?_
    refine lv_iload hx hb dX2_put_81 (lv_at hl 5 rfl) ?_
    obtain ⟨h_12, hF⟩ := gd_some hF
    refine va_iald (f := u.2.2.2.2.2.2.2.2.2.2.2.2.2.1) hx hb hK hP 9 0 rfl rfl (inb_in h_12) dX2_put_83 ?_
    refine lv_goto (tgt := 88) hx hb dX2_put_84 (by decide) ?_
    exact w_M_put_J88 hx hb hr hml hown hts hlocks hA hK x1 x3 x4 s0 (u.2.2.2.2.2.2.2.2.2.2.2.2.2.1 x4.toNatClampNeg) (x4 + (1 : Int32)) u _ _ hF H locs ls hP hD hS (lv_sub hl [1, 2, 4, 5, 0] rfl)
set_option maxHeartbeats 4000000 in
set_option maxRecDepth 100000 in
theorem w_M_put_J61 {p : Program} {l : Launch} {e : Env} {s : State} {m : MethodId} {args : Array Value} {below : List Frame} {meth : Method} {c : Code} {A : Nat → Prop} {D : va_G} {cI cR : ClassId} {ma : Nat → Nat} (hx : p.tables.exec = Jvm.exec) (hb : c.code = cX2_put) (hr : meth.sig.returnType = none) (hml : c.maxLocals = 6) (hown : s.vm.findClass RX2 = some m.cls) (hts : ∀ w ∈ wsX2_put, w.before args s = true) (hlocks : meth.locks = false) (hA : ∀ q : Nat, s.heap.size ≤ q → A q) (hK : va_K D vwCl (TY cI cR) s) : ∀ (x1 x2 x3 x4 : Int32) (u : MSt) (r : Unit) (u' : MSt), F_M_put_J61 x1 x2 x3 x4 u = some (r, u') → ∀ (H : Heap) (locs : List Loc) (ls : Array Slot), va_P D vwCl (MW cI ma u) H → va_D A (MW cI ma u) → va_S A s.heap H locs → lv_has ls 6 [(0, .ref (ma 0)), (1, .int x1), (2, .int x2), (3, .int x3), (4, .int x4)] → W p l e (headSpec wsX2_put ({ frames := 2, cells := 0, slots := 0, locals := 45 })).room s m args below meth c H locs 0 0 (MQ below (QV D (TY cI cR) A (fun v => MW cI ma v) u') args s 0 0 A) (F0 m 61 ls []) := by
  have hk_35 := (hts _ (cwc _ mw_347))
  have hk_39 := (hts _ (cwc _ mw_348))
  have hk_42 := (hts _ (cwc _ mw_349))
  intro x1 x2 x3 x4 u r u' hF H locs ls hP hD hS hl
  unfold F_M_put_J61 at hF
  refine lv_iconst (v := (0 : Int32)) hx hb dX2_put_61 (by decide +kernel) ?_
  exact w_M_put_J62 hx hb hr hml hown hts hlocks hA hK x1 x2 x3 x4 (0 : Int32) u _ _ hF H locs ls hP hD hS (lv_sub hl [0, 1, 2, 3, 4] rfl)
set_option maxHeartbeats 4000000 in
set_option maxRecDepth 100000 in
theorem w_M_put_J47 {p : Program} {l : Launch} {e : Env} {s : State} {m : MethodId} {args : Array Value} {below : List Frame} {meth : Method} {c : Code} {A : Nat → Prop} {D : va_G} {cI cR : ClassId} {ma : Nat → Nat} (hx : p.tables.exec = Jvm.exec) (hb : c.code = cX2_put) (hr : meth.sig.returnType = none) (hml : c.maxLocals = 6) (hown : s.vm.findClass RX2 = some m.cls) (hts : ∀ w ∈ wsX2_put, w.before args s = true) (hlocks : meth.locks = false) (hA : ∀ q : Nat, s.heap.size ≤ q → A q) (hK : va_K D vwCl (TY cI cR) s) : ∀ (x1 x2 x3 x4 : Int32) (u : MSt) (r : Unit) (u' : MSt), F_M_put_J47 x1 x2 x3 x4 u = some (r, u') → ∀ (H : Heap) (locs : List Loc) (ls : Array Slot), va_P D vwCl (MW cI ma u) H → va_D A (MW cI ma u) → va_S A s.heap H locs → lv_has ls 6 [(0, .ref (ma 0)), (1, .int x1), (2, .int x2), (3, .int x3), (4, .int x4)] → W p l e (headSpec wsX2_put ({ frames := 2, cells := 0, slots := 0, locals := 45 })).room s m args below meth c H locs 0 0 (MQ below (QV D (TY cI cR) A (fun v => MW cI ma v) u') args s 0 0 A) (F0 m 47 ls []) := by
  have hk_35 := (hts _ (cwc _ mw_347))
  have hk_39 := (hts _ (cwc _ mw_348))
  have hk_42 := (hts _ (cwc _ mw_349))
  intro x1 x2 x3 x4 u r u' hF H locs ls hP hD hS hl
  unfold F_M_put_J47 at hF
  refine lv_aload_n hx hb dX2_put_47 rfl (lv_at hl 0 rfl) ?_
  refine lv_iload_n hx hb dX2_put_48 rfl (lv_at hl 1 rfl) ?_
  obtain ⟨r16, u15, hc_17, hF⟩ := bi_some hF
  refine kc_i (W1 := MW cI ma u) (va_runV (As := [.int x1]) (rest := []) ⟨hx, hb, hml, hown, hts⟩ (c_M_packets l D cI cR ma H.size x1 u r16 u15 hc_17) (cwV 1 hts (gV cwc mw_410 mw_411 mw_487 mw_3 mw_412) rfl rfl rfl (by decide +kernel) ⟨(Nat.le_of_ble_eq_true rfl), (Nat.le_of_ble_eq_true rfl)⟩) (kp_V (ci := 2) (q := (RX2, TX2, 18)) hK hP hD (sb_id _) rfl rfl) rfl rfl hl.1 rfl (lv_room (Nat.le_of_ble_eq_true rfl)) dX2_put_49 ⟨(Nat.le_of_ble_eq_true rfl), (Nat.le_of_ble_eq_true rfl)⟩) hP hD hS hA (sb_id _) (jn_same (sb_id _)) (fun H locs hP hD hS => ?_)
  refine lv_bipush (v := (8 : Int32)) hx hb dX2_put_52 (by decide +kernel) ?_
  refine lv_icmp_ne (tgt := 61) hx hb dX2_put_54 (by decide) (fun c_18 => ?_) (fun c_18 => ?_)
  · replace hF := (if_neg c_18).symm.trans hF
    exact w_M_put_J61 hx hb hr hml hown hts hlocks hA hK x1 x2 x3 x4 u _ _ hF H locs ls hP hD hS (lv_sub hl [0, 1, 2, 3, 4] rfl)
  · replace hF := (if_pos c_18).symm.trans hF
    refine lv_iconst (v := (1 : Int32)) hx hb dX2_put_57 (by decide +kernel) ?_
    refine lv_goto (tgt := 62) hx hb dX2_put_58 (by decide) ?_
    exact w_M_put_J62 hx hb hr hml hown hts hlocks hA hK x1 x2 x3 x4 (1 : Int32) u _ _ hF H locs ls hP hD hS (lv_sub hl [0, 1, 2, 3, 4] rfl)
set_option maxHeartbeats 4000000 in
set_option maxRecDepth 100000 in
theorem c_M_put (l : Launch) (D : va_G) (cI cR : ClassId) (ma : Nat → Nat) (sz : Nat) (p1 : Int32) (p2 : Int32) (p3 : Int32) (u : MSt) (r : Unit) (u' : MSt) (hF : F_M_put p1 p2 p3 u = some (r, u')) : Met l yX2_put wsX2_put ({ frames := 2, cells := 0, slots := 0, locals := 45 }) (va_Pc [.ref (ma 0), .int p1, .int p2, .int p3] (PRE D (TY cI cR) (MW cI ma u) sz)) (QV D (TY cI cR) (va_A (MW cI ma u) sz) (fun v => MW cI ma v) u') 0 0 (va_A (MW cI ma u) sz) := by
  refine Met.ofW (cc := cX2_put) (maxL := 6) (ret := none) (by decide) rfl ?_
  intro p e s m args below meth c s₁ B hml hv
  obtain ⟨rfl, hsz, hP, hK, hD0⟩ := hv
  have hx := B.exec
  have hb := B.bytes
  have hr := B.returns
  have hts := atoms_spec (ws := wsX2_put) B.pre
  have hown : s.vm.findClass RX2 = some m.cls := findClass_of_methodNamed B.named
  have hlocks := B.notSynchronized
  subst hsz
  have hD := hD0.self (sz := s.heap.size)
  generalize hAe : va_A (MW cI ma u) s.heap.size = A at hD ⊢
  have hA : ∀ q : Nat, s.heap.size ≤ q → A q := fun q h => by rw [← hAe]; exact Or.inr h
  have hS : va_S A s.heap s.heap [] := va_S.rf
  replace hP : va_P D vwCl (MW cI ma u) s.heap := hP
  have hl := lv_entry ([.ref (ma 0), .int p1, .int p2, .int p3]) (n := 6) (Nat.le_of_ble_eq_true rfl)
  rw [lg_entry_eq]
  generalize (lg_sl ([.ref (ma 0), .int p1, .int p2, .int p3]) ++ List.replicate (6 - (lg_sl ([.ref (ma 0), .int p1, .int p2, .int p3])).length) Slot.unset).toArray = ls at hl ⊢
  replace hl : lv_has ls 6 [(0, .ref (ma 0)), (1, .int p1), (2, .int p2), (3, .int p3)] := hl
  have hk_35 := (hts _ (cwc _ mw_347))
  have hk_39 := (hts _ (cwc _ mw_348))
  have hk_42 := (hts _ (cwc _ mw_349))
  unfold F_M_put at hF
  refine (?_ : ∀ (H : Heap) (locs : List Loc), va_P D vwCl (MW cI ma u) H → va_S A s.heap H locs → W p l e _ s m _ below meth c H locs 0 0 _ (F0 m 0 ls [])) s.heap [] hP hS
  intro H locs hP hS
  refine lv_sipush (v := (1000 : Int32)) hx hb dX2_put_0 (by decide +kernel) ?_
  refine lv_iload_n hx hb dX2_put_3 rfl (lv_at hl 1 rfl) ?_
  refine lv_imul hx hb dX2_put_4 ?_
  refine lv_aload_n hx hb dX2_put_5 rfl (lv_at hl 0 rfl) ?_
  refine va_get (D := D) (ci := 2) (v := .ref (ma 8)) (C := RX2) (T := TX2) (N := 18) hx hb hts (fun w h => cwc w (in_X2 w h)) hown hK hP 0 rfl rfl 12 (by decide) hk_35 (fun _ h9 => h9) rfl dX2_put_6 ?_
  refine lv_iload_n hx hb dX2_put_9 rfl (lv_at hl 1 rfl) ?_
  obtain ⟨h_1, hF⟩ := gd_some hF
  refine va_iald (f := u.2.2.2.2.2.2.2.2.2.2.2.2.1) hx hb hK hP 8 0 rfl rfl (inb_in h_1) dX2_put_10 ?_
  refine lv_iadd hx hb dX2_put_11 ?_
  refine lv_iconst (v := (1 : Int32)) hx hb dX2_put_12 (by decide +kernel) ?_
  refine lv_isub hx hb dX2_put_13 ?_
  obtain ⟨v2, ev2, hF⟩ := nm_some hF
  refine W.eq (g2 := F0 m 14 ls (.int v2 :: [])) (congrArg (fun z => F0 m 14 ls (.int z :: [])) ev2.symm) ?_
  refine lv_istore (lv' := [(4, .int v2), (0, .ref (ma 0)), (1, .int p1), (2, .int p2), (3, .int p3)]) hx hb dX2_put_14 hl (by decide) rfl (fun ls hl => ?_)
  refine lv_aload_n hx hb dX2_put_16 rfl (lv_at hl 1 rfl) ?_
  refine va_get (D := D) (ci := 2) (v := .ref (ma 8)) (C := RX2) (T := TX2) (N := 18) hx hb hts (fun w h => cwc w (in_X2 w h)) hown hK hP 0 rfl rfl 12 (by decide) hk_35 (fun _ h9 => h9) rfl dX2_put_17 ?_
  refine lv_iload_n hx hb dX2_put_20 rfl (lv_at hl 2 rfl) ?_
  obtain ⟨h_3, hF⟩ := gd_some hF
  refine va_iald (f := u.2.2.2.2.2.2.2.2.2.2.2.2.1) hx hb hK hP 8 0 rfl rfl (inb_in h_3) dX2_put_21 ?_
  refine lv_if_le (tgt := 61) hx hb dX2_put_22 (by decide) (fun c_4 => ?_) (fun c_4 => ?_)
  · replace hF := (if_pos c_4).symm.trans hF
    exact w_M_put_J61 hx hb hr hml hown hts hlocks hA hK p1 p2 p3 v2 u _ _ hF H locs ls hP hD hS (lv_sub hl [1, 2, 3, 4, 0] rfl)
  · replace hF := (if_neg c_4).symm.trans hF
    refine lv_aload_n hx hb dX2_put_25 rfl (lv_at hl 1 rfl) ?_
    refine va_get (D := D) (ci := 2) (v := .ref (ma 9)) (C := RX2) (T := TX2) (N := 18) hx hb hts (fun w h => cwc w (in_X2 w h)) hown hK hP 0 rfl rfl 13 (by decide) hk_39 (fun _ h9 => h9) rfl dX2_put_26 ?_
    refine lv_iload hx hb dX2_put_29 (lv_at hl 0 rfl) ?_
    obtain ⟨h_13, hF⟩ := gd_some hF
    refine va_iald (f := u.2.2.2.2.2.2.2.2.2.2.2.2.2.1) hx hb hK hP 9 0 rfl rfl (inb_in h_13) dX2_put_31 ?_
    refine lv_iload_n hx hb dX2_put_32 rfl (lv_at hl 3 rfl) ?_
    refine lv_icmp_ne (tgt := 47) hx hb dX2_put_33 (by decide) (fun c_14 => ?_) (fun c_14 => ?_)
    · replace hF := (if_neg c_14).symm.trans hF
      exact w_M_put_J47 hx hb hr hml hown hts hlocks hA hK p1 p2 p3 v2 u _ _ hF H locs ls hP hD hS (lv_sub hl [1, 2, 3, 4, 0] rfl)
    · replace hF := (if_pos c_14).symm.trans hF
      refine lv_aload_n hx hb dX2_put_36 rfl (lv_at hl 1 rfl) ?_
      refine va_get (D := D) (ci := 2) (v := .ref (ma 10)) (C := RX2) (T := TX2) (N := 18) hx hb hts (fun w h => cwc w (in_X2 w h)) hown hK hP 0 rfl rfl 14 (by decide) hk_42 (fun _ h9 => h9) rfl dX2_put_37 ?_
      refine lv_iload hx hb dX2_put_40 (lv_at hl 0 rfl) ?_
      obtain ⟨h_19, hF⟩ := gd_some hF
      refine va_iald (f := u.2.2.2.2.2.2.2.2.2.2.2.2.2.2.1) hx hb hK hP 10 0 rfl rfl (inb_in h_19) dX2_put_42 ?_
      refine lv_iload_n hx hb dX2_put_43 rfl (lv_at hl 4 rfl) ?_
      refine lv_icmp_eq (tgt := 61) hx hb dX2_put_44 (by decide) (fun c_20 => ?_) (fun c_20 => ?_)
      · replace hF := (if_pos c_20).symm.trans hF
        exact w_M_put_J61 hx hb hr hml hown hts hlocks hA hK p1 p2 p3 v2 u _ _ hF H locs ls hP hD hS (lv_sub hl [1, 2, 3, 4, 0] rfl)
      · replace hF := (if_neg c_20).symm.trans hF
        exact w_M_put_J47 hx hb hr hml hown hts hlocks hA hK p1 p2 p3 v2 u _ _ hF H locs ls hP hD hS (lv_sub hl [1, 2, 3, 4, 0] rfl)
