def F_M_apart (p0 : Int32) (p1 : Int32) (u : Unit) : Option ((Int32) × Unit) := (if p1 ≤ p0 then some ((p0 - p1), ()) else some ((p1 - p0), ()))
set_option maxHeartbeats 4000000 in
set_option maxRecDepth 100000 in
theorem c_M_apart (l : Launch) (D : va_G) (cI cR : ClassId)  (sz : Nat) (p0 : Int32) (p1 : Int32) (u : Unit) (r : Int32) (u' : Unit) (hF : F_M_apart p0 p1 u = some (r, u')) : Met l yX2_apart wsX2_apart ({ frames := 0, cells := 0, slots := 0, locals := 0 }) (va_Pc [.int p0, .int p1] (PRE D (TY cI cR) ([] : va_W) sz)) (QI D (TY cI cR) (va_A ([] : va_W) sz) (fun (_ : Unit) => ([] : va_W)) r u') 0 0 (va_A ([] : va_W) sz) := by
  refine Met.ofW (cc := cX2_apart) (maxL := 2) (ret := (some .int)) (by decide) rfl ?_
  intro p e s m args below meth c s₁ B hml hv
  obtain ⟨rfl, hsz, hP, hK, hD0⟩ := hv
  have hx := B.exec
  have hb := B.bytes
  have hr := B.returns
  have hts := atoms_spec (ws := wsX2_apart) B.pre
  have hown : s.vm.findClass RX2 = some m.cls := findClass_of_methodNamed B.named
  have hlocks := B.notSynchronized
  subst hsz
  have hD := hD0.self (sz := s.heap.size)
  generalize hAe : va_A ([] : va_W) s.heap.size = A at hD ⊢
  have hA : ∀ q : Nat, s.heap.size ≤ q → A q := fun q h => by rw [← hAe]; exact Or.inr h
  have hS : va_S A s.heap s.heap [] := va_S.rf
  replace hP : va_P D vwCl ([] : va_W) s.heap := hP
  have hl := lv_entry ([.int p0, .int p1]) (n := 2) (Nat.le_of_ble_eq_true rfl)
  rw [lg_entry_eq]
  generalize (lg_sl ([.int p0, .int p1]) ++ List.replicate (2 - (lg_sl ([.int p0, .int p1])).length) Slot.unset).toArray = ls at hl ⊢
  replace hl : lv_has ls 2 [(0, .int p0), (1, .int p1)] := hl
  unfold F_M_apart at hF
  refine (?_ : ∀ (H : Heap) (locs : List Loc), va_P D vwCl ([] : va_W) H → va_S A s.heap H locs → W p l e _ s m _ below meth c H locs 0 0 _ (F0 m 0 ls [])) s.heap [] hP hS
  intro H locs hP hS
  refine lv_iload_n hx hb dX2_apart_0 rfl (lv_at hl 0 rfl) ?_
  refine lv_iload_n hx hb dX2_apart_1 rfl (lv_at hl 1 rfl) ?_
  refine lv_icmp_ge (tgt := 11) hx hb dX2_apart_2 (by decide) (fun c_1 => ?_) (fun c_1 => ?_)
  · replace hF := (if_pos c_1).symm.trans hF
    refine lv_iload_n hx hb dX2_apart_11 rfl (lv_at hl 0 rfl) ?_
    refine lv_iload_n hx hb dX2_apart_12 rfl (lv_at hl 1 rfl) ?_
    refine lv_isub hx hb dX2_apart_13 ?_
    cases hF
    refine W.widen (k := 0) (n := 0) (Nat.le_of_ble_eq_true rfl) (Nat.le_of_ble_eq_true rfl) ?_
    exact W.iret hx hb hr (fun t ht hW => ⟨⟨_, _, rfl, ⟨rfl, rfl⟩, by rw [ht]; exact hP, va_K.moved hW.alike hK, hD⟩, hS.F ht⟩) hS.2.2 dX2_apart_14
  · replace hF := (if_neg c_1).symm.trans hF
    refine lv_iload_n hx hb dX2_apart_5 rfl (lv_at hl 1 rfl) ?_
    refine lv_iload_n hx hb dX2_apart_6 rfl (lv_at hl 0 rfl) ?_
    refine lv_isub hx hb dX2_apart_7 ?_
    refine lv_goto (tgt := 14) hx hb dX2_apart_8 (by decide) ?_
    cases hF
    refine W.widen (k := 0) (n := 0) (Nat.le_of_ble_eq_true rfl) (Nat.le_of_ble_eq_true rfl) ?_
    exact W.iret hx hb hr (fun t ht hW => ⟨⟨_, _, rfl, ⟨rfl, rfl⟩, by rw [ht]; exact hP, va_K.moved hW.alike hK, hD⟩, hS.F ht⟩) hS.2.2 dX2_apart_14
def F_M_pay_J114 (s0 : Int32) (u : MSt) : Option ((Unit) × MSt) := some ((), (u.1, u.2.1, (u.2.2.1 + s0), (u.2.2.2.1 + s0), u.2.2.2.2.1, u.2.2.2.2.2.1, u.2.2.2.2.2.2.1, u.2.2.2.2.2.2.2.1, u.2.2.2.2.2.2.2.2.1, u.2.2.2.2.2.2.2.2.2.1, u.2.2.2.2.2.2.2.2.2.2.1, u.2.2.2.2.2.2.2.2.2.2.2.1, u.2.2.2.2.2.2.2.2.2.2.2.2.1, u.2.2.2.2.2.2.2.2.2.2.2.2.2.1, u.2.2.2.2.2.2.2.2.2.2.2.2.2.2.1, u.2.2.2.2.2.2.2.2.2.2.2.2.2.2.2.1, u.2.2.2.2.2.2.2.2.2.2.2.2.2.2.2.2.1, u.2.2.2.2.2.2.2.2.2.2.2.2.2.2.2.2.2))
def F_M_pay_J88 (s0 : Int32) (u : MSt) : Option ((Unit) × MSt) := (if s0 ≤ ((2000000000 : Int32) - u.2.2.2.1) then F_M_pay_J114 s0 u else F_M_pay_J114 ((2000000000 : Int32) - u.2.2.2.1) u)
def F_M_pay_J26 (x1 x3 s0 : Int32) (u : MSt) : Option ((Unit) × MSt) := gd (inb x1 8) (gd (inb x3 8) (bi (F_M_apart (u.2.2.2.2.2.1 x1.toNatClampNeg) (u.2.2.2.2.2.1 x3.toNatClampNeg) ()) (fun r6 u5 => gd (inb x1 8) (gd (inb x3 8) (bi (F_M_apart (u.2.2.2.2.2.2.1 x1.toNatClampNeg) (u.2.2.2.2.2.2.1 x3.toNatClampNeg) ()) (fun r11 u10 => nm (((r6 + r11) * s0)) (fun v13 => (if v13 ≤ ((2000000000 : Int32) - u.2.2.1) then F_M_pay_J88 v13 u else F_M_pay_J88 ((2000000000 : Int32) - u.2.2.1) u))))))))
def F_M_pay (p1 : Int32) (p2 : Int32) (p3 : Int32) (u : MSt) : Option ((Unit) × MSt) := nm (((64 : Int32) - ((u.2.1 - p2) / (64 : Int32)))) (fun v1 => (if (1 : Int32) ≤ v1 then F_M_pay_J26 p1 p3 v1 u else F_M_pay_J26 p1 p3 (1 : Int32) u))
set_option maxHeartbeats 4000000 in
set_option maxRecDepth 100000 in
theorem w_M_pay_J114 {p : Program} {l : Launch} {e : Env} {s : State} {m : MethodId} {args : Array Value} {below : List Frame} {meth : Method} {c : Code} {A : Nat → Prop} {D : va_G} {cI cR : ClassId} {ma : Nat → Nat} (hx : p.tables.exec = Jvm.exec) (hb : c.code = cX2_pay) (hr : meth.sig.returnType = none) (hml : c.maxLocals = 6) (hown : s.vm.findClass RX2 = some m.cls) (hts : ∀ w ∈ wsX2_pay, w.before args s = true) (hlocks : meth.locks = false) (hA : ∀ q : Nat, s.heap.size ≤ q → A q) (hK : va_K D vwCl (TY cI cR) s) : ∀ (s0 : Int32) (u : MSt) (r : Unit) (u' : MSt), F_M_pay_J114 s0 u = some (r, u') → ∀ (H : Heap) (locs : List Loc) (ls : Array Slot), va_P D vwCl (MW cI ma u) H → va_D A (MW cI ma u) → va_S A s.heap H locs → lv_has ls 6 [(0, .ref (ma 0))] → W p l e (headSpec wsX2_pay ({ frames := 1, cells := 0, slots := 0, locals := 21 })).room s m args below meth c H locs 0 0 (MQ below (QV D (TY cI cR) A (fun v => MW cI ma v) u') args s 0 0 A) (F0 m 114 ls [.int s0]) := by
  have hk_74 := (hts _ (cwc _ mw_336))
  have hk_13 := (hts _ (cwc _ mw_340))
  have hk_17 := (hts _ (cwc _ mw_341))
  have hC_73 := (hts _ (cwc _ mw_403))
  have hk_7 := (hts _ (cwc _ mw_337))
  have hk_91 := (hts _ (cwc _ mw_338))
  intro s0 u r u' hF H locs ls hP hD hS hl
  unfold F_M_pay_J114 at hF
  refine lv_istore (lv' := [(5, .int s0), (0, .ref (ma 0))]) hx hb dX2_pay_114 hl (by decide) rfl (fun ls hl => ?_)
  refine lv_aload_n hx hb dX2_pay_116 rfl (lv_at hl 1 rfl) ?_
  refine lv_dup hx hb dX2_pay_117 rfl ?_
  refine va_get (D := D) (ci := 2) (v := .int u.2.2.1) (C := RX2) (T := TX2) (N := 18) hx hb hts (fun w h => cwc w (in_X2 w h)) hown hK hP 0 rfl rfl 2 (by decide) hk_7 (fun _ h9 => h9) rfl dX2_pay_118 ?_
  refine lv_iload hx hb dX2_pay_121 (lv_at hl 0 rfl) ?_
  refine lv_iadd hx hb dX2_pay_123 ?_
  refine va_put (D := D) (ci := 2) (v := .int (u.2.2.1 + s0)) (ty := .int) (C := RX2) (T := TX2) (N := 18) hx hb hts (fun w h => cwc w (in_X2 w h)) tyX2 tyX2_ok nmX2 hown hK hP hD hS 0 rfl rfl 2 (by decide) hk_7 (fun _ h9 => h9) rfl (by decide +kernel) rfl rfl (Nat.le_of_ble_eq_true rfl) dX2_pay_124 (fun H locs hP hD hS => ?_)
  replace hP : va_P D vwCl (MW cI ma (u.1, u.2.1, (u.2.2.1 + s0), u.2.2.2.1, u.2.2.2.2.1, u.2.2.2.2.2.1, u.2.2.2.2.2.2.1, u.2.2.2.2.2.2.2.1, u.2.2.2.2.2.2.2.2.1, u.2.2.2.2.2.2.2.2.2.1, u.2.2.2.2.2.2.2.2.2.2.1, u.2.2.2.2.2.2.2.2.2.2.2.1, u.2.2.2.2.2.2.2.2.2.2.2.2.1, u.2.2.2.2.2.2.2.2.2.2.2.2.2.1, u.2.2.2.2.2.2.2.2.2.2.2.2.2.2.1, u.2.2.2.2.2.2.2.2.2.2.2.2.2.2.2.1, u.2.2.2.2.2.2.2.2.2.2.2.2.2.2.2.2.1, u.2.2.2.2.2.2.2.2.2.2.2.2.2.2.2.2.2)) H := hP
  replace hD : va_D A (MW cI ma (u.1, u.2.1, (u.2.2.1 + s0), u.2.2.2.1, u.2.2.2.2.1, u.2.2.2.2.2.1, u.2.2.2.2.2.2.1, u.2.2.2.2.2.2.2.1, u.2.2.2.2.2.2.2.2.1, u.2.2.2.2.2.2.2.2.2.1, u.2.2.2.2.2.2.2.2.2.2.1, u.2.2.2.2.2.2.2.2.2.2.2.1, u.2.2.2.2.2.2.2.2.2.2.2.2.1, u.2.2.2.2.2.2.2.2.2.2.2.2.2.1, u.2.2.2.2.2.2.2.2.2.2.2.2.2.2.1, u.2.2.2.2.2.2.2.2.2.2.2.2.2.2.2.1, u.2.2.2.2.2.2.2.2.2.2.2.2.2.2.2.2.1, u.2.2.2.2.2.2.2.2.2.2.2.2.2.2.2.2.2)) := hD
  refine lv_aload_n hx hb dX2_pay_127 rfl (lv_at hl 1 rfl) ?_
  refine lv_dup hx hb dX2_pay_128 rfl ?_
  refine va_get (D := D) (ci := 2) (v := .int u.2.2.2.1) (C := RX2) (T := TX2) (N := 18) hx hb hts (fun w h => cwc w (in_X2 w h)) hown hK hP 0 rfl rfl 3 (by decide) hk_91 (fun _ h9 => h9) rfl dX2_pay_129 ?_
  refine lv_iload hx hb dX2_pay_132 (lv_at hl 0 rfl) ?_
  refine lv_iadd hx hb dX2_pay_134 ?_
  refine va_put (D := D) (ci := 2) (v := .int (u.2.2.2.1 + s0)) (ty := .int) (C := RX2) (T := TX2) (N := 18) hx hb hts (fun w h => cwc w (in_X2 w h)) tyX2 tyX2_ok nmX2 hown hK hP hD hS 0 rfl rfl 3 (by decide) hk_91 (fun _ h9 => h9) rfl (by decide +kernel) rfl rfl (Nat.le_of_ble_eq_true rfl) dX2_pay_135 (fun H locs hP hD hS => ?_)
  replace hP : va_P D vwCl (MW cI ma (u.1, u.2.1, (u.2.2.1 + s0), (u.2.2.2.1 + s0), u.2.2.2.2.1, u.2.2.2.2.2.1, u.2.2.2.2.2.2.1, u.2.2.2.2.2.2.2.1, u.2.2.2.2.2.2.2.2.1, u.2.2.2.2.2.2.2.2.2.1, u.2.2.2.2.2.2.2.2.2.2.1, u.2.2.2.2.2.2.2.2.2.2.2.1, u.2.2.2.2.2.2.2.2.2.2.2.2.1, u.2.2.2.2.2.2.2.2.2.2.2.2.2.1, u.2.2.2.2.2.2.2.2.2.2.2.2.2.2.1, u.2.2.2.2.2.2.2.2.2.2.2.2.2.2.2.1, u.2.2.2.2.2.2.2.2.2.2.2.2.2.2.2.2.1, u.2.2.2.2.2.2.2.2.2.2.2.2.2.2.2.2.2)) H := hP
  replace hD : va_D A (MW cI ma (u.1, u.2.1, (u.2.2.1 + s0), (u.2.2.2.1 + s0), u.2.2.2.2.1, u.2.2.2.2.2.1, u.2.2.2.2.2.2.1, u.2.2.2.2.2.2.2.1, u.2.2.2.2.2.2.2.2.1, u.2.2.2.2.2.2.2.2.2.1, u.2.2.2.2.2.2.2.2.2.2.1, u.2.2.2.2.2.2.2.2.2.2.2.1, u.2.2.2.2.2.2.2.2.2.2.2.2.1, u.2.2.2.2.2.2.2.2.2.2.2.2.2.1, u.2.2.2.2.2.2.2.2.2.2.2.2.2.2.1, u.2.2.2.2.2.2.2.2.2.2.2.2.2.2.2.1, u.2.2.2.2.2.2.2.2.2.2.2.2.2.2.2.2.1, u.2.2.2.2.2.2.2.2.2.2.2.2.2.2.2.2.2)) := hD
  cases hF
  refine W.widen (k := 0) (n := 0) (Nat.le_of_ble_eq_true rfl) (Nat.le_of_ble_eq_true rfl) ?_
  exact W.vret hx hb hr (fun t ht hW => ⟨⟨_, rfl, rfl, by rw [ht]; exact hP, va_K.moved hW.alike hK, hD⟩, hS.F ht⟩) hS.2.2 dX2_pay_138
set_option maxHeartbeats 4000000 in
set_option maxRecDepth 100000 in
theorem w_M_pay_J88 {p : Program} {l : Launch} {e : Env} {s : State} {m : MethodId} {args : Array Value} {below : List Frame} {meth : Method} {c : Code} {A : Nat → Prop} {D : va_G} {cI cR : ClassId} {ma : Nat → Nat} (hx : p.tables.exec = Jvm.exec) (hb : c.code = cX2_pay) (hr : meth.sig.returnType = none) (hml : c.maxLocals = 6) (hown : s.vm.findClass RX2 = some m.cls) (hts : ∀ w ∈ wsX2_pay, w.before args s = true) (hlocks : meth.locks = false) (hA : ∀ q : Nat, s.heap.size ≤ q → A q) (hK : va_K D vwCl (TY cI cR) s) : ∀ (s0 : Int32) (u : MSt) (r : Unit) (u' : MSt), F_M_pay_J88 s0 u = some (r, u') → ∀ (H : Heap) (locs : List Loc) (ls : Array Slot), va_P D vwCl (MW cI ma u) H → va_D A (MW cI ma u) → va_S A s.heap H locs → lv_has ls 6 [(0, .ref (ma 0))] → W p l e (headSpec wsX2_pay ({ frames := 1, cells := 0, slots := 0, locals := 21 })).room s m args below meth c H locs 0 0 (MQ below (QV D (TY cI cR) A (fun v => MW cI ma v) u') args s 0 0 A) (F0 m 88 ls [.int s0]) := by
  have hk_74 := (hts _ (cwc _ mw_336))
  have hk_13 := (hts _ (cwc _ mw_340))
  have hk_17 := (hts _ (cwc _ mw_341))
  have hC_73 := (hts _ (cwc _ mw_403))
  have hk_7 := (hts _ (cwc _ mw_337))
  have hk_91 := (hts _ (cwc _ mw_338))
  intro s0 u r u' hF H locs ls hP hD hS hl
  unfold F_M_pay_J88 at hF
  refine lv_istore (lv' := [(5, .int s0), (0, .ref (ma 0))]) hx hb dX2_pay_88 hl (by decide) rfl (fun ls hl => ?_)
  refine lv_iload hx hb dX2_pay_90 (lv_at hl 0 rfl) ?_
  refine lv_ldc (v := (2000000000 : Int32)) hx hb hown hC_73 dX2_pay_92 ?_
  refine lv_aload_n hx hb dX2_pay_94 rfl (lv_at hl 1 rfl) ?_
  refine va_get (D := D) (ci := 2) (v := .int u.2.2.2.1) (C := RX2) (T := TX2) (N := 18) hx hb hts (fun w h => cwc w (in_X2 w h)) hown hK hP 0 rfl rfl 3 (by decide) hk_91 (fun _ h9 => h9) rfl dX2_pay_95 ?_
  refine lv_isub hx hb dX2_pay_98 ?_
  refine lv_icmp_le (tgt := 112) hx hb dX2_pay_99 (by decide) (fun c_15 => ?_) (fun c_15 => ?_)
  · replace hF := (if_pos c_15).symm.trans hF
    refine lv_iload hx hb dX2_pay_112 (lv_at hl 0 rfl) ?_
    exact w_M_pay_J114 hx hb hr hml hown hts hlocks hA hK s0 u _ _ hF H locs ls hP hD hS (lv_sub hl [1] rfl)
  · replace hF := (if_neg c_15).symm.trans hF
    refine lv_ldc (v := (2000000000 : Int32)) hx hb hown hC_73 dX2_pay_102 ?_
    refine lv_aload_n hx hb dX2_pay_104 rfl (lv_at hl 1 rfl) ?_
    refine va_get (D := D) (ci := 2) (v := .int u.2.2.2.1) (C := RX2) (T := TX2) (N := 18) hx hb hts (fun w h => cwc w (in_X2 w h)) hown hK hP 0 rfl rfl 3 (by decide) hk_91 (fun _ h9 => h9) rfl dX2_pay_105 ?_
    refine lv_isub hx hb dX2_pay_108 ?_
    refine lv_goto (tgt := 114) hx hb dX2_pay_109 (by decide) ?_
    exact w_M_pay_J114 hx hb hr hml hown hts hlocks hA hK ((2000000000 : Int32) - u.2.2.2.1) u _ _ hF H locs ls hP hD hS (lv_sub hl [1] rfl)
set_option maxHeartbeats 4000000 in
set_option maxRecDepth 100000 in
theorem w_M_pay_J26 {p : Program} {l : Launch} {e : Env} {s : State} {m : MethodId} {args : Array Value} {below : List Frame} {meth : Method} {c : Code} {A : Nat → Prop} {D : va_G} {cI cR : ClassId} {ma : Nat → Nat} (hx : p.tables.exec = Jvm.exec) (hb : c.code = cX2_pay) (hr : meth.sig.returnType = none) (hml : c.maxLocals = 6) (hown : s.vm.findClass RX2 = some m.cls) (hts : ∀ w ∈ wsX2_pay, w.before args s = true) (hlocks : meth.locks = false) (hA : ∀ q : Nat, s.heap.size ≤ q → A q) (hK : va_K D vwCl (TY cI cR) s) : ∀ (x1 x3 s0 : Int32) (u : MSt) (r : Unit) (u' : MSt), F_M_pay_J26 x1 x3 s0 u = some (r, u') → ∀ (H : Heap) (locs : List Loc) (ls : Array Slot), va_P D vwCl (MW cI ma u) H → va_D A (MW cI ma u) → va_S A s.heap H locs → lv_has ls 6 [(0, .ref (ma 0)), (1, .int x1), (3, .int x3)] → W p l e (headSpec wsX2_pay ({ frames := 1, cells := 0, slots := 0, locals := 21 })).room s m args below meth c H locs 0 0 (MQ below (QV D (TY cI cR) A (fun v => MW cI ma v) u') args s 0 0 A) (F0 m 26 ls [.int s0]) := by
  have hk_74 := (hts _ (cwc _ mw_336))
  have hk_13 := (hts _ (cwc _ mw_340))
  have hk_17 := (hts _ (cwc _ mw_341))
  have hC_73 := (hts _ (cwc _ mw_403))
  have hk_7 := (hts _ (cwc _ mw_337))
  have hk_91 := (hts _ (cwc _ mw_338))
  intro x1 x3 s0 u r u' hF H locs ls hP hD hS hl
  unfold F_M_pay_J26 at hF
  refine lv_istore (lv' := [(4, .int s0), (0, .ref (ma 0)), (1, .int x1), (3, .int x3)]) hx hb dX2_pay_26 hl (by decide) rfl (fun ls hl => ?_)
  refine lv_aload_n hx hb dX2_pay_28 rfl (lv_at hl 1 rfl) ?_
  refine va_get (D := D) (ci := 2) (v := .ref (ma 1)) (C := RX2) (T := TX2) (N := 18) hx hb hts (fun w h => cwc w (in_X2 w h)) hown hK hP 0 rfl rfl 5 (by decide) hk_13 (fun _ h9 => h9) rfl dX2_pay_29 ?_
  refine lv_iload_n hx hb dX2_pay_32 rfl (lv_at hl 2 rfl) ?_
  obtain ⟨h_3, hF⟩ := gd_some hF
  refine va_iald (f := u.2.2.2.2.2.1) hx hb hK hP 1 0 rfl rfl (inb_in h_3) dX2_pay_33 ?_
  refine lv_aload_n hx hb dX2_pay_34 rfl (lv_at hl 1 rfl) ?_
  refine va_get (D := D) (ci := 2) (v := .ref (ma 1)) (C := RX2) (T := TX2) (N := 18) hx hb hts (fun w h => cwc w (in_X2 w h)) hown hK hP 0 rfl rfl 5 (by decide) hk_13 (fun _ h9 => h9) rfl dX2_pay_35 ?_
  refine lv_iload_n hx hb dX2_pay_38 rfl (lv_at hl 3 rfl) ?_
  obtain ⟨h_4, hF⟩ := gd_some hF
  refine va_iald (f := u.2.2.2.2.2.1) hx hb hK hP 1 0 rfl rfl (inb_in h_4) dX2_pay_39 ?_
  obtain ⟨r6, u5, hc_7, hF⟩ := bi_some hF
  refine kc_i (W1 := MW cI ma u) (va_runS (As := [.int (u.2.2.2.2.2.1 x1.toNatClampNeg), .int (u.2.2.2.2.2.1 x3.toNatClampNeg)]) (rest := []) ⟨hx, hb, hml, hown, hts⟩ (c_M_apart l D cI cR  H.size (u.2.2.2.2.2.1 x1.toNatClampNeg) (u.2.2.2.2.2.1 x3.toNatClampNeg) () r6 u5 hc_7) (va_cwS 2 hts (gS cwc mw_433 mw_434 mw_3 mw_435) rfl rfl rfl (by decide +kernel) ⟨(Nat.le_of_ble_eq_true rfl), (Nat.le_of_ble_eq_true rfl)⟩) (kp_S hK hP hD (sb_nil _)) rfl rfl hl.1 rfl (lv_room (Nat.le_of_ble_eq_true rfl)) dX2_pay_40 ⟨(Nat.le_of_ble_eq_true rfl), (Nat.le_of_ble_eq_true rfl)⟩) hP hD hS hA (sb_nil _) (jn_nil _) (fun H locs hP hD hS => ?_)
  refine lv_aload_n hx hb dX2_pay_43 rfl (lv_at hl 1 rfl) ?_
  refine va_get (D := D) (ci := 2) (v := .ref (ma 2)) (C := RX2) (T := TX2) (N := 18) hx hb hts (fun w h => cwc w (in_X2 w h)) hown hK hP 0 rfl rfl 6 (by decide) hk_17 (fun _ h9 => h9) rfl dX2_pay_44 ?_
  refine lv_iload_n hx hb dX2_pay_47 rfl (lv_at hl 2 rfl) ?_
  obtain ⟨h_8, hF⟩ := gd_some hF
  refine va_iald (f := u.2.2.2.2.2.2.1) hx hb hK hP 2 0 rfl rfl (inb_in h_8) dX2_pay_48 ?_
  refine lv_aload_n hx hb dX2_pay_49 rfl (lv_at hl 1 rfl) ?_
  refine va_get (D := D) (ci := 2) (v := .ref (ma 2)) (C := RX2) (T := TX2) (N := 18) hx hb hts (fun w h => cwc w (in_X2 w h)) hown hK hP 0 rfl rfl 6 (by decide) hk_17 (fun _ h9 => h9) rfl dX2_pay_50 ?_
  refine lv_iload_n hx hb dX2_pay_53 rfl (lv_at hl 3 rfl) ?_
  obtain ⟨h_9, hF⟩ := gd_some hF
  refine va_iald (f := u.2.2.2.2.2.2.1) hx hb hK hP 2 0 rfl rfl (inb_in h_9) dX2_pay_54 ?_
  obtain ⟨r11, u10, hc_12, hF⟩ := bi_some hF
  refine kc_i (W1 := MW cI ma u) (va_runS (As := [.int (u.2.2.2.2.2.2.1 x1.toNatClampNeg), .int (u.2.2.2.2.2.2.1 x3.toNatClampNeg)]) (rest := [.int r6]) ⟨hx, hb, hml, hown, hts⟩ (c_M_apart l D cI cR  H.size (u.2.2.2.2.2.2.1 x1.toNatClampNeg) (u.2.2.2.2.2.2.1 x3.toNatClampNeg) () r11 u10 hc_12) (va_cwS 2 hts (gS cwc mw_433 mw_434 mw_3 mw_435) rfl rfl rfl (by decide +kernel) ⟨(Nat.le_of_ble_eq_true rfl), (Nat.le_of_ble_eq_true rfl)⟩) (kp_S hK hP hD (sb_nil _)) rfl rfl hl.1 rfl (lv_room (Nat.le_of_ble_eq_true rfl)) dX2_pay_55 ⟨(Nat.le_of_ble_eq_true rfl), (Nat.le_of_ble_eq_true rfl)⟩) hP hD hS hA (sb_nil _) (jn_nil _) (fun H locs hP hD hS => ?_)
  refine lv_iadd hx hb dX2_pay_58 ?_
  refine lv_iload hx hb dX2_pay_59 (lv_at hl 0 rfl) ?_
  refine lv_imul hx hb dX2_pay_61 ?_
  obtain ⟨v13, ev13, hF⟩ := nm_some hF
  refine W.eq (g2 := F0 m 62 ls (.int v13 :: [])) (congrArg (fun z => F0 m 62 ls (.int z :: [])) ev13.symm) ?_
  refine lv_istore (lv' := [(5, .int v13), (4, .int s0), (0, .ref (ma 0)), (1, .int x1), (3, .int x3)]) hx hb dX2_pay_62 hl (by decide) rfl (fun ls hl => ?_)
  refine lv_iload hx hb dX2_pay_64 (lv_at hl 0 rfl) ?_
  refine lv_ldc (v := (2000000000 : Int32)) hx hb hown hC_73 dX2_pay_66 ?_
  refine lv_aload_n hx hb dX2_pay_68 rfl (lv_at hl 2 rfl) ?_
  refine va_get (D := D) (ci := 2) (v := .int u.2.2.1) (C := RX2) (T := TX2) (N := 18) hx hb hts (fun w h => cwc w (in_X2 w h)) hown hK hP 0 rfl rfl 2 (by decide) hk_7 (fun _ h9 => h9) rfl dX2_pay_69 ?_
  refine lv_isub hx hb dX2_pay_72 ?_
  refine lv_icmp_le (tgt := 86) hx hb dX2_pay_73 (by decide) (fun c_14 => ?_) (fun c_14 => ?_)
  · replace hF := (if_pos c_14).symm.trans hF
    refine lv_iload hx hb dX2_pay_86 (lv_at hl 0 rfl) ?_
    exact w_M_pay_J88 hx hb hr hml hown hts hlocks hA hK v13 u _ _ hF H locs ls hP hD hS (lv_sub hl [2] rfl)
  · replace hF := (if_neg c_14).symm.trans hF
    refine lv_ldc (v := (2000000000 : Int32)) hx hb hown hC_73 dX2_pay_76 ?_
    refine lv_aload_n hx hb dX2_pay_78 rfl (lv_at hl 2 rfl) ?_
    refine va_get (D := D) (ci := 2) (v := .int u.2.2.1) (C := RX2) (T := TX2) (N := 18) hx hb hts (fun w h => cwc w (in_X2 w h)) hown hK hP 0 rfl rfl 2 (by decide) hk_7 (fun _ h9 => h9) rfl dX2_pay_79 ?_
    refine lv_isub hx hb dX2_pay_82 ?_
    refine lv_goto (tgt := 88) hx hb dX2_pay_83 (by decide) ?_
    exact w_M_pay_J88 hx hb hr hml hown hts hlocks hA hK ((2000000000 : Int32) - u.2.2.1) u _ _ hF H locs ls hP hD hS (lv_sub hl [2] rfl)
set_option maxHeartbeats 4000000 in
set_option maxRecDepth 100000 in
theorem c_M_pay (l : Launch) (D : va_G) (cI cR : ClassId) (ma : Nat → Nat) (sz : Nat) (p1 : Int32) (p2 : Int32) (p3 : Int32) (u : MSt) (r : Unit) (u' : MSt) (hF : F_M_pay p1 p2 p3 u = some (r, u')) : Met l yX2_pay wsX2_pay ({ frames := 1, cells := 0, slots := 0, locals := 21 }) (va_Pc [.ref (ma 0), .int p1, .int p2, .int p3] (PRE D (TY cI cR) (MW cI ma u) sz)) (QV D (TY cI cR) (va_A (MW cI ma u) sz) (fun v => MW cI ma v) u') 0 0 (va_A (MW cI ma u) sz) := by
  refine Met.ofW (cc := cX2_pay) (maxL := 6) (ret := none) (by decide) rfl ?_
  intro p e s m args below meth c s₁ B hml hv
  obtain ⟨rfl, hsz, hP, hK, hD0⟩ := hv
  have hx := B.exec
  have hb := B.bytes
  have hr := B.returns
  have hts := atoms_spec (ws := wsX2_pay) B.pre
  have hown : s.vm.findClass RX2 = some m.cls := findClass_of_methodNamed B.named
  have hlocks := B.notSynchronized
  subst hsz
  have hD := hD0.self (sz := s.heap.size)
  generalize hAe : va_A (MW cI ma u) s.heap.size = A at hD ⊢
  have hA : ∀ q : Nat, s.heap.size ≤ q → A q := fun q h => by rw [← hAe]; exact Or.inr h
  have hS : va_S A s.heap s.heap [] := va_S.rf
  replace hP : va_P D vwCl (MW cI ma u) s.heap := hP
  have hl := lv_entry ([.ref (ma 0), .int p1, .int p2, .int p3]) (n := 6) (Nat.le_of_ble_eq_true rfl)
  rw [lg_entry_eq]
  generalize (lg_sl ([.ref (ma 0), .int p1, .int p2, .int p3]) ++ List.replicate (6 - (lg_sl ([.ref (ma 0), .int p1, .int p2, .int p3])).length) Slot.unset).toArray = ls at hl ⊢
  replace hl : lv_has ls 6 [(0, .ref (ma 0)), (1, .int p1), (2, .int p2), (3, .int p3)] := hl
  have hk_74 := (hts _ (cwc _ mw_336))
  have hk_13 := (hts _ (cwc _ mw_340))
  have hk_17 := (hts _ (cwc _ mw_341))
  have hC_73 := (hts _ (cwc _ mw_403))
  have hk_7 := (hts _ (cwc _ mw_337))
  have hk_91 := (hts _ (cwc _ mw_338))
  unfold F_M_pay at hF
  refine (?_ : ∀ (H : Heap) (locs : List Loc), va_P D vwCl (MW cI ma u) H → va_S A s.heap H locs → W p l e _ s m _ below meth c H locs 0 0 _ (F0 m 0 ls [])) s.heap [] hP hS
  intro H locs hP hS
  refine lv_bipush (v := (64 : Int32)) hx hb dX2_pay_0 (by decide +kernel) ?_
  refine lv_aload_n hx hb dX2_pay_2 rfl (lv_at hl 0 rfl) ?_
  refine va_get (D := D) (ci := 2) (v := .int u.2.1) (C := RX2) (T := TX2) (N := 18) hx hb hts (fun w h => cwc w (in_X2 w h)) hown hK hP 0 rfl rfl 1 (by decide) hk_74 (fun _ h9 => h9) rfl dX2_pay_3 ?_
  refine lv_iload_n hx hb dX2_pay_6 rfl (lv_at hl 2 rfl) ?_
  refine lv_isub hx hb dX2_pay_7 ?_
  refine lv_bipush (v := (64 : Int32)) hx hb dX2_pay_8 (by decide +kernel) ?_
  refine lv_idiv hx hb dX2_pay_10 (by decide +kernel) ?_
  refine lv_isub hx hb dX2_pay_11 ?_
  obtain ⟨v1, ev1, hF⟩ := nm_some hF
  refine W.eq (g2 := F0 m 12 ls (.int v1 :: [])) (congrArg (fun z => F0 m 12 ls (.int z :: [])) ev1.symm) ?_
  refine lv_istore (lv' := [(4, .int v1), (0, .ref (ma 0)), (1, .int p1), (2, .int p2), (3, .int p3)]) hx hb dX2_pay_12 hl (by decide) rfl (fun ls hl => ?_)
  refine lv_iload hx hb dX2_pay_14 (lv_at hl 0 rfl) ?_
  refine lv_iconst (v := (1 : Int32)) hx hb dX2_pay_16 (by decide +kernel) ?_
  refine lv_icmp_ge (tgt := 24) hx hb dX2_pay_17 (by decide) (fun c_2 => ?_) (fun c_2 => ?_)
  · replace hF := (if_pos c_2).symm.trans hF
    refine lv_iload hx hb dX2_pay_24 (lv_at hl 0 rfl) ?_
    exact w_M_pay_J26 hx hb hr hml hown hts hlocks hA hK p1 p3 v1 u _ _ hF H locs ls hP hD hS (lv_sub hl [1, 2, 4] rfl)
  · replace hF := (if_neg c_2).symm.trans hF
    refine lv_iconst (v := (1 : Int32)) hx hb dX2_pay_20 (by decide +kernel) ?_
    refine lv_goto (tgt := 26) hx hb dX2_pay_21 (by decide) ?_
    exact w_M_pay_J26 hx hb hr hml hown hts hlocks hA hK p1 p3 (1 : Int32) u _ _ hF H locs ls hP hD hS (lv_sub hl [1, 2, 4] rfl)
def F_M_unload_J121 (K83 : Int32 → Int32 → Int32 → Int32 → Int32 → Int32 → MSt → Option ((Int32) × MSt)) (x2 x3 x4 x5 x6 x7 : Int32) (u : MSt) : Option ((Int32) × MSt) := (if x6 = (0 : Int32) then bi (F_M_move x5 (((4 : Int32) * x2) + x4) u) (fun r17 u16 => K83 x2 x3 x4 x5 x6 (x7 + (1 : Int32)) u16) else gd (inb ((1000 : Int32) * x5) 49000) (gd (inb ((1000 : Int32) * x5) 49000) (bi (F_M_pay (u.2.2.2.2.2.2.2.2.2.2.2.2.2.1 ((1000 : Int32) * x5).toNatClampNeg) (u.2.2.2.2.2.2.2.2.2.2.2.2.2.2.1 ((1000 : Int32) * x5).toNatClampNeg) x2 u) (fun r22 u21 => bi (F_M_drop x5 u21) (fun r25 u24 => gd (inb x4 4) (gd (inb x4 4) (gd (inb (((4 : Int32) * x2) + x4) 32) (nm ((u24.2.2.2.2.2.2.2.2.2.1 (((4 : Int32) * x2) + x4).toNatClampNeg)) (fun v30 => (if v30 = (-1 : Int32) then K83 x2 x3 x4 x5 x6 (x7 + (1 : Int32)) (u24.1, u24.2.1, u24.2.2.1, u24.2.2.2.1, u24.2.2.2.2.1, u24.2.2.2.2.2.1, u24.2.2.2.2.2.2.1, u24.2.2.2.2.2.2.2.1, u24.2.2.2.2.2.2.2.2.1, u24.2.2.2.2.2.2.2.2.2.1, u24.2.2.2.2.2.2.2.2.2.2.1, u24.2.2.2.2.2.2.2.2.2.2.2.1, u24.2.2.2.2.2.2.2.2.2.2.2.2.1, u24.2.2.2.2.2.2.2.2.2.2.2.2.2.1, u24.2.2.2.2.2.2.2.2.2.2.2.2.2.2.1, u24.2.2.2.2.2.2.2.2.2.2.2.2.2.2.2.1, (upd u24.2.2.2.2.2.2.2.2.2.2.2.2.2.2.2.2.1 x4.toNatClampNeg ((u24.2.2.2.2.2.2.2.2.2.2.2.2.2.2.2.2.1 x4.toNatClampNeg) + (1 : Int32))), u24.2.2.2.2.2.2.2.2.2.2.2.2.2.2.2.2.2) else bi (F_M_produce x2 v30 (u24.1, u24.2.1, u24.2.2.1, u24.2.2.2.1, u24.2.2.2.2.1, u24.2.2.2.2.2.1, u24.2.2.2.2.2.2.1, u24.2.2.2.2.2.2.2.1, u24.2.2.2.2.2.2.2.2.1, u24.2.2.2.2.2.2.2.2.2.1, u24.2.2.2.2.2.2.2.2.2.2.1, u24.2.2.2.2.2.2.2.2.2.2.2.1, u24.2.2.2.2.2.2.2.2.2.2.2.2.1, u24.2.2.2.2.2.2.2.2.2.2.2.2.2.1, u24.2.2.2.2.2.2.2.2.2.2.2.2.2.2.1, u24.2.2.2.2.2.2.2.2.2.2.2.2.2.2.2.1, (upd u24.2.2.2.2.2.2.2.2.2.2.2.2.2.2.2.2.1 x4.toNatClampNeg ((u24.2.2.2.2.2.2.2.2.2.2.2.2.2.2.2.2.1 x4.toNatClampNeg) + (1 : Int32))), u24.2.2.2.2.2.2.2.2.2.2.2.2.2.2.2.2.2)) (fun r33 u32 => K83 x2 x3 x4 x5 x6 (x7 + (1 : Int32)) u32)))))))))))
def F_M_unload_L83 : Nat → Int32 → Int32 → Int32 → Int32 → Int32 → Int32 → MSt → Option ((Int32) × MSt)
  | 0, _, _, _, _, _, _, _ => none
  | n + 1, x2, x3, x4, x5, x6, x7, u => (if x3 ≤ x7 then some (x7, u) else gd (inb x5 49) ((if (u.2.2.2.2.2.2.2.2.2.2.2.2.1 x5.toNatClampNeg) ≤ (0 : Int32) then some (x7, u) else (if x6 = (0 : Int32) then gd (inb (((4 : Int32) * x2) + x4) 49) ((if (999 : Int32) ≤ (u.2.2.2.2.2.2.2.2.2.2.2.2.1 (((4 : Int32) * x2) + x4).toNatClampNeg) then some (x7, u) else F_M_unload_J121 (F_M_unload_L83 n) x2 x3 x4 x5 x6 x7 u)) else F_M_unload_J121 (F_M_unload_L83 n) x2 x3 x4 x5 x6 x7 u))))
def F_M_unload_J32 (x1 x2 x3 s0 : Int32) (u : MSt) : Option ((Int32) × MSt) := (if s0 ≤ (0 : Int32) then gd (inb x1 16) (nm ((u.2.2.2.2.2.2.2.2.2.2.1 x1.toNatClampNeg)) (fun v7 => nm (((32 : Int32) + x1)) (fun v8 => gd (inb x2 8) ((if (((u.2.2.2.2.2.2.2.1 x2.toNatClampNeg) >>> (v7 &&& 31)) &&& (1 : Int32)) = (1 : Int32) then F_M_unload_L83 1001 x2 x3 v7 v8 (1 : Int32) (0 : Int32) (s0, u.2.1, u.2.2.1, u.2.2.2.1, u.2.2.2.2.1, u.2.2.2.2.2.1, u.2.2.2.2.2.2.1, u.2.2.2.2.2.2.2.1, u.2.2.2.2.2.2.2.2.1, u.2.2.2.2.2.2.2.2.2.1, u.2.2.2.2.2.2.2.2.2.2.1, u.2.2.2.2.2.2.2.2.2.2.2.1, u.2.2.2.2.2.2.2.2.2.2.2.2.1, u.2.2.2.2.2.2.2.2.2.2.2.2.2.1, u.2.2.2.2.2.2.2.2.2.2.2.2.2.2.1, u.2.2.2.2.2.2.2.2.2.2.2.2.2.2.2.1, u.2.2.2.2.2.2.2.2.2.2.2.2.2.2.2.2.1, u.2.2.2.2.2.2.2.2.2.2.2.2.2.2.2.2.2) else F_M_unload_L83 1001 x2 x3 v7 v8 (0 : Int32) (0 : Int32) (s0, u.2.1, u.2.2.1, u.2.2.2.1, u.2.2.2.2.1, u.2.2.2.2.2.1, u.2.2.2.2.2.2.1, u.2.2.2.2.2.2.2.1, u.2.2.2.2.2.2.2.2.1, u.2.2.2.2.2.2.2.2.2.1, u.2.2.2.2.2.2.2.2.2.2.1, u.2.2.2.2.2.2.2.2.2.2.2.1, u.2.2.2.2.2.2.2.2.2.2.2.2.1, u.2.2.2.2.2.2.2.2.2.2.2.2.2.1, u.2.2.2.2.2.2.2.2.2.2.2.2.2.2.1, u.2.2.2.2.2.2.2.2.2.2.2.2.2.2.2.1, u.2.2.2.2.2.2.2.2.2.2.2.2.2.2.2.2.1, u.2.2.2.2.2.2.2.2.2.2.2.2.2.2.2.2.2)))))) else some ((0 : Int32), (s0, u.2.1, u.2.2.1, u.2.2.2.1, u.2.2.2.2.1, u.2.2.2.2.2.1, u.2.2.2.2.2.2.1, u.2.2.2.2.2.2.2.1, u.2.2.2.2.2.2.2.2.1, u.2.2.2.2.2.2.2.2.2.1, u.2.2.2.2.2.2.2.2.2.2.1, u.2.2.2.2.2.2.2.2.2.2.2.1, u.2.2.2.2.2.2.2.2.2.2.2.2.1, u.2.2.2.2.2.2.2.2.2.2.2.2.2.1, u.2.2.2.2.2.2.2.2.2.2.2.2.2.2.1, u.2.2.2.2.2.2.2.2.2.2.2.2.2.2.2.1, u.2.2.2.2.2.2.2.2.2.2.2.2.2.2.2.2.1, u.2.2.2.2.2.2.2.2.2.2.2.2.2.2.2.2.2)))
def F_M_unload_J19 (x1 x2 x3 : Int32) (u : MSt) : Option ((Int32) × MSt) := F_M_unload_J32 x1 x2 x3 (1 : Int32) u
def F_M_unload (p1 : Int32) (p2 : Int32) (p3 : Int32) (u : MSt) : Option ((Int32) × MSt) := bi (F_M_in p1 (16 : Int32) ()) (fun r2 u1 => (if r2 = (0 : Int32) then F_M_unload_J19 p1 p2 p3 u else bi (F_M_in p2 (8 : Int32) ()) (fun r38 u37 => (if r38 = (0 : Int32) then F_M_unload_J19 p1 p2 p3 u else (if (0 : Int32) ≤ p3 then F_M_unload_J32 p1 p2 p3 (0 : Int32) u else F_M_unload_J32 p1 p2 p3 (2 : Int32) u)))))
set_option maxHeartbeats 4000000 in
set_option maxRecDepth 100000 in
theorem w_M_unload_J121 {p : Program} {l : Launch} {e : Env} {s : State} {m : MethodId} {args : Array Value} {below : List Frame} {meth : Method} {c : Code} {A : Nat → Prop} {D : va_G} {cI cR : ClassId} {ma : Nat → Nat} (hx : p.tables.exec = Jvm.exec) (hb : c.code = cX2_unload) (hr : meth.sig.returnType = (some .int)) (hml : c.maxLocals = 9) (hown : s.vm.findClass RX2 = some m.cls) (hts : ∀ w ∈ wsX2_unload, w.before args s = true) (hlocks : meth.locks = false) (hA : ∀ q : Nat, s.heap.size ≤ q → A q) (hK : va_K D vwCl (TY cI cR) s) (K83 : Int32 → Int32 → Int32 → Int32 → Int32 → Int32 → MSt → Option ((Int32) × MSt)) (hK83 : ∀ (y2 y3 y4 y5 y6 y7 : Int32) (u : MSt) (r : Int32) (u' : MSt), K83 y2 y3 y4 y5 y6 y7 u = some (r, u') → ∀ (H : Heap) (locs : List Loc) (ls : Array Slot), va_P D vwCl (MW cI ma u) H → va_D A (MW cI ma u) → va_S A s.heap H locs → lv_has ls 9 [(0, .ref (ma 0)), (2, .int y2), (3, .int y3), (4, .int y4), (5, .int y5), (6, .int y6), (7, .int y7)] → W p l e (headSpec wsX2_unload ({ frames := 4, cells := 0, slots := 0, locals := 94 })).room s m args below meth c H locs 0 0 (MQ below (QI D (TY cI cR) A (fun v => MW cI ma v) r u') args s 0 0 A) (F0 m 83 ls [])) : ∀ (x2 x3 x4 x5 x6 x7 : Int32) (u : MSt) (r : Int32) (u' : MSt), F_M_unload_J121 K83 x2 x3 x4 x5 x6 x7 u = some (r, u') → ∀ (H : Heap) (locs : List Loc) (ls : Array Slot), va_P D vwCl (MW cI ma u) H → va_D A (MW cI ma u) → va_S A s.heap H locs → lv_has ls 9 [(0, .ref (ma 0)), (2, .int x2), (3, .int x3), (4, .int x4), (5, .int x5), (6, .int x6), (7, .int x7)] → W p l e (headSpec wsX2_unload ({ frames := 4, cells := 0, slots := 0, locals := 94 })).room s m args below meth c H locs 0 0 (MQ below (QI D (TY cI cR) A (fun v => MW cI ma v) r u') args s 0 0 A) (F0 m 121 ls []) := by
  have hk_54 := (hts _ (cwc _ mw_335))
  have hk_29 := (hts _ (cwc _ mw_345))
  have hk_20 := (hts _ (cwc _ mw_342))
  have hk_35 := (hts _ (cwc _ mw_347))
  have hk_39 := (hts _ (cwc _ mw_348))
  have hk_42 := (hts _ (cwc _ mw_349))
  have hk_48 := (hts _ (cwc _ mw_351))
  have hk_26 := (hts _ (cwc _ mw_344))
  intro x2 x3 x4 x5 x6 x7 u r u' hF H locs ls hP hD hS hl
  unfold F_M_unload_J121 at hF
  refine lv_iinc (v := (x7 + (1 : Int32))) (lv' := [(7, .int (x7 + (1 : Int32))), (0, .ref (ma 0)), (2, .int x2), (3, .int x3), (4, .int x4), (5, .int x5), (6, .int x6)]) hx hb dX2_unload_121 hl (k := 6) rfl rfl (by decide) rfl (fun ls hl => ?_)
  refine lv_iload hx hb dX2_unload_124 (lv_at hl 6 rfl) ?_
  refine lv_if_eq (tgt := 202) hx hb dX2_unload_126 (by decide) (fun c_15 => ?_) (fun c_15 => ?_)
  · replace hF := (if_pos c_15).symm.trans hF
    refine lv_aload_n hx hb dX2_unload_202 rfl (lv_at hl 1 rfl) ?_
    refine lv_iload hx hb dX2_unload_203 (lv_at hl 5 rfl) ?_
    refine lv_iconst (v := (4 : Int32)) hx hb dX2_unload_205 (by decide +kernel) ?_
    refine lv_iload_n hx hb dX2_unload_206 rfl (lv_at hl 2 rfl) ?_
    refine lv_imul hx hb dX2_unload_207 ?_
    refine lv_iload hx hb dX2_unload_208 (lv_at hl 4 rfl) ?_
    refine lv_iadd hx hb dX2_unload_210 ?_
    obtain ⟨r17, u16, hc_18, hF⟩ := bi_some hF
    refine kc_v (W1 := MW cI ma u16) (va_runV (As := [.int x5, .int (((4 : Int32) * x2) + x4)]) (rest := []) ⟨hx, hb, hml, hown, hts⟩ (c_M_move l D cI cR ma H.size x5 (((4 : Int32) * x2) + x4) u r17 u16 hc_18) (cwV 2 hts (gV cwc mw_420 mw_421 mw_489 mw_3 mw_422) rfl rfl rfl (by decide +kernel) ⟨(Nat.le_of_ble_eq_true rfl), (Nat.le_of_ble_eq_true rfl)⟩) (kp_V (ci := 2) (q := (RX2, TX2, 18)) hK hP hD (sb_id _) rfl rfl) rfl rfl hl.1 rfl (lv_room (Nat.le_of_ble_eq_true rfl)) dX2_unload_211 ⟨(Nat.le_of_ble_eq_true rfl), (Nat.le_of_ble_eq_true rfl)⟩) hP hD hS hA (sb_id _) (jn_id rfl) (fun H locs hP hD hS => ?_)
    refine lv_goto (tgt := 83) hx hb dX2_unload_214 (by decide) ?_
    exact hK83 x2 x3 x4 x5 x6 (x7 + (1 : Int32)) u16 _ _ hF H locs ls hP hD hS (lv_sub hl [1, 2, 3, 4, 5, 6, 0] rfl)
  · replace hF := (if_neg c_15).symm.trans hF
    refine lv_aload_n hx hb dX2_unload_129 rfl (lv_at hl 1 rfl) ?_
    refine lv_aload_n hx hb dX2_unload_130 rfl (lv_at hl 1 rfl) ?_
    refine va_get (D := D) (ci := 2) (v := .ref (ma 9)) (C := RX2) (T := TX2) (N := 18) hx hb hts (fun w h => cwc w (in_X2 w h)) hown hK hP 0 rfl rfl 13 (by decide) hk_39 (fun _ h9 => h9) rfl dX2_unload_131 ?_
    refine lv_sipush (v := (1000 : Int32)) hx hb dX2_unload_134 (by decide +kernel) ?_
    refine lv_iload hx hb dX2_unload_137 (lv_at hl 5 rfl) ?_
    refine lv_imul hx hb dX2_unload_139 ?_
    obtain ⟨h_19, hF⟩ := gd_some hF
    refine va_iald (f := u.2.2.2.2.2.2.2.2.2.2.2.2.2.1) hx hb hK hP 9 0 rfl rfl (inb_in h_19) dX2_unload_140 ?_
    refine lv_aload_n hx hb dX2_unload_141 rfl (lv_at hl 1 rfl) ?_
    refine va_get (D := D) (ci := 2) (v := .ref (ma 10)) (C := RX2) (T := TX2) (N := 18) hx hb hts (fun w h => cwc w (in_X2 w h)) hown hK hP 0 rfl rfl 14 (by decide) hk_42 (fun _ h9 => h9) rfl dX2_unload_142 ?_
    refine lv_sipush (v := (1000 : Int32)) hx hb dX2_unload_145 (by decide +kernel) ?_
    refine lv_iload hx hb dX2_unload_148 (lv_at hl 5 rfl) ?_
    refine lv_imul hx hb dX2_unload_150 ?_
    obtain ⟨h_20, hF⟩ := gd_some hF
    refine va_iald (f := u.2.2.2.2.2.2.2.2.2.2.2.2.2.2.1) hx hb hK hP 10 0 rfl rfl (inb_in h_20) dX2_unload_151 ?_
    refine lv_iload_n hx hb dX2_unload_152 rfl (lv_at hl 2 rfl) ?_
    obtain ⟨r22, u21, hc_23, hF⟩ := bi_some hF
    refine kc_v (W1 := MW cI ma u21) (va_runV (As := [.int (u.2.2.2.2.2.2.2.2.2.2.2.2.2.1 ((1000 : Int32) * x5).toNatClampNeg), .int (u.2.2.2.2.2.2.2.2.2.2.2.2.2.2.1 ((1000 : Int32) * x5).toNatClampNeg), .int x2]) (rest := []) ⟨hx, hb, hml, hown, hts⟩ (c_M_pay l D cI cR ma H.size (u.2.2.2.2.2.2.2.2.2.2.2.2.2.1 ((1000 : Int32) * x5).toNatClampNeg) (u.2.2.2.2.2.2.2.2.2.2.2.2.2.2.1 ((1000 : Int32) * x5).toNatClampNeg) x2 u r22 u21 hc_23) (cwV 3 hts (gV cwc mw_430 mw_431 mw_491 mw_3 mw_432) rfl rfl rfl (by decide +kernel) ⟨(Nat.le_of_ble_eq_true rfl), (Nat.le_of_ble_eq_true rfl)⟩) (kp_V (ci := 2) (q := (RX2, TX2, 18)) hK hP hD (sb_id _) rfl rfl) rfl rfl hl.1 rfl (lv_room (Nat.le_of_ble_eq_true rfl)) dX2_unload_153 ⟨(Nat.le_of_ble_eq_true rfl), (Nat.le_of_ble_eq_true rfl)⟩) hP hD hS hA (sb_id _) (jn_id rfl) (fun H locs hP hD hS => ?_)
    refine lv_aload_n hx hb dX2_unload_156 rfl (lv_at hl 1 rfl) ?_
    refine lv_iload hx hb dX2_unload_157 (lv_at hl 5 rfl) ?_
    obtain ⟨r25, u24, hc_26, hF⟩ := bi_some hF
    refine kc_v (W1 := MW cI ma u24) (va_runV (As := [.int x5]) (rest := []) ⟨hx, hb, hml, hown, hts⟩ (c_M_drop l D cI cR ma H.size x5 u21 r25 u24 hc_26) (cwV 1 hts (gV cwc mw_423 mw_424 mw_490 mw_3 mw_425) rfl rfl rfl (by decide +kernel) ⟨(Nat.le_of_ble_eq_true rfl), (Nat.le_of_ble_eq_true rfl)⟩) (kp_V (ci := 2) (q := (RX2, TX2, 18)) hK hP hD (sb_id _) rfl rfl) rfl rfl hl.1 rfl (lv_room (Nat.le_of_ble_eq_true rfl)) dX2_unload_159 ⟨(Nat.le_of_ble_eq_true rfl), (Nat.le_of_ble_eq_true rfl)⟩) hP hD hS hA (sb_id _) (jn_id rfl) (fun H locs hP hD hS => ?_)
    refine lv_aload_n hx hb dX2_unload_162 rfl (lv_at hl 1 rfl) ?_
    refine va_get (D := D) (ci := 2) (v := .ref (ma 12)) (C := RX2) (T := TX2) (N := 18) hx hb hts (fun w h => cwc w (in_X2 w h)) hown hK hP 0 rfl rfl 16 (by decide) hk_48 (fun _ h9 => h9) rfl dX2_unload_163 ?_
    refine lv_iload hx hb dX2_unload_166 (lv_at hl 4 rfl) ?_
    refine lv_dup2_11 hx hb dX2_unload_168 rfl rfl ?_
    obtain ⟨h_27, hF⟩ := gd_some hF
    refine va_iald (f := u24.2.2.2.2.2.2.2.2.2.2.2.2.2.2.2.2.1) hx hb hK hP 12 0 rfl rfl (inb_in h_27) dX2_unload_169 ?_
    refine lv_iconst (v := (1 : Int32)) hx hb dX2_unload_170 (by decide +kernel) ?_
    refine lv_iadd hx hb dX2_unload_171 ?_
    obtain ⟨h_28, hF⟩ := gd_some hF
    refine va_iast (f := u24.2.2.2.2.2.2.2.2.2.2.2.2.2.2.2.2.1) hx hb hK hP hD hS 12 0 rfl rfl (inb_in h_28) dX2_unload_172 (fun H locs hP hD hS => ?_)
    replace hP : va_P D vwCl (MW cI ma (u24.1, u24.2.1, u24.2.2.1, u24.2.2.2.1, u24.2.2.2.2.1, u24.2.2.2.2.2.1, u24.2.2.2.2.2.2.1, u24.2.2.2.2.2.2.2.1, u24.2.2.2.2.2.2.2.2.1, u24.2.2.2.2.2.2.2.2.2.1, u24.2.2.2.2.2.2.2.2.2.2.1, u24.2.2.2.2.2.2.2.2.2.2.2.1, u24.2.2.2.2.2.2.2.2.2.2.2.2.1, u24.2.2.2.2.2.2.2.2.2.2.2.2.2.1, u24.2.2.2.2.2.2.2.2.2.2.2.2.2.2.1, u24.2.2.2.2.2.2.2.2.2.2.2.2.2.2.2.1, (upd u24.2.2.2.2.2.2.2.2.2.2.2.2.2.2.2.2.1 x4.toNatClampNeg ((u24.2.2.2.2.2.2.2.2.2.2.2.2.2.2.2.2.1 x4.toNatClampNeg) + (1 : Int32))), u24.2.2.2.2.2.2.2.2.2.2.2.2.2.2.2.2.2)) H := hP
    replace hD : va_D A (MW cI ma (u24.1, u24.2.1, u24.2.2.1, u24.2.2.2.1, u24.2.2.2.2.1, u24.2.2.2.2.2.1, u24.2.2.2.2.2.2.1, u24.2.2.2.2.2.2.2.1, u24.2.2.2.2.2.2.2.2.1, u24.2.2.2.2.2.2.2.2.2.1, u24.2.2.2.2.2.2.2.2.2.2.1, u24.2.2.2.2.2.2.2.2.2.2.2.1, u24.2.2.2.2.2.2.2.2.2.2.2.2.1, u24.2.2.2.2.2.2.2.2.2.2.2.2.2.1, u24.2.2.2.2.2.2.2.2.2.2.2.2.2.2.1, u24.2.2.2.2.2.2.2.2.2.2.2.2.2.2.2.1, (upd u24.2.2.2.2.2.2.2.2.2.2.2.2.2.2.2.2.1 x4.toNatClampNeg ((u24.2.2.2.2.2.2.2.2.2.2.2.2.2.2.2.2.1 x4.toNatClampNeg) + (1 : Int32))), u24.2.2.2.2.2.2.2.2.2.2.2.2.2.2.2.2.2)) := hD
    refine lv_aload_n hx hb dX2_unload_173 rfl (lv_at hl 1 rfl) ?_
    refine va_get (D := D) (ci := 2) (v := .ref (ma 5)) (C := RX2) (T := TX2) (N := 18) hx hb hts (fun w h => cwc w (in_X2 w h)) hown hK hP 0 rfl rfl 9 (by decide) hk_26 (fun _ h9 => h9) rfl dX2_unload_174 ?_
    refine lv_iconst (v := (4 : Int32)) hx hb dX2_unload_177 (by decide +kernel) ?_
    refine lv_iload_n hx hb dX2_unload_178 rfl (lv_at hl 2 rfl) ?_
    refine lv_imul hx hb dX2_unload_179 ?_
    refine lv_iload hx hb dX2_unload_180 (lv_at hl 4 rfl) ?_
    refine lv_iadd hx hb dX2_unload_182 ?_
    obtain ⟨h_29, hF⟩ := gd_some hF
    refine va_iald (f := u24.2.2.2.2.2.2.2.2.2.1) hx hb hK hP 5 0 rfl rfl (inb_in h_29) dX2_unload_183 ?_
    obtain ⟨v30, ev30, hF⟩ := nm_some hF
    refine W.eq (g2 := F0 m 184 ls (.int v30 :: [])) (congrArg (fun z => F0 m 184 ls (.int z :: [])) ev30.symm) ?_
    refine lv_istore (lv' := [(8, .int v30), (7, .int (x7 + (1 : Int32))), (0, .ref (ma 0)), (2, .int x2), (3, .int x3), (4, .int x4), (5, .int x5), (6, .int x6)]) hx hb dX2_unload_184 hl (by decide) rfl (fun ls hl => ?_)
    refine lv_iload hx hb dX2_unload_186 (lv_at hl 0 rfl) ?_
    refine lv_iconst (v := (-1 : Int32)) hx hb dX2_unload_188 (by decide +kernel) ?_
    refine lv_icmp_eq (tgt := 199) hx hb dX2_unload_189 (by decide) (fun c_31 => ?_) (fun c_31 => ?_)
    · replace hF := (if_pos c_31).symm.trans hF
      refine lv_goto (tgt := 83) hx hb dX2_unload_199 (by decide) ?_
      exact hK83 x2 x3 x4 x5 x6 (x7 + (1 : Int32)) (u24.1, u24.2.1, u24.2.2.1, u24.2.2.2.1, u24.2.2.2.2.1, u24.2.2.2.2.2.1, u24.2.2.2.2.2.2.1, u24.2.2.2.2.2.2.2.1, u24.2.2.2.2.2.2.2.2.1, u24.2.2.2.2.2.2.2.2.2.1, u24.2.2.2.2.2.2.2.2.2.2.1, u24.2.2.2.2.2.2.2.2.2.2.2.1, u24.2.2.2.2.2.2.2.2.2.2.2.2.1, u24.2.2.2.2.2.2.2.2.2.2.2.2.2.1, u24.2.2.2.2.2.2.2.2.2.2.2.2.2.2.1, u24.2.2.2.2.2.2.2.2.2.2.2.2.2.2.2.1, (upd u24.2.2.2.2.2.2.2.2.2.2.2.2.2.2.2.2.1 x4.toNatClampNeg ((u24.2.2.2.2.2.2.2.2.2.2.2.2.2.2.2.2.1 x4.toNatClampNeg) + (1 : Int32))), u24.2.2.2.2.2.2.2.2.2.2.2.2.2.2.2.2.2) _ _ hF H locs ls hP hD hS (lv_sub hl [2, 3, 4, 5, 6, 7, 1] rfl)
    · replace hF := (if_neg c_31).symm.trans hF
      refine lv_aload_n hx hb dX2_unload_192 rfl (lv_at hl 2 rfl) ?_
      refine lv_iload_n hx hb dX2_unload_193 rfl (lv_at hl 3 rfl) ?_
      refine lv_iload hx hb dX2_unload_194 (lv_at hl 0 rfl) ?_
      obtain ⟨r33, u32, hc_34, hF⟩ := bi_some hF
      refine kc_v (W1 := MW cI ma u32) (va_runV (As := [.int x2, .int v30]) (rest := []) ⟨hx, hb, hml, hown, hts⟩ (c_M_produce l D cI cR ma H.size x2 v30 (u24.1, u24.2.1, u24.2.2.1, u24.2.2.2.1, u24.2.2.2.2.1, u24.2.2.2.2.2.1, u24.2.2.2.2.2.2.1, u24.2.2.2.2.2.2.2.1, u24.2.2.2.2.2.2.2.2.1, u24.2.2.2.2.2.2.2.2.2.1, u24.2.2.2.2.2.2.2.2.2.2.1, u24.2.2.2.2.2.2.2.2.2.2.2.1, u24.2.2.2.2.2.2.2.2.2.2.2.2.1, u24.2.2.2.2.2.2.2.2.2.2.2.2.2.1, u24.2.2.2.2.2.2.2.2.2.2.2.2.2.2.1, u24.2.2.2.2.2.2.2.2.2.2.2.2.2.2.2.1, (upd u24.2.2.2.2.2.2.2.2.2.2.2.2.2.2.2.2.1 x4.toNatClampNeg ((u24.2.2.2.2.2.2.2.2.2.2.2.2.2.2.2.2.1 x4.toNatClampNeg) + (1 : Int32))), u24.2.2.2.2.2.2.2.2.2.2.2.2.2.2.2.2.2) r33 u32 hc_34) (cwV 2 hts (gV cwc mw_404 mw_405 mw_485 mw_3 mw_406) rfl rfl rfl (by decide +kernel) ⟨(Nat.le_of_ble_eq_true rfl), (Nat.le_of_ble_eq_true rfl)⟩) (kp_V (ci := 2) (q := (RX2, TX2, 18)) hK hP hD (sb_id _) rfl rfl) rfl rfl hl.1 rfl (lv_room (Nat.le_of_ble_eq_true rfl)) dX2_unload_196 ⟨(Nat.le_of_ble_eq_true rfl), (Nat.le_of_ble_eq_true rfl)⟩) hP hD hS hA (sb_id _) (jn_id rfl) (fun H locs hP hD hS => ?_)
      refine lv_goto (tgt := 83) hx hb dX2_unload_199 (by decide) ?_
      exact hK83 x2 x3 x4 x5 x6 (x7 + (1 : Int32)) u32 _ _ hF H locs ls hP hD hS (lv_sub hl [2, 3, 4, 5, 6, 7, 1] rfl)
set_option maxHeartbeats 4000000 in
set_option maxRecDepth 100000 in
theorem w_M_unload_L83 {p : Program} {l : Launch} {e : Env} {s : State} {m : MethodId} {args : Array Value} {below : List Frame} {meth : Method} {c : Code} {A : Nat → Prop} {D : va_G} {cI cR : ClassId} {ma : Nat → Nat} (hx : p.tables.exec = Jvm.exec) (hb : c.code = cX2_unload) (hr : meth.sig.returnType = (some .int)) (hml : c.maxLocals = 9) (hown : s.vm.findClass RX2 = some m.cls) (hts : ∀ w ∈ wsX2_unload, w.before args s = true) (hlocks : meth.locks = false) (hA : ∀ q : Nat, s.heap.size ≤ q → A q) (hK : va_K D vwCl (TY cI cR) s) : ∀ (n : Nat) (x2 x3 x4 x5 x6 x7 : Int32) (u : MSt) (r : Int32) (u' : MSt), F_M_unload_L83 n x2 x3 x4 x5 x6 x7 u = some (r, u') → ∀ (H : Heap) (locs : List Loc) (ls : Array Slot), va_P D vwCl (MW cI ma u) H → va_D A (MW cI ma u) → va_S A s.heap H locs → lv_has ls 9 [(0, .ref (ma 0)), (2, .int x2), (3, .int x3), (4, .int x4), (5, .int x5), (6, .int x6), (7, .int x7)] → W p l e (headSpec wsX2_unload ({ frames := 4, cells := 0, slots := 0, locals := 94 })).room s m args below meth c H locs 0 0 (MQ below (QI D (TY cI cR) A (fun v => MW cI ma v) r u') args s 0 0 A) (F0 m 83 ls []) := by
  have hk_54 := (hts _ (cwc _ mw_335))
  have hk_29 := (hts _ (cwc _ mw_345))
  have hk_20 := (hts _ (cwc _ mw_342))
  have hk_35 := (hts _ (cwc _ mw_347))
  have hk_39 := (hts _ (cwc _ mw_348))
  have hk_42 := (hts _ (cwc _ mw_349))
  have hk_48 := (hts _ (cwc _ mw_351))
  have hk_26 := (hts _ (cwc _ mw_344))
  intro n
  induction n with
  | zero =>
    intro x2 x3 x4 x5 x6 x7 u r u' hF
    rw [F_M_unload_L83] at hF
    exact absurd hF (by simp)
  | succ n ih =>
    intro x2 x3 x4 x5 x6 x7 u r u' hF H locs ls hP hD hS hl
    rw [F_M_unload_L83] at hF
    refine lv_iload hx hb dX2_unload_83 (lv_at hl 6 rfl) ?_
    refine lv_iload_n hx hb dX2_unload_85 rfl (lv_at hl 2 rfl) ?_
    refine lv_icmp_ge (tgt := 217) hx hb dX2_unload_86 (by decide) (fun c_11 => ?_) (fun c_11 => ?_)
    · replace hF := (if_pos c_11).symm.trans hF
      refine lv_iload hx hb dX2_unload_217 (lv_at hl 6 rfl) ?_
      cases hF
      refine W.widen (k := 0) (n := 0) (Nat.le_of_ble_eq_true rfl) (Nat.le_of_ble_eq_true rfl) ?_
      exact W.iret hx hb hr (fun t ht hW => ⟨⟨_, _, rfl, ⟨rfl, rfl⟩, by rw [ht]; exact hP, va_K.moved hW.alike hK, hD⟩, hS.F ht⟩) hS.2.2 dX2_unload_219
    · replace hF := (if_neg c_11).symm.trans hF
      refine lv_aload_n hx hb dX2_unload_89 rfl (lv_at hl 0 rfl) ?_
      refine va_get (D := D) (ci := 2) (v := .ref (ma 8)) (C := RX2) (T := TX2) (N := 18) hx hb hts (fun w h => cwc w (in_X2 w h)) hown hK hP 0 rfl rfl 12 (by decide) hk_35 (fun _ h9 => h9) rfl dX2_unload_90 ?_
      refine lv_iload hx hb dX2_unload_93 (lv_at hl 4 rfl) ?_
      obtain ⟨h_12, hF⟩ := gd_some hF
      refine va_iald (f := u.2.2.2.2.2.2.2.2.2.2.2.2.1) hx hb hK hP 8 0 rfl rfl (inb_in h_12) dX2_unload_95 ?_
      refine lv_if_le (tgt := 217) hx hb dX2_unload_96 (by decide) (fun c_13 => ?_) (fun c_13 => ?_)
      · replace hF := (if_pos c_13).symm.trans hF
        refine lv_iload hx hb dX2_unload_217 (lv_at hl 6 rfl) ?_
        cases hF
        refine W.widen (k := 0) (n := 0) (Nat.le_of_ble_eq_true rfl) (Nat.le_of_ble_eq_true rfl) ?_
        exact W.iret hx hb hr (fun t ht hW => ⟨⟨_, _, rfl, ⟨rfl, rfl⟩, by rw [ht]; exact hP, va_K.moved hW.alike hK, hD⟩, hS.F ht⟩) hS.2.2 dX2_unload_219
      · replace hF := (if_neg c_13).symm.trans hF
        refine lv_iload hx hb dX2_unload_99 (lv_at hl 5 rfl) ?_
        refine lv_if_ne (tgt := 121) hx hb dX2_unload_101 (by decide) (fun c_14 => ?_) (fun c_14 => ?_)
        · replace hF := (if_neg c_14).symm.trans hF
          exact w_M_unload_J121 hx hb hr hml hown hts hlocks hA hK (F_M_unload_L83 n) (fun y2 y3 y4 y5 y6 y7 u9 r9 v9 h9 => ih y2 y3 y4 y5 y6 y7 u9 r9 v9 h9) x2 x3 x4 x5 x6 x7 u _ _ hF H locs ls hP hD hS (lv_sub hl [0, 1, 2, 3, 4, 5, 6] rfl)
        · replace hF := (if_pos c_14).symm.trans hF
          refine lv_aload_n hx hb dX2_unload_104 rfl (lv_at hl 0 rfl) ?_
          refine va_get (D := D) (ci := 2) (v := .ref (ma 8)) (C := RX2) (T := TX2) (N := 18) hx hb hts (fun w h => cwc w (in_X2 w h)) hown hK hP 0 rfl rfl 12 (by decide) hk_35 (fun _ h9 => h9) rfl dX2_unload_105 ?_
          refine lv_iconst (v := (4 : Int32)) hx hb dX2_unload_108 (by decide +kernel) ?_
          refine lv_iload_n hx hb dX2_unload_109 rfl (lv_at hl 1 rfl) ?_
          refine lv_imul hx hb dX2_unload_110 ?_
          refine lv_iload hx hb dX2_unload_111 (lv_at hl 3 rfl) ?_
          refine lv_iadd hx hb dX2_unload_113 ?_
          obtain ⟨h_35, hF⟩ := gd_some hF
          refine va_iald (f := u.2.2.2.2.2.2.2.2.2.2.2.2.1) hx hb hK hP 8 0 rfl rfl (inb_in h_35) dX2_unload_114 ?_
          refine lv_sipush (v := (999 : Int32)) hx hb dX2_unload_115 (by decide +kernel) ?_
          refine lv_icmp_ge (tgt := 217) hx hb dX2_unload_118 (by decide) (fun c_36 => ?_) (fun c_36 => ?_)
          · replace hF := (if_pos c_36).symm.trans hF
            refine lv_iload hx hb dX2_unload_217 (lv_at hl 6 rfl) ?_
            cases hF
            refine W.widen (k := 0) (n := 0) (Nat.le_of_ble_eq_true rfl) (Nat.le_of_ble_eq_true rfl) ?_
            exact W.iret hx hb hr (fun t ht hW => ⟨⟨_, _, rfl, ⟨rfl, rfl⟩, by rw [ht]; exact hP, va_K.moved hW.alike hK, hD⟩, hS.F ht⟩) hS.2.2 dX2_unload_219
          · replace hF := (if_neg c_36).symm.trans hF
            exact w_M_unload_J121 hx hb hr hml hown hts hlocks hA hK (F_M_unload_L83 n) (fun y2 y3 y4 y5 y6 y7 u9 r9 v9 h9 => ih y2 y3 y4 y5 y6 y7 u9 r9 v9 h9) x2 x3 x4 x5 x6 x7 u _ _ hF H locs ls hP hD hS (lv_sub hl [0, 1, 2, 3, 4, 5, 6] rfl)
set_option maxHeartbeats 4000000 in
set_option maxRecDepth 100000 in
theorem w_M_unload_J32 {p : Program} {l : Launch} {e : Env} {s : State} {m : MethodId} {args : Array Value} {below : List Frame} {meth : Method} {c : Code} {A : Nat → Prop} {D : va_G} {cI cR : ClassId} {ma : Nat → Nat} (hx : p.tables.exec = Jvm.exec) (hb : c.code = cX2_unload) (hr : meth.sig.returnType = (some .int)) (hml : c.maxLocals = 9) (hown : s.vm.findClass RX2 = some m.cls) (hts : ∀ w ∈ wsX2_unload, w.before args s = true) (hlocks : meth.locks = false) (hA : ∀ q : Nat, s.heap.size ≤ q → A q) (hK : va_K D vwCl (TY cI cR) s) : ∀ (x1 x2 x3 s0 : Int32) (u : MSt) (r : Int32) (u' : MSt), F_M_unload_J32 x1 x2 x3 s0 u = some (r, u') → ∀ (H : Heap) (locs : List Loc) (ls : Array Slot), va_P D vwCl (MW cI ma u) H → va_D A (MW cI ma u) → va_S A s.heap H locs → lv_has ls 9 [(0, .ref (ma 0)), (1, .int x1), (2, .int x2), (3, .int x3)] → W p l e (headSpec wsX2_unload ({ frames := 4, cells := 0, slots := 0, locals := 94 })).room s m args below meth c H locs 0 0 (MQ below (QI D (TY cI cR) A (fun v => MW cI ma v) r u') args s 0 0 A) (F0 m 32 ls [.int s0, .ref (ma 0)]) := by
  have hk_54 := (hts _ (cwc _ mw_335))
  have hk_29 := (hts _ (cwc _ mw_345))
  have hk_20 := (hts _ (cwc _ mw_342))
  have hk_35 := (hts _ (cwc _ mw_347))
  have hk_39 := (hts _ (cwc _ mw_348))
  have hk_42 := (hts _ (cwc _ mw_349))
  have hk_48 := (hts _ (cwc _ mw_351))
  have hk_26 := (hts _ (cwc _ mw_344))
  intro x1 x2 x3 s0 u r u' hF H locs ls hP hD hS hl
  unfold F_M_unload_J32 at hF
  refine va_put (D := D) (ci := 2) (v := .int s0) (ty := .int) (C := RX2) (T := TX2) (N := 18) hx hb hts (fun w h => cwc w (in_X2 w h)) tyX2 tyX2_ok nmX2 hown hK hP hD hS 0 rfl rfl 0 (by decide) hk_54 (fun _ h9 => h9) rfl (by decide +kernel) rfl rfl (Nat.le_of_ble_eq_true rfl) dX2_unload_32 (fun H locs hP hD hS => ?_)
  replace hP : va_P D vwCl (MW cI ma (s0, u.2.1, u.2.2.1, u.2.2.2.1, u.2.2.2.2.1, u.2.2.2.2.2.1, u.2.2.2.2.2.2.1, u.2.2.2.2.2.2.2.1, u.2.2.2.2.2.2.2.2.1, u.2.2.2.2.2.2.2.2.2.1, u.2.2.2.2.2.2.2.2.2.2.1, u.2.2.2.2.2.2.2.2.2.2.2.1, u.2.2.2.2.2.2.2.2.2.2.2.2.1, u.2.2.2.2.2.2.2.2.2.2.2.2.2.1, u.2.2.2.2.2.2.2.2.2.2.2.2.2.2.1, u.2.2.2.2.2.2.2.2.2.2.2.2.2.2.2.1, u.2.2.2.2.2.2.2.2.2.2.2.2.2.2.2.2.1, u.2.2.2.2.2.2.2.2.2.2.2.2.2.2.2.2.2)) H := hP
  replace hD : va_D A (MW cI ma (s0, u.2.1, u.2.2.1, u.2.2.2.1, u.2.2.2.2.1, u.2.2.2.2.2.1, u.2.2.2.2.2.2.1, u.2.2.2.2.2.2.2.1, u.2.2.2.2.2.2.2.2.1, u.2.2.2.2.2.2.2.2.2.1, u.2.2.2.2.2.2.2.2.2.2.1, u.2.2.2.2.2.2.2.2.2.2.2.1, u.2.2.2.2.2.2.2.2.2.2.2.2.1, u.2.2.2.2.2.2.2.2.2.2.2.2.2.1, u.2.2.2.2.2.2.2.2.2.2.2.2.2.2.1, u.2.2.2.2.2.2.2.2.2.2.2.2.2.2.2.1, u.2.2.2.2.2.2.2.2.2.2.2.2.2.2.2.2.1, u.2.2.2.2.2.2.2.2.2.2.2.2.2.2.2.2.2)) := hD
  refine lv_aload_n hx hb dX2_unload_35 rfl (lv_at hl 0 rfl) ?_
  refine va_get (D := D) (ci := 2) (v := .int s0) (C := RX2) (T := TX2) (N := 18) hx hb hts (fun w h => cwc w (in_X2 w h)) hown hK hP 0 rfl rfl 0 (by decide) hk_54 (fun _ h9 => h9) rfl dX2_unload_36 ?_
  refine lv_if_le (tgt := 44) hx hb dX2_unload_39 (by decide) (fun c_5 => ?_) (fun c_5 => ?_)
  · replace hF := (if_pos c_5).symm.trans hF
    refine lv_aload_n hx hb dX2_unload_44 rfl (lv_at hl 0 rfl) ?_
    refine va_get (D := D) (ci := 2) (v := .ref (ma 6)) (C := RX2) (T := TX2) (N := 18) hx hb hts (fun w h => cwc w (in_X2 w h)) hown hK hP 0 rfl rfl 10 (by decide) hk_29 (fun _ h9 => h9) rfl dX2_unload_45 ?_
    refine lv_iload_n hx hb dX2_unload_48 rfl (lv_at hl 1 rfl) ?_
    obtain ⟨h_6, hF⟩ := gd_some hF
    refine va_iald (f := u.2.2.2.2.2.2.2.2.2.2.1) hx hb hK hP 6 0 rfl rfl (inb_in h_6) dX2_unload_49 ?_
    obtain ⟨v7, ev7, hF⟩ := nm_some hF
    refine W.eq (g2 := F0 m 50 ls (.int v7 :: [])) (congrArg (fun z => F0 m 50 ls (.int z :: [])) ev7.symm) ?_
    refine lv_istore (lv' := [(4, .int v7), (0, .ref (ma 0)), (1, .int x1), (2, .int x2), (3, .int x3)]) hx hb dX2_unload_50 hl (by decide) rfl (fun ls hl => ?_)
    refine lv_bipush (v := (32 : Int32)) hx hb dX2_unload_52 (by decide +kernel) ?_
    refine lv_iload_n hx hb dX2_unload_54 rfl (lv_at hl 2 rfl) ?_
    refine lv_iadd hx hb dX2_unload_55 ?_
    obtain ⟨v8, ev8, hF⟩ := nm_some hF
    refine W.eq (g2 := F0 m 56 ls (.int v8 :: [])) (congrArg (fun z => F0 m 56 ls (.int z :: [])) ev8.symm) ?_
    refine lv_istore (lv' := [(5, .int v8), (4, .int v7), (0, .ref (ma 0)), (1, .int x1), (2, .int x2), (3, .int x3)]) hx hb dX2_unload_56 hl (by decide) rfl (fun ls hl => ?_)
    refine lv_aload_n hx hb dX2_unload_58 rfl (lv_at hl 2 rfl) ?_
    refine va_get (D := D) (ci := 2) (v := .ref (ma 3)) (C := RX2) (T := TX2) (N := 18) hx hb hts (fun w h => cwc w (in_X2 w h)) hown hK hP 0 rfl rfl 7 (by decide) hk_20 (fun _ h9 => h9) rfl dX2_unload_59 ?_
    refine lv_iload_n hx hb dX2_unload_62 rfl (lv_at hl 4 rfl) ?_
    obtain ⟨h_9, hF⟩ := gd_some hF
    refine va_iald (f := u.2.2.2.2.2.2.2.1) hx hb hK hP 3 0 rfl rfl (inb_in h_9) dX2_unload_63 ?_
    refine lv_iload hx hb dX2_unload_64 (lv_at hl 1 rfl) ?_
    refine lv_ishr hx hb dX2_unload_66 ?_
    refine lv_iconst (v := (1 : Int32)) hx hb dX2_unload_67 (by decide +kernel) ?_
    refine lv_iand hx hb dX2_unload_68 ?_
    refine lv_iconst (v := (1 : Int32)) hx hb dX2_unload_69 (by decide +kernel) ?_
    refine lv_icmp_ne (tgt := 77) hx hb dX2_unload_70 (by decide) (fun c_10 => ?_) (fun c_10 => ?_)
    · replace hF := (if_neg c_10).symm.trans hF
      refine lv_iconst (v := (0 : Int32)) hx hb dX2_unload_77 (by decide +kernel) ?_
      refine lv_istore (lv' := [(6, .int (0 : Int32)), (5, .int v8), (4, .int v7), (0, .ref (ma 0)), (1, .int x1), (2, .int x2), (3, .int x3)]) hx hb dX2_unload_78 hl (by decide) rfl (fun ls hl => ?_)
      refine lv_iconst (v := (0 : Int32)) hx hb dX2_unload_80 (by decide +kernel) ?_
      refine lv_istore (lv' := [(7, .int (0 : Int32)), (6, .int (0 : Int32)), (5, .int v8), (4, .int v7), (0, .ref (ma 0)), (1, .int x1), (2, .int x2), (3, .int x3)]) hx hb dX2_unload_81 hl (by decide) rfl (fun ls hl => ?_)
      exact w_M_unload_L83 hx hb hr hml hown hts hlocks hA hK 1001 x2 x3 v7 v8 (0 : Int32) (0 : Int32) (s0, u.2.1, u.2.2.1, u.2.2.2.1, u.2.2.2.2.1, u.2.2.2.2.2.1, u.2.2.2.2.2.2.1, u.2.2.2.2.2.2.2.1, u.2.2.2.2.2.2.2.2.1, u.2.2.2.2.2.2.2.2.2.1, u.2.2.2.2.2.2.2.2.2.2.1, u.2.2.2.2.2.2.2.2.2.2.2.1, u.2.2.2.2.2.2.2.2.2.2.2.2.1, u.2.2.2.2.2.2.2.2.2.2.2.2.2.1, u.2.2.2.2.2.2.2.2.2.2.2.2.2.2.1, u.2.2.2.2.2.2.2.2.2.2.2.2.2.2.2.1, u.2.2.2.2.2.2.2.2.2.2.2.2.2.2.2.2.1, u.2.2.2.2.2.2.2.2.2.2.2.2.2.2.2.2.2) _ _ hF H locs ls hP hD hS (lv_sub hl [4, 6, 7, 3, 2, 1, 0] rfl)
    · replace hF := (if_pos c_10).symm.trans hF
      refine lv_iconst (v := (1 : Int32)) hx hb dX2_unload_73 (by decide +kernel) ?_
      refine lv_goto (tgt := 78) hx hb dX2_unload_74 (by decide) ?_
      refine lv_istore (lv' := [(6, .int (1 : Int32)), (5, .int v8), (4, .int v7), (0, .ref (ma 0)), (1, .int x1), (2, .int x2), (3, .int x3)]) hx hb dX2_unload_78 hl (by decide) rfl (fun ls hl => ?_)
      refine lv_iconst (v := (0 : Int32)) hx hb dX2_unload_80 (by decide +kernel) ?_
      refine lv_istore (lv' := [(7, .int (0 : Int32)), (6, .int (1 : Int32)), (5, .int v8), (4, .int v7), (0, .ref (ma 0)), (1, .int x1), (2, .int x2), (3, .int x3)]) hx hb dX2_unload_81 hl (by decide) rfl (fun ls hl => ?_)
      exact w_M_unload_L83 hx hb hr hml hown hts hlocks hA hK 1001 x2 x3 v7 v8 (1 : Int32) (0 : Int32) (s0, u.2.1, u.2.2.1, u.2.2.2.1, u.2.2.2.2.1, u.2.2.2.2.2.1, u.2.2.2.2.2.2.1, u.2.2.2.2.2.2.2.1, u.2.2.2.2.2.2.2.2.1, u.2.2.2.2.2.2.2.2.2.1, u.2.2.2.2.2.2.2.2.2.2.1, u.2.2.2.2.2.2.2.2.2.2.2.1, u.2.2.2.2.2.2.2.2.2.2.2.2.1, u.2.2.2.2.2.2.2.2.2.2.2.2.2.1, u.2.2.2.2.2.2.2.2.2.2.2.2.2.2.1, u.2.2.2.2.2.2.2.2.2.2.2.2.2.2.2.1, u.2.2.2.2.2.2.2.2.2.2.2.2.2.2.2.2.1, u.2.2.2.2.2.2.2.2.2.2.2.2.2.2.2.2.2) _ _ hF H locs ls hP hD hS (lv_sub hl [4, 6, 7, 3, 2, 1, 0] rfl)
  · replace hF := (if_neg c_5).symm.trans hF
    refine lv_iconst (v := (0 : Int32)) hx hb dX2_unload_42 (by decide +kernel) ?_
    cases hF
    refine W.widen (k := 0) (n := 0) (Nat.le_of_ble_eq_true rfl) (Nat.le_of_ble_eq_true rfl) ?_
    exact W.iret hx hb hr (fun t ht hW => ⟨⟨_, _, rfl, ⟨rfl, rfl⟩, by rw [ht]; exact hP, va_K.moved hW.alike hK, hD⟩, hS.F ht⟩) hS.2.2 dX2_unload_43
set_option maxHeartbeats 4000000 in
set_option maxRecDepth 100000 in
theorem w_M_unload_J19 {p : Program} {l : Launch} {e : Env} {s : State} {m : MethodId} {args : Array Value} {below : List Frame} {meth : Method} {c : Code} {A : Nat → Prop} {D : va_G} {cI cR : ClassId} {ma : Nat → Nat} (hx : p.tables.exec = Jvm.exec) (hb : c.code = cX2_unload) (hr : meth.sig.returnType = (some .int)) (hml : c.maxLocals = 9) (hown : s.vm.findClass RX2 = some m.cls) (hts : ∀ w ∈ wsX2_unload, w.before args s = true) (hlocks : meth.locks = false) (hA : ∀ q : Nat, s.heap.size ≤ q → A q) (hK : va_K D vwCl (TY cI cR) s) : ∀ (x1 x2 x3 : Int32) (u : MSt) (r : Int32) (u' : MSt), F_M_unload_J19 x1 x2 x3 u = some (r, u') → ∀ (H : Heap) (locs : List Loc) (ls : Array Slot), va_P D vwCl (MW cI ma u) H → va_D A (MW cI ma u) → va_S A s.heap H locs → lv_has ls 9 [(0, .ref (ma 0)), (1, .int x1), (2, .int x2), (3, .int x3)] → W p l e (headSpec wsX2_unload ({ frames := 4, cells := 0, slots := 0, locals := 94 })).room s m args below meth c H locs 0 0 (MQ below (QI D (TY cI cR) A (fun v => MW cI ma v) r u') args s 0 0 A) (F0 m 19 ls [.ref (ma 0)]) := by
  have hk_54 := (hts _ (cwc _ mw_335))
  have hk_29 := (hts _ (cwc _ mw_345))
  have hk_20 := (hts _ (cwc _ mw_342))
  have hk_35 := (hts _ (cwc _ mw_347))
  have hk_39 := (hts _ (cwc _ mw_348))
  have hk_42 := (hts _ (cwc _ mw_349))
  have hk_48 := (hts _ (cwc _ mw_351))
  have hk_26 := (hts _ (cwc _ mw_344))
  intro x1 x2 x3 u r u' hF H locs ls hP hD hS hl
  unfold F_M_unload_J19 at hF
  refine lv_iconst (v := (1 : Int32)) hx hb dX2_unload_19 (by decide +kernel) ?_
  refine lv_goto (tgt := 32) hx hb dX2_unload_20 (by decide) ?_
  exact w_M_unload_J32 hx hb hr hml hown hts hlocks hA hK x1 x2 x3 (1 : Int32) u _ _ hF H locs ls hP hD hS (lv_sub hl [0, 1, 2, 3] rfl)
set_option maxHeartbeats 4000000 in
set_option maxRecDepth 100000 in
theorem c_M_unload (l : Launch) (D : va_G) (cI cR : ClassId) (ma : Nat → Nat) (sz : Nat) (p1 : Int32) (p2 : Int32) (p3 : Int32) (u : MSt) (r : Int32) (u' : MSt) (hF : F_M_unload p1 p2 p3 u = some (r, u')) : Met l yX2_unload wsX2_unload ({ frames := 4, cells := 0, slots := 0, locals := 94 }) (va_Pc [.ref (ma 0), .int p1, .int p2, .int p3] (PRE D (TY cI cR) (MW cI ma u) sz)) (QI D (TY cI cR) (va_A (MW cI ma u) sz) (fun v => MW cI ma v) r u') 0 0 (va_A (MW cI ma u) sz) := by
  refine Met.ofW (cc := cX2_unload) (maxL := 9) (ret := (some .int)) (by decide) rfl ?_
  intro p e s m args below meth c s₁ B hml hv
  obtain ⟨rfl, hsz, hP, hK, hD0⟩ := hv
  have hx := B.exec
  have hb := B.bytes
  have hr := B.returns
  have hts := atoms_spec (ws := wsX2_unload) B.pre
  have hown : s.vm.findClass RX2 = some m.cls := findClass_of_methodNamed B.named
  have hlocks := B.notSynchronized
  subst hsz
  have hD := hD0.self (sz := s.heap.size)
  generalize hAe : va_A (MW cI ma u) s.heap.size = A at hD ⊢
  have hA : ∀ q : Nat, s.heap.size ≤ q → A q := fun q h => by rw [← hAe]; exact Or.inr h
  have hS : va_S A s.heap s.heap [] := va_S.rf
  replace hP : va_P D vwCl (MW cI ma u) s.heap := hP
  have hl := lv_entry ([.ref (ma 0), .int p1, .int p2, .int p3]) (n := 9) (Nat.le_of_ble_eq_true rfl)
  rw [lg_entry_eq]
  generalize (lg_sl ([.ref (ma 0), .int p1, .int p2, .int p3]) ++ List.replicate (9 - (lg_sl ([.ref (ma 0), .int p1, .int p2, .int p3])).length) Slot.unset).toArray = ls at hl ⊢
  replace hl : lv_has ls 9 [(0, .ref (ma 0)), (1, .int p1), (2, .int p2), (3, .int p3)] := hl
  have hk_54 := (hts _ (cwc _ mw_335))
  have hk_29 := (hts _ (cwc _ mw_345))
  have hk_20 := (hts _ (cwc _ mw_342))
  have hk_35 := (hts _ (cwc _ mw_347))
  have hk_39 := (hts _ (cwc _ mw_348))
  have hk_42 := (hts _ (cwc _ mw_349))
  have hk_48 := (hts _ (cwc _ mw_351))
  have hk_26 := (hts _ (cwc _ mw_344))
  unfold F_M_unload at hF
  refine (?_ : ∀ (H : Heap) (locs : List Loc), va_P D vwCl (MW cI ma u) H → va_S A s.heap H locs → W p l e _ s m _ below meth c H locs 0 0 _ (F0 m 0 ls [])) s.heap [] hP hS
  intro H locs hP hS
  refine lv_aload_n hx hb dX2_unload_0 rfl (lv_at hl 0 rfl) ?_
  refine lv_iload_n hx hb dX2_unload_1 rfl (lv_at hl 1 rfl) ?_
  refine lv_bipush (v := (16 : Int32)) hx hb dX2_unload_2 (by decide +kernel) ?_
  obtain ⟨r2, u1, hc_3, hF⟩ := bi_some hF
  refine kc_i (W1 := MW cI ma u) (va_runS (As := [.int p1, .int (16 : Int32)]) (rest := [.ref (ma 0)]) ⟨hx, hb, hml, hown, hts⟩ (c_M_in l D cI cR  H.size p1 (16 : Int32) () r2 u1 hc_3) (va_cwS 2 hts (gS cwc mw_380 mw_381 mw_3 mw_382) rfl rfl rfl (by decide +kernel) ⟨(Nat.le_of_ble_eq_true rfl), (Nat.le_of_ble_eq_true rfl)⟩) (kp_S hK hP hD (sb_nil _)) rfl rfl hl.1 rfl (lv_room (Nat.le_of_ble_eq_true rfl)) dX2_unload_4 ⟨(Nat.le_of_ble_eq_true rfl), (Nat.le_of_ble_eq_true rfl)⟩) hP hD hS hA (sb_nil _) (jn_nil _) (fun H locs hP hD hS => ?_)
  refine lv_if_eq (tgt := 19) hx hb dX2_unload_7 (by decide) (fun c_4 => ?_) (fun c_4 => ?_)
  · replace hF := (if_pos c_4).symm.trans hF
    exact w_M_unload_J19 hx hb hr hml hown hts hlocks hA hK p1 p2 p3 u _ _ hF H locs ls hP hD hS (lv_sub hl [0, 1, 2, 3] rfl)
  · replace hF := (if_neg c_4).symm.trans hF
    refine lv_iload_n hx hb dX2_unload_10 rfl (lv_at hl 2 rfl) ?_
    refine lv_bipush (v := (8 : Int32)) hx hb dX2_unload_11 (by decide +kernel) ?_
    obtain ⟨r38, u37, hc_39, hF⟩ := bi_some hF
    refine kc_i (W1 := MW cI ma u) (va_runS (As := [.int p2, .int (8 : Int32)]) (rest := [.ref (ma 0)]) ⟨hx, hb, hml, hown, hts⟩ (c_M_in l D cI cR  H.size p2 (8 : Int32) () r38 u37 hc_39) (va_cwS 2 hts (gS cwc mw_380 mw_381 mw_3 mw_382) rfl rfl rfl (by decide +kernel) ⟨(Nat.le_of_ble_eq_true rfl), (Nat.le_of_ble_eq_true rfl)⟩) (kp_S hK hP hD (sb_nil _)) rfl rfl hl.1 rfl (lv_room (Nat.le_of_ble_eq_true rfl)) dX2_unload_13 ⟨(Nat.le_of_ble_eq_true rfl), (Nat.le_of_ble_eq_true rfl)⟩) hP hD hS hA (sb_nil _) (jn_nil _) (fun H locs hP hD hS => ?_)
    refine lv_if_ne (tgt := 23) hx hb dX2_unload_16 (by decide) (fun c_40 => ?_) (fun c_40 => ?_)
    · replace hF := (if_neg c_40).symm.trans hF
      refine lv_iload_n hx hb dX2_unload_23 rfl (lv_at hl 3 rfl) ?_
      refine lv_if_ge (tgt := 31) hx hb dX2_unload_24 (by decide) (fun c_41 => ?_) (fun c_41 => ?_)
      · replace hF := (if_pos c_41).symm.trans hF
        refine lv_iconst (v := (0 : Int32)) hx hb dX2_unload_31 (by decide +kernel) ?_
        exact w_M_unload_J32 hx hb hr hml hown hts hlocks hA hK p1 p2 p3 (0 : Int32) u _ _ hF H locs ls hP hD hS (lv_sub hl [0, 1, 2, 3] rfl)
      · replace hF := (if_neg c_41).symm.trans hF
        refine lv_iconst (v := (2 : Int32)) hx hb dX2_unload_27 (by decide +kernel) ?_
        refine lv_goto (tgt := 32) hx hb dX2_unload_28 (by decide) ?_
        exact w_M_unload_J32 hx hb hr hml hown hts hlocks hA hK p1 p2 p3 (2 : Int32) u _ _ hF H locs ls hP hD hS (lv_sub hl [0, 1, 2, 3] rfl)
    · replace hF := (if_pos c_40).symm.trans hF
      exact w_M_unload_J19 hx hb hr hml hown hts hlocks hA hK p1 p2 p3 u _ _ hF H locs ls hP hD hS (lv_sub hl [0, 1, 2, 3] rfl)
def F_M_pour_L89 : Nat → Int32 → Int32 → MSt → Option ((Unit) × MSt)
  | 0, _, _, _ => none
  | n + 1, x1, x2, u => (if u.1 = (0 : Int32) then gd (inb ((32 : Int32) + x2) 49) ((if (u.2.2.2.2.2.2.2.2.2.2.2.2.1 ((32 : Int32) + x2).toNatClampNeg) ≤ (0 : Int32) then some ((), u) else bi (F_M_move ((32 : Int32) + x2) ((32 : Int32) + x1) u) (fun r11 u10 => F_M_pour_L89 n x1 x2 u10))) else some ((), u))
def F_M_pour_J23 (x1 x2 s0 : Int32) (u : MSt) : Option ((Unit) × MSt) := (if s0 = (0 : Int32) then F_M_pour_L89 1001 x1 x2 ((1 : Int32), u.2.1, u.2.2.1, u.2.2.2.1, u.2.2.2.2.1, u.2.2.2.2.2.1, u.2.2.2.2.2.2.1, u.2.2.2.2.2.2.2.1, u.2.2.2.2.2.2.2.2.1, u.2.2.2.2.2.2.2.2.2.1, u.2.2.2.2.2.2.2.2.2.2.1, u.2.2.2.2.2.2.2.2.2.2.2.1, u.2.2.2.2.2.2.2.2.2.2.2.2.1, u.2.2.2.2.2.2.2.2.2.2.2.2.2.1, u.2.2.2.2.2.2.2.2.2.2.2.2.2.2.1, u.2.2.2.2.2.2.2.2.2.2.2.2.2.2.2.1, u.2.2.2.2.2.2.2.2.2.2.2.2.2.2.2.2.1, u.2.2.2.2.2.2.2.2.2.2.2.2.2.2.2.2.2) else (if x1 = x2 then F_M_pour_L89 1001 x1 x2 ((2 : Int32), u.2.1, u.2.2.1, u.2.2.2.1, u.2.2.2.2.1, u.2.2.2.2.2.1, u.2.2.2.2.2.2.1, u.2.2.2.2.2.2.2.1, u.2.2.2.2.2.2.2.2.1, u.2.2.2.2.2.2.2.2.2.1, u.2.2.2.2.2.2.2.2.2.2.1, u.2.2.2.2.2.2.2.2.2.2.2.1, u.2.2.2.2.2.2.2.2.2.2.2.2.1, u.2.2.2.2.2.2.2.2.2.2.2.2.2.1, u.2.2.2.2.2.2.2.2.2.2.2.2.2.2.1, u.2.2.2.2.2.2.2.2.2.2.2.2.2.2.2.1, u.2.2.2.2.2.2.2.2.2.2.2.2.2.2.2.2.1, u.2.2.2.2.2.2.2.2.2.2.2.2.2.2.2.2.2) else gd (inb x1 16) (gd (inb x2 16) ((if (u.2.2.2.2.2.2.2.2.2.2.1 x1.toNatClampNeg) = (u.2.2.2.2.2.2.2.2.2.2.1 x2.toNatClampNeg) then gd (inb ((32 : Int32) + x1) 49) (gd (inb ((32 : Int32) + x2) 49) (gd (inb x1 16) ((if ((u.2.2.2.2.2.2.2.2.2.2.2.2.1 ((32 : Int32) + x1).toNatClampNeg) + (u.2.2.2.2.2.2.2.2.2.2.2.2.1 ((32 : Int32) + x2).toNatClampNeg)) ≤ (u.2.2.2.2.2.2.2.2.2.2.2.1 x1.toNatClampNeg) then F_M_pour_L89 1001 x1 x2 ((0 : Int32), u.2.1, u.2.2.1, u.2.2.2.1, u.2.2.2.2.1, u.2.2.2.2.2.1, u.2.2.2.2.2.2.1, u.2.2.2.2.2.2.2.1, u.2.2.2.2.2.2.2.2.1, u.2.2.2.2.2.2.2.2.2.1, u.2.2.2.2.2.2.2.2.2.2.1, u.2.2.2.2.2.2.2.2.2.2.2.1, u.2.2.2.2.2.2.2.2.2.2.2.2.1, u.2.2.2.2.2.2.2.2.2.2.2.2.2.1, u.2.2.2.2.2.2.2.2.2.2.2.2.2.2.1, u.2.2.2.2.2.2.2.2.2.2.2.2.2.2.2.1, u.2.2.2.2.2.2.2.2.2.2.2.2.2.2.2.2.1, u.2.2.2.2.2.2.2.2.2.2.2.2.2.2.2.2.2) else F_M_pour_L89 1001 x1 x2 ((2 : Int32), u.2.1, u.2.2.1, u.2.2.2.1, u.2.2.2.2.1, u.2.2.2.2.2.1, u.2.2.2.2.2.2.1, u.2.2.2.2.2.2.2.1, u.2.2.2.2.2.2.2.2.1, u.2.2.2.2.2.2.2.2.2.1, u.2.2.2.2.2.2.2.2.2.2.1, u.2.2.2.2.2.2.2.2.2.2.2.1, u.2.2.2.2.2.2.2.2.2.2.2.2.1, u.2.2.2.2.2.2.2.2.2.2.2.2.2.1, u.2.2.2.2.2.2.2.2.2.2.2.2.2.2.1, u.2.2.2.2.2.2.2.2.2.2.2.2.2.2.2.1, u.2.2.2.2.2.2.2.2.2.2.2.2.2.2.2.2.1, u.2.2.2.2.2.2.2.2.2.2.2.2.2.2.2.2.2))))) else F_M_pour_L89 1001 x1 x2 ((2 : Int32), u.2.1, u.2.2.1, u.2.2.2.1, u.2.2.2.2.1, u.2.2.2.2.2.1, u.2.2.2.2.2.2.1, u.2.2.2.2.2.2.2.1, u.2.2.2.2.2.2.2.2.1, u.2.2.2.2.2.2.2.2.2.1, u.2.2.2.2.2.2.2.2.2.2.1, u.2.2.2.2.2.2.2.2.2.2.2.1, u.2.2.2.2.2.2.2.2.2.2.2.2.1, u.2.2.2.2.2.2.2.2.2.2.2.2.2.1, u.2.2.2.2.2.2.2.2.2.2.2.2.2.2.1, u.2.2.2.2.2.2.2.2.2.2.2.2.2.2.2.1, u.2.2.2.2.2.2.2.2.2.2.2.2.2.2.2.2.1, u.2.2.2.2.2.2.2.2.2.2.2.2.2.2.2.2.2))))))
def F_M_pour_J22 (x1 x2 : Int32) (u : MSt) : Option ((Unit) × MSt) := F_M_pour_J23 x1 x2 (0 : Int32) u
def F_M_pour (p1 : Int32) (p2 : Int32) (u : MSt) : Option ((Unit) × MSt) := bi (F_M_in p1 (16 : Int32) ()) (fun r2 u1 => (if r2 = (0 : Int32) then F_M_pour_J22 p1 p2 u else bi (F_M_in p2 (16 : Int32) ()) (fun r21 u20 => (if r21 = (0 : Int32) then F_M_pour_J22 p1 p2 u else F_M_pour_J23 p1 p2 (1 : Int32) u))))
set_option maxHeartbeats 4000000 in
set_option maxRecDepth 100000 in
theorem w_M_pour_L89 {p : Program} {l : Launch} {e : Env} {s : State} {m : MethodId} {args : Array Value} {below : List Frame} {meth : Method} {c : Code} {A : Nat → Prop} {D : va_G} {cI cR : ClassId} {ma : Nat → Nat} (hx : p.tables.exec = Jvm.exec) (hb : c.code = cX2_pour) (hr : meth.sig.returnType = none) (hml : c.maxLocals = 4) (hown : s.vm.findClass RX2 = some m.cls) (hts : ∀ w ∈ wsX2_pour, w.before args s = true) (hlocks : meth.locks = false) (hA : ∀ q : Nat, s.heap.size ≤ q → A q) (hK : va_K D vwCl (TY cI cR) s) : ∀ (n : Nat) (x1 x2 : Int32) (u : MSt) (r : Unit) (u' : MSt), F_M_pour_L89 n x1 x2 u = some (r, u') → ∀ (H : Heap) (locs : List Loc) (ls : Array Slot), va_P D vwCl (MW cI ma u) H → va_D A (MW cI ma u) → va_S A s.heap H locs → lv_has ls 4 [(0, .ref (ma 0)), (1, .int x1), (2, .int x2)] → W p l e (headSpec wsX2_pour ({ frames := 4, cells := 0, slots := 0, locals := 94 })).room s m args below meth c H locs 0 0 (MQ below (QV D (TY cI cR) A (fun v => MW cI ma v) u') args s 0 0 A) (F0 m 89 ls []) := by
  have hk_54 := (hts _ (cwc _ mw_335))
  have hk_35 := (hts _ (cwc _ mw_347))
  have hk_29 := (hts _ (cwc _ mw_345))
  have hk_32 := (hts _ (cwc _ mw_346))
  intro n
  induction n with
  | zero =>
    intro x1 x2 u r u' hF
    rw [F_M_pour_L89] at hF
    exact absurd hF (by simp)
  | succ n ih =>
    intro x1 x2 u r u' hF H locs ls hP hD hS hl
    rw [F_M_pour_L89] at hF
    refine lv_aload_n hx hb dX2_pour_89 rfl (lv_at hl 0 rfl) ?_
    refine va_get (D := D) (ci := 2) (v := .int u.1) (C := RX2) (T := TX2) (N := 18) hx hb hts (fun w h => cwc w (in_X2 w h)) hown hK hP 0 rfl rfl 0 (by decide) hk_54 (fun _ h9 => h9) rfl dX2_pour_90 ?_
    refine lv_if_ne (tgt := 123) hx hb dX2_pour_93 (by decide) (fun c_7 => ?_) (fun c_7 => ?_)
    · replace hF := (if_neg c_7).symm.trans hF
      cases hF
      refine W.widen (k := 0) (n := 0) (Nat.le_of_ble_eq_true rfl) (Nat.le_of_ble_eq_true rfl) ?_
      exact W.vret hx hb hr (fun t ht hW => ⟨⟨_, rfl, rfl, by rw [ht]; exact hP, va_K.moved hW.alike hK, hD⟩, hS.F ht⟩) hS.2.2 dX2_pour_123
    · replace hF := (if_pos c_7).symm.trans hF
      refine lv_aload_n hx hb dX2_pour_96 rfl (lv_at hl 0 rfl) ?_
      refine va_get (D := D) (ci := 2) (v := .ref (ma 8)) (C := RX2) (T := TX2) (N := 18) hx hb hts (fun w h => cwc w (in_X2 w h)) hown hK hP 0 rfl rfl 12 (by decide) hk_35 (fun _ h9 => h9) rfl dX2_pour_97 ?_
      refine lv_bipush (v := (32 : Int32)) hx hb dX2_pour_100 (by decide +kernel) ?_
      refine lv_iload_n hx hb dX2_pour_102 rfl (lv_at hl 2 rfl) ?_
      refine lv_iadd hx hb dX2_pour_103 ?_
      obtain ⟨h_8, hF⟩ := gd_some hF
      refine va_iald (f := u.2.2.2.2.2.2.2.2.2.2.2.2.1) hx hb hK hP 8 0 rfl rfl (inb_in h_8) dX2_pour_104 ?_
      refine lv_if_le (tgt := 123) hx hb dX2_pour_105 (by decide) (fun c_9 => ?_) (fun c_9 => ?_)
      · replace hF := (if_pos c_9).symm.trans hF
        cases hF
        refine W.widen (k := 0) (n := 0) (Nat.le_of_ble_eq_true rfl) (Nat.le_of_ble_eq_true rfl) ?_
        exact W.vret hx hb hr (fun t ht hW => ⟨⟨_, rfl, rfl, by rw [ht]; exact hP, va_K.moved hW.alike hK, hD⟩, hS.F ht⟩) hS.2.2 dX2_pour_123
      · replace hF := (if_neg c_9).symm.trans hF
        refine lv_aload_n hx hb dX2_pour_108 rfl (lv_at hl 0 rfl) ?_
        refine lv_bipush (v := (32 : Int32)) hx hb dX2_pour_109 (by decide +kernel) ?_
        refine lv_iload_n hx hb dX2_pour_111 rfl (lv_at hl 2 rfl) ?_
        refine lv_iadd hx hb dX2_pour_112 ?_
        refine lv_bipush (v := (32 : Int32)) hx hb dX2_pour_113 (by decide +kernel) ?_
        refine lv_iload_n hx hb dX2_pour_115 rfl (lv_at hl 1 rfl) ?_
        refine lv_iadd hx hb dX2_pour_116 ?_
        obtain ⟨r11, u10, hc_12, hF⟩ := bi_some hF
        refine kc_v (W1 := MW cI ma u10) (va_runV (As := [.int ((32 : Int32) + x2), .int ((32 : Int32) + x1)]) (rest := []) ⟨hx, hb, hml, hown, hts⟩ (c_M_move l D cI cR ma H.size ((32 : Int32) + x2) ((32 : Int32) + x1) u r11 u10 hc_12) (cwV 2 hts (gV cwc mw_420 mw_421 mw_489 mw_3 mw_422) rfl rfl rfl (by decide +kernel) ⟨(Nat.le_of_ble_eq_true rfl), (Nat.le_of_ble_eq_true rfl)⟩) (kp_V (ci := 2) (q := (RX2, TX2, 18)) hK hP hD (sb_id _) rfl rfl) rfl rfl hl.1 rfl (lv_room (Nat.le_of_ble_eq_true rfl)) dX2_pour_117 ⟨(Nat.le_of_ble_eq_true rfl), (Nat.le_of_ble_eq_true rfl)⟩) hP hD hS hA (sb_id _) (jn_id rfl) (fun H locs hP hD hS => ?_)
        refine lv_goto (tgt := 89) hx hb dX2_pour_120 (by decide) ?_
        exact ih x1 x2 u10 _ _ hF H locs ls hP hD hS (lv_sub hl [0, 1, 2] rfl)
set_option maxHeartbeats 4000000 in
set_option maxRecDepth 100000 in
theorem w_M_pour_J23 {p : Program} {l : Launch} {e : Env} {s : State} {m : MethodId} {args : Array Value} {below : List Frame} {meth : Method} {c : Code} {A : Nat → Prop} {D : va_G} {cI cR : ClassId} {ma : Nat → Nat} (hx : p.tables.exec = Jvm.exec) (hb : c.code = cX2_pour) (hr : meth.sig.returnType = none) (hml : c.maxLocals = 4) (hown : s.vm.findClass RX2 = some m.cls) (hts : ∀ w ∈ wsX2_pour, w.before args s = true) (hlocks : meth.locks = false) (hA : ∀ q : Nat, s.heap.size ≤ q → A q) (hK : va_K D vwCl (TY cI cR) s) : ∀ (x1 x2 s0 : Int32) (u : MSt) (r : Unit) (u' : MSt), F_M_pour_J23 x1 x2 s0 u = some (r, u') → ∀ (H : Heap) (locs : List Loc) (ls : Array Slot), va_P D vwCl (MW cI ma u) H → va_D A (MW cI ma u) → va_S A s.heap H locs → lv_has ls 4 [(0, .ref (ma 0)), (1, .int x1), (2, .int x2)] → W p l e (headSpec wsX2_pour ({ frames := 4, cells := 0, slots := 0, locals := 94 })).room s m args below meth c H locs 0 0 (MQ below (QV D (TY cI cR) A (fun v => MW cI ma v) u') args s 0 0 A) (F0 m 23 ls [.int s0]) := by
  have hk_54 := (hts _ (cwc _ mw_335))
  have hk_35 := (hts _ (cwc _ mw_347))
  have hk_29 := (hts _ (cwc _ mw_345))
  have hk_32 := (hts _ (cwc _ mw_346))
  intro x1 x2 s0 u r u' hF H locs ls hP hD hS hl
  unfold F_M_pour_J23 at hF
  refine lv_istore_n (lv' := [(3, .int s0), (0, .ref (ma 0)), (1, .int x1), (2, .int x2)]) hx hb dX2_pour_23 rfl hl (by decide) rfl (fun ls hl => ?_)
  refine lv_aload_n hx hb dX2_pour_24 rfl (lv_at hl 1 rfl) ?_
  refine lv_iload_n hx hb dX2_pour_25 rfl (lv_at hl 0 rfl) ?_
  refine lv_if_ne (tgt := 33) hx hb dX2_pour_26 (by decide) (fun c_5 => ?_) (fun c_5 => ?_)
  · replace hF := (if_neg c_5).symm.trans hF
    refine lv_iload_n hx hb dX2_pour_33 rfl (lv_at hl 2 rfl) ?_
    refine lv_iload_n hx hb dX2_pour_34 rfl (lv_at hl 3 rfl) ?_
    refine lv_icmp_eq (tgt := 81) hx hb dX2_pour_35 (by decide) (fun c_6 => ?_) (fun c_6 => ?_)
    · replace hF := (if_pos c_6).symm.trans hF
      refine lv_iconst (v := (2 : Int32)) hx hb dX2_pour_81 (by decide +kernel) ?_
      refine lv_goto (tgt := 86) hx hb dX2_pour_82 (by decide) ?_
      refine va_put (D := D) (ci := 2) (v := .int (2 : Int32)) (ty := .int) (C := RX2) (T := TX2) (N := 18) hx hb hts (fun w h => cwc w (in_X2 w h)) tyX2 tyX2_ok nmX2 hown hK hP hD hS 0 rfl rfl 0 (by decide) hk_54 (fun _ h9 => h9) rfl (by decide +kernel) rfl rfl (Nat.le_of_ble_eq_true rfl) dX2_pour_86 (fun H locs hP hD hS => ?_)
      replace hP : va_P D vwCl (MW cI ma ((2 : Int32), u.2.1, u.2.2.1, u.2.2.2.1, u.2.2.2.2.1, u.2.2.2.2.2.1, u.2.2.2.2.2.2.1, u.2.2.2.2.2.2.2.1, u.2.2.2.2.2.2.2.2.1, u.2.2.2.2.2.2.2.2.2.1, u.2.2.2.2.2.2.2.2.2.2.1, u.2.2.2.2.2.2.2.2.2.2.2.1, u.2.2.2.2.2.2.2.2.2.2.2.2.1, u.2.2.2.2.2.2.2.2.2.2.2.2.2.1, u.2.2.2.2.2.2.2.2.2.2.2.2.2.2.1, u.2.2.2.2.2.2.2.2.2.2.2.2.2.2.2.1, u.2.2.2.2.2.2.2.2.2.2.2.2.2.2.2.2.1, u.2.2.2.2.2.2.2.2.2.2.2.2.2.2.2.2.2)) H := hP
      replace hD : va_D A (MW cI ma ((2 : Int32), u.2.1, u.2.2.1, u.2.2.2.1, u.2.2.2.2.1, u.2.2.2.2.2.1, u.2.2.2.2.2.2.1, u.2.2.2.2.2.2.2.1, u.2.2.2.2.2.2.2.2.1, u.2.2.2.2.2.2.2.2.2.1, u.2.2.2.2.2.2.2.2.2.2.1, u.2.2.2.2.2.2.2.2.2.2.2.1, u.2.2.2.2.2.2.2.2.2.2.2.2.1, u.2.2.2.2.2.2.2.2.2.2.2.2.2.1, u.2.2.2.2.2.2.2.2.2.2.2.2.2.2.1, u.2.2.2.2.2.2.2.2.2.2.2.2.2.2.2.1, u.2.2.2.2.2.2.2.2.2.2.2.2.2.2.2.2.1, u.2.2.2.2.2.2.2.2.2.2.2.2.2.2.2.2.2)) := hD
      exact w_M_pour_L89 hx hb hr hml hown hts hlocks hA hK 1001 x1 x2 ((2 : Int32), u.2.1, u.2.2.1, u.2.2.2.1, u.2.2.2.2.1, u.2.2.2.2.2.1, u.2.2.2.2.2.2.1, u.2.2.2.2.2.2.2.1, u.2.2.2.2.2.2.2.2.1, u.2.2.2.2.2.2.2.2.2.1, u.2.2.2.2.2.2.2.2.2.2.1, u.2.2.2.2.2.2.2.2.2.2.2.1, u.2.2.2.2.2.2.2.2.2.2.2.2.1, u.2.2.2.2.2.2.2.2.2.2.2.2.2.1, u.2.2.2.2.2.2.2.2.2.2.2.2.2.2.1, u.2.2.2.2.2.2.2.2.2.2.2.2.2.2.2.1, u.2.2.2.2.2.2.2.2.2.2.2.2.2.2.2.2.1, u.2.2.2.2.2.2.2.2.2.2.2.2.2.2.2.2.2) _ _ hF H locs ls hP hD hS (lv_sub hl [1, 2, 3] rfl)
    · replace hF := (if_neg c_6).symm.trans hF
      refine lv_aload_n hx hb dX2_pour_38 rfl (lv_at hl 1 rfl) ?_
      refine va_get (D := D) (ci := 2) (v := .ref (ma 6)) (C := RX2) (T := TX2) (N := 18) hx hb hts (fun w h => cwc w (in_X2 w h)) hown hK hP 0 rfl rfl 10 (by decide) hk_29 (fun _ h9 => h9) rfl dX2_pour_39 ?_
      refine lv_iload_n hx hb dX2_pour_42 rfl (lv_at hl 2 rfl) ?_
      obtain ⟨h_13, hF⟩ := gd_some hF
      refine va_iald (f := u.2.2.2.2.2.2.2.2.2.2.1) hx hb hK hP 6 0 rfl rfl (inb_in h_13) dX2_pour_43 ?_
      refine lv_aload_n hx hb dX2_pour_44 rfl (lv_at hl 1 rfl) ?_
      refine va_get (D := D) (ci := 2) (v := .ref (ma 6)) (C := RX2) (T := TX2) (N := 18) hx hb hts (fun w h => cwc w (in_X2 w h)) hown hK hP 0 rfl rfl 10 (by decide) hk_29 (fun _ h9 => h9) rfl dX2_pour_45 ?_
      refine lv_iload_n hx hb dX2_pour_48 rfl (lv_at hl 3 rfl) ?_
      obtain ⟨h_14, hF⟩ := gd_some hF
      refine va_iald (f := u.2.2.2.2.2.2.2.2.2.2.1) hx hb hK hP 6 0 rfl rfl (inb_in h_14) dX2_pour_49 ?_
      refine lv_icmp_ne (tgt := 81) hx hb dX2_pour_50 (by decide) (fun c_15 => ?_) (fun c_15 => ?_)
      · replace hF := (if_neg c_15).symm.trans hF
        refine lv_iconst (v := (2 : Int32)) hx hb dX2_pour_81 (by decide +kernel) ?_
        refine lv_goto (tgt := 86) hx hb dX2_pour_82 (by decide) ?_
        refine va_put (D := D) (ci := 2) (v := .int (2 : Int32)) (ty := .int) (C := RX2) (T := TX2) (N := 18) hx hb hts (fun w h => cwc w (in_X2 w h)) tyX2 tyX2_ok nmX2 hown hK hP hD hS 0 rfl rfl 0 (by decide) hk_54 (fun _ h9 => h9) rfl (by decide +kernel) rfl rfl (Nat.le_of_ble_eq_true rfl) dX2_pour_86 (fun H locs hP hD hS => ?_)
        replace hP : va_P D vwCl (MW cI ma ((2 : Int32), u.2.1, u.2.2.1, u.2.2.2.1, u.2.2.2.2.1, u.2.2.2.2.2.1, u.2.2.2.2.2.2.1, u.2.2.2.2.2.2.2.1, u.2.2.2.2.2.2.2.2.1, u.2.2.2.2.2.2.2.2.2.1, u.2.2.2.2.2.2.2.2.2.2.1, u.2.2.2.2.2.2.2.2.2.2.2.1, u.2.2.2.2.2.2.2.2.2.2.2.2.1, u.2.2.2.2.2.2.2.2.2.2.2.2.2.1, u.2.2.2.2.2.2.2.2.2.2.2.2.2.2.1, u.2.2.2.2.2.2.2.2.2.2.2.2.2.2.2.1, u.2.2.2.2.2.2.2.2.2.2.2.2.2.2.2.2.1, u.2.2.2.2.2.2.2.2.2.2.2.2.2.2.2.2.2)) H := hP
        replace hD : va_D A (MW cI ma ((2 : Int32), u.2.1, u.2.2.1, u.2.2.2.1, u.2.2.2.2.1, u.2.2.2.2.2.1, u.2.2.2.2.2.2.1, u.2.2.2.2.2.2.2.1, u.2.2.2.2.2.2.2.2.1, u.2.2.2.2.2.2.2.2.2.1, u.2.2.2.2.2.2.2.2.2.2.1, u.2.2.2.2.2.2.2.2.2.2.2.1, u.2.2.2.2.2.2.2.2.2.2.2.2.1, u.2.2.2.2.2.2.2.2.2.2.2.2.2.1, u.2.2.2.2.2.2.2.2.2.2.2.2.2.2.1, u.2.2.2.2.2.2.2.2.2.2.2.2.2.2.2.1, u.2.2.2.2.2.2.2.2.2.2.2.2.2.2.2.2.1, u.2.2.2.2.2.2.2.2.2.2.2.2.2.2.2.2.2)) := hD
        exact w_M_pour_L89 hx hb hr hml hown hts hlocks hA hK 1001 x1 x2 ((2 : Int32), u.2.1, u.2.2.1, u.2.2.2.1, u.2.2.2.2.1, u.2.2.2.2.2.1, u.2.2.2.2.2.2.1, u.2.2.2.2.2.2.2.1, u.2.2.2.2.2.2.2.2.1, u.2.2.2.2.2.2.2.2.2.1, u.2.2.2.2.2.2.2.2.2.2.1, u.2.2.2.2.2.2.2.2.2.2.2.1, u.2.2.2.2.2.2.2.2.2.2.2.2.1, u.2.2.2.2.2.2.2.2.2.2.2.2.2.1, u.2.2.2.2.2.2.2.2.2.2.2.2.2.2.1, u.2.2.2.2.2.2.2.2.2.2.2.2.2.2.2.1, u.2.2.2.2.2.2.2.2.2.2.2.2.2.2.2.2.1, u.2.2.2.2.2.2.2.2.2.2.2.2.2.2.2.2.2) _ _ hF H locs ls hP hD hS (lv_sub hl [1, 2, 3] rfl)
      · replace hF := (if_pos c_15).symm.trans hF
        refine lv_aload_n hx hb dX2_pour_53 rfl (lv_at hl 1 rfl) ?_
        refine va_get (D := D) (ci := 2) (v := .ref (ma 8)) (C := RX2) (T := TX2) (N := 18) hx hb hts (fun w h => cwc w (in_X2 w h)) hown hK hP 0 rfl rfl 12 (by decide) hk_35 (fun _ h9 => h9) rfl dX2_pour_54 ?_
        refine lv_bipush (v := (32 : Int32)) hx hb dX2_pour_57 (by decide +kernel) ?_
        refine lv_iload_n hx hb dX2_pour_59 rfl (lv_at hl 2 rfl) ?_
        refine lv_iadd hx hb dX2_pour_60 ?_
        obtain ⟨h_16, hF⟩ := gd_some hF
        refine va_iald (f := u.2.2.2.2.2.2.2.2.2.2.2.2.1) hx hb hK hP 8 0 rfl rfl (inb_in h_16) dX2_pour_61 ?_
        refine lv_aload_n hx hb dX2_pour_62 rfl (lv_at hl 1 rfl) ?_
        refine va_get (D := D) (ci := 2) (v := .ref (ma 8)) (C := RX2) (T := TX2) (N := 18) hx hb hts (fun w h => cwc w (in_X2 w h)) hown hK hP 0 rfl rfl 12 (by decide) hk_35 (fun _ h9 => h9) rfl dX2_pour_63 ?_
        refine lv_bipush (v := (32 : Int32)) hx hb dX2_pour_66 (by decide +kernel) ?_
        refine lv_iload_n hx hb dX2_pour_68 rfl (lv_at hl 3 rfl) ?_
        refine lv_iadd hx hb dX2_pour_69 ?_
        obtain ⟨h_17, hF⟩ := gd_some hF
        refine va_iald (f := u.2.2.2.2.2.2.2.2.2.2.2.2.1) hx hb hK hP 8 0 rfl rfl (inb_in h_17) dX2_pour_70 ?_
        refine lv_iadd hx hb dX2_pour_71 ?_
        refine lv_aload_n hx hb dX2_pour_72 rfl (lv_at hl 1 rfl) ?_
        refine va_get (D := D) (ci := 2) (v := .ref (ma 7)) (C := RX2) (T := TX2) (N := 18) hx hb hts (fun w h => cwc w (in_X2 w h)) hown hK hP 0 rfl rfl 11 (by decide) hk_32 (fun _ h9 => h9) rfl dX2_pour_73 ?_
        refine lv_iload_n hx hb dX2_pour_76 rfl (lv_at hl 2 rfl) ?_
        obtain ⟨h_18, hF⟩ := gd_some hF
        refine va_iald (f := u.2.2.2.2.2.2.2.2.2.2.2.1) hx hb hK hP 7 0 rfl rfl (inb_in h_18) dX2_pour_77 ?_
        refine lv_icmp_le (tgt := 85) hx hb dX2_pour_78 (by decide) (fun c_19 => ?_) (fun c_19 => ?_)
        · replace hF := (if_pos c_19).symm.trans hF
          refine lv_iconst (v := (0 : Int32)) hx hb dX2_pour_85 (by decide +kernel) ?_
          refine va_put (D := D) (ci := 2) (v := .int (0 : Int32)) (ty := .int) (C := RX2) (T := TX2) (N := 18) hx hb hts (fun w h => cwc w (in_X2 w h)) tyX2 tyX2_ok nmX2 hown hK hP hD hS 0 rfl rfl 0 (by decide) hk_54 (fun _ h9 => h9) rfl (by decide +kernel) rfl rfl (Nat.le_of_ble_eq_true rfl) dX2_pour_86 (fun H locs hP hD hS => ?_)
          replace hP : va_P D vwCl (MW cI ma ((0 : Int32), u.2.1, u.2.2.1, u.2.2.2.1, u.2.2.2.2.1, u.2.2.2.2.2.1, u.2.2.2.2.2.2.1, u.2.2.2.2.2.2.2.1, u.2.2.2.2.2.2.2.2.1, u.2.2.2.2.2.2.2.2.2.1, u.2.2.2.2.2.2.2.2.2.2.1, u.2.2.2.2.2.2.2.2.2.2.2.1, u.2.2.2.2.2.2.2.2.2.2.2.2.1, u.2.2.2.2.2.2.2.2.2.2.2.2.2.1, u.2.2.2.2.2.2.2.2.2.2.2.2.2.2.1, u.2.2.2.2.2.2.2.2.2.2.2.2.2.2.2.1, u.2.2.2.2.2.2.2.2.2.2.2.2.2.2.2.2.1, u.2.2.2.2.2.2.2.2.2.2.2.2.2.2.2.2.2)) H := hP
          replace hD : va_D A (MW cI ma ((0 : Int32), u.2.1, u.2.2.1, u.2.2.2.1, u.2.2.2.2.1, u.2.2.2.2.2.1, u.2.2.2.2.2.2.1, u.2.2.2.2.2.2.2.1, u.2.2.2.2.2.2.2.2.1, u.2.2.2.2.2.2.2.2.2.1, u.2.2.2.2.2.2.2.2.2.2.1, u.2.2.2.2.2.2.2.2.2.2.2.1, u.2.2.2.2.2.2.2.2.2.2.2.2.1, u.2.2.2.2.2.2.2.2.2.2.2.2.2.1, u.2.2.2.2.2.2.2.2.2.2.2.2.2.2.1, u.2.2.2.2.2.2.2.2.2.2.2.2.2.2.2.1, u.2.2.2.2.2.2.2.2.2.2.2.2.2.2.2.2.1, u.2.2.2.2.2.2.2.2.2.2.2.2.2.2.2.2.2)) := hD
          exact w_M_pour_L89 hx hb hr hml hown hts hlocks hA hK 1001 x1 x2 ((0 : Int32), u.2.1, u.2.2.1, u.2.2.2.1, u.2.2.2.2.1, u.2.2.2.2.2.1, u.2.2.2.2.2.2.1, u.2.2.2.2.2.2.2.1, u.2.2.2.2.2.2.2.2.1, u.2.2.2.2.2.2.2.2.2.1, u.2.2.2.2.2.2.2.2.2.2.1, u.2.2.2.2.2.2.2.2.2.2.2.1, u.2.2.2.2.2.2.2.2.2.2.2.2.1, u.2.2.2.2.2.2.2.2.2.2.2.2.2.1, u.2.2.2.2.2.2.2.2.2.2.2.2.2.2.1, u.2.2.2.2.2.2.2.2.2.2.2.2.2.2.2.1, u.2.2.2.2.2.2.2.2.2.2.2.2.2.2.2.2.1, u.2.2.2.2.2.2.2.2.2.2.2.2.2.2.2.2.2) _ _ hF H locs ls hP hD hS (lv_sub hl [1, 2, 3] rfl)
        · replace hF := (if_neg c_19).symm.trans hF
          refine lv_iconst (v := (2 : Int32)) hx hb dX2_pour_81 (by decide +kernel) ?_
          refine lv_goto (tgt := 86) hx hb dX2_pour_82 (by decide) ?_
          refine va_put (D := D) (ci := 2) (v := .int (2 : Int32)) (ty := .int) (C := RX2) (T := TX2) (N := 18) hx hb hts (fun w h => cwc w (in_X2 w h)) tyX2 tyX2_ok nmX2 hown hK hP hD hS 0 rfl rfl 0 (by decide) hk_54 (fun _ h9 => h9) rfl (by decide +kernel) rfl rfl (Nat.le_of_ble_eq_true rfl) dX2_pour_86 (fun H locs hP hD hS => ?_)
          replace hP : va_P D vwCl (MW cI ma ((2 : Int32), u.2.1, u.2.2.1, u.2.2.2.1, u.2.2.2.2.1, u.2.2.2.2.2.1, u.2.2.2.2.2.2.1, u.2.2.2.2.2.2.2.1, u.2.2.2.2.2.2.2.2.1, u.2.2.2.2.2.2.2.2.2.1, u.2.2.2.2.2.2.2.2.2.2.1, u.2.2.2.2.2.2.2.2.2.2.2.1, u.2.2.2.2.2.2.2.2.2.2.2.2.1, u.2.2.2.2.2.2.2.2.2.2.2.2.2.1, u.2.2.2.2.2.2.2.2.2.2.2.2.2.2.1, u.2.2.2.2.2.2.2.2.2.2.2.2.2.2.2.1, u.2.2.2.2.2.2.2.2.2.2.2.2.2.2.2.2.1, u.2.2.2.2.2.2.2.2.2.2.2.2.2.2.2.2.2)) H := hP
          replace hD : va_D A (MW cI ma ((2 : Int32), u.2.1, u.2.2.1, u.2.2.2.1, u.2.2.2.2.1, u.2.2.2.2.2.1, u.2.2.2.2.2.2.1, u.2.2.2.2.2.2.2.1, u.2.2.2.2.2.2.2.2.1, u.2.2.2.2.2.2.2.2.2.1, u.2.2.2.2.2.2.2.2.2.2.1, u.2.2.2.2.2.2.2.2.2.2.2.1, u.2.2.2.2.2.2.2.2.2.2.2.2.1, u.2.2.2.2.2.2.2.2.2.2.2.2.2.1, u.2.2.2.2.2.2.2.2.2.2.2.2.2.2.1, u.2.2.2.2.2.2.2.2.2.2.2.2.2.2.2.1, u.2.2.2.2.2.2.2.2.2.2.2.2.2.2.2.2.1, u.2.2.2.2.2.2.2.2.2.2.2.2.2.2.2.2.2)) := hD
          exact w_M_pour_L89 hx hb hr hml hown hts hlocks hA hK 1001 x1 x2 ((2 : Int32), u.2.1, u.2.2.1, u.2.2.2.1, u.2.2.2.2.1, u.2.2.2.2.2.1, u.2.2.2.2.2.2.1, u.2.2.2.2.2.2.2.1, u.2.2.2.2.2.2.2.2.1, u.2.2.2.2.2.2.2.2.2.1, u.2.2.2.2.2.2.2.2.2.2.1, u.2.2.2.2.2.2.2.2.2.2.2.1, u.2.2.2.2.2.2.2.2.2.2.2.2.1, u.2.2.2.2.2.2.2.2.2.2.2.2.2.1, u.2.2.2.2.2.2.2.2.2.2.2.2.2.2.1, u.2.2.2.2.2.2.2.2.2.2.2.2.2.2.2.1, u.2.2.2.2.2.2.2.2.2.2.2.2.2.2.2.2.1, u.2.2.2.2.2.2.2.2.2.2.2.2.2.2.2.2.2) _ _ hF H locs ls hP hD hS (lv_sub hl [1, 2, 3] rfl)
  · replace hF := (if_pos c_5).symm.trans hF
    refine lv_iconst (v := (1 : Int32)) hx hb dX2_pour_29 (by decide +kernel) ?_
    refine lv_goto (tgt := 86) hx hb dX2_pour_30 (by decide) ?_
    refine va_put (D := D) (ci := 2) (v := .int (1 : Int32)) (ty := .int) (C := RX2) (T := TX2) (N := 18) hx hb hts (fun w h => cwc w (in_X2 w h)) tyX2 tyX2_ok nmX2 hown hK hP hD hS 0 rfl rfl 0 (by decide) hk_54 (fun _ h9 => h9) rfl (by decide +kernel) rfl rfl (Nat.le_of_ble_eq_true rfl) dX2_pour_86 (fun H locs hP hD hS => ?_)
    replace hP : va_P D vwCl (MW cI ma ((1 : Int32), u.2.1, u.2.2.1, u.2.2.2.1, u.2.2.2.2.1, u.2.2.2.2.2.1, u.2.2.2.2.2.2.1, u.2.2.2.2.2.2.2.1, u.2.2.2.2.2.2.2.2.1, u.2.2.2.2.2.2.2.2.2.1, u.2.2.2.2.2.2.2.2.2.2.1, u.2.2.2.2.2.2.2.2.2.2.2.1, u.2.2.2.2.2.2.2.2.2.2.2.2.1, u.2.2.2.2.2.2.2.2.2.2.2.2.2.1, u.2.2.2.2.2.2.2.2.2.2.2.2.2.2.1, u.2.2.2.2.2.2.2.2.2.2.2.2.2.2.2.1, u.2.2.2.2.2.2.2.2.2.2.2.2.2.2.2.2.1, u.2.2.2.2.2.2.2.2.2.2.2.2.2.2.2.2.2)) H := hP
    replace hD : va_D A (MW cI ma ((1 : Int32), u.2.1, u.2.2.1, u.2.2.2.1, u.2.2.2.2.1, u.2.2.2.2.2.1, u.2.2.2.2.2.2.1, u.2.2.2.2.2.2.2.1, u.2.2.2.2.2.2.2.2.1, u.2.2.2.2.2.2.2.2.2.1, u.2.2.2.2.2.2.2.2.2.2.1, u.2.2.2.2.2.2.2.2.2.2.2.1, u.2.2.2.2.2.2.2.2.2.2.2.2.1, u.2.2.2.2.2.2.2.2.2.2.2.2.2.1, u.2.2.2.2.2.2.2.2.2.2.2.2.2.2.1, u.2.2.2.2.2.2.2.2.2.2.2.2.2.2.2.1, u.2.2.2.2.2.2.2.2.2.2.2.2.2.2.2.2.1, u.2.2.2.2.2.2.2.2.2.2.2.2.2.2.2.2.2)) := hD
    exact w_M_pour_L89 hx hb hr hml hown hts hlocks hA hK 1001 x1 x2 ((1 : Int32), u.2.1, u.2.2.1, u.2.2.2.1, u.2.2.2.2.1, u.2.2.2.2.2.1, u.2.2.2.2.2.2.1, u.2.2.2.2.2.2.2.1, u.2.2.2.2.2.2.2.2.1, u.2.2.2.2.2.2.2.2.2.1, u.2.2.2.2.2.2.2.2.2.2.1, u.2.2.2.2.2.2.2.2.2.2.2.1, u.2.2.2.2.2.2.2.2.2.2.2.2.1, u.2.2.2.2.2.2.2.2.2.2.2.2.2.1, u.2.2.2.2.2.2.2.2.2.2.2.2.2.2.1, u.2.2.2.2.2.2.2.2.2.2.2.2.2.2.2.1, u.2.2.2.2.2.2.2.2.2.2.2.2.2.2.2.2.1, u.2.2.2.2.2.2.2.2.2.2.2.2.2.2.2.2.2) _ _ hF H locs ls hP hD hS (lv_sub hl [1, 2, 3] rfl)
set_option maxHeartbeats 4000000 in
set_option maxRecDepth 100000 in
theorem w_M_pour_J22 {p : Program} {l : Launch} {e : Env} {s : State} {m : MethodId} {args : Array Value} {below : List Frame} {meth : Method} {c : Code} {A : Nat → Prop} {D : va_G} {cI cR : ClassId} {ma : Nat → Nat} (hx : p.tables.exec = Jvm.exec) (hb : c.code = cX2_pour) (hr : meth.sig.returnType = none) (hml : c.maxLocals = 4) (hown : s.vm.findClass RX2 = some m.cls) (hts : ∀ w ∈ wsX2_pour, w.before args s = true) (hlocks : meth.locks = false) (hA : ∀ q : Nat, s.heap.size ≤ q → A q) (hK : va_K D vwCl (TY cI cR) s) : ∀ (x1 x2 : Int32) (u : MSt) (r : Unit) (u' : MSt), F_M_pour_J22 x1 x2 u = some (r, u') → ∀ (H : Heap) (locs : List Loc) (ls : Array Slot), va_P D vwCl (MW cI ma u) H → va_D A (MW cI ma u) → va_S A s.heap H locs → lv_has ls 4 [(0, .ref (ma 0)), (1, .int x1), (2, .int x2)] → W p l e (headSpec wsX2_pour ({ frames := 4, cells := 0, slots := 0, locals := 94 })).room s m args below meth c H locs 0 0 (MQ below (QV D (TY cI cR) A (fun v => MW cI ma v) u') args s 0 0 A) (F0 m 22 ls []) := by
  have hk_54 := (hts _ (cwc _ mw_335))
  have hk_35 := (hts _ (cwc _ mw_347))
  have hk_29 := (hts _ (cwc _ mw_345))
  have hk_32 := (hts _ (cwc _ mw_346))
  intro x1 x2 u r u' hF H locs ls hP hD hS hl
  unfold F_M_pour_J22 at hF
  refine lv_iconst (v := (0 : Int32)) hx hb dX2_pour_22 (by decide +kernel) ?_
  exact w_M_pour_J23 hx hb hr hml hown hts hlocks hA hK x1 x2 (0 : Int32) u _ _ hF H locs ls hP hD hS (lv_sub hl [0, 1, 2] rfl)
set_option maxHeartbeats 4000000 in
set_option maxRecDepth 100000 in
theorem c_M_pour (l : Launch) (D : va_G) (cI cR : ClassId) (ma : Nat → Nat) (sz : Nat) (p1 : Int32) (p2 : Int32) (u : MSt) (r : Unit) (u' : MSt) (hF : F_M_pour p1 p2 u = some (r, u')) : Met l yX2_pour wsX2_pour ({ frames := 4, cells := 0, slots := 0, locals := 94 }) (va_Pc [.ref (ma 0), .int p1, .int p2] (PRE D (TY cI cR) (MW cI ma u) sz)) (QV D (TY cI cR) (va_A (MW cI ma u) sz) (fun v => MW cI ma v) u') 0 0 (va_A (MW cI ma u) sz) := by
  refine Met.ofW (cc := cX2_pour) (maxL := 4) (ret := none) (by decide) rfl ?_
  intro p e s m args below meth c s₁ B hml hv
  obtain ⟨rfl, hsz, hP, hK, hD0⟩ := hv
  have hx := B.exec
  have hb := B.bytes
  have hr := B.returns
  have hts := atoms_spec (ws := wsX2_pour) B.pre
  have hown : s.vm.findClass RX2 = some m.cls := findClass_of_methodNamed B.named
  have hlocks := B.notSynchronized
  subst hsz
  have hD := hD0.self (sz := s.heap.size)
  generalize hAe : va_A (MW cI ma u) s.heap.size = A at hD ⊢
  have hA : ∀ q : Nat, s.heap.size ≤ q → A q := fun q h => by rw [← hAe]; exact Or.inr h
  have hS : va_S A s.heap s.heap [] := va_S.rf
  replace hP : va_P D vwCl (MW cI ma u) s.heap := hP
  have hl := lv_entry ([.ref (ma 0), .int p1, .int p2]) (n := 4) (Nat.le_of_ble_eq_true rfl)
  rw [lg_entry_eq]
  generalize (lg_sl ([.ref (ma 0), .int p1, .int p2]) ++ List.replicate (4 - (lg_sl ([.ref (ma 0), .int p1, .int p2])).length) Slot.unset).toArray = ls at hl ⊢
  replace hl : lv_has ls 4 [(0, .ref (ma 0)), (1, .int p1), (2, .int p2)] := hl
  have hk_54 := (hts _ (cwc _ mw_335))
  have hk_35 := (hts _ (cwc _ mw_347))
  have hk_29 := (hts _ (cwc _ mw_345))
  have hk_32 := (hts _ (cwc _ mw_346))
  unfold F_M_pour at hF
  refine (?_ : ∀ (H : Heap) (locs : List Loc), va_P D vwCl (MW cI ma u) H → va_S A s.heap H locs → W p l e _ s m _ below meth c H locs 0 0 _ (F0 m 0 ls [])) s.heap [] hP hS
  intro H locs hP hS
  refine lv_iload_n hx hb dX2_pour_0 rfl (lv_at hl 1 rfl) ?_
  refine lv_bipush (v := (16 : Int32)) hx hb dX2_pour_1 (by decide +kernel) ?_
  obtain ⟨r2, u1, hc_3, hF⟩ := bi_some hF
  refine kc_i (W1 := MW cI ma u) (va_runS (As := [.int p1, .int (16 : Int32)]) (rest := []) ⟨hx, hb, hml, hown, hts⟩ (c_M_in l D cI cR  H.size p1 (16 : Int32) () r2 u1 hc_3) (va_cwS 2 hts (gS cwc mw_380 mw_381 mw_3 mw_382) rfl rfl rfl (by decide +kernel) ⟨(Nat.le_of_ble_eq_true rfl), (Nat.le_of_ble_eq_true rfl)⟩) (kp_S hK hP hD (sb_nil _)) rfl rfl hl.1 rfl (lv_room (Nat.le_of_ble_eq_true rfl)) dX2_pour_3 ⟨(Nat.le_of_ble_eq_true rfl), (Nat.le_of_ble_eq_true rfl)⟩) hP hD hS hA (sb_nil _) (jn_nil _) (fun H locs hP hD hS => ?_)
  refine lv_if_eq (tgt := 22) hx hb dX2_pour_6 (by decide) (fun c_4 => ?_) (fun c_4 => ?_)
  · replace hF := (if_pos c_4).symm.trans hF
    exact w_M_pour_J22 hx hb hr hml hown hts hlocks hA hK p1 p2 u _ _ hF H locs ls hP hD hS (lv_sub hl [0, 1, 2] rfl)
  · replace hF := (if_neg c_4).symm.trans hF
    refine lv_iload_n hx hb dX2_pour_9 rfl (lv_at hl 2 rfl) ?_
    refine lv_bipush (v := (16 : Int32)) hx hb dX2_pour_10 (by decide +kernel) ?_
    obtain ⟨r21, u20, hc_22, hF⟩ := bi_some hF
    refine kc_i (W1 := MW cI ma u) (va_runS (As := [.int p2, .int (16 : Int32)]) (rest := []) ⟨hx, hb, hml, hown, hts⟩ (c_M_in l D cI cR  H.size p2 (16 : Int32) () r21 u20 hc_22) (va_cwS 2 hts (gS cwc mw_380 mw_381 mw_3 mw_382) rfl rfl rfl (by decide +kernel) ⟨(Nat.le_of_ble_eq_true rfl), (Nat.le_of_ble_eq_true rfl)⟩) (kp_S hK hP hD (sb_nil _)) rfl rfl hl.1 rfl (lv_room (Nat.le_of_ble_eq_true rfl)) dX2_pour_12 ⟨(Nat.le_of_ble_eq_true rfl), (Nat.le_of_ble_eq_true rfl)⟩) hP hD hS hA (sb_nil _) (jn_nil _) (fun H locs hP hD hS => ?_)
    refine lv_if_eq (tgt := 22) hx hb dX2_pour_15 (by decide) (fun c_23 => ?_) (fun c_23 => ?_)
    · replace hF := (if_pos c_23).symm.trans hF
      exact w_M_pour_J22 hx hb hr hml hown hts hlocks hA hK p1 p2 u _ _ hF H locs ls hP hD hS (lv_sub hl [0, 1, 2] rfl)
    · replace hF := (if_neg c_23).symm.trans hF
      refine lv_iconst (v := (1 : Int32)) hx hb dX2_pour_18 (by decide +kernel) ?_
      refine lv_goto (tgt := 23) hx hb dX2_pour_19 (by decide) ?_
      exact w_M_pour_J23 hx hb hr hml hown hts hlocks hA hK p1 p2 (1 : Int32) u _ _ hF H locs ls hP hD hS (lv_sub hl [0, 1, 2] rfl)
def F_M_part_L251 : Nat → Int32 → MSt → Option ((Unit) × MSt)
  | 0, _, _ => none
  | n + 1, x3, u => gd (inb (48 : Int32) 49) ((if (u.2.2.2.2.2.2.2.2.2.2.2.2.1 (48 : Int32).toNatClampNeg) ≤ (0 : Int32) then some ((), u) else bi (F_M_move (48 : Int32) ((32 : Int32) + x3) u) (fun r19 u18 => F_M_part_L251 n x3 u18)))
def F_M_part_L147 : Nat → Int32 → Int32 → Int32 → Int32 → MSt → Option ((Unit) × MSt)
  | 0, _, _, _, _, _ => none
  | n + 1, x1, x3, x5, x6, u => gd (inb ((32 : Int32) + x1) 49) ((if (u.2.2.2.2.2.2.2.2.2.2.2.2.1 ((32 : Int32) + x1).toNatClampNeg) ≤ x6 then gd (inb ((32 : Int32) + x1) 49) (F_M_part_L251 1001 x3 (u.1, u.2.1, u.2.2.1, u.2.2.2.1, u.2.2.2.2.1, u.2.2.2.2.2.1, u.2.2.2.2.2.2.1, u.2.2.2.2.2.2.2.1, u.2.2.2.2.2.2.2.2.1, u.2.2.2.2.2.2.2.2.2.1, u.2.2.2.2.2.2.2.2.2.2.1, u.2.2.2.2.2.2.2.2.2.2.2.1, (upd u.2.2.2.2.2.2.2.2.2.2.2.2.1 ((32 : Int32) + x1).toNatClampNeg x5), u.2.2.2.2.2.2.2.2.2.2.2.2.2.1, u.2.2.2.2.2.2.2.2.2.2.2.2.2.2.1, u.2.2.2.2.2.2.2.2.2.2.2.2.2.2.2.1, u.2.2.2.2.2.2.2.2.2.2.2.2.2.2.2.2.1, u.2.2.2.2.2.2.2.2.2.2.2.2.2.2.2.2.2)) else gd (inb (48 : Int32) 49) (gd (inb (((1000 : Int32) * ((32 : Int32) + x1)) + x6) 49000) (gd (inb ((48000 : Int32) + (u.2.2.2.2.2.2.2.2.2.2.2.2.1 (48 : Int32).toNatClampNeg)) 49000) (gd (inb (48 : Int32) 49) (gd (inb (((1000 : Int32) * ((32 : Int32) + x1)) + x6) 49000) (gd (inb ((48000 : Int32) + (u.2.2.2.2.2.2.2.2.2.2.2.2.1 (48 : Int32).toNatClampNeg)) 49000) (gd (inb (48 : Int32) 49) (gd (inb (48 : Int32) 49) (F_M_part_L147 n x1 x3 x5 (x6 + (1 : Int32)) (u.1, u.2.1, u.2.2.1, u.2.2.2.1, u.2.2.2.2.1, u.2.2.2.2.2.1, u.2.2.2.2.2.2.1, u.2.2.2.2.2.2.2.1, u.2.2.2.2.2.2.2.2.1, u.2.2.2.2.2.2.2.2.2.1, u.2.2.2.2.2.2.2.2.2.2.1, u.2.2.2.2.2.2.2.2.2.2.2.1, (upd u.2.2.2.2.2.2.2.2.2.2.2.2.1 (48 : Int32).toNatClampNeg ((u.2.2.2.2.2.2.2.2.2.2.2.2.1 (48 : Int32).toNatClampNeg) + (1 : Int32))), (upd u.2.2.2.2.2.2.2.2.2.2.2.2.2.1 ((48000 : Int32) + (u.2.2.2.2.2.2.2.2.2.2.2.2.1 (48 : Int32).toNatClampNeg)).toNatClampNeg (u.2.2.2.2.2.2.2.2.2.2.2.2.2.1 (((1000 : Int32) * ((32 : Int32) + x1)) + x6).toNatClampNeg)), (upd u.2.2.2.2.2.2.2.2.2.2.2.2.2.2.1 ((48000 : Int32) + (u.2.2.2.2.2.2.2.2.2.2.2.2.1 (48 : Int32).toNatClampNeg)).toNatClampNeg (u.2.2.2.2.2.2.2.2.2.2.2.2.2.2.1 (((1000 : Int32) * ((32 : Int32) + x1)) + x6).toNatClampNeg)), u.2.2.2.2.2.2.2.2.2.2.2.2.2.2.2.1, u.2.2.2.2.2.2.2.2.2.2.2.2.2.2.2.2.1, u.2.2.2.2.2.2.2.2.2.2.2.2.2.2.2.2.2)))))))))))
def F_M_part_J96 (x1 x2 x3 s0 : Int32) (u : MSt) : Option ((Unit) × MSt) := (if s0 ≤ (0 : Int32) then gd (inb ((32 : Int32) + x1) 49) ((if (u.2.2.2.2.2.2.2.2.2.2.2.2.1 ((32 : Int32) + x1).toNatClampNeg) ≤ x2 then gd (inb ((32 : Int32) + x1) 49) (nm ((u.2.2.2.2.2.2.2.2.2.2.2.2.1 ((32 : Int32) + x1).toNatClampNeg)) (fun v11 => gd (inb (48 : Int32) 49) (F_M_part_L147 1001 x1 x3 v11 v11 (s0, u.2.1, u.2.2.1, u.2.2.2.1, u.2.2.2.2.1, u.2.2.2.2.2.1, u.2.2.2.2.2.2.1, u.2.2.2.2.2.2.2.1, u.2.2.2.2.2.2.2.2.1, u.2.2.2.2.2.2.2.2.2.1, u.2.2.2.2.2.2.2.2.2.2.1, u.2.2.2.2.2.2.2.2.2.2.2.1, (upd u.2.2.2.2.2.2.2.2.2.2.2.2.1 (48 : Int32).toNatClampNeg (0 : Int32)), u.2.2.2.2.2.2.2.2.2.2.2.2.2.1, u.2.2.2.2.2.2.2.2.2.2.2.2.2.2.1, u.2.2.2.2.2.2.2.2.2.2.2.2.2.2.2.1, u.2.2.2.2.2.2.2.2.2.2.2.2.2.2.2.2.1, u.2.2.2.2.2.2.2.2.2.2.2.2.2.2.2.2.2)))) else gd (inb (48 : Int32) 49) (F_M_part_L147 1001 x1 x3 x2 x2 (s0, u.2.1, u.2.2.1, u.2.2.2.1, u.2.2.2.2.1, u.2.2.2.2.2.1, u.2.2.2.2.2.2.1, u.2.2.2.2.2.2.2.1, u.2.2.2.2.2.2.2.2.1, u.2.2.2.2.2.2.2.2.2.1, u.2.2.2.2.2.2.2.2.2.2.1, u.2.2.2.2.2.2.2.2.2.2.2.1, (upd u.2.2.2.2.2.2.2.2.2.2.2.2.1 (48 : Int32).toNatClampNeg (0 : Int32)), u.2.2.2.2.2.2.2.2.2.2.2.2.2.1, u.2.2.2.2.2.2.2.2.2.2.2.2.2.2.1, u.2.2.2.2.2.2.2.2.2.2.2.2.2.2.2.1, u.2.2.2.2.2.2.2.2.2.2.2.2.2.2.2.2.1, u.2.2.2.2.2.2.2.2.2.2.2.2.2.2.2.2.2)))) else some ((), (s0, u.2.1, u.2.2.1, u.2.2.2.1, u.2.2.2.2.1, u.2.2.2.2.2.1, u.2.2.2.2.2.2.1, u.2.2.2.2.2.2.2.1, u.2.2.2.2.2.2.2.2.1, u.2.2.2.2.2.2.2.2.2.1, u.2.2.2.2.2.2.2.2.2.2.1, u.2.2.2.2.2.2.2.2.2.2.2.1, u.2.2.2.2.2.2.2.2.2.2.2.2.1, u.2.2.2.2.2.2.2.2.2.2.2.2.2.1, u.2.2.2.2.2.2.2.2.2.2.2.2.2.2.1, u.2.2.2.2.2.2.2.2.2.2.2.2.2.2.2.1, u.2.2.2.2.2.2.2.2.2.2.2.2.2.2.2.2.1, u.2.2.2.2.2.2.2.2.2.2.2.2.2.2.2.2.2)))
def F_M_part_J91 (x1 x2 x3 : Int32) (u : MSt) : Option ((Unit) × MSt) := F_M_part_J96 x1 x2 x3 (2 : Int32) u
def F_M_part_J23 (x1 x2 x3 s0 : Int32) (u : MSt) : Option ((Unit) × MSt) := (if s0 = (0 : Int32) then F_M_part_J96 x1 x2 x3 (1 : Int32) u else (if x2 < (0 : Int32) then F_M_part_J91 x1 x2 x3 u else (if x1 = x3 then F_M_part_J91 x1 x2 x3 u else gd (inb ((32 : Int32) + x3) 49) ((if (0 : Int32) < (u.2.2.2.2.2.2.2.2.2.2.2.2.1 ((32 : Int32) + x3).toNatClampNeg) then F_M_part_J91 x1 x2 x3 u else gd (inb x1 16) (gd (inb x3 16) ((if (u.2.2.2.2.2.2.2.2.2.2.1 x1.toNatClampNeg) = (u.2.2.2.2.2.2.2.2.2.2.1 x3.toNatClampNeg) then gd (inb ((32 : Int32) + x1) 49) (gd (inb x3 16) ((if ((u.2.2.2.2.2.2.2.2.2.2.2.2.1 ((32 : Int32) + x1).toNatClampNeg) - x2) ≤ (u.2.2.2.2.2.2.2.2.2.2.2.1 x3.toNatClampNeg) then F_M_part_J96 x1 x2 x3 (0 : Int32) u else F_M_part_J91 x1 x2 x3 u))) else F_M_part_J91 x1 x2 x3 u))))))))
def F_M_part_J22 (x1 x2 x3 : Int32) (u : MSt) : Option ((Unit) × MSt) := F_M_part_J23 x1 x2 x3 (0 : Int32) u
def F_M_part (p1 : Int32) (p2 : Int32) (p3 : Int32) (u : MSt) : Option ((Unit) × MSt) := bi (F_M_in p1 (16 : Int32) ()) (fun r2 u1 => (if r2 = (0 : Int32) then F_M_part_J22 p1 p2 p3 u else bi (F_M_in p3 (16 : Int32) ()) (fun r40 u39 => (if r40 = (0 : Int32) then F_M_part_J22 p1 p2 p3 u else F_M_part_J23 p1 p2 p3 (1 : Int32) u))))
set_option maxHeartbeats 4000000 in
set_option maxRecDepth 100000 in
theorem w_M_part_L251 {p : Program} {l : Launch} {e : Env} {s : State} {m : MethodId} {args : Array Value} {below : List Frame} {meth : Method} {c : Code} {A : Nat → Prop} {D : va_G} {cI cR : ClassId} {ma : Nat → Nat} (hx : p.tables.exec = Jvm.exec) (hb : c.code = cX2_part) (hr : meth.sig.returnType = none) (hml : c.maxLocals = 7) (hown : s.vm.findClass RX2 = some m.cls) (hts : ∀ w ∈ wsX2_part, w.before args s = true) (hlocks : meth.locks = false) (hA : ∀ q : Nat, s.heap.size ≤ q → A q) (hK : va_K D vwCl (TY cI cR) s) : ∀ (n : Nat) (x3 : Int32) (u : MSt) (r : Unit) (u' : MSt), F_M_part_L251 n x3 u = some (r, u') → ∀ (H : Heap) (locs : List Loc) (ls : Array Slot), va_P D vwCl (MW cI ma u) H → va_D A (MW cI ma u) → va_S A s.heap H locs → lv_has ls 7 [(0, .ref (ma 0)), (3, .int x3)] → W p l e (headSpec wsX2_part ({ frames := 4, cells := 0, slots := 0, locals := 94 })).room s m args below meth c H locs 0 0 (MQ below (QV D (TY cI cR) A (fun v => MW cI ma v) u') args s 0 0 A) (F0 m 251 ls []) := by
  have hk_54 := (hts _ (cwc _ mw_335))
  have hk_35 := (hts _ (cwc _ mw_347))
  have hk_39 := (hts _ (cwc _ mw_348))
  have hC_97 := (hts _ (cwc _ mw_444))
  have hk_42 := (hts _ (cwc _ mw_349))
  have hk_29 := (hts _ (cwc _ mw_345))
  have hk_32 := (hts _ (cwc _ mw_346))
  intro n
  induction n with
  | zero =>
    intro x3 u r u' hF
    rw [F_M_part_L251] at hF
    exact absurd hF (by simp)
  | succ n ih =>
    intro x3 u r u' hF H locs ls hP hD hS hl
    rw [F_M_part_L251] at hF
    refine lv_aload_n hx hb dX2_part_251 rfl (lv_at hl 0 rfl) ?_
    refine va_get (D := D) (ci := 2) (v := .ref (ma 8)) (C := RX2) (T := TX2) (N := 18) hx hb hts (fun w h => cwc w (in_X2 w h)) hown hK hP 0 rfl rfl 12 (by decide) hk_35 (fun _ h9 => h9) rfl dX2_part_252 ?_
    refine lv_bipush (v := (48 : Int32)) hx hb dX2_part_255 (by decide +kernel) ?_
    obtain ⟨h_16, hF⟩ := gd_some hF
    refine va_iald (f := u.2.2.2.2.2.2.2.2.2.2.2.2.1) hx hb hK hP 8 0 rfl rfl (inb_in h_16) dX2_part_257 ?_
    refine lv_if_le (tgt := 274) hx hb dX2_part_258 (by decide) (fun c_17 => ?_) (fun c_17 => ?_)
    · replace hF := (if_pos c_17).symm.trans hF
      cases hF
      refine W.widen (k := 0) (n := 0) (Nat.le_of_ble_eq_true rfl) (Nat.le_of_ble_eq_true rfl) ?_
      exact W.vret hx hb hr (fun t ht hW => ⟨⟨_, rfl, rfl, by rw [ht]; exact hP, va_K.moved hW.alike hK, hD⟩, hS.F ht⟩) hS.2.2 dX2_part_274
    · replace hF := (if_neg c_17).symm.trans hF
      refine lv_aload_n hx hb dX2_part_261 rfl (lv_at hl 0 rfl) ?_
      refine lv_bipush (v := (48 : Int32)) hx hb dX2_part_262 (by decide +kernel) ?_
      refine lv_bipush (v := (32 : Int32)) hx hb dX2_part_264 (by decide +kernel) ?_
      refine lv_iload_n hx hb dX2_part_266 rfl (lv_at hl 1 rfl) ?_
      refine lv_iadd hx hb dX2_part_267 ?_
      obtain ⟨r19, u18, hc_20, hF⟩ := bi_some hF
      refine kc_v (W1 := MW cI ma u18) (va_runV (As := [.int (48 : Int32), .int ((32 : Int32) + x3)]) (rest := []) ⟨hx, hb, hml, hown, hts⟩ (c_M_move l D cI cR ma H.size (48 : Int32) ((32 : Int32) + x3) u r19 u18 hc_20) (cwV 2 hts (gV cwc mw_420 mw_421 mw_489 mw_3 mw_422) rfl rfl rfl (by decide +kernel) ⟨(Nat.le_of_ble_eq_true rfl), (Nat.le_of_ble_eq_true rfl)⟩) (kp_V (ci := 2) (q := (RX2, TX2, 18)) hK hP hD (sb_id _) rfl rfl) rfl rfl hl.1 rfl (lv_room (Nat.le_of_ble_eq_true rfl)) dX2_part_268 ⟨(Nat.le_of_ble_eq_true rfl), (Nat.le_of_ble_eq_true rfl)⟩) hP hD hS hA (sb_id _) (jn_id rfl) (fun H locs hP hD hS => ?_)
      refine lv_goto (tgt := 251) hx hb dX2_part_271 (by decide) ?_
      exact ih x3 u18 _ _ hF H locs ls hP hD hS (lv_sub hl [0, 1] rfl)
set_option maxHeartbeats 4000000 in
set_option maxRecDepth 100000 in
theorem w_M_part_L147 {p : Program} {l : Launch} {e : Env} {s : State} {m : MethodId} {args : Array Value} {below : List Frame} {meth : Method} {c : Code} {A : Nat → Prop} {D : va_G} {cI cR : ClassId} {ma : Nat → Nat} (hx : p.tables.exec = Jvm.exec) (hb : c.code = cX2_part) (hr : meth.sig.returnType = none) (hml : c.maxLocals = 7) (hown : s.vm.findClass RX2 = some m.cls) (hts : ∀ w ∈ wsX2_part, w.before args s = true) (hlocks : meth.locks = false) (hA : ∀ q : Nat, s.heap.size ≤ q → A q) (hK : va_K D vwCl (TY cI cR) s) : ∀ (n : Nat) (x1 x3 x5 x6 : Int32) (u : MSt) (r : Unit) (u' : MSt), F_M_part_L147 n x1 x3 x5 x6 u = some (r, u') → ∀ (H : Heap) (locs : List Loc) (ls : Array Slot), va_P D vwCl (MW cI ma u) H → va_D A (MW cI ma u) → va_S A s.heap H locs → lv_has ls 7 [(0, .ref (ma 0)), (1, .int x1), (3, .int x3), (5, .int x5), (6, .int x6)] → W p l e (headSpec wsX2_part ({ frames := 4, cells := 0, slots := 0, locals := 94 })).room s m args below meth c H locs 0 0 (MQ below (QV D (TY cI cR) A (fun v => MW cI ma v) u') args s 0 0 A) (F0 m 147 ls []) := by
  have hk_54 := (hts _ (cwc _ mw_335))
  have hk_35 := (hts _ (cwc _ mw_347))
  have hk_39 := (hts _ (cwc _ mw_348))
  have hC_97 := (hts _ (cwc _ mw_444))
  have hk_42 := (hts _ (cwc _ mw_349))
  have hk_29 := (hts _ (cwc _ mw_345))
  have hk_32 := (hts _ (cwc _ mw_346))
  intro n
  induction n with
  | zero =>
    intro x1 x3 x5 x6 u r u' hF
    rw [F_M_part_L147] at hF
    exact absurd hF (by simp)
  | succ n ih =>
    intro x1 x3 x5 x6 u r u' hF H locs ls hP hD hS hl
    rw [F_M_part_L147] at hF
    refine lv_iload hx hb dX2_part_147 (lv_at hl 4 rfl) ?_
    refine lv_aload_n hx hb dX2_part_149 rfl (lv_at hl 0 rfl) ?_
    refine va_get (D := D) (ci := 2) (v := .ref (ma 8)) (C := RX2) (T := TX2) (N := 18) hx hb hts (fun w h => cwc w (in_X2 w h)) hown hK hP 0 rfl rfl 12 (by decide) hk_35 (fun _ h9 => h9) rfl dX2_part_150 ?_
    refine lv_bipush (v := (32 : Int32)) hx hb dX2_part_153 (by decide +kernel) ?_
    refine lv_iload_n hx hb dX2_part_155 rfl (lv_at hl 1 rfl) ?_
    refine lv_iadd hx hb dX2_part_156 ?_
    obtain ⟨h_13, hF⟩ := gd_some hF
    refine va_iald (f := u.2.2.2.2.2.2.2.2.2.2.2.2.1) hx hb hK hP 8 0 rfl rfl (inb_in h_13) dX2_part_157 ?_
    refine lv_icmp_ge (tgt := 240) hx hb dX2_part_158 (by decide) (fun c_14 => ?_) (fun c_14 => ?_)
    · replace hF := (if_pos c_14).symm.trans hF
      refine lv_aload_n hx hb dX2_part_240 rfl (lv_at hl 0 rfl) ?_
      refine va_get (D := D) (ci := 2) (v := .ref (ma 8)) (C := RX2) (T := TX2) (N := 18) hx hb hts (fun w h => cwc w (in_X2 w h)) hown hK hP 0 rfl rfl 12 (by decide) hk_35 (fun _ h9 => h9) rfl dX2_part_241 ?_
      refine lv_bipush (v := (32 : Int32)) hx hb dX2_part_244 (by decide +kernel) ?_
      refine lv_iload_n hx hb dX2_part_246 rfl (lv_at hl 1 rfl) ?_
      refine lv_iadd hx hb dX2_part_247 ?_
      refine lv_iload hx hb dX2_part_248 (lv_at hl 3 rfl) ?_
      obtain ⟨h_15, hF⟩ := gd_some hF
      refine va_iast (f := u.2.2.2.2.2.2.2.2.2.2.2.2.1) hx hb hK hP hD hS 8 0 rfl rfl (inb_in h_15) dX2_part_250 (fun H locs hP hD hS => ?_)
      replace hP : va_P D vwCl (MW cI ma (u.1, u.2.1, u.2.2.1, u.2.2.2.1, u.2.2.2.2.1, u.2.2.2.2.2.1, u.2.2.2.2.2.2.1, u.2.2.2.2.2.2.2.1, u.2.2.2.2.2.2.2.2.1, u.2.2.2.2.2.2.2.2.2.1, u.2.2.2.2.2.2.2.2.2.2.1, u.2.2.2.2.2.2.2.2.2.2.2.1, (upd u.2.2.2.2.2.2.2.2.2.2.2.2.1 ((32 : Int32) + x1).toNatClampNeg x5), u.2.2.2.2.2.2.2.2.2.2.2.2.2.1, u.2.2.2.2.2.2.2.2.2.2.2.2.2.2.1, u.2.2.2.2.2.2.2.2.2.2.2.2.2.2.2.1, u.2.2.2.2.2.2.2.2.2.2.2.2.2.2.2.2.1, u.2.2.2.2.2.2.2.2.2.2.2.2.2.2.2.2.2)) H := hP
      replace hD : va_D A (MW cI ma (u.1, u.2.1, u.2.2.1, u.2.2.2.1, u.2.2.2.2.1, u.2.2.2.2.2.1, u.2.2.2.2.2.2.1, u.2.2.2.2.2.2.2.1, u.2.2.2.2.2.2.2.2.1, u.2.2.2.2.2.2.2.2.2.1, u.2.2.2.2.2.2.2.2.2.2.1, u.2.2.2.2.2.2.2.2.2.2.2.1, (upd u.2.2.2.2.2.2.2.2.2.2.2.2.1 ((32 : Int32) + x1).toNatClampNeg x5), u.2.2.2.2.2.2.2.2.2.2.2.2.2.1, u.2.2.2.2.2.2.2.2.2.2.2.2.2.2.1, u.2.2.2.2.2.2.2.2.2.2.2.2.2.2.2.1, u.2.2.2.2.2.2.2.2.2.2.2.2.2.2.2.2.1, u.2.2.2.2.2.2.2.2.2.2.2.2.2.2.2.2.2)) := hD
      exact w_M_part_L251 hx hb hr hml hown hts hlocks hA hK 1001 x3 (u.1, u.2.1, u.2.2.1, u.2.2.2.1, u.2.2.2.2.1, u.2.2.2.2.2.1, u.2.2.2.2.2.2.1, u.2.2.2.2.2.2.2.1, u.2.2.2.2.2.2.2.2.1, u.2.2.2.2.2.2.2.2.2.1, u.2.2.2.2.2.2.2.2.2.2.1, u.2.2.2.2.2.2.2.2.2.2.2.1, (upd u.2.2.2.2.2.2.2.2.2.2.2.2.1 ((32 : Int32) + x1).toNatClampNeg x5), u.2.2.2.2.2.2.2.2.2.2.2.2.2.1, u.2.2.2.2.2.2.2.2.2.2.2.2.2.2.1, u.2.2.2.2.2.2.2.2.2.2.2.2.2.2.2.1, u.2.2.2.2.2.2.2.2.2.2.2.2.2.2.2.2.1, u.2.2.2.2.2.2.2.2.2.2.2.2.2.2.2.2.2) _ _ hF H locs ls hP hD hS (lv_sub hl [0, 2] rfl)
    · replace hF := (if_neg c_14).symm.trans hF
      refine lv_aload_n hx hb dX2_part_161 rfl (lv_at hl 0 rfl) ?_
      refine va_get (D := D) (ci := 2) (v := .ref (ma 9)) (C := RX2) (T := TX2) (N := 18) hx hb hts (fun w h => cwc w (in_X2 w h)) hown hK hP 0 rfl rfl 13 (by decide) hk_39 (fun _ h9 => h9) rfl dX2_part_162 ?_
      refine lv_ldc (v := (48000 : Int32)) hx hb hown hC_97 dX2_part_165 ?_
      refine lv_aload_n hx hb dX2_part_167 rfl (lv_at hl 0 rfl) ?_
      refine va_get (D := D) (ci := 2) (v := .ref (ma 8)) (C := RX2) (T := TX2) (N := 18) hx hb hts (fun w h => cwc w (in_X2 w h)) hown hK hP 0 rfl rfl 12 (by decide) hk_35 (fun _ h9 => h9) rfl dX2_part_168 ?_
      refine lv_bipush (v := (48 : Int32)) hx hb dX2_part_171 (by decide +kernel) ?_
      obtain ⟨h_21, hF⟩ := gd_some hF
      refine va_iald (f := u.2.2.2.2.2.2.2.2.2.2.2.2.1) hx hb hK hP 8 0 rfl rfl (inb_in h_21) dX2_part_173 ?_
      refine lv_iadd hx hb dX2_part_174 ?_
      refine lv_aload_n hx hb dX2_part_175 rfl (lv_at hl 0 rfl) ?_
      refine va_get (D := D) (ci := 2) (v := .ref (ma 9)) (C := RX2) (T := TX2) (N := 18) hx hb hts (fun w h => cwc w (in_X2 w h)) hown hK hP 0 rfl rfl 13 (by decide) hk_39 (fun _ h9 => h9) rfl dX2_part_176 ?_
      refine lv_sipush (v := (1000 : Int32)) hx hb dX2_part_179 (by decide +kernel) ?_
      refine lv_bipush (v := (32 : Int32)) hx hb dX2_part_182 (by decide +kernel) ?_
      refine lv_iload_n hx hb dX2_part_184 rfl (lv_at hl 1 rfl) ?_
      refine lv_iadd hx hb dX2_part_185 ?_
      refine lv_imul hx hb dX2_part_186 ?_
      refine lv_iload hx hb dX2_part_187 (lv_at hl 4 rfl) ?_
      refine lv_iadd hx hb dX2_part_189 ?_
      obtain ⟨h_22, hF⟩ := gd_some hF
      refine va_iald (f := u.2.2.2.2.2.2.2.2.2.2.2.2.2.1) hx hb hK hP 9 0 rfl rfl (inb_in h_22) dX2_part_190 ?_
      obtain ⟨h_23, hF⟩ := gd_some hF
      refine va_iast (f := u.2.2.2.2.2.2.2.2.2.2.2.2.2.1) hx hb hK hP hD hS 9 0 rfl rfl (inb_in h_23) dX2_part_191 (fun H locs hP hD hS => ?_)
      replace hP : va_P D vwCl (MW cI ma (u.1, u.2.1, u.2.2.1, u.2.2.2.1, u.2.2.2.2.1, u.2.2.2.2.2.1, u.2.2.2.2.2.2.1, u.2.2.2.2.2.2.2.1, u.2.2.2.2.2.2.2.2.1, u.2.2.2.2.2.2.2.2.2.1, u.2.2.2.2.2.2.2.2.2.2.1, u.2.2.2.2.2.2.2.2.2.2.2.1, u.2.2.2.2.2.2.2.2.2.2.2.2.1, (upd u.2.2.2.2.2.2.2.2.2.2.2.2.2.1 ((48000 : Int32) + (u.2.2.2.2.2.2.2.2.2.2.2.2.1 (48 : Int32).toNatClampNeg)).toNatClampNeg (u.2.2.2.2.2.2.2.2.2.2.2.2.2.1 (((1000 : Int32) * ((32 : Int32) + x1)) + x6).toNatClampNeg)), u.2.2.2.2.2.2.2.2.2.2.2.2.2.2.1, u.2.2.2.2.2.2.2.2.2.2.2.2.2.2.2.1, u.2.2.2.2.2.2.2.2.2.2.2.2.2.2.2.2.1, u.2.2.2.2.2.2.2.2.2.2.2.2.2.2.2.2.2)) H := hP
      replace hD : va_D A (MW cI ma (u.1, u.2.1, u.2.2.1, u.2.2.2.1, u.2.2.2.2.1, u.2.2.2.2.2.1, u.2.2.2.2.2.2.1, u.2.2.2.2.2.2.2.1, u.2.2.2.2.2.2.2.2.1, u.2.2.2.2.2.2.2.2.2.1, u.2.2.2.2.2.2.2.2.2.2.1, u.2.2.2.2.2.2.2.2.2.2.2.1, u.2.2.2.2.2.2.2.2.2.2.2.2.1, (upd u.2.2.2.2.2.2.2.2.2.2.2.2.2.1 ((48000 : Int32) + (u.2.2.2.2.2.2.2.2.2.2.2.2.1 (48 : Int32).toNatClampNeg)).toNatClampNeg (u.2.2.2.2.2.2.2.2.2.2.2.2.2.1 (((1000 : Int32) * ((32 : Int32) + x1)) + x6).toNatClampNeg)), u.2.2.2.2.2.2.2.2.2.2.2.2.2.2.1, u.2.2.2.2.2.2.2.2.2.2.2.2.2.2.2.1, u.2.2.2.2.2.2.2.2.2.2.2.2.2.2.2.2.1, u.2.2.2.2.2.2.2.2.2.2.2.2.2.2.2.2.2)) := hD
      refine lv_aload_n hx hb dX2_part_192 rfl (lv_at hl 0 rfl) ?_
      refine va_get (D := D) (ci := 2) (v := .ref (ma 10)) (C := RX2) (T := TX2) (N := 18) hx hb hts (fun w h => cwc w (in_X2 w h)) hown hK hP 0 rfl rfl 14 (by decide) hk_42 (fun _ h9 => h9) rfl dX2_part_193 ?_
      refine lv_ldc (v := (48000 : Int32)) hx hb hown hC_97 dX2_part_196 ?_
      refine lv_aload_n hx hb dX2_part_198 rfl (lv_at hl 0 rfl) ?_
      refine va_get (D := D) (ci := 2) (v := .ref (ma 8)) (C := RX2) (T := TX2) (N := 18) hx hb hts (fun w h => cwc w (in_X2 w h)) hown hK hP 0 rfl rfl 12 (by decide) hk_35 (fun _ h9 => h9) rfl dX2_part_199 ?_
      refine lv_bipush (v := (48 : Int32)) hx hb dX2_part_202 (by decide +kernel) ?_
      obtain ⟨h_24, hF⟩ := gd_some hF
      refine va_iald (f := u.2.2.2.2.2.2.2.2.2.2.2.2.1) hx hb hK hP 8 0 rfl rfl (inb_in h_24) dX2_part_204 ?_
      refine lv_iadd hx hb dX2_part_205 ?_
      refine lv_aload_n hx hb dX2_part_206 rfl (lv_at hl 0 rfl) ?_
      refine va_get (D := D) (ci := 2) (v := .ref (ma 10)) (C := RX2) (T := TX2) (N := 18) hx hb hts (fun w h => cwc w (in_X2 w h)) hown hK hP 0 rfl rfl 14 (by decide) hk_42 (fun _ h9 => h9) rfl dX2_part_207 ?_
      refine lv_sipush (v := (1000 : Int32)) hx hb dX2_part_210 (by decide +kernel) ?_
      refine lv_bipush (v := (32 : Int32)) hx hb dX2_part_213 (by decide +kernel) ?_
      refine lv_iload_n hx hb dX2_part_215 rfl (lv_at hl 1 rfl) ?_
      refine lv_iadd hx hb dX2_part_216 ?_
      refine lv_imul hx hb dX2_part_217 ?_
      refine lv_iload hx hb dX2_part_218 (lv_at hl 4 rfl) ?_
      refine lv_iadd hx hb dX2_part_220 ?_
      obtain ⟨h_25, hF⟩ := gd_some hF
      refine va_iald (f := u.2.2.2.2.2.2.2.2.2.2.2.2.2.2.1) hx hb hK hP 10 0 rfl rfl (inb_in h_25) dX2_part_221 ?_
      obtain ⟨h_26, hF⟩ := gd_some hF
      refine va_iast (f := u.2.2.2.2.2.2.2.2.2.2.2.2.2.2.1) hx hb hK hP hD hS 10 0 rfl rfl (inb_in h_26) dX2_part_222 (fun H locs hP hD hS => ?_)
      replace hP : va_P D vwCl (MW cI ma (u.1, u.2.1, u.2.2.1, u.2.2.2.1, u.2.2.2.2.1, u.2.2.2.2.2.1, u.2.2.2.2.2.2.1, u.2.2.2.2.2.2.2.1, u.2.2.2.2.2.2.2.2.1, u.2.2.2.2.2.2.2.2.2.1, u.2.2.2.2.2.2.2.2.2.2.1, u.2.2.2.2.2.2.2.2.2.2.2.1, u.2.2.2.2.2.2.2.2.2.2.2.2.1, (upd u.2.2.2.2.2.2.2.2.2.2.2.2.2.1 ((48000 : Int32) + (u.2.2.2.2.2.2.2.2.2.2.2.2.1 (48 : Int32).toNatClampNeg)).toNatClampNeg (u.2.2.2.2.2.2.2.2.2.2.2.2.2.1 (((1000 : Int32) * ((32 : Int32) + x1)) + x6).toNatClampNeg)), (upd u.2.2.2.2.2.2.2.2.2.2.2.2.2.2.1 ((48000 : Int32) + (u.2.2.2.2.2.2.2.2.2.2.2.2.1 (48 : Int32).toNatClampNeg)).toNatClampNeg (u.2.2.2.2.2.2.2.2.2.2.2.2.2.2.1 (((1000 : Int32) * ((32 : Int32) + x1)) + x6).toNatClampNeg)), u.2.2.2.2.2.2.2.2.2.2.2.2.2.2.2.1, u.2.2.2.2.2.2.2.2.2.2.2.2.2.2.2.2.1, u.2.2.2.2.2.2.2.2.2.2.2.2.2.2.2.2.2)) H := hP
      replace hD : va_D A (MW cI ma (u.1, u.2.1, u.2.2.1, u.2.2.2.1, u.2.2.2.2.1, u.2.2.2.2.2.1, u.2.2.2.2.2.2.1, u.2.2.2.2.2.2.2.1, u.2.2.2.2.2.2.2.2.1, u.2.2.2.2.2.2.2.2.2.1, u.2.2.2.2.2.2.2.2.2.2.1, u.2.2.2.2.2.2.2.2.2.2.2.1, u.2.2.2.2.2.2.2.2.2.2.2.2.1, (upd u.2.2.2.2.2.2.2.2.2.2.2.2.2.1 ((48000 : Int32) + (u.2.2.2.2.2.2.2.2.2.2.2.2.1 (48 : Int32).toNatClampNeg)).toNatClampNeg (u.2.2.2.2.2.2.2.2.2.2.2.2.2.1 (((1000 : Int32) * ((32 : Int32) + x1)) + x6).toNatClampNeg)), (upd u.2.2.2.2.2.2.2.2.2.2.2.2.2.2.1 ((48000 : Int32) + (u.2.2.2.2.2.2.2.2.2.2.2.2.1 (48 : Int32).toNatClampNeg)).toNatClampNeg (u.2.2.2.2.2.2.2.2.2.2.2.2.2.2.1 (((1000 : Int32) * ((32 : Int32) + x1)) + x6).toNatClampNeg)), u.2.2.2.2.2.2.2.2.2.2.2.2.2.2.2.1, u.2.2.2.2.2.2.2.2.2.2.2.2.2.2.2.2.1, u.2.2.2.2.2.2.2.2.2.2.2.2.2.2.2.2.2)) := hD
      refine lv_aload_n hx hb dX2_part_223 rfl (lv_at hl 0 rfl) ?_
      refine va_get (D := D) (ci := 2) (v := .ref (ma 8)) (C := RX2) (T := TX2) (N := 18) hx hb hts (fun w h => cwc w (in_X2 w h)) hown hK hP 0 rfl rfl 12 (by decide) hk_35 (fun _ h9 => h9) rfl dX2_part_224 ?_
      refine lv_bipush (v := (48 : Int32)) hx hb dX2_part_227 (by decide +kernel) ?_
      refine lv_dup2_11 hx hb dX2_part_229 rfl rfl ?_
      obtain ⟨h_27, hF⟩ := gd_some hF
      refine va_iald (f := u.2.2.2.2.2.2.2.2.2.2.2.2.1) hx hb hK hP 8 0 rfl rfl (inb_in h_27) dX2_part_230 ?_
      refine lv_iconst (v := (1 : Int32)) hx hb dX2_part_231 (by decide +kernel) ?_
      refine lv_iadd hx hb dX2_part_232 ?_
      obtain ⟨h_28, hF⟩ := gd_some hF
      refine va_iast (f := u.2.2.2.2.2.2.2.2.2.2.2.2.1) hx hb hK hP hD hS 8 0 rfl rfl (inb_in h_28) dX2_part_233 (fun H locs hP hD hS => ?_)
      replace hP : va_P D vwCl (MW cI ma (u.1, u.2.1, u.2.2.1, u.2.2.2.1, u.2.2.2.2.1, u.2.2.2.2.2.1, u.2.2.2.2.2.2.1, u.2.2.2.2.2.2.2.1, u.2.2.2.2.2.2.2.2.1, u.2.2.2.2.2.2.2.2.2.1, u.2.2.2.2.2.2.2.2.2.2.1, u.2.2.2.2.2.2.2.2.2.2.2.1, (upd u.2.2.2.2.2.2.2.2.2.2.2.2.1 (48 : Int32).toNatClampNeg ((u.2.2.2.2.2.2.2.2.2.2.2.2.1 (48 : Int32).toNatClampNeg) + (1 : Int32))), (upd u.2.2.2.2.2.2.2.2.2.2.2.2.2.1 ((48000 : Int32) + (u.2.2.2.2.2.2.2.2.2.2.2.2.1 (48 : Int32).toNatClampNeg)).toNatClampNeg (u.2.2.2.2.2.2.2.2.2.2.2.2.2.1 (((1000 : Int32) * ((32 : Int32) + x1)) + x6).toNatClampNeg)), (upd u.2.2.2.2.2.2.2.2.2.2.2.2.2.2.1 ((48000 : Int32) + (u.2.2.2.2.2.2.2.2.2.2.2.2.1 (48 : Int32).toNatClampNeg)).toNatClampNeg (u.2.2.2.2.2.2.2.2.2.2.2.2.2.2.1 (((1000 : Int32) * ((32 : Int32) + x1)) + x6).toNatClampNeg)), u.2.2.2.2.2.2.2.2.2.2.2.2.2.2.2.1, u.2.2.2.2.2.2.2.2.2.2.2.2.2.2.2.2.1, u.2.2.2.2.2.2.2.2.2.2.2.2.2.2.2.2.2)) H := hP
      replace hD : va_D A (MW cI ma (u.1, u.2.1, u.2.2.1, u.2.2.2.1, u.2.2.2.2.1, u.2.2.2.2.2.1, u.2.2.2.2.2.2.1, u.2.2.2.2.2.2.2.1, u.2.2.2.2.2.2.2.2.1, u.2.2.2.2.2.2.2.2.2.1, u.2.2.2.2.2.2.2.2.2.2.1, u.2.2.2.2.2.2.2.2.2.2.2.1, (upd u.2.2.2.2.2.2.2.2.2.2.2.2.1 (48 : Int32).toNatClampNeg ((u.2.2.2.2.2.2.2.2.2.2.2.2.1 (48 : Int32).toNatClampNeg) + (1 : Int32))), (upd u.2.2.2.2.2.2.2.2.2.2.2.2.2.1 ((48000 : Int32) + (u.2.2.2.2.2.2.2.2.2.2.2.2.1 (48 : Int32).toNatClampNeg)).toNatClampNeg (u.2.2.2.2.2.2.2.2.2.2.2.2.2.1 (((1000 : Int32) * ((32 : Int32) + x1)) + x6).toNatClampNeg)), (upd u.2.2.2.2.2.2.2.2.2.2.2.2.2.2.1 ((48000 : Int32) + (u.2.2.2.2.2.2.2.2.2.2.2.2.1 (48 : Int32).toNatClampNeg)).toNatClampNeg (u.2.2.2.2.2.2.2.2.2.2.2.2.2.2.1 (((1000 : Int32) * ((32 : Int32) + x1)) + x6).toNatClampNeg)), u.2.2.2.2.2.2.2.2.2.2.2.2.2.2.2.1, u.2.2.2.2.2.2.2.2.2.2.2.2.2.2.2.2.1, u.2.2.2.2.2.2.2.2.2.2.2.2.2.2.2.2.2)) := hD
      refine lv_iinc (v := (x6 + (1 : Int32))) (lv' := [(6, .int (x6 + (1 : Int32))), (0, .ref (ma 0)), (1, .int x1), (3, .int x3), (5, .int x5)]) hx hb dX2_part_234 hl (k := 4) rfl rfl (by decide) rfl (fun ls hl => ?_)
      refine lv_goto (tgt := 147) hx hb dX2_part_237 (by decide) ?_
      exact ih x1 x3 x5 (x6 + (1 : Int32)) (u.1, u.2.1, u.2.2.1, u.2.2.2.1, u.2.2.2.2.1, u.2.2.2.2.2.1, u.2.2.2.2.2.2.1, u.2.2.2.2.2.2.2.1, u.2.2.2.2.2.2.2.2.1, u.2.2.2.2.2.2.2.2.2.1, u.2.2.2.2.2.2.2.2.2.2.1, u.2.2.2.2.2.2.2.2.2.2.2.1, (upd u.2.2.2.2.2.2.2.2.2.2.2.2.1 (48 : Int32).toNatClampNeg ((u.2.2.2.2.2.2.2.2.2.2.2.2.1 (48 : Int32).toNatClampNeg) + (1 : Int32))), (upd u.2.2.2.2.2.2.2.2.2.2.2.2.2.1 ((48000 : Int32) + (u.2.2.2.2.2.2.2.2.2.2.2.2.1 (48 : Int32).toNatClampNeg)).toNatClampNeg (u.2.2.2.2.2.2.2.2.2.2.2.2.2.1 (((1000 : Int32) * ((32 : Int32) + x1)) + x6).toNatClampNeg)), (upd u.2.2.2.2.2.2.2.2.2.2.2.2.2.2.1 ((48000 : Int32) + (u.2.2.2.2.2.2.2.2.2.2.2.2.1 (48 : Int32).toNatClampNeg)).toNatClampNeg (u.2.2.2.2.2.2.2.2.2.2.2.2.2.2.1 (((1000 : Int32) * ((32 : Int32) + x1)) + x6).toNatClampNeg)), u.2.2.2.2.2.2.2.2.2.2.2.2.2.2.2.1, u.2.2.2.2.2.2.2.2.2.2.2.2.2.2.2.2.1, u.2.2.2.2.2.2.2.2.2.2.2.2.2.2.2.2.2) _ _ hF H locs ls hP hD hS (lv_sub hl [1, 2, 3, 4, 0] rfl)
set_option maxHeartbeats 4000000 in
set_option maxRecDepth 100000 in
theorem w_M_part_J96 {p : Program} {l : Launch} {e : Env} {s : State} {m : MethodId} {args : Array Value} {below : List Frame} {meth : Method} {c : Code} {A : Nat → Prop} {D : va_G} {cI cR : ClassId} {ma : Nat → Nat} (hx : p.tables.exec = Jvm.exec) (hb : c.code = cX2_part) (hr : meth.sig.returnType = none) (hml : c.maxLocals = 7) (hown : s.vm.findClass RX2 = some m.cls) (hts : ∀ w ∈ wsX2_part, w.before args s = true) (hlocks : meth.locks = false) (hA : ∀ q : Nat, s.heap.size ≤ q → A q) (hK : va_K D vwCl (TY cI cR) s) : ∀ (x1 x2 x3 s0 : Int32) (u : MSt) (r : Unit) (u' : MSt), F_M_part_J96 x1 x2 x3 s0 u = some (r, u') → ∀ (H : Heap) (locs : List Loc) (ls : Array Slot), va_P D vwCl (MW cI ma u) H → va_D A (MW cI ma u) → va_S A s.heap H locs → lv_has ls 7 [(0, .ref (ma 0)), (1, .int x1), (2, .int x2), (3, .int x3)] → W p l e (headSpec wsX2_part ({ frames := 4, cells := 0, slots := 0, locals := 94 })).room s m args below meth c H locs 0 0 (MQ below (QV D (TY cI cR) A (fun v => MW cI ma v) u') args s 0 0 A) (F0 m 96 ls [.int s0, .ref (ma 0)]) := by
  have hk_54 := (hts _ (cwc _ mw_335))
  have hk_35 := (hts _ (cwc _ mw_347))
  have hk_39 := (hts _ (cwc _ mw_348))
  have hC_97 := (hts _ (cwc _ mw_444))
  have hk_42 := (hts _ (cwc _ mw_349))
  have hk_29 := (hts _ (cwc _ mw_345))
  have hk_32 := (hts _ (cwc _ mw_346))
  intro x1 x2 x3 s0 u r u' hF H locs ls hP hD hS hl
  unfold F_M_part_J96 at hF
  refine va_put (D := D) (ci := 2) (v := .int s0) (ty := .int) (C := RX2) (T := TX2) (N := 18) hx hb hts (fun w h => cwc w (in_X2 w h)) tyX2 tyX2_ok nmX2 hown hK hP hD hS 0 rfl rfl 0 (by decide) hk_54 (fun _ h9 => h9) rfl (by decide +kernel) rfl rfl (Nat.le_of_ble_eq_true rfl) dX2_part_96 (fun H locs hP hD hS => ?_)
  replace hP : va_P D vwCl (MW cI ma (s0, u.2.1, u.2.2.1, u.2.2.2.1, u.2.2.2.2.1, u.2.2.2.2.2.1, u.2.2.2.2.2.2.1, u.2.2.2.2.2.2.2.1, u.2.2.2.2.2.2.2.2.1, u.2.2.2.2.2.2.2.2.2.1, u.2.2.2.2.2.2.2.2.2.2.1, u.2.2.2.2.2.2.2.2.2.2.2.1, u.2.2.2.2.2.2.2.2.2.2.2.2.1, u.2.2.2.2.2.2.2.2.2.2.2.2.2.1, u.2.2.2.2.2.2.2.2.2.2.2.2.2.2.1, u.2.2.2.2.2.2.2.2.2.2.2.2.2.2.2.1, u.2.2.2.2.2.2.2.2.2.2.2.2.2.2.2.2.1, u.2.2.2.2.2.2.2.2.2.2.2.2.2.2.2.2.2)) H := hP
  replace hD : va_D A (MW cI ma (s0, u.2.1, u.2.2.1, u.2.2.2.1, u.2.2.2.2.1, u.2.2.2.2.2.1, u.2.2.2.2.2.2.1, u.2.2.2.2.2.2.2.1, u.2.2.2.2.2.2.2.2.1, u.2.2.2.2.2.2.2.2.2.1, u.2.2.2.2.2.2.2.2.2.2.1, u.2.2.2.2.2.2.2.2.2.2.2.1, u.2.2.2.2.2.2.2.2.2.2.2.2.1, u.2.2.2.2.2.2.2.2.2.2.2.2.2.1, u.2.2.2.2.2.2.2.2.2.2.2.2.2.2.1, u.2.2.2.2.2.2.2.2.2.2.2.2.2.2.2.1, u.2.2.2.2.2.2.2.2.2.2.2.2.2.2.2.2.1, u.2.2.2.2.2.2.2.2.2.2.2.2.2.2.2.2.2)) := hD
  refine lv_aload_n hx hb dX2_part_99 rfl (lv_at hl 0 rfl) ?_
  refine va_get (D := D) (ci := 2) (v := .int s0) (C := RX2) (T := TX2) (N := 18) hx hb hts (fun w h => cwc w (in_X2 w h)) hown hK hP 0 rfl rfl 0 (by decide) hk_54 (fun _ h9 => h9) rfl dX2_part_100 ?_
  refine lv_if_le (tgt := 107) hx hb dX2_part_103 (by decide) (fun c_7 => ?_) (fun c_7 => ?_)
  · replace hF := (if_pos c_7).symm.trans hF
    refine lv_iload_n hx hb dX2_part_107 rfl (lv_at hl 2 rfl) ?_
    refine lv_aload_n hx hb dX2_part_108 rfl (lv_at hl 0 rfl) ?_
    refine va_get (D := D) (ci := 2) (v := .ref (ma 8)) (C := RX2) (T := TX2) (N := 18) hx hb hts (fun w h => cwc w (in_X2 w h)) hown hK hP 0 rfl rfl 12 (by decide) hk_35 (fun _ h9 => h9) rfl dX2_part_109 ?_
    refine lv_bipush (v := (32 : Int32)) hx hb dX2_part_112 (by decide +kernel) ?_
    refine lv_iload_n hx hb dX2_part_114 rfl (lv_at hl 1 rfl) ?_
    refine lv_iadd hx hb dX2_part_115 ?_
    obtain ⟨h_8, hF⟩ := gd_some hF
    refine va_iald (f := u.2.2.2.2.2.2.2.2.2.2.2.2.1) hx hb hK hP 8 0 rfl rfl (inb_in h_8) dX2_part_116 ?_
    refine lv_icmp_ge (tgt := 124) hx hb dX2_part_117 (by decide) (fun c_9 => ?_) (fun c_9 => ?_)
    · replace hF := (if_pos c_9).symm.trans hF
      refine lv_aload_n hx hb dX2_part_124 rfl (lv_at hl 0 rfl) ?_
      refine va_get (D := D) (ci := 2) (v := .ref (ma 8)) (C := RX2) (T := TX2) (N := 18) hx hb hts (fun w h => cwc w (in_X2 w h)) hown hK hP 0 rfl rfl 12 (by decide) hk_35 (fun _ h9 => h9) rfl dX2_part_125 ?_
      refine lv_bipush (v := (32 : Int32)) hx hb dX2_part_128 (by decide +kernel) ?_
      refine lv_iload_n hx hb dX2_part_130 rfl (lv_at hl 1 rfl) ?_
      refine lv_iadd hx hb dX2_part_131 ?_
      obtain ⟨h_10, hF⟩ := gd_some hF
      refine va_iald (f := u.2.2.2.2.2.2.2.2.2.2.2.2.1) hx hb hK hP 8 0 rfl rfl (inb_in h_10) dX2_part_132 ?_
      obtain ⟨v11, ev11, hF⟩ := nm_some hF
      refine W.eq (g2 := F0 m 133 ls (.int v11 :: [])) (congrArg (fun z => F0 m 133 ls (.int z :: [])) ev11.symm) ?_
      refine lv_istore (lv' := [(5, .int v11), (0, .ref (ma 0)), (1, .int x1), (2, .int x2), (3, .int x3)]) hx hb dX2_part_133 hl (by decide) rfl (fun ls hl => ?_)
      refine lv_aload_n hx hb dX2_part_135 rfl (lv_at hl 1 rfl) ?_
      refine va_get (D := D) (ci := 2) (v := .ref (ma 8)) (C := RX2) (T := TX2) (N := 18) hx hb hts (fun w h => cwc w (in_X2 w h)) hown hK hP 0 rfl rfl 12 (by decide) hk_35 (fun _ h9 => h9) rfl dX2_part_136 ?_
      refine lv_bipush (v := (48 : Int32)) hx hb dX2_part_139 (by decide +kernel) ?_
      refine lv_iconst (v := (0 : Int32)) hx hb dX2_part_141 (by decide +kernel) ?_
      obtain ⟨h_12, hF⟩ := gd_some hF
      refine va_iast (f := u.2.2.2.2.2.2.2.2.2.2.2.2.1) hx hb hK hP hD hS 8 0 rfl rfl (inb_in h_12) dX2_part_142 (fun H locs hP hD hS => ?_)
      replace hP : va_P D vwCl (MW cI ma (s0, u.2.1, u.2.2.1, u.2.2.2.1, u.2.2.2.2.1, u.2.2.2.2.2.1, u.2.2.2.2.2.2.1, u.2.2.2.2.2.2.2.1, u.2.2.2.2.2.2.2.2.1, u.2.2.2.2.2.2.2.2.2.1, u.2.2.2.2.2.2.2.2.2.2.1, u.2.2.2.2.2.2.2.2.2.2.2.1, (upd u.2.2.2.2.2.2.2.2.2.2.2.2.1 (48 : Int32).toNatClampNeg (0 : Int32)), u.2.2.2.2.2.2.2.2.2.2.2.2.2.1, u.2.2.2.2.2.2.2.2.2.2.2.2.2.2.1, u.2.2.2.2.2.2.2.2.2.2.2.2.2.2.2.1, u.2.2.2.2.2.2.2.2.2.2.2.2.2.2.2.2.1, u.2.2.2.2.2.2.2.2.2.2.2.2.2.2.2.2.2)) H := hP
      replace hD : va_D A (MW cI ma (s0, u.2.1, u.2.2.1, u.2.2.2.1, u.2.2.2.2.1, u.2.2.2.2.2.1, u.2.2.2.2.2.2.1, u.2.2.2.2.2.2.2.1, u.2.2.2.2.2.2.2.2.1, u.2.2.2.2.2.2.2.2.2.1, u.2.2.2.2.2.2.2.2.2.2.1, u.2.2.2.2.2.2.2.2.2.2.2.1, (upd u.2.2.2.2.2.2.2.2.2.2.2.2.1 (48 : Int32).toNatClampNeg (0 : Int32)), u.2.2.2.2.2.2.2.2.2.2.2.2.2.1, u.2.2.2.2.2.2.2.2.2.2.2.2.2.2.1, u.2.2.2.2.2.2.2.2.2.2.2.2.2.2.2.1, u.2.2.2.2.2.2.2.2.2.2.2.2.2.2.2.2.1, u.2.2.2.2.2.2.2.2.2.2.2.2.2.2.2.2.2)) := hD
      refine lv_iload hx hb dX2_part_143 (lv_at hl 0 rfl) ?_
      refine lv_istore (lv' := [(6, .int v11), (5, .int v11), (0, .ref (ma 0)), (1, .int x1), (2, .int x2), (3, .int x3)]) hx hb dX2_part_145 hl (by decide) rfl (fun ls hl => ?_)
      exact w_M_part_L147 hx hb hr hml hown hts hlocks hA hK 1001 x1 x3 v11 v11 (s0, u.2.1, u.2.2.1, u.2.2.2.1, u.2.2.2.2.1, u.2.2.2.2.2.1, u.2.2.2.2.2.2.1, u.2.2.2.2.2.2.2.1, u.2.2.2.2.2.2.2.2.1, u.2.2.2.2.2.2.2.2.2.1, u.2.2.2.2.2.2.2.2.2.2.1, u.2.2.2.2.2.2.2.2.2.2.2.1, (upd u.2.2.2.2.2.2.2.2.2.2.2.2.1 (48 : Int32).toNatClampNeg (0 : Int32)), u.2.2.2.2.2.2.2.2.2.2.2.2.2.1, u.2.2.2.2.2.2.2.2.2.2.2.2.2.2.1, u.2.2.2.2.2.2.2.2.2.2.2.2.2.2.2.1, u.2.2.2.2.2.2.2.2.2.2.2.2.2.2.2.2.1, u.2.2.2.2.2.2.2.2.2.2.2.2.2.2.2.2.2) _ _ hF H locs ls hP hD hS (lv_sub hl [2, 3, 5, 1, 0] rfl)
    · replace hF := (if_neg c_9).symm.trans hF
      refine lv_iload_n hx hb dX2_part_120 rfl (lv_at hl 2 rfl) ?_
      refine lv_goto (tgt := 133) hx hb dX2_part_121 (by decide) ?_
      refine lv_istore (lv' := [(5, .int x2), (0, .ref (ma 0)), (1, .int x1), (2, .int x2), (3, .int x3)]) hx hb dX2_part_133 hl (by decide) rfl (fun ls hl => ?_)
      refine lv_aload_n hx hb dX2_part_135 rfl (lv_at hl 1 rfl) ?_
      refine va_get (D := D) (ci := 2) (v := .ref (ma 8)) (C := RX2) (T := TX2) (N := 18) hx hb hts (fun w h => cwc w (in_X2 w h)) hown hK hP 0 rfl rfl 12 (by decide) hk_35 (fun _ h9 => h9) rfl dX2_part_136 ?_
      refine lv_bipush (v := (48 : Int32)) hx hb dX2_part_139 (by decide +kernel) ?_
      refine lv_iconst (v := (0 : Int32)) hx hb dX2_part_141 (by decide +kernel) ?_
      obtain ⟨h_29, hF⟩ := gd_some hF
      refine va_iast (f := u.2.2.2.2.2.2.2.2.2.2.2.2.1) hx hb hK hP hD hS 8 0 rfl rfl (inb_in h_29) dX2_part_142 (fun H locs hP hD hS => ?_)
      replace hP : va_P D vwCl (MW cI ma (s0, u.2.1, u.2.2.1, u.2.2.2.1, u.2.2.2.2.1, u.2.2.2.2.2.1, u.2.2.2.2.2.2.1, u.2.2.2.2.2.2.2.1, u.2.2.2.2.2.2.2.2.1, u.2.2.2.2.2.2.2.2.2.1, u.2.2.2.2.2.2.2.2.2.2.1, u.2.2.2.2.2.2.2.2.2.2.2.1, (upd u.2.2.2.2.2.2.2.2.2.2.2.2.1 (48 : Int32).toNatClampNeg (0 : Int32)), u.2.2.2.2.2.2.2.2.2.2.2.2.2.1, u.2.2.2.2.2.2.2.2.2.2.2.2.2.2.1, u.2.2.2.2.2.2.2.2.2.2.2.2.2.2.2.1, u.2.2.2.2.2.2.2.2.2.2.2.2.2.2.2.2.1, u.2.2.2.2.2.2.2.2.2.2.2.2.2.2.2.2.2)) H := hP
      replace hD : va_D A (MW cI ma (s0, u.2.1, u.2.2.1, u.2.2.2.1, u.2.2.2.2.1, u.2.2.2.2.2.1, u.2.2.2.2.2.2.1, u.2.2.2.2.2.2.2.1, u.2.2.2.2.2.2.2.2.1, u.2.2.2.2.2.2.2.2.2.1, u.2.2.2.2.2.2.2.2.2.2.1, u.2.2.2.2.2.2.2.2.2.2.2.1, (upd u.2.2.2.2.2.2.2.2.2.2.2.2.1 (48 : Int32).toNatClampNeg (0 : Int32)), u.2.2.2.2.2.2.2.2.2.2.2.2.2.1, u.2.2.2.2.2.2.2.2.2.2.2.2.2.2.1, u.2.2.2.2.2.2.2.2.2.2.2.2.2.2.2.1, u.2.2.2.2.2.2.2.2.2.2.2.2.2.2.2.2.1, u.2.2.2.2.2.2.2.2.2.2.2.2.2.2.2.2.2)) := hD
      refine lv_iload hx hb dX2_part_143 (lv_at hl 0 rfl) ?_
      refine lv_istore (lv' := [(6, .int x2), (5, .int x2), (0, .ref (ma 0)), (1, .int x1), (2, .int x2), (3, .int x3)]) hx hb dX2_part_145 hl (by decide) rfl (fun ls hl => ?_)
      exact w_M_part_L147 hx hb hr hml hown hts hlocks hA hK 1001 x1 x3 x2 x2 (s0, u.2.1, u.2.2.1, u.2.2.2.1, u.2.2.2.2.1, u.2.2.2.2.2.1, u.2.2.2.2.2.2.1, u.2.2.2.2.2.2.2.1, u.2.2.2.2.2.2.2.2.1, u.2.2.2.2.2.2.2.2.2.1, u.2.2.2.2.2.2.2.2.2.2.1, u.2.2.2.2.2.2.2.2.2.2.2.1, (upd u.2.2.2.2.2.2.2.2.2.2.2.2.1 (48 : Int32).toNatClampNeg (0 : Int32)), u.2.2.2.2.2.2.2.2.2.2.2.2.2.1, u.2.2.2.2.2.2.2.2.2.2.2.2.2.2.1, u.2.2.2.2.2.2.2.2.2.2.2.2.2.2.2.1, u.2.2.2.2.2.2.2.2.2.2.2.2.2.2.2.2.1, u.2.2.2.2.2.2.2.2.2.2.2.2.2.2.2.2.2) _ _ hF H locs ls hP hD hS (lv_sub hl [2, 3, 5, 1, 0] rfl)
  · replace hF := (if_neg c_7).symm.trans hF
    cases hF
    refine W.widen (k := 0) (n := 0) (Nat.le_of_ble_eq_true rfl) (Nat.le_of_ble_eq_true rfl) ?_
    exact W.vret hx hb hr (fun t ht hW => ⟨⟨_, rfl, rfl, by rw [ht]; exact hP, va_K.moved hW.alike hK, hD⟩, hS.F ht⟩) hS.2.2 dX2_part_106
set_option maxHeartbeats 4000000 in
set_option maxRecDepth 100000 in
theorem w_M_part_J91 {p : Program} {l : Launch} {e : Env} {s : State} {m : MethodId} {args : Array Value} {below : List Frame} {meth : Method} {c : Code} {A : Nat → Prop} {D : va_G} {cI cR : ClassId} {ma : Nat → Nat} (hx : p.tables.exec = Jvm.exec) (hb : c.code = cX2_part) (hr : meth.sig.returnType = none) (hml : c.maxLocals = 7) (hown : s.vm.findClass RX2 = some m.cls) (hts : ∀ w ∈ wsX2_part, w.before args s = true) (hlocks : meth.locks = false) (hA : ∀ q : Nat, s.heap.size ≤ q → A q) (hK : va_K D vwCl (TY cI cR) s) : ∀ (x1 x2 x3 : Int32) (u : MSt) (r : Unit) (u' : MSt), F_M_part_J91 x1 x2 x3 u = some (r, u') → ∀ (H : Heap) (locs : List Loc) (ls : Array Slot), va_P D vwCl (MW cI ma u) H → va_D A (MW cI ma u) → va_S A s.heap H locs → lv_has ls 7 [(0, .ref (ma 0)), (1, .int x1), (2, .int x2), (3, .int x3)] → W p l e (headSpec wsX2_part ({ frames := 4, cells := 0, slots := 0, locals := 94 })).room s m args below meth c H locs 0 0 (MQ below (QV D (TY cI cR) A (fun v => MW cI ma v) u') args s 0 0 A) (F0 m 91 ls [.ref (ma 0)]) := by
  have hk_54 := (hts _ (cwc _ mw_335))
  have hk_35 := (hts _ (cwc _ mw_347))
  have hk_39 := (hts _ (cwc _ mw_348))
  have hC_97 := (hts _ (cwc _ mw_444))
  have hk_42 := (hts _ (cwc _ mw_349))
  have hk_29 := (hts _ (cwc _ mw_345))
  have hk_32 := (hts _ (cwc _ mw_346))
  intro x1 x2 x3 u r u' hF H locs ls hP hD hS hl
  unfold F_M_part_J91 at hF
  refine lv_iconst (v := (2 : Int32)) hx hb dX2_part_91 (by decide +kernel) ?_
  refine lv_goto (tgt := 96) hx hb dX2_part_92 (by decide) ?_
  exact w_M_part_J96 hx hb hr hml hown hts hlocks hA hK x1 x2 x3 (2 : Int32) u _ _ hF H locs ls hP hD hS (lv_sub hl [0, 1, 2, 3] rfl)
set_option maxHeartbeats 4000000 in
set_option maxRecDepth 100000 in
theorem w_M_part_J23 {p : Program} {l : Launch} {e : Env} {s : State} {m : MethodId} {args : Array Value} {below : List Frame} {meth : Method} {c : Code} {A : Nat → Prop} {D : va_G} {cI cR : ClassId} {ma : Nat → Nat} (hx : p.tables.exec = Jvm.exec) (hb : c.code = cX2_part) (hr : meth.sig.returnType = none) (hml : c.maxLocals = 7) (hown : s.vm.findClass RX2 = some m.cls) (hts : ∀ w ∈ wsX2_part, w.before args s = true) (hlocks : meth.locks = false) (hA : ∀ q : Nat, s.heap.size ≤ q → A q) (hK : va_K D vwCl (TY cI cR) s) : ∀ (x1 x2 x3 s0 : Int32) (u : MSt) (r : Unit) (u' : MSt), F_M_part_J23 x1 x2 x3 s0 u = some (r, u') → ∀ (H : Heap) (locs : List Loc) (ls : Array Slot), va_P D vwCl (MW cI ma u) H → va_D A (MW cI ma u) → va_S A s.heap H locs → lv_has ls 7 [(0, .ref (ma 0)), (1, .int x1), (2, .int x2), (3, .int x3)] → W p l e (headSpec wsX2_part ({ frames := 4, cells := 0, slots := 0, locals := 94 })).room s m args below meth c H locs 0 0 (MQ below (QV D (TY cI cR) A (fun v => MW cI ma v) u') args s 0 0 A) (F0 m 23 ls [.int s0]) := by
  have hk_54 := (hts _ (cwc _ mw_335))
  have hk_35 := (hts _ (cwc _ mw_347))
  have hk_39 := (hts _ (cwc _ mw_348))
  have hC_97 := (hts _ (cwc _ mw_444))
  have hk_42 := (hts _ (cwc _ mw_349))
  have hk_29 := (hts _ (cwc _ mw_345))
  have hk_32 := (hts _ (cwc _ mw_346))
  intro x1 x2 x3 s0 u r u' hF H locs ls hP hD hS hl
  unfold F_M_part_J23 at hF
  refine lv_istore (lv' := [(4, .int s0), (0, .ref (ma 0)), (1, .int x1), (2, .int x2), (3, .int x3)]) hx hb dX2_part_23 hl (by decide) rfl (fun ls hl => ?_)
  refine lv_aload_n hx hb dX2_part_25 rfl (lv_at hl 1 rfl) ?_
  refine lv_iload hx hb dX2_part_26 (lv_at hl 0 rfl) ?_
  refine lv_if_ne (tgt := 35) hx hb dX2_part_28 (by decide) (fun c_5 => ?_) (fun c_5 => ?_)
  · replace hF := (if_neg c_5).symm.trans hF
    refine lv_iload_n hx hb dX2_part_35 rfl (lv_at hl 3 rfl) ?_
    refine lv_if_lt (tgt := 91) hx hb dX2_part_36 (by decide) (fun c_6 => ?_) (fun c_6 => ?_)
    · replace hF := (if_pos c_6).symm.trans hF
      exact w_M_part_J91 hx hb hr hml hown hts hlocks hA hK x1 x2 x3 u _ _ hF H locs ls hP hD hS (lv_sub hl [1, 2, 3, 4] rfl)
    · replace hF := (if_neg c_6).symm.trans hF
      refine lv_iload_n hx hb dX2_part_39 rfl (lv_at hl 2 rfl) ?_
      refine lv_iload_n hx hb dX2_part_40 rfl (lv_at hl 4 rfl) ?_
      refine lv_icmp_eq (tgt := 91) hx hb dX2_part_41 (by decide) (fun c_30 => ?_) (fun c_30 => ?_)
      · replace hF := (if_pos c_30).symm.trans hF
        exact w_M_part_J91 hx hb hr hml hown hts hlocks hA hK x1 x2 x3 u _ _ hF H locs ls hP hD hS (lv_sub hl [1, 2, 3, 4] rfl)
      · replace hF := (if_neg c_30).symm.trans hF
        refine lv_aload_n hx hb dX2_part_44 rfl (lv_at hl 1 rfl) ?_
        refine va_get (D := D) (ci := 2) (v := .ref (ma 8)) (C := RX2) (T := TX2) (N := 18) hx hb hts (fun w h => cwc w (in_X2 w h)) hown hK hP 0 rfl rfl 12 (by decide) hk_35 (fun _ h9 => h9) rfl dX2_part_45 ?_
        refine lv_bipush (v := (32 : Int32)) hx hb dX2_part_48 (by decide +kernel) ?_
        refine lv_iload_n hx hb dX2_part_50 rfl (lv_at hl 4 rfl) ?_
        refine lv_iadd hx hb dX2_part_51 ?_
        obtain ⟨h_31, hF⟩ := gd_some hF
        refine va_iald (f := u.2.2.2.2.2.2.2.2.2.2.2.2.1) hx hb hK hP 8 0 rfl rfl (inb_in h_31) dX2_part_52 ?_
        refine lv_if_gt (tgt := 91) hx hb dX2_part_53 (by decide) (fun c_32 => ?_) (fun c_32 => ?_)
        · replace hF := (if_pos c_32).symm.trans hF
          exact w_M_part_J91 hx hb hr hml hown hts hlocks hA hK x1 x2 x3 u _ _ hF H locs ls hP hD hS (lv_sub hl [1, 2, 3, 4] rfl)
        · replace hF := (if_neg c_32).symm.trans hF
          refine lv_aload_n hx hb dX2_part_56 rfl (lv_at hl 1 rfl) ?_
          refine va_get (D := D) (ci := 2) (v := .ref (ma 6)) (C := RX2) (T := TX2) (N := 18) hx hb hts (fun w h => cwc w (in_X2 w h)) hown hK hP 0 rfl rfl 10 (by decide) hk_29 (fun _ h9 => h9) rfl dX2_part_57 ?_
          refine lv_iload_n hx hb dX2_part_60 rfl (lv_at hl 2 rfl) ?_
          obtain ⟨h_33, hF⟩ := gd_some hF
          refine va_iald (f := u.2.2.2.2.2.2.2.2.2.2.1) hx hb hK hP 6 0 rfl rfl (inb_in h_33) dX2_part_61 ?_
          refine lv_aload_n hx hb dX2_part_62 rfl (lv_at hl 1 rfl) ?_
          refine va_get (D := D) (ci := 2) (v := .ref (ma 6)) (C := RX2) (T := TX2) (N := 18) hx hb hts (fun w h => cwc w (in_X2 w h)) hown hK hP 0 rfl rfl 10 (by decide) hk_29 (fun _ h9 => h9) rfl dX2_part_63 ?_
          refine lv_iload_n hx hb dX2_part_66 rfl (lv_at hl 4 rfl) ?_
          obtain ⟨h_34, hF⟩ := gd_some hF
          refine va_iald (f := u.2.2.2.2.2.2.2.2.2.2.1) hx hb hK hP 6 0 rfl rfl (inb_in h_34) dX2_part_67 ?_
          refine lv_icmp_ne (tgt := 91) hx hb dX2_part_68 (by decide) (fun c_35 => ?_) (fun c_35 => ?_)
          · replace hF := (if_neg c_35).symm.trans hF
            exact w_M_part_J91 hx hb hr hml hown hts hlocks hA hK x1 x2 x3 u _ _ hF H locs ls hP hD hS (lv_sub hl [1, 2, 3, 4] rfl)
          · replace hF := (if_pos c_35).symm.trans hF
            refine lv_aload_n hx hb dX2_part_71 rfl (lv_at hl 1 rfl) ?_
            refine va_get (D := D) (ci := 2) (v := .ref (ma 8)) (C := RX2) (T := TX2) (N := 18) hx hb hts (fun w h => cwc w (in_X2 w h)) hown hK hP 0 rfl rfl 12 (by decide) hk_35 (fun _ h9 => h9) rfl dX2_part_72 ?_
            refine lv_bipush (v := (32 : Int32)) hx hb dX2_part_75 (by decide +kernel) ?_
            refine lv_iload_n hx hb dX2_part_77 rfl (lv_at hl 2 rfl) ?_
            refine lv_iadd hx hb dX2_part_78 ?_
            obtain ⟨h_36, hF⟩ := gd_some hF
            refine va_iald (f := u.2.2.2.2.2.2.2.2.2.2.2.2.1) hx hb hK hP 8 0 rfl rfl (inb_in h_36) dX2_part_79 ?_
            refine lv_iload_n hx hb dX2_part_80 rfl (lv_at hl 3 rfl) ?_
            refine lv_isub hx hb dX2_part_81 ?_
            refine lv_aload_n hx hb dX2_part_82 rfl (lv_at hl 1 rfl) ?_
            refine va_get (D := D) (ci := 2) (v := .ref (ma 7)) (C := RX2) (T := TX2) (N := 18) hx hb hts (fun w h => cwc w (in_X2 w h)) hown hK hP 0 rfl rfl 11 (by decide) hk_32 (fun _ h9 => h9) rfl dX2_part_83 ?_
            refine lv_iload_n hx hb dX2_part_86 rfl (lv_at hl 4 rfl) ?_
            obtain ⟨h_37, hF⟩ := gd_some hF
            refine va_iald (f := u.2.2.2.2.2.2.2.2.2.2.2.1) hx hb hK hP 7 0 rfl rfl (inb_in h_37) dX2_part_87 ?_
            refine lv_icmp_le (tgt := 95) hx hb dX2_part_88 (by decide) (fun c_38 => ?_) (fun c_38 => ?_)
            · replace hF := (if_pos c_38).symm.trans hF
              refine lv_iconst (v := (0 : Int32)) hx hb dX2_part_95 (by decide +kernel) ?_
              exact w_M_part_J96 hx hb hr hml hown hts hlocks hA hK x1 x2 x3 (0 : Int32) u _ _ hF H locs ls hP hD hS (lv_sub hl [1, 2, 3, 4] rfl)
            · replace hF := (if_neg c_38).symm.trans hF
              exact w_M_part_J91 hx hb hr hml hown hts hlocks hA hK x1 x2 x3 u _ _ hF H locs ls hP hD hS (lv_sub hl [1, 2, 3, 4] rfl)
  · replace hF := (if_pos c_5).symm.trans hF
    refine lv_iconst (v := (1 : Int32)) hx hb dX2_part_31 (by decide +kernel) ?_
    refine lv_goto (tgt := 96) hx hb dX2_part_32 (by decide) ?_
    exact w_M_part_J96 hx hb hr hml hown hts hlocks hA hK x1 x2 x3 (1 : Int32) u _ _ hF H locs ls hP hD hS (lv_sub hl [1, 2, 3, 4] rfl)
set_option maxHeartbeats 4000000 in
set_option maxRecDepth 100000 in
theorem w_M_part_J22 {p : Program} {l : Launch} {e : Env} {s : State} {m : MethodId} {args : Array Value} {below : List Frame} {meth : Method} {c : Code} {A : Nat → Prop} {D : va_G} {cI cR : ClassId} {ma : Nat → Nat} (hx : p.tables.exec = Jvm.exec) (hb : c.code = cX2_part) (hr : meth.sig.returnType = none) (hml : c.maxLocals = 7) (hown : s.vm.findClass RX2 = some m.cls) (hts : ∀ w ∈ wsX2_part, w.before args s = true) (hlocks : meth.locks = false) (hA : ∀ q : Nat, s.heap.size ≤ q → A q) (hK : va_K D vwCl (TY cI cR) s) : ∀ (x1 x2 x3 : Int32) (u : MSt) (r : Unit) (u' : MSt), F_M_part_J22 x1 x2 x3 u = some (r, u') → ∀ (H : Heap) (locs : List Loc) (ls : Array Slot), va_P D vwCl (MW cI ma u) H → va_D A (MW cI ma u) → va_S A s.heap H locs → lv_has ls 7 [(0, .ref (ma 0)), (1, .int x1), (2, .int x2), (3, .int x3)] → W p l e (headSpec wsX2_part ({ frames := 4, cells := 0, slots := 0, locals := 94 })).room s m args below meth c H locs 0 0 (MQ below (QV D (TY cI cR) A (fun v => MW cI ma v) u') args s 0 0 A) (F0 m 22 ls []) := by
  have hk_54 := (hts _ (cwc _ mw_335))
  have hk_35 := (hts _ (cwc _ mw_347))
  have hk_39 := (hts _ (cwc _ mw_348))
  have hC_97 := (hts _ (cwc _ mw_444))
  have hk_42 := (hts _ (cwc _ mw_349))
  have hk_29 := (hts _ (cwc _ mw_345))
  have hk_32 := (hts _ (cwc _ mw_346))
  intro x1 x2 x3 u r u' hF H locs ls hP hD hS hl
  unfold F_M_part_J22 at hF
  refine lv_iconst (v := (0 : Int32)) hx hb dX2_part_22 (by decide +kernel) ?_
  exact w_M_part_J23 hx hb hr hml hown hts hlocks hA hK x1 x2 x3 (0 : Int32) u _ _ hF H locs ls hP hD hS (lv_sub hl [0, 1, 2, 3] rfl)
set_option maxHeartbeats 4000000 in
set_option maxRecDepth 100000 in
theorem c_M_part (l : Launch) (D : va_G) (cI cR : ClassId) (ma : Nat → Nat) (sz : Nat) (p1 : Int32) (p2 : Int32) (p3 : Int32) (u : MSt) (r : Unit) (u' : MSt) (hF : F_M_part p1 p2 p3 u = some (r, u')) : Met l yX2_part wsX2_part ({ frames := 4, cells := 0, slots := 0, locals := 94 }) (va_Pc [.ref (ma 0), .int p1, .int p2, .int p3] (PRE D (TY cI cR) (MW cI ma u) sz)) (QV D (TY cI cR) (va_A (MW cI ma u) sz) (fun v => MW cI ma v) u') 0 0 (va_A (MW cI ma u) sz) := by
  refine Met.ofW (cc := cX2_part) (maxL := 7) (ret := none) (by decide) rfl ?_
  intro p e s m args below meth c s₁ B hml hv
  obtain ⟨rfl, hsz, hP, hK, hD0⟩ := hv
  have hx := B.exec
  have hb := B.bytes
  have hr := B.returns
  have hts := atoms_spec (ws := wsX2_part) B.pre
  have hown : s.vm.findClass RX2 = some m.cls := findClass_of_methodNamed B.named
  have hlocks := B.notSynchronized
  subst hsz
  have hD := hD0.self (sz := s.heap.size)
  generalize hAe : va_A (MW cI ma u) s.heap.size = A at hD ⊢
  have hA : ∀ q : Nat, s.heap.size ≤ q → A q := fun q h => by rw [← hAe]; exact Or.inr h
  have hS : va_S A s.heap s.heap [] := va_S.rf
  replace hP : va_P D vwCl (MW cI ma u) s.heap := hP
  have hl := lv_entry ([.ref (ma 0), .int p1, .int p2, .int p3]) (n := 7) (Nat.le_of_ble_eq_true rfl)
  rw [lg_entry_eq]
  generalize (lg_sl ([.ref (ma 0), .int p1, .int p2, .int p3]) ++ List.replicate (7 - (lg_sl ([.ref (ma 0), .int p1, .int p2, .int p3])).length) Slot.unset).toArray = ls at hl ⊢
  replace hl : lv_has ls 7 [(0, .ref (ma 0)), (1, .int p1), (2, .int p2), (3, .int p3)] := hl
  have hk_54 := (hts _ (cwc _ mw_335))
  have hk_35 := (hts _ (cwc _ mw_347))
  have hk_39 := (hts _ (cwc _ mw_348))
  have hC_97 := (hts _ (cwc _ mw_444))
  have hk_42 := (hts _ (cwc _ mw_349))
  have hk_29 := (hts _ (cwc _ mw_345))
  have hk_32 := (hts _ (cwc _ mw_346))
  unfold F_M_part at hF
  refine (?_ : ∀ (H : Heap) (locs : List Loc), va_P D vwCl (MW cI ma u) H → va_S A s.heap H locs → W p l e _ s m _ below meth c H locs 0 0 _ (F0 m 0 ls [])) s.heap [] hP hS
  intro H locs hP hS
  refine lv_iload_n hx hb dX2_part_0 rfl (lv_at hl 1 rfl) ?_
  refine lv_bipush (v := (16 : Int32)) hx hb dX2_part_1 (by decide +kernel) ?_
  obtain ⟨r2, u1, hc_3, hF⟩ := bi_some hF
  refine kc_i (W1 := MW cI ma u) (va_runS (As := [.int p1, .int (16 : Int32)]) (rest := []) ⟨hx, hb, hml, hown, hts⟩ (c_M_in l D cI cR  H.size p1 (16 : Int32) () r2 u1 hc_3) (va_cwS 2 hts (gS cwc mw_380 mw_381 mw_3 mw_382) rfl rfl rfl (by decide +kernel) ⟨(Nat.le_of_ble_eq_true rfl), (Nat.le_of_ble_eq_true rfl)⟩) (kp_S hK hP hD (sb_nil _)) rfl rfl hl.1 rfl (lv_room (Nat.le_of_ble_eq_true rfl)) dX2_part_3 ⟨(Nat.le_of_ble_eq_true rfl), (Nat.le_of_ble_eq_true rfl)⟩) hP hD hS hA (sb_nil _) (jn_nil _) (fun H locs hP hD hS => ?_)
  refine lv_if_eq (tgt := 22) hx hb dX2_part_6 (by decide) (fun c_4 => ?_) (fun c_4 => ?_)
  · replace hF := (if_pos c_4).symm.trans hF
    exact w_M_part_J22 hx hb hr hml hown hts hlocks hA hK p1 p2 p3 u _ _ hF H locs ls hP hD hS (lv_sub hl [0, 1, 2, 3] rfl)
  · replace hF := (if_neg c_4).symm.trans hF
    refine lv_iload_n hx hb dX2_part_9 rfl (lv_at hl 3 rfl) ?_
    refine lv_bipush (v := (16 : Int32)) hx hb dX2_part_10 (by decide +kernel) ?_
    obtain ⟨r40, u39, hc_41, hF⟩ := bi_some hF
    refine kc_i (W1 := MW cI ma u) (va_runS (As := [.int p3, .int (16 : Int32)]) (rest := []) ⟨hx, hb, hml, hown, hts⟩ (c_M_in l D cI cR  H.size p3 (16 : Int32) () r40 u39 hc_41) (va_cwS 2 hts (gS cwc mw_380 mw_381 mw_3 mw_382) rfl rfl rfl (by decide +kernel) ⟨(Nat.le_of_ble_eq_true rfl), (Nat.le_of_ble_eq_true rfl)⟩) (kp_S hK hP hD (sb_nil _)) rfl rfl hl.1 rfl (lv_room (Nat.le_of_ble_eq_true rfl)) dX2_part_12 ⟨(Nat.le_of_ble_eq_true rfl), (Nat.le_of_ble_eq_true rfl)⟩) hP hD hS hA (sb_nil _) (jn_nil _) (fun H locs hP hD hS => ?_)
    refine lv_if_eq (tgt := 22) hx hb dX2_part_15 (by decide) (fun c_42 => ?_) (fun c_42 => ?_)
    · replace hF := (if_pos c_42).symm.trans hF
      exact w_M_part_J22 hx hb hr hml hown hts hlocks hA hK p1 p2 p3 u _ _ hF H locs ls hP hD hS (lv_sub hl [0, 1, 2, 3] rfl)
    · replace hF := (if_neg c_42).symm.trans hF
      refine lv_iconst (v := (1 : Int32)) hx hb dX2_part_18 (by decide +kernel) ?_
      refine lv_goto (tgt := 23) hx hb dX2_part_19 (by decide) ?_
      exact w_M_part_J23 hx hb hr hml hown hts hlocks hA hK p1 p2 p3 (1 : Int32) u _ _ hF H locs ls hP hD hS (lv_sub hl [0, 1, 2, 3] rfl)
