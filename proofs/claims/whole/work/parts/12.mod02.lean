def F_M_accept_J28 (x1 x2 s0 : Int32) (u : MSt) : Option ((Unit) × MSt) := (if s0 = (0 : Int32) then gd (inb x1 8) (some ((), (s0, u.2.1, u.2.2.1, u.2.2.2.1, u.2.2.2.2.1, u.2.2.2.2.2.1, u.2.2.2.2.2.2.1, (upd u.2.2.2.2.2.2.2.1 x1.toNatClampNeg x2), u.2.2.2.2.2.2.2.2.1, u.2.2.2.2.2.2.2.2.2.1, u.2.2.2.2.2.2.2.2.2.2.1, u.2.2.2.2.2.2.2.2.2.2.2.1, u.2.2.2.2.2.2.2.2.2.2.2.2.1, u.2.2.2.2.2.2.2.2.2.2.2.2.2.1, u.2.2.2.2.2.2.2.2.2.2.2.2.2.2.1, u.2.2.2.2.2.2.2.2.2.2.2.2.2.2.2.1, u.2.2.2.2.2.2.2.2.2.2.2.2.2.2.2.2.1, u.2.2.2.2.2.2.2.2.2.2.2.2.2.2.2.2.2))) else some ((), (s0, u.2.1, u.2.2.1, u.2.2.2.1, u.2.2.2.2.1, u.2.2.2.2.2.1, u.2.2.2.2.2.2.1, u.2.2.2.2.2.2.2.1, u.2.2.2.2.2.2.2.2.1, u.2.2.2.2.2.2.2.2.2.1, u.2.2.2.2.2.2.2.2.2.2.1, u.2.2.2.2.2.2.2.2.2.2.2.1, u.2.2.2.2.2.2.2.2.2.2.2.2.1, u.2.2.2.2.2.2.2.2.2.2.2.2.2.1, u.2.2.2.2.2.2.2.2.2.2.2.2.2.2.1, u.2.2.2.2.2.2.2.2.2.2.2.2.2.2.2.1, u.2.2.2.2.2.2.2.2.2.2.2.2.2.2.2.2.1, u.2.2.2.2.2.2.2.2.2.2.2.2.2.2.2.2.2)))
def F_M_accept (p1 : Int32) (p2 : Int32) (u : MSt) : Option ((Unit) × MSt) := bi (F_M_in p1 (8 : Int32) ()) (fun r2 u1 => (if r2 = (0 : Int32) then F_M_accept_J28 p1 p2 (1 : Int32) u else bi (F_M_in p2 (16 : Int32) ()) (fun r6 u5 => (if r6 = (0 : Int32) then F_M_accept_J28 p1 p2 (2 : Int32) u else F_M_accept_J28 p1 p2 (0 : Int32) u))))
set_option maxHeartbeats 4000000 in
set_option maxRecDepth 100000 in
theorem w_M_accept_J28 {p : Program} {l : Launch} {e : Env} {s : State} {m : MethodId} {args : Array Value} {below : List Frame} {meth : Method} {c : Code} {A : Nat → Prop} {D : va_G} {cI cR : ClassId} {ma : Nat → Nat} (hx : p.tables.exec = Jvm.exec) (hb : c.code = cX2_accept) (hr : meth.sig.returnType = none) (hml : c.maxLocals = 3) (hown : s.vm.findClass RX2 = some m.cls) (hts : ∀ w ∈ wsX2_accept, w.before args s = true) (hlocks : meth.locks = false) (hA : ∀ q : Nat, s.heap.size ≤ q → A q) (hK : va_K D vwCl (TY cI cR) s) : ∀ (x1 x2 s0 : Int32) (u : MSt) (r : Unit) (u' : MSt), F_M_accept_J28 x1 x2 s0 u = some (r, u') → ∀ (H : Heap) (locs : List Loc) (ls : Array Slot), va_P D vwCl (MW cI ma u) H → va_D A (MW cI ma u) → va_S A s.heap H locs → lv_has ls 3 [(0, .ref (ma 0)), (1, .int x1), (2, .int x2)] → W p l e (headSpec wsX2_accept ({ frames := 1, cells := 0, slots := 0, locals := 21 })).room s m args below meth c H locs 0 0 (MQ below (QV D (TY cI cR) A (fun v => MW cI ma v) u') args s 0 0 A) (F0 m 28 ls [.int s0, .ref (ma 0)]) := by
  have hk_54 := (hts _ (cwc _ mw_335))
  have hk_20 := (hts _ (cwc _ mw_342))
  intro x1 x2 s0 u r u' hF H locs ls hP hD hS hl
  unfold F_M_accept_J28 at hF
  refine va_put (D := D) (ci := 2) (v := .int s0) (ty := .int) (C := RX2) (T := TX2) (N := 18) hx hb hts (fun w h => cwc w (in_X2 w h)) tyX2 tyX2_ok nmX2 hown hK hP hD hS 0 rfl rfl 0 (by decide) hk_54 (fun _ h9 => h9) rfl (by decide +kernel) rfl rfl (Nat.le_of_ble_eq_true rfl) dX2_accept_28 (fun H locs hP hD hS => ?_)
  replace hP : va_P D vwCl (MW cI ma (s0, u.2.1, u.2.2.1, u.2.2.2.1, u.2.2.2.2.1, u.2.2.2.2.2.1, u.2.2.2.2.2.2.1, u.2.2.2.2.2.2.2.1, u.2.2.2.2.2.2.2.2.1, u.2.2.2.2.2.2.2.2.2.1, u.2.2.2.2.2.2.2.2.2.2.1, u.2.2.2.2.2.2.2.2.2.2.2.1, u.2.2.2.2.2.2.2.2.2.2.2.2.1, u.2.2.2.2.2.2.2.2.2.2.2.2.2.1, u.2.2.2.2.2.2.2.2.2.2.2.2.2.2.1, u.2.2.2.2.2.2.2.2.2.2.2.2.2.2.2.1, u.2.2.2.2.2.2.2.2.2.2.2.2.2.2.2.2.1, u.2.2.2.2.2.2.2.2.2.2.2.2.2.2.2.2.2)) H := hP
  replace hD : va_D A (MW cI ma (s0, u.2.1, u.2.2.1, u.2.2.2.1, u.2.2.2.2.1, u.2.2.2.2.2.1, u.2.2.2.2.2.2.1, u.2.2.2.2.2.2.2.1, u.2.2.2.2.2.2.2.2.1, u.2.2.2.2.2.2.2.2.2.1, u.2.2.2.2.2.2.2.2.2.2.1, u.2.2.2.2.2.2.2.2.2.2.2.1, u.2.2.2.2.2.2.2.2.2.2.2.2.1, u.2.2.2.2.2.2.2.2.2.2.2.2.2.1, u.2.2.2.2.2.2.2.2.2.2.2.2.2.2.1, u.2.2.2.2.2.2.2.2.2.2.2.2.2.2.2.1, u.2.2.2.2.2.2.2.2.2.2.2.2.2.2.2.2.1, u.2.2.2.2.2.2.2.2.2.2.2.2.2.2.2.2.2)) := hD
  refine lv_aload_n hx hb dX2_accept_31 rfl (lv_at hl 0 rfl) ?_
  refine va_get (D := D) (ci := 2) (v := .int s0) (C := RX2) (T := TX2) (N := 18) hx hb hts (fun w h => cwc w (in_X2 w h)) hown hK hP 0 rfl rfl 0 (by decide) hk_54 (fun _ h9 => h9) rfl dX2_accept_32 ?_
  refine lv_if_ne (tgt := 45) hx hb dX2_accept_35 (by decide) (fun c_9 => ?_) (fun c_9 => ?_)
  · replace hF := (if_neg c_9).symm.trans hF
    cases hF
    refine W.widen (k := 0) (n := 0) (Nat.le_of_ble_eq_true rfl) (Nat.le_of_ble_eq_true rfl) ?_
    exact W.vret hx hb hr (fun t ht hW => ⟨⟨_, rfl, rfl, by rw [ht]; exact hP, va_K.moved hW.alike hK, hD⟩, hS.F ht⟩) hS.2.2 dX2_accept_45
  · replace hF := (if_pos c_9).symm.trans hF
    refine lv_aload_n hx hb dX2_accept_38 rfl (lv_at hl 0 rfl) ?_
    refine va_get (D := D) (ci := 2) (v := .ref (ma 3)) (C := RX2) (T := TX2) (N := 18) hx hb hts (fun w h => cwc w (in_X2 w h)) hown hK hP 0 rfl rfl 7 (by decide) hk_20 (fun _ h9 => h9) rfl dX2_accept_39 ?_
    refine lv_iload_n hx hb dX2_accept_42 rfl (lv_at hl 1 rfl) ?_
    refine lv_iload_n hx hb dX2_accept_43 rfl (lv_at hl 2 rfl) ?_
    obtain ⟨h_10, hF⟩ := gd_some hF
    refine va_iast (f := u.2.2.2.2.2.2.2.1) hx hb hK hP hD hS 3 0 rfl rfl (inb_in h_10) dX2_accept_44 (fun H locs hP hD hS => ?_)
    replace hP : va_P D vwCl (MW cI ma (s0, u.2.1, u.2.2.1, u.2.2.2.1, u.2.2.2.2.1, u.2.2.2.2.2.1, u.2.2.2.2.2.2.1, (upd u.2.2.2.2.2.2.2.1 x1.toNatClampNeg x2), u.2.2.2.2.2.2.2.2.1, u.2.2.2.2.2.2.2.2.2.1, u.2.2.2.2.2.2.2.2.2.2.1, u.2.2.2.2.2.2.2.2.2.2.2.1, u.2.2.2.2.2.2.2.2.2.2.2.2.1, u.2.2.2.2.2.2.2.2.2.2.2.2.2.1, u.2.2.2.2.2.2.2.2.2.2.2.2.2.2.1, u.2.2.2.2.2.2.2.2.2.2.2.2.2.2.2.1, u.2.2.2.2.2.2.2.2.2.2.2.2.2.2.2.2.1, u.2.2.2.2.2.2.2.2.2.2.2.2.2.2.2.2.2)) H := hP
    replace hD : va_D A (MW cI ma (s0, u.2.1, u.2.2.1, u.2.2.2.1, u.2.2.2.2.1, u.2.2.2.2.2.1, u.2.2.2.2.2.2.1, (upd u.2.2.2.2.2.2.2.1 x1.toNatClampNeg x2), u.2.2.2.2.2.2.2.2.1, u.2.2.2.2.2.2.2.2.2.1, u.2.2.2.2.2.2.2.2.2.2.1, u.2.2.2.2.2.2.2.2.2.2.2.1, u.2.2.2.2.2.2.2.2.2.2.2.2.1, u.2.2.2.2.2.2.2.2.2.2.2.2.2.1, u.2.2.2.2.2.2.2.2.2.2.2.2.2.2.1, u.2.2.2.2.2.2.2.2.2.2.2.2.2.2.2.1, u.2.2.2.2.2.2.2.2.2.2.2.2.2.2.2.2.1, u.2.2.2.2.2.2.2.2.2.2.2.2.2.2.2.2.2)) := hD
    cases hF
    refine W.widen (k := 0) (n := 0) (Nat.le_of_ble_eq_true rfl) (Nat.le_of_ble_eq_true rfl) ?_
    exact W.vret hx hb hr (fun t ht hW => ⟨⟨_, rfl, rfl, by rw [ht]; exact hP, va_K.moved hW.alike hK, hD⟩, hS.F ht⟩) hS.2.2 dX2_accept_45
set_option maxHeartbeats 4000000 in
set_option maxRecDepth 100000 in
theorem c_M_accept (l : Launch) (D : va_G) (cI cR : ClassId) (ma : Nat → Nat) (sz : Nat) (p1 : Int32) (p2 : Int32) (u : MSt) (r : Unit) (u' : MSt) (hF : F_M_accept p1 p2 u = some (r, u')) : Met l yX2_accept wsX2_accept ({ frames := 1, cells := 0, slots := 0, locals := 21 }) (va_Pc [.ref (ma 0), .int p1, .int p2] (PRE D (TY cI cR) (MW cI ma u) sz)) (QV D (TY cI cR) (va_A (MW cI ma u) sz) (fun v => MW cI ma v) u') 0 0 (va_A (MW cI ma u) sz) := by
  refine Met.ofW (cc := cX2_accept) (maxL := 3) (ret := none) (by decide) rfl ?_
  intro p e s m args below meth c s₁ B hml hv
  obtain ⟨rfl, hsz, hP, hK, hD0⟩ := hv
  have hx := B.exec
  have hb := B.bytes
  have hr := B.returns
  have hts := atoms_spec (ws := wsX2_accept) B.pre
  have hown : s.vm.findClass RX2 = some m.cls := findClass_of_methodNamed B.named
  have hlocks := B.notSynchronized
  subst hsz
  have hD := hD0.self (sz := s.heap.size)
  generalize hAe : va_A (MW cI ma u) s.heap.size = A at hD ⊢
  have hA : ∀ q : Nat, s.heap.size ≤ q → A q := fun q h => by rw [← hAe]; exact Or.inr h
  have hS : va_S A s.heap s.heap [] := va_S.rf
  replace hP : va_P D vwCl (MW cI ma u) s.heap := hP
  have hl := lv_entry ([.ref (ma 0), .int p1, .int p2]) (n := 3) (Nat.le_of_ble_eq_true rfl)
  rw [lg_entry_eq]
  generalize (lg_sl ([.ref (ma 0), .int p1, .int p2]) ++ List.replicate (3 - (lg_sl ([.ref (ma 0), .int p1, .int p2])).length) Slot.unset).toArray = ls at hl ⊢
  replace hl : lv_has ls 3 [(0, .ref (ma 0)), (1, .int p1), (2, .int p2)] := hl
  have hk_54 := (hts _ (cwc _ mw_335))
  have hk_20 := (hts _ (cwc _ mw_342))
  unfold F_M_accept at hF
  refine (?_ : ∀ (H : Heap) (locs : List Loc), va_P D vwCl (MW cI ma u) H → va_S A s.heap H locs → W p l e _ s m _ below meth c H locs 0 0 _ (F0 m 0 ls [])) s.heap [] hP hS
  intro H locs hP hS
  refine lv_aload_n hx hb dX2_accept_0 rfl (lv_at hl 0 rfl) ?_
  refine lv_iload_n hx hb dX2_accept_1 rfl (lv_at hl 1 rfl) ?_
  refine lv_bipush (v := (8 : Int32)) hx hb dX2_accept_2 (by decide +kernel) ?_
  obtain ⟨r2, u1, hc_3, hF⟩ := bi_some hF
  refine kc_i (W1 := MW cI ma u) (va_runS (As := [.int p1, .int (8 : Int32)]) (rest := [.ref (ma 0)]) ⟨hx, hb, hml, hown, hts⟩ (c_M_in l D cI cR  H.size p1 (8 : Int32) () r2 u1 hc_3) (va_cwS 2 hts (gS cwc mw_380 mw_381 mw_3 mw_382) rfl rfl rfl (by decide +kernel) ⟨(Nat.le_of_ble_eq_true rfl), (Nat.le_of_ble_eq_true rfl)⟩) (kp_S hK hP hD (sb_nil _)) rfl rfl hl.1 rfl (lv_room (Nat.le_of_ble_eq_true rfl)) dX2_accept_4 ⟨(Nat.le_of_ble_eq_true rfl), (Nat.le_of_ble_eq_true rfl)⟩) hP hD hS hA (sb_nil _) (jn_nil _) (fun H locs hP hD hS => ?_)
  refine lv_if_ne (tgt := 14) hx hb dX2_accept_7 (by decide) (fun c_4 => ?_) (fun c_4 => ?_)
  · replace hF := (if_neg c_4).symm.trans hF
    refine lv_iload_n hx hb dX2_accept_14 rfl (lv_at hl 2 rfl) ?_
    refine lv_bipush (v := (16 : Int32)) hx hb dX2_accept_15 (by decide +kernel) ?_
    obtain ⟨r6, u5, hc_7, hF⟩ := bi_some hF
    refine kc_i (W1 := MW cI ma u) (va_runS (As := [.int p2, .int (16 : Int32)]) (rest := [.ref (ma 0)]) ⟨hx, hb, hml, hown, hts⟩ (c_M_in l D cI cR  H.size p2 (16 : Int32) () r6 u5 hc_7) (va_cwS 2 hts (gS cwc mw_380 mw_381 mw_3 mw_382) rfl rfl rfl (by decide +kernel) ⟨(Nat.le_of_ble_eq_true rfl), (Nat.le_of_ble_eq_true rfl)⟩) (kp_S hK hP hD (sb_nil _)) rfl rfl hl.1 rfl (lv_room (Nat.le_of_ble_eq_true rfl)) dX2_accept_17 ⟨(Nat.le_of_ble_eq_true rfl), (Nat.le_of_ble_eq_true rfl)⟩) hP hD hS hA (sb_nil _) (jn_nil _) (fun H locs hP hD hS => ?_)
    refine lv_if_ne (tgt := 27) hx hb dX2_accept_20 (by decide) (fun c_8 => ?_) (fun c_8 => ?_)
    · replace hF := (if_neg c_8).symm.trans hF
      refine lv_iconst (v := (0 : Int32)) hx hb dX2_accept_27 (by decide +kernel) ?_
      exact w_M_accept_J28 hx hb hr hml hown hts hlocks hA hK p1 p2 (0 : Int32) u _ _ hF H locs ls hP hD hS (lv_sub hl [0, 1, 2] rfl)
    · replace hF := (if_pos c_8).symm.trans hF
      refine lv_iconst (v := (2 : Int32)) hx hb dX2_accept_23 (by decide +kernel) ?_
      refine lv_goto (tgt := 28) hx hb dX2_accept_24 (by decide) ?_
      exact w_M_accept_J28 hx hb hr hml hown hts hlocks hA hK p1 p2 (2 : Int32) u _ _ hF H locs ls hP hD hS (lv_sub hl [0, 1, 2] rfl)
  · replace hF := (if_pos c_4).symm.trans hF
    refine lv_iconst (v := (1 : Int32)) hx hb dX2_accept_10 (by decide +kernel) ?_
    refine lv_goto (tgt := 28) hx hb dX2_accept_11 (by decide) ?_
    exact w_M_accept_J28 hx hb hr hml hown hts hlocks hA hK p1 p2 (1 : Int32) u _ _ hF H locs ls hP hD hS (lv_sub hl [0, 1, 2] rfl)
def F_M_make_J40 (x1 x2 x3 s0 : Int32) (u : MSt) : Option ((Unit) × MSt) := (if s0 = (0 : Int32) then gd (inb (((4 : Int32) * x1) + x2) 32) (some ((), (s0, u.2.1, u.2.2.1, u.2.2.2.1, u.2.2.2.2.1, u.2.2.2.2.2.1, u.2.2.2.2.2.2.1, u.2.2.2.2.2.2.2.1, u.2.2.2.2.2.2.2.2.1, (upd u.2.2.2.2.2.2.2.2.2.1 (((4 : Int32) * x1) + x2).toNatClampNeg x3), u.2.2.2.2.2.2.2.2.2.2.1, u.2.2.2.2.2.2.2.2.2.2.2.1, u.2.2.2.2.2.2.2.2.2.2.2.2.1, u.2.2.2.2.2.2.2.2.2.2.2.2.2.1, u.2.2.2.2.2.2.2.2.2.2.2.2.2.2.1, u.2.2.2.2.2.2.2.2.2.2.2.2.2.2.2.1, u.2.2.2.2.2.2.2.2.2.2.2.2.2.2.2.2.1, u.2.2.2.2.2.2.2.2.2.2.2.2.2.2.2.2.2))) else some ((), (s0, u.2.1, u.2.2.1, u.2.2.2.1, u.2.2.2.2.1, u.2.2.2.2.2.1, u.2.2.2.2.2.2.1, u.2.2.2.2.2.2.2.1, u.2.2.2.2.2.2.2.2.1, u.2.2.2.2.2.2.2.2.2.1, u.2.2.2.2.2.2.2.2.2.2.1, u.2.2.2.2.2.2.2.2.2.2.2.1, u.2.2.2.2.2.2.2.2.2.2.2.2.1, u.2.2.2.2.2.2.2.2.2.2.2.2.2.1, u.2.2.2.2.2.2.2.2.2.2.2.2.2.2.1, u.2.2.2.2.2.2.2.2.2.2.2.2.2.2.2.1, u.2.2.2.2.2.2.2.2.2.2.2.2.2.2.2.2.1, u.2.2.2.2.2.2.2.2.2.2.2.2.2.2.2.2.2)))
def F_M_make_J18 (x1 x2 x3 : Int32) (u : MSt) : Option ((Unit) × MSt) := F_M_make_J40 x1 x2 x3 (1 : Int32) u
def F_M_make_J39 (x1 x2 x3 : Int32) (u : MSt) : Option ((Unit) × MSt) := F_M_make_J40 x1 x2 x3 (0 : Int32) u
def F_M_make (p1 : Int32) (p2 : Int32) (p3 : Int32) (u : MSt) : Option ((Unit) × MSt) := bi (F_M_in p1 (8 : Int32) ()) (fun r2 u1 => (if r2 = (0 : Int32) then F_M_make_J18 p1 p2 p3 u else bi (F_M_in p2 (4 : Int32) ()) (fun r8 u7 => (if r8 = (0 : Int32) then F_M_make_J18 p1 p2 p3 u else (if p3 = (-1 : Int32) then F_M_make_J39 p1 p2 p3 u else bi (F_M_in p3 (4 : Int32) ()) (fun r13 u12 => (if r13 = (0 : Int32) then F_M_make_J40 p1 p2 p3 (2 : Int32) u else F_M_make_J39 p1 p2 p3 u)))))))
set_option maxHeartbeats 4000000 in
set_option maxRecDepth 100000 in
theorem w_M_make_J40 {p : Program} {l : Launch} {e : Env} {s : State} {m : MethodId} {args : Array Value} {below : List Frame} {meth : Method} {c : Code} {A : Nat → Prop} {D : va_G} {cI cR : ClassId} {ma : Nat → Nat} (hx : p.tables.exec = Jvm.exec) (hb : c.code = cX2_make) (hr : meth.sig.returnType = none) (hml : c.maxLocals = 4) (hown : s.vm.findClass RX2 = some m.cls) (hts : ∀ w ∈ wsX2_make, w.before args s = true) (hlocks : meth.locks = false) (hA : ∀ q : Nat, s.heap.size ≤ q → A q) (hK : va_K D vwCl (TY cI cR) s) : ∀ (x1 x2 x3 s0 : Int32) (u : MSt) (r : Unit) (u' : MSt), F_M_make_J40 x1 x2 x3 s0 u = some (r, u') → ∀ (H : Heap) (locs : List Loc) (ls : Array Slot), va_P D vwCl (MW cI ma u) H → va_D A (MW cI ma u) → va_S A s.heap H locs → lv_has ls 4 [(0, .ref (ma 0)), (1, .int x1), (2, .int x2), (3, .int x3)] → W p l e (headSpec wsX2_make ({ frames := 1, cells := 0, slots := 0, locals := 21 })).room s m args below meth c H locs 0 0 (MQ below (QV D (TY cI cR) A (fun v => MW cI ma v) u') args s 0 0 A) (F0 m 40 ls [.int s0, .ref (ma 0)]) := by
  have hk_54 := (hts _ (cwc _ mw_335))
  have hk_26 := (hts _ (cwc _ mw_344))
  intro x1 x2 x3 s0 u r u' hF H locs ls hP hD hS hl
  unfold F_M_make_J40 at hF
  refine va_put (D := D) (ci := 2) (v := .int s0) (ty := .int) (C := RX2) (T := TX2) (N := 18) hx hb hts (fun w h => cwc w (in_X2 w h)) tyX2 tyX2_ok nmX2 hown hK hP hD hS 0 rfl rfl 0 (by decide) hk_54 (fun _ h9 => h9) rfl (by decide +kernel) rfl rfl (Nat.le_of_ble_eq_true rfl) dX2_make_40 (fun H locs hP hD hS => ?_)
  replace hP : va_P D vwCl (MW cI ma (s0, u.2.1, u.2.2.1, u.2.2.2.1, u.2.2.2.2.1, u.2.2.2.2.2.1, u.2.2.2.2.2.2.1, u.2.2.2.2.2.2.2.1, u.2.2.2.2.2.2.2.2.1, u.2.2.2.2.2.2.2.2.2.1, u.2.2.2.2.2.2.2.2.2.2.1, u.2.2.2.2.2.2.2.2.2.2.2.1, u.2.2.2.2.2.2.2.2.2.2.2.2.1, u.2.2.2.2.2.2.2.2.2.2.2.2.2.1, u.2.2.2.2.2.2.2.2.2.2.2.2.2.2.1, u.2.2.2.2.2.2.2.2.2.2.2.2.2.2.2.1, u.2.2.2.2.2.2.2.2.2.2.2.2.2.2.2.2.1, u.2.2.2.2.2.2.2.2.2.2.2.2.2.2.2.2.2)) H := hP
  replace hD : va_D A (MW cI ma (s0, u.2.1, u.2.2.1, u.2.2.2.1, u.2.2.2.2.1, u.2.2.2.2.2.1, u.2.2.2.2.2.2.1, u.2.2.2.2.2.2.2.1, u.2.2.2.2.2.2.2.2.1, u.2.2.2.2.2.2.2.2.2.1, u.2.2.2.2.2.2.2.2.2.2.1, u.2.2.2.2.2.2.2.2.2.2.2.1, u.2.2.2.2.2.2.2.2.2.2.2.2.1, u.2.2.2.2.2.2.2.2.2.2.2.2.2.1, u.2.2.2.2.2.2.2.2.2.2.2.2.2.2.1, u.2.2.2.2.2.2.2.2.2.2.2.2.2.2.2.1, u.2.2.2.2.2.2.2.2.2.2.2.2.2.2.2.2.1, u.2.2.2.2.2.2.2.2.2.2.2.2.2.2.2.2.2)) := hD
  refine lv_aload_n hx hb dX2_make_43 rfl (lv_at hl 0 rfl) ?_
  refine va_get (D := D) (ci := 2) (v := .int s0) (C := RX2) (T := TX2) (N := 18) hx hb hts (fun w h => cwc w (in_X2 w h)) hown hK hP 0 rfl rfl 0 (by decide) hk_54 (fun _ h9 => h9) rfl dX2_make_44 ?_
  refine lv_if_ne (tgt := 61) hx hb dX2_make_47 (by decide) (fun c_5 => ?_) (fun c_5 => ?_)
  · replace hF := (if_neg c_5).symm.trans hF
    cases hF
    refine W.widen (k := 0) (n := 0) (Nat.le_of_ble_eq_true rfl) (Nat.le_of_ble_eq_true rfl) ?_
    exact W.vret hx hb hr (fun t ht hW => ⟨⟨_, rfl, rfl, by rw [ht]; exact hP, va_K.moved hW.alike hK, hD⟩, hS.F ht⟩) hS.2.2 dX2_make_61
  · replace hF := (if_pos c_5).symm.trans hF
    refine lv_aload_n hx hb dX2_make_50 rfl (lv_at hl 0 rfl) ?_
    refine va_get (D := D) (ci := 2) (v := .ref (ma 5)) (C := RX2) (T := TX2) (N := 18) hx hb hts (fun w h => cwc w (in_X2 w h)) hown hK hP 0 rfl rfl 9 (by decide) hk_26 (fun _ h9 => h9) rfl dX2_make_51 ?_
    refine lv_iconst (v := (4 : Int32)) hx hb dX2_make_54 (by decide +kernel) ?_
    refine lv_iload_n hx hb dX2_make_55 rfl (lv_at hl 1 rfl) ?_
    refine lv_imul hx hb dX2_make_56 ?_
    refine lv_iload_n hx hb dX2_make_57 rfl (lv_at hl 2 rfl) ?_
    refine lv_iadd hx hb dX2_make_58 ?_
    refine lv_iload_n hx hb dX2_make_59 rfl (lv_at hl 3 rfl) ?_
    obtain ⟨h_6, hF⟩ := gd_some hF
    refine va_iast (f := u.2.2.2.2.2.2.2.2.2.1) hx hb hK hP hD hS 5 0 rfl rfl (inb_in h_6) dX2_make_60 (fun H locs hP hD hS => ?_)
    replace hP : va_P D vwCl (MW cI ma (s0, u.2.1, u.2.2.1, u.2.2.2.1, u.2.2.2.2.1, u.2.2.2.2.2.1, u.2.2.2.2.2.2.1, u.2.2.2.2.2.2.2.1, u.2.2.2.2.2.2.2.2.1, (upd u.2.2.2.2.2.2.2.2.2.1 (((4 : Int32) * x1) + x2).toNatClampNeg x3), u.2.2.2.2.2.2.2.2.2.2.1, u.2.2.2.2.2.2.2.2.2.2.2.1, u.2.2.2.2.2.2.2.2.2.2.2.2.1, u.2.2.2.2.2.2.2.2.2.2.2.2.2.1, u.2.2.2.2.2.2.2.2.2.2.2.2.2.2.1, u.2.2.2.2.2.2.2.2.2.2.2.2.2.2.2.1, u.2.2.2.2.2.2.2.2.2.2.2.2.2.2.2.2.1, u.2.2.2.2.2.2.2.2.2.2.2.2.2.2.2.2.2)) H := hP
    replace hD : va_D A (MW cI ma (s0, u.2.1, u.2.2.1, u.2.2.2.1, u.2.2.2.2.1, u.2.2.2.2.2.1, u.2.2.2.2.2.2.1, u.2.2.2.2.2.2.2.1, u.2.2.2.2.2.2.2.2.1, (upd u.2.2.2.2.2.2.2.2.2.1 (((4 : Int32) * x1) + x2).toNatClampNeg x3), u.2.2.2.2.2.2.2.2.2.2.1, u.2.2.2.2.2.2.2.2.2.2.2.1, u.2.2.2.2.2.2.2.2.2.2.2.2.1, u.2.2.2.2.2.2.2.2.2.2.2.2.2.1, u.2.2.2.2.2.2.2.2.2.2.2.2.2.2.1, u.2.2.2.2.2.2.2.2.2.2.2.2.2.2.2.1, u.2.2.2.2.2.2.2.2.2.2.2.2.2.2.2.2.1, u.2.2.2.2.2.2.2.2.2.2.2.2.2.2.2.2.2)) := hD
    cases hF
    refine W.widen (k := 0) (n := 0) (Nat.le_of_ble_eq_true rfl) (Nat.le_of_ble_eq_true rfl) ?_
    exact W.vret hx hb hr (fun t ht hW => ⟨⟨_, rfl, rfl, by rw [ht]; exact hP, va_K.moved hW.alike hK, hD⟩, hS.F ht⟩) hS.2.2 dX2_make_61
set_option maxHeartbeats 4000000 in
set_option maxRecDepth 100000 in
theorem w_M_make_J18 {p : Program} {l : Launch} {e : Env} {s : State} {m : MethodId} {args : Array Value} {below : List Frame} {meth : Method} {c : Code} {A : Nat → Prop} {D : va_G} {cI cR : ClassId} {ma : Nat → Nat} (hx : p.tables.exec = Jvm.exec) (hb : c.code = cX2_make) (hr : meth.sig.returnType = none) (hml : c.maxLocals = 4) (hown : s.vm.findClass RX2 = some m.cls) (hts : ∀ w ∈ wsX2_make, w.before args s = true) (hlocks : meth.locks = false) (hA : ∀ q : Nat, s.heap.size ≤ q → A q) (hK : va_K D vwCl (TY cI cR) s) : ∀ (x1 x2 x3 : Int32) (u : MSt) (r : Unit) (u' : MSt), F_M_make_J18 x1 x2 x3 u = some (r, u') → ∀ (H : Heap) (locs : List Loc) (ls : Array Slot), va_P D vwCl (MW cI ma u) H → va_D A (MW cI ma u) → va_S A s.heap H locs → lv_has ls 4 [(0, .ref (ma 0)), (1, .int x1), (2, .int x2), (3, .int x3)] → W p l e (headSpec wsX2_make ({ frames := 1, cells := 0, slots := 0, locals := 21 })).room s m args below meth c H locs 0 0 (MQ below (QV D (TY cI cR) A (fun v => MW cI ma v) u') args s 0 0 A) (F0 m 18 ls [.ref (ma 0)]) := by
  have hk_54 := (hts _ (cwc _ mw_335))
  have hk_26 := (hts _ (cwc _ mw_344))
  intro x1 x2 x3 u r u' hF H locs ls hP hD hS hl
  unfold F_M_make_J18 at hF
  refine lv_iconst (v := (1 : Int32)) hx hb dX2_make_18 (by decide +kernel) ?_
  refine lv_goto (tgt := 40) hx hb dX2_make_19 (by decide) ?_
  exact w_M_make_J40 hx hb hr hml hown hts hlocks hA hK x1 x2 x3 (1 : Int32) u _ _ hF H locs ls hP hD hS (lv_sub hl [0, 1, 2, 3] rfl)
set_option maxHeartbeats 4000000 in
set_option maxRecDepth 100000 in
theorem w_M_make_J39 {p : Program} {l : Launch} {e : Env} {s : State} {m : MethodId} {args : Array Value} {below : List Frame} {meth : Method} {c : Code} {A : Nat → Prop} {D : va_G} {cI cR : ClassId} {ma : Nat → Nat} (hx : p.tables.exec = Jvm.exec) (hb : c.code = cX2_make) (hr : meth.sig.returnType = none) (hml : c.maxLocals = 4) (hown : s.vm.findClass RX2 = some m.cls) (hts : ∀ w ∈ wsX2_make, w.before args s = true) (hlocks : meth.locks = false) (hA : ∀ q : Nat, s.heap.size ≤ q → A q) (hK : va_K D vwCl (TY cI cR) s) : ∀ (x1 x2 x3 : Int32) (u : MSt) (r : Unit) (u' : MSt), F_M_make_J39 x1 x2 x3 u = some (r, u') → ∀ (H : Heap) (locs : List Loc) (ls : Array Slot), va_P D vwCl (MW cI ma u) H → va_D A (MW cI ma u) → va_S A s.heap H locs → lv_has ls 4 [(0, .ref (ma 0)), (1, .int x1), (2, .int x2), (3, .int x3)] → W p l e (headSpec wsX2_make ({ frames := 1, cells := 0, slots := 0, locals := 21 })).room s m args below meth c H locs 0 0 (MQ below (QV D (TY cI cR) A (fun v => MW cI ma v) u') args s 0 0 A) (F0 m 39 ls [.ref (ma 0)]) := by
  have hk_54 := (hts _ (cwc _ mw_335))
  have hk_26 := (hts _ (cwc _ mw_344))
  intro x1 x2 x3 u r u' hF H locs ls hP hD hS hl
  unfold F_M_make_J39 at hF
  refine lv_iconst (v := (0 : Int32)) hx hb dX2_make_39 (by decide +kernel) ?_
  exact w_M_make_J40 hx hb hr hml hown hts hlocks hA hK x1 x2 x3 (0 : Int32) u _ _ hF H locs ls hP hD hS (lv_sub hl [0, 1, 2, 3] rfl)
set_option maxHeartbeats 4000000 in
set_option maxRecDepth 100000 in
theorem c_M_make (l : Launch) (D : va_G) (cI cR : ClassId) (ma : Nat → Nat) (sz : Nat) (p1 : Int32) (p2 : Int32) (p3 : Int32) (u : MSt) (r : Unit) (u' : MSt) (hF : F_M_make p1 p2 p3 u = some (r, u')) : Met l yX2_make wsX2_make ({ frames := 1, cells := 0, slots := 0, locals := 21 }) (va_Pc [.ref (ma 0), .int p1, .int p2, .int p3] (PRE D (TY cI cR) (MW cI ma u) sz)) (QV D (TY cI cR) (va_A (MW cI ma u) sz) (fun v => MW cI ma v) u') 0 0 (va_A (MW cI ma u) sz) := by
  refine Met.ofW (cc := cX2_make) (maxL := 4) (ret := none) (by decide) rfl ?_
  intro p e s m args below meth c s₁ B hml hv
  obtain ⟨rfl, hsz, hP, hK, hD0⟩ := hv
  have hx := B.exec
  have hb := B.bytes
  have hr := B.returns
  have hts := atoms_spec (ws := wsX2_make) B.pre
  have hown : s.vm.findClass RX2 = some m.cls := findClass_of_methodNamed B.named
  have hlocks := B.notSynchronized
  subst hsz
  have hD := hD0.self (sz := s.heap.size)
  generalize hAe : va_A (MW cI ma u) s.heap.size = A at hD ⊢
  have hA : ∀ q : Nat, s.heap.size ≤ q → A q := fun q h => by rw [← hAe]; exact Or.inr h
  have hS : va_S A s.heap s.heap [] := va_S.rf
  replace hP : va_P D vwCl (MW cI ma u) s.heap := hP
  have hl := lv_entry ([.ref (ma 0), .int p1, .int p2, .int p3]) (n := 4) (Nat.le_of_ble_eq_true rfl)
  rw [lg_entry_eq]
  generalize (lg_sl ([.ref (ma 0), .int p1, .int p2, .int p3]) ++ List.replicate (4 - (lg_sl ([.ref (ma 0), .int p1, .int p2, .int p3])).length) Slot.unset).toArray = ls at hl ⊢
  replace hl : lv_has ls 4 [(0, .ref (ma 0)), (1, .int p1), (2, .int p2), (3, .int p3)] := hl
  have hk_54 := (hts _ (cwc _ mw_335))
  have hk_26 := (hts _ (cwc _ mw_344))
  unfold F_M_make at hF
  refine (?_ : ∀ (H : Heap) (locs : List Loc), va_P D vwCl (MW cI ma u) H → va_S A s.heap H locs → W p l e _ s m _ below meth c H locs 0 0 _ (F0 m 0 ls [])) s.heap [] hP hS
  intro H locs hP hS
  refine lv_aload_n hx hb dX2_make_0 rfl (lv_at hl 0 rfl) ?_
  refine lv_iload_n hx hb dX2_make_1 rfl (lv_at hl 1 rfl) ?_
  refine lv_bipush (v := (8 : Int32)) hx hb dX2_make_2 (by decide +kernel) ?_
  obtain ⟨r2, u1, hc_3, hF⟩ := bi_some hF
  refine kc_i (W1 := MW cI ma u) (va_runS (As := [.int p1, .int (8 : Int32)]) (rest := [.ref (ma 0)]) ⟨hx, hb, hml, hown, hts⟩ (c_M_in l D cI cR  H.size p1 (8 : Int32) () r2 u1 hc_3) (va_cwS 2 hts (gS cwc mw_380 mw_381 mw_3 mw_382) rfl rfl rfl (by decide +kernel) ⟨(Nat.le_of_ble_eq_true rfl), (Nat.le_of_ble_eq_true rfl)⟩) (kp_S hK hP hD (sb_nil _)) rfl rfl hl.1 rfl (lv_room (Nat.le_of_ble_eq_true rfl)) dX2_make_4 ⟨(Nat.le_of_ble_eq_true rfl), (Nat.le_of_ble_eq_true rfl)⟩) hP hD hS hA (sb_nil _) (jn_nil _) (fun H locs hP hD hS => ?_)
  refine lv_if_eq (tgt := 18) hx hb dX2_make_7 (by decide) (fun c_4 => ?_) (fun c_4 => ?_)
  · replace hF := (if_pos c_4).symm.trans hF
    exact w_M_make_J18 hx hb hr hml hown hts hlocks hA hK p1 p2 p3 u _ _ hF H locs ls hP hD hS (lv_sub hl [0, 1, 2, 3] rfl)
  · replace hF := (if_neg c_4).symm.trans hF
    refine lv_iload_n hx hb dX2_make_10 rfl (lv_at hl 2 rfl) ?_
    refine lv_iconst (v := (4 : Int32)) hx hb dX2_make_11 (by decide +kernel) ?_
    obtain ⟨r8, u7, hc_9, hF⟩ := bi_some hF
    refine kc_i (W1 := MW cI ma u) (va_runS (As := [.int p2, .int (4 : Int32)]) (rest := [.ref (ma 0)]) ⟨hx, hb, hml, hown, hts⟩ (c_M_in l D cI cR  H.size p2 (4 : Int32) () r8 u7 hc_9) (va_cwS 2 hts (gS cwc mw_380 mw_381 mw_3 mw_382) rfl rfl rfl (by decide +kernel) ⟨(Nat.le_of_ble_eq_true rfl), (Nat.le_of_ble_eq_true rfl)⟩) (kp_S hK hP hD (sb_nil _)) rfl rfl hl.1 rfl (lv_room (Nat.le_of_ble_eq_true rfl)) dX2_make_12 ⟨(Nat.le_of_ble_eq_true rfl), (Nat.le_of_ble_eq_true rfl)⟩) hP hD hS hA (sb_nil _) (jn_nil _) (fun H locs hP hD hS => ?_)
    refine lv_if_ne (tgt := 22) hx hb dX2_make_15 (by decide) (fun c_10 => ?_) (fun c_10 => ?_)
    · replace hF := (if_neg c_10).symm.trans hF
      refine lv_iload_n hx hb dX2_make_22 rfl (lv_at hl 3 rfl) ?_
      refine lv_iconst (v := (-1 : Int32)) hx hb dX2_make_23 (by decide +kernel) ?_
      refine lv_icmp_eq (tgt := 39) hx hb dX2_make_24 (by decide) (fun c_11 => ?_) (fun c_11 => ?_)
      · replace hF := (if_pos c_11).symm.trans hF
        exact w_M_make_J39 hx hb hr hml hown hts hlocks hA hK p1 p2 p3 u _ _ hF H locs ls hP hD hS (lv_sub hl [0, 1, 2, 3] rfl)
      · replace hF := (if_neg c_11).symm.trans hF
        refine lv_iload_n hx hb dX2_make_27 rfl (lv_at hl 3 rfl) ?_
        refine lv_iconst (v := (4 : Int32)) hx hb dX2_make_28 (by decide +kernel) ?_
        obtain ⟨r13, u12, hc_14, hF⟩ := bi_some hF
        refine kc_i (W1 := MW cI ma u) (va_runS (As := [.int p3, .int (4 : Int32)]) (rest := [.ref (ma 0)]) ⟨hx, hb, hml, hown, hts⟩ (c_M_in l D cI cR  H.size p3 (4 : Int32) () r13 u12 hc_14) (va_cwS 2 hts (gS cwc mw_380 mw_381 mw_3 mw_382) rfl rfl rfl (by decide +kernel) ⟨(Nat.le_of_ble_eq_true rfl), (Nat.le_of_ble_eq_true rfl)⟩) (kp_S hK hP hD (sb_nil _)) rfl rfl hl.1 rfl (lv_room (Nat.le_of_ble_eq_true rfl)) dX2_make_29 ⟨(Nat.le_of_ble_eq_true rfl), (Nat.le_of_ble_eq_true rfl)⟩) hP hD hS hA (sb_nil _) (jn_nil _) (fun H locs hP hD hS => ?_)
        refine lv_if_ne (tgt := 39) hx hb dX2_make_32 (by decide) (fun c_15 => ?_) (fun c_15 => ?_)
        · replace hF := (if_neg c_15).symm.trans hF
          exact w_M_make_J39 hx hb hr hml hown hts hlocks hA hK p1 p2 p3 u _ _ hF H locs ls hP hD hS (lv_sub hl [0, 1, 2, 3] rfl)
        · replace hF := (if_pos c_15).symm.trans hF
          refine lv_iconst (v := (2 : Int32)) hx hb dX2_make_35 (by decide +kernel) ?_
          refine lv_goto (tgt := 40) hx hb dX2_make_36 (by decide) ?_
          exact w_M_make_J40 hx hb hr hml hown hts hlocks hA hK p1 p2 p3 (2 : Int32) u _ _ hF H locs ls hP hD hS (lv_sub hl [0, 1, 2, 3] rfl)
    · replace hF := (if_pos c_10).symm.trans hF
      exact w_M_make_J18 hx hb hr hml hown hts hlocks hA hK p1 p2 p3 u _ _ hF H locs ls hP hD hS (lv_sub hl [0, 1, 2, 3] rfl)
def F_M_wagon_J71 (x1 x2 x3 s0 : Int32) (u : MSt) : Option ((Unit) × MSt) := (if s0 ≤ (0 : Int32) then gd (inb x1 16) (gd (inb x1 16) (some ((), (s0, u.2.1, u.2.2.1, u.2.2.2.1, u.2.2.2.2.1, u.2.2.2.2.2.1, u.2.2.2.2.2.2.1, u.2.2.2.2.2.2.2.1, u.2.2.2.2.2.2.2.2.1, u.2.2.2.2.2.2.2.2.2.1, (upd u.2.2.2.2.2.2.2.2.2.2.1 x1.toNatClampNeg x2), (upd u.2.2.2.2.2.2.2.2.2.2.2.1 x1.toNatClampNeg x3), u.2.2.2.2.2.2.2.2.2.2.2.2.1, u.2.2.2.2.2.2.2.2.2.2.2.2.2.1, u.2.2.2.2.2.2.2.2.2.2.2.2.2.2.1, u.2.2.2.2.2.2.2.2.2.2.2.2.2.2.2.1, u.2.2.2.2.2.2.2.2.2.2.2.2.2.2.2.2.1, u.2.2.2.2.2.2.2.2.2.2.2.2.2.2.2.2.2)))) else some ((), (s0, u.2.1, u.2.2.1, u.2.2.2.1, u.2.2.2.2.1, u.2.2.2.2.2.1, u.2.2.2.2.2.2.1, u.2.2.2.2.2.2.2.1, u.2.2.2.2.2.2.2.2.1, u.2.2.2.2.2.2.2.2.2.1, u.2.2.2.2.2.2.2.2.2.2.1, u.2.2.2.2.2.2.2.2.2.2.2.1, u.2.2.2.2.2.2.2.2.2.2.2.2.1, u.2.2.2.2.2.2.2.2.2.2.2.2.2.1, u.2.2.2.2.2.2.2.2.2.2.2.2.2.2.1, u.2.2.2.2.2.2.2.2.2.2.2.2.2.2.2.1, u.2.2.2.2.2.2.2.2.2.2.2.2.2.2.2.2.1, u.2.2.2.2.2.2.2.2.2.2.2.2.2.2.2.2.2)))
def F_M_wagon_J18 (x1 x2 x3 : Int32) (u : MSt) : Option ((Unit) × MSt) := F_M_wagon_J71 x1 x2 x3 (1 : Int32) u
def F_M_wagon_J66 (x1 x2 x3 : Int32) (u : MSt) : Option ((Unit) × MSt) := F_M_wagon_J71 x1 x2 x3 (2 : Int32) u
def F_M_wagon_J70 (x1 x2 x3 : Int32) (u : MSt) : Option ((Unit) × MSt) := F_M_wagon_J71 x1 x2 x3 (0 : Int32) u
def F_M_wagon (p1 : Int32) (p2 : Int32) (p3 : Int32) (u : MSt) : Option ((Unit) × MSt) := bi (F_M_in p1 (16 : Int32) ()) (fun r2 u1 => (if r2 = (0 : Int32) then F_M_wagon_J18 p1 p2 p3 u else bi (F_M_in p2 (4 : Int32) ()) (fun r9 u8 => (if r9 = (0 : Int32) then F_M_wagon_J18 p1 p2 p3 u else bi (F_M_in p3 (81 : Int32) ()) (fun r13 u12 => (if r13 = (0 : Int32) then F_M_wagon_J66 p1 p2 p3 u else gd (inb ((32 : Int32) + p1) 49) ((if p3 < (u.2.2.2.2.2.2.2.2.2.2.2.2.1 ((32 : Int32) + p1).toNatClampNeg) then F_M_wagon_J66 p1 p2 p3 u else gd (inb ((32 : Int32) + p1) 49) ((if (u.2.2.2.2.2.2.2.2.2.2.2.2.1 ((32 : Int32) + p1).toNatClampNeg) ≤ (0 : Int32) then F_M_wagon_J70 p1 p2 p3 u else gd (inb p1 16) ((if (u.2.2.2.2.2.2.2.2.2.2.1 p1.toNatClampNeg) = p2 then F_M_wagon_J70 p1 p2 p3 u else F_M_wagon_J66 p1 p2 p3 u))))))))))))
set_option maxHeartbeats 4000000 in
set_option maxRecDepth 100000 in
theorem w_M_wagon_J71 {p : Program} {l : Launch} {e : Env} {s : State} {m : MethodId} {args : Array Value} {below : List Frame} {meth : Method} {c : Code} {A : Nat → Prop} {D : va_G} {cI cR : ClassId} {ma : Nat → Nat} (hx : p.tables.exec = Jvm.exec) (hb : c.code = cX2_wagon) (hr : meth.sig.returnType = none) (hml : c.maxLocals = 4) (hown : s.vm.findClass RX2 = some m.cls) (hts : ∀ w ∈ wsX2_wagon, w.before args s = true) (hlocks : meth.locks = false) (hA : ∀ q : Nat, s.heap.size ≤ q → A q) (hK : va_K D vwCl (TY cI cR) s) : ∀ (x1 x2 x3 s0 : Int32) (u : MSt) (r : Unit) (u' : MSt), F_M_wagon_J71 x1 x2 x3 s0 u = some (r, u') → ∀ (H : Heap) (locs : List Loc) (ls : Array Slot), va_P D vwCl (MW cI ma u) H → va_D A (MW cI ma u) → va_S A s.heap H locs → lv_has ls 4 [(0, .ref (ma 0)), (1, .int x1), (2, .int x2), (3, .int x3)] → W p l e (headSpec wsX2_wagon ({ frames := 1, cells := 0, slots := 0, locals := 21 })).room s m args below meth c H locs 0 0 (MQ below (QV D (TY cI cR) A (fun v => MW cI ma v) u') args s 0 0 A) (F0 m 71 ls [.int s0, .ref (ma 0)]) := by
  have hk_54 := (hts _ (cwc _ mw_335))
  have hk_29 := (hts _ (cwc _ mw_345))
  have hk_32 := (hts _ (cwc _ mw_346))
  have hk_35 := (hts _ (cwc _ mw_347))
  intro x1 x2 x3 s0 u r u' hF H locs ls hP hD hS hl
  unfold F_M_wagon_J71 at hF
  refine va_put (D := D) (ci := 2) (v := .int s0) (ty := .int) (C := RX2) (T := TX2) (N := 18) hx hb hts (fun w h => cwc w (in_X2 w h)) tyX2 tyX2_ok nmX2 hown hK hP hD hS 0 rfl rfl 0 (by decide) hk_54 (fun _ h9 => h9) rfl (by decide +kernel) rfl rfl (Nat.le_of_ble_eq_true rfl) dX2_wagon_71 (fun H locs hP hD hS => ?_)
  replace hP : va_P D vwCl (MW cI ma (s0, u.2.1, u.2.2.1, u.2.2.2.1, u.2.2.2.2.1, u.2.2.2.2.2.1, u.2.2.2.2.2.2.1, u.2.2.2.2.2.2.2.1, u.2.2.2.2.2.2.2.2.1, u.2.2.2.2.2.2.2.2.2.1, u.2.2.2.2.2.2.2.2.2.2.1, u.2.2.2.2.2.2.2.2.2.2.2.1, u.2.2.2.2.2.2.2.2.2.2.2.2.1, u.2.2.2.2.2.2.2.2.2.2.2.2.2.1, u.2.2.2.2.2.2.2.2.2.2.2.2.2.2.1, u.2.2.2.2.2.2.2.2.2.2.2.2.2.2.2.1, u.2.2.2.2.2.2.2.2.2.2.2.2.2.2.2.2.1, u.2.2.2.2.2.2.2.2.2.2.2.2.2.2.2.2.2)) H := hP
  replace hD : va_D A (MW cI ma (s0, u.2.1, u.2.2.1, u.2.2.2.1, u.2.2.2.2.1, u.2.2.2.2.2.1, u.2.2.2.2.2.2.1, u.2.2.2.2.2.2.2.1, u.2.2.2.2.2.2.2.2.1, u.2.2.2.2.2.2.2.2.2.1, u.2.2.2.2.2.2.2.2.2.2.1, u.2.2.2.2.2.2.2.2.2.2.2.1, u.2.2.2.2.2.2.2.2.2.2.2.2.1, u.2.2.2.2.2.2.2.2.2.2.2.2.2.1, u.2.2.2.2.2.2.2.2.2.2.2.2.2.2.1, u.2.2.2.2.2.2.2.2.2.2.2.2.2.2.2.1, u.2.2.2.2.2.2.2.2.2.2.2.2.2.2.2.2.1, u.2.2.2.2.2.2.2.2.2.2.2.2.2.2.2.2.2)) := hD
  refine lv_aload_n hx hb dX2_wagon_74 rfl (lv_at hl 0 rfl) ?_
  refine va_get (D := D) (ci := 2) (v := .int s0) (C := RX2) (T := TX2) (N := 18) hx hb hts (fun w h => cwc w (in_X2 w h)) hown hK hP 0 rfl rfl 0 (by decide) hk_54 (fun _ h9 => h9) rfl dX2_wagon_75 ?_
  refine lv_if_le (tgt := 82) hx hb dX2_wagon_78 (by decide) (fun c_5 => ?_) (fun c_5 => ?_)
  · replace hF := (if_pos c_5).symm.trans hF
    refine lv_aload_n hx hb dX2_wagon_82 rfl (lv_at hl 0 rfl) ?_
    refine va_get (D := D) (ci := 2) (v := .ref (ma 6)) (C := RX2) (T := TX2) (N := 18) hx hb hts (fun w h => cwc w (in_X2 w h)) hown hK hP 0 rfl rfl 10 (by decide) hk_29 (fun _ h9 => h9) rfl dX2_wagon_83 ?_
    refine lv_iload_n hx hb dX2_wagon_86 rfl (lv_at hl 1 rfl) ?_
    refine lv_iload_n hx hb dX2_wagon_87 rfl (lv_at hl 2 rfl) ?_
    obtain ⟨h_6, hF⟩ := gd_some hF
    refine va_iast (f := u.2.2.2.2.2.2.2.2.2.2.1) hx hb hK hP hD hS 6 0 rfl rfl (inb_in h_6) dX2_wagon_88 (fun H locs hP hD hS => ?_)
    replace hP : va_P D vwCl (MW cI ma (s0, u.2.1, u.2.2.1, u.2.2.2.1, u.2.2.2.2.1, u.2.2.2.2.2.1, u.2.2.2.2.2.2.1, u.2.2.2.2.2.2.2.1, u.2.2.2.2.2.2.2.2.1, u.2.2.2.2.2.2.2.2.2.1, (upd u.2.2.2.2.2.2.2.2.2.2.1 x1.toNatClampNeg x2), u.2.2.2.2.2.2.2.2.2.2.2.1, u.2.2.2.2.2.2.2.2.2.2.2.2.1, u.2.2.2.2.2.2.2.2.2.2.2.2.2.1, u.2.2.2.2.2.2.2.2.2.2.2.2.2.2.1, u.2.2.2.2.2.2.2.2.2.2.2.2.2.2.2.1, u.2.2.2.2.2.2.2.2.2.2.2.2.2.2.2.2.1, u.2.2.2.2.2.2.2.2.2.2.2.2.2.2.2.2.2)) H := hP
    replace hD : va_D A (MW cI ma (s0, u.2.1, u.2.2.1, u.2.2.2.1, u.2.2.2.2.1, u.2.2.2.2.2.1, u.2.2.2.2.2.2.1, u.2.2.2.2.2.2.2.1, u.2.2.2.2.2.2.2.2.1, u.2.2.2.2.2.2.2.2.2.1, (upd u.2.2.2.2.2.2.2.2.2.2.1 x1.toNatClampNeg x2), u.2.2.2.2.2.2.2.2.2.2.2.1, u.2.2.2.2.2.2.2.2.2.2.2.2.1, u.2.2.2.2.2.2.2.2.2.2.2.2.2.1, u.2.2.2.2.2.2.2.2.2.2.2.2.2.2.1, u.2.2.2.2.2.2.2.2.2.2.2.2.2.2.2.1, u.2.2.2.2.2.2.2.2.2.2.2.2.2.2.2.2.1, u.2.2.2.2.2.2.2.2.2.2.2.2.2.2.2.2.2)) := hD
    refine lv_aload_n hx hb dX2_wagon_89 rfl (lv_at hl 0 rfl) ?_
    refine va_get (D := D) (ci := 2) (v := .ref (ma 7)) (C := RX2) (T := TX2) (N := 18) hx hb hts (fun w h => cwc w (in_X2 w h)) hown hK hP 0 rfl rfl 11 (by decide) hk_32 (fun _ h9 => h9) rfl dX2_wagon_90 ?_
    refine lv_iload_n hx hb dX2_wagon_93 rfl (lv_at hl 1 rfl) ?_
    refine lv_iload_n hx hb dX2_wagon_94 rfl (lv_at hl 3 rfl) ?_
    obtain ⟨h_7, hF⟩ := gd_some hF
    refine va_iast (f := u.2.2.2.2.2.2.2.2.2.2.2.1) hx hb hK hP hD hS 7 0 rfl rfl (inb_in h_7) dX2_wagon_95 (fun H locs hP hD hS => ?_)
    replace hP : va_P D vwCl (MW cI ma (s0, u.2.1, u.2.2.1, u.2.2.2.1, u.2.2.2.2.1, u.2.2.2.2.2.1, u.2.2.2.2.2.2.1, u.2.2.2.2.2.2.2.1, u.2.2.2.2.2.2.2.2.1, u.2.2.2.2.2.2.2.2.2.1, (upd u.2.2.2.2.2.2.2.2.2.2.1 x1.toNatClampNeg x2), (upd u.2.2.2.2.2.2.2.2.2.2.2.1 x1.toNatClampNeg x3), u.2.2.2.2.2.2.2.2.2.2.2.2.1, u.2.2.2.2.2.2.2.2.2.2.2.2.2.1, u.2.2.2.2.2.2.2.2.2.2.2.2.2.2.1, u.2.2.2.2.2.2.2.2.2.2.2.2.2.2.2.1, u.2.2.2.2.2.2.2.2.2.2.2.2.2.2.2.2.1, u.2.2.2.2.2.2.2.2.2.2.2.2.2.2.2.2.2)) H := hP
    replace hD : va_D A (MW cI ma (s0, u.2.1, u.2.2.1, u.2.2.2.1, u.2.2.2.2.1, u.2.2.2.2.2.1, u.2.2.2.2.2.2.1, u.2.2.2.2.2.2.2.1, u.2.2.2.2.2.2.2.2.1, u.2.2.2.2.2.2.2.2.2.1, (upd u.2.2.2.2.2.2.2.2.2.2.1 x1.toNatClampNeg x2), (upd u.2.2.2.2.2.2.2.2.2.2.2.1 x1.toNatClampNeg x3), u.2.2.2.2.2.2.2.2.2.2.2.2.1, u.2.2.2.2.2.2.2.2.2.2.2.2.2.1, u.2.2.2.2.2.2.2.2.2.2.2.2.2.2.1, u.2.2.2.2.2.2.2.2.2.2.2.2.2.2.2.1, u.2.2.2.2.2.2.2.2.2.2.2.2.2.2.2.2.1, u.2.2.2.2.2.2.2.2.2.2.2.2.2.2.2.2.2)) := hD
    cases hF
    refine W.widen (k := 0) (n := 0) (Nat.le_of_ble_eq_true rfl) (Nat.le_of_ble_eq_true rfl) ?_
    exact W.vret hx hb hr (fun t ht hW => ⟨⟨_, rfl, rfl, by rw [ht]; exact hP, va_K.moved hW.alike hK, hD⟩, hS.F ht⟩) hS.2.2 dX2_wagon_96
  · replace hF := (if_neg c_5).symm.trans hF
    cases hF
    refine W.widen (k := 0) (n := 0) (Nat.le_of_ble_eq_true rfl) (Nat.le_of_ble_eq_true rfl) ?_
    exact W.vret hx hb hr (fun t ht hW => ⟨⟨_, rfl, rfl, by rw [ht]; exact hP, va_K.moved hW.alike hK, hD⟩, hS.F ht⟩) hS.2.2 dX2_wagon_81
set_option maxHeartbeats 4000000 in
set_option maxRecDepth 100000 in
theorem w_M_wagon_J18 {p : Program} {l : Launch} {e : Env} {s : State} {m : MethodId} {args : Array Value} {below : List Frame} {meth : Method} {c : Code} {A : Nat → Prop} {D : va_G} {cI cR : ClassId} {ma : Nat → Nat} (hx : p.tables.exec = Jvm.exec) (hb : c.code = cX2_wagon) (hr : meth.sig.returnType = none) (hml : c.maxLocals = 4) (hown : s.vm.findClass RX2 = some m.cls) (hts : ∀ w ∈ wsX2_wagon, w.before args s = true) (hlocks : meth.locks = false) (hA : ∀ q : Nat, s.heap.size ≤ q → A q) (hK : va_K D vwCl (TY cI cR) s) : ∀ (x1 x2 x3 : Int32) (u : MSt) (r : Unit) (u' : MSt), F_M_wagon_J18 x1 x2 x3 u = some (r, u') → ∀ (H : Heap) (locs : List Loc) (ls : Array Slot), va_P D vwCl (MW cI ma u) H → va_D A (MW cI ma u) → va_S A s.heap H locs → lv_has ls 4 [(0, .ref (ma 0)), (1, .int x1), (2, .int x2), (3, .int x3)] → W p l e (headSpec wsX2_wagon ({ frames := 1, cells := 0, slots := 0, locals := 21 })).room s m args below meth c H locs 0 0 (MQ below (QV D (TY cI cR) A (fun v => MW cI ma v) u') args s 0 0 A) (F0 m 18 ls [.ref (ma 0)]) := by
  have hk_54 := (hts _ (cwc _ mw_335))
  have hk_29 := (hts _ (cwc _ mw_345))
  have hk_32 := (hts _ (cwc _ mw_346))
  have hk_35 := (hts _ (cwc _ mw_347))
  intro x1 x2 x3 u r u' hF H locs ls hP hD hS hl
  unfold F_M_wagon_J18 at hF
  refine lv_iconst (v := (1 : Int32)) hx hb dX2_wagon_18 (by decide +kernel) ?_
  refine lv_goto (tgt := 71) hx hb dX2_wagon_19 (by decide) ?_
  exact w_M_wagon_J71 hx hb hr hml hown hts hlocks hA hK x1 x2 x3 (1 : Int32) u _ _ hF H locs ls hP hD hS (lv_sub hl [0, 1, 2, 3] rfl)
set_option maxHeartbeats 4000000 in
set_option maxRecDepth 100000 in
theorem w_M_wagon_J66 {p : Program} {l : Launch} {e : Env} {s : State} {m : MethodId} {args : Array Value} {below : List Frame} {meth : Method} {c : Code} {A : Nat → Prop} {D : va_G} {cI cR : ClassId} {ma : Nat → Nat} (hx : p.tables.exec = Jvm.exec) (hb : c.code = cX2_wagon) (hr : meth.sig.returnType = none) (hml : c.maxLocals = 4) (hown : s.vm.findClass RX2 = some m.cls) (hts : ∀ w ∈ wsX2_wagon, w.before args s = true) (hlocks : meth.locks = false) (hA : ∀ q : Nat, s.heap.size ≤ q → A q) (hK : va_K D vwCl (TY cI cR) s) : ∀ (x1 x2 x3 : Int32) (u : MSt) (r : Unit) (u' : MSt), F_M_wagon_J66 x1 x2 x3 u = some (r, u') → ∀ (H : Heap) (locs : List Loc) (ls : Array Slot), va_P D vwCl (MW cI ma u) H → va_D A (MW cI ma u) → va_S A s.heap H locs → lv_has ls 4 [(0, .ref (ma 0)), (1, .int x1), (2, .int x2), (3, .int x3)] → W p l e (headSpec wsX2_wagon ({ frames := 1, cells := 0, slots := 0, locals := 21 })).room s m args below meth c H locs 0 0 (MQ below (QV D (TY cI cR) A (fun v => MW cI ma v) u') args s 0 0 A) (F0 m 66 ls [.ref (ma 0)]) := by
  have hk_54 := (hts _ (cwc _ mw_335))
  have hk_29 := (hts _ (cwc _ mw_345))
  have hk_32 := (hts _ (cwc _ mw_346))
  have hk_35 := (hts _ (cwc _ mw_347))
  intro x1 x2 x3 u r u' hF H locs ls hP hD hS hl
  unfold F_M_wagon_J66 at hF
  refine lv_iconst (v := (2 : Int32)) hx hb dX2_wagon_66 (by decide +kernel) ?_
  refine lv_goto (tgt := 71) hx hb dX2_wagon_67 (by decide) ?_
  exact w_M_wagon_J71 hx hb hr hml hown hts hlocks hA hK x1 x2 x3 (2 : Int32) u _ _ hF H locs ls hP hD hS (lv_sub hl [0, 1, 2, 3] rfl)
set_option maxHeartbeats 4000000 in
set_option maxRecDepth 100000 in
theorem w_M_wagon_J70 {p : Program} {l : Launch} {e : Env} {s : State} {m : MethodId} {args : Array Value} {below : List Frame} {meth : Method} {c : Code} {A : Nat → Prop} {D : va_G} {cI cR : ClassId} {ma : Nat → Nat} (hx : p.tables.exec = Jvm.exec) (hb : c.code = cX2_wagon) (hr : meth.sig.returnType = none) (hml : c.maxLocals = 4) (hown : s.vm.findClass RX2 = some m.cls) (hts : ∀ w ∈ wsX2_wagon, w.before args s = true) (hlocks : meth.locks = false) (hA : ∀ q : Nat, s.heap.size ≤ q → A q) (hK : va_K D vwCl (TY cI cR) s) : ∀ (x1 x2 x3 : Int32) (u : MSt) (r : Unit) (u' : MSt), F_M_wagon_J70 x1 x2 x3 u = some (r, u') → ∀ (H : Heap) (locs : List Loc) (ls : Array Slot), va_P D vwCl (MW cI ma u) H → va_D A (MW cI ma u) → va_S A s.heap H locs → lv_has ls 4 [(0, .ref (ma 0)), (1, .int x1), (2, .int x2), (3, .int x3)] → W p l e (headSpec wsX2_wagon ({ frames := 1, cells := 0, slots := 0, locals := 21 })).room s m args below meth c H locs 0 0 (MQ below (QV D (TY cI cR) A (fun v => MW cI ma v) u') args s 0 0 A) (F0 m 70 ls [.ref (ma 0)]) := by
  have hk_54 := (hts _ (cwc _ mw_335))
  have hk_29 := (hts _ (cwc _ mw_345))
  have hk_32 := (hts _ (cwc _ mw_346))
  have hk_35 := (hts _ (cwc _ mw_347))
  intro x1 x2 x3 u r u' hF H locs ls hP hD hS hl
  unfold F_M_wagon_J70 at hF
  refine lv_iconst (v := (0 : Int32)) hx hb dX2_wagon_70 (by decide +kernel) ?_
  exact w_M_wagon_J71 hx hb hr hml hown hts hlocks hA hK x1 x2 x3 (0 : Int32) u _ _ hF H locs ls hP hD hS (lv_sub hl [0, 1, 2, 3] rfl)
set_option maxHeartbeats 4000000 in
set_option maxRecDepth 100000 in
theorem c_M_wagon (l : Launch) (D : va_G) (cI cR : ClassId) (ma : Nat → Nat) (sz : Nat) (p1 : Int32) (p2 : Int32) (p3 : Int32) (u : MSt) (r : Unit) (u' : MSt) (hF : F_M_wagon p1 p2 p3 u = some (r, u')) : Met l yX2_wagon wsX2_wagon ({ frames := 1, cells := 0, slots := 0, locals := 21 }) (va_Pc [.ref (ma 0), .int p1, .int p2, .int p3] (PRE D (TY cI cR) (MW cI ma u) sz)) (QV D (TY cI cR) (va_A (MW cI ma u) sz) (fun v => MW cI ma v) u') 0 0 (va_A (MW cI ma u) sz) := by
  refine Met.ofW (cc := cX2_wagon) (maxL := 4) (ret := none) (by decide) rfl ?_
  intro p e s m args below meth c s₁ B hml hv
  obtain ⟨rfl, hsz, hP, hK, hD0⟩ := hv
  have hx := B.exec
  have hb := B.bytes
  have hr := B.returns
  have hts := atoms_spec (ws := wsX2_wagon) B.pre
  have hown : s.vm.findClass RX2 = some m.cls := findClass_of_methodNamed B.named
  have hlocks := B.notSynchronized
  subst hsz
  have hD := hD0.self (sz := s.heap.size)
  generalize hAe : va_A (MW cI ma u) s.heap.size = A at hD ⊢
  have hA : ∀ q : Nat, s.heap.size ≤ q → A q := fun q h => by rw [← hAe]; exact Or.inr h
  have hS : va_S A s.heap s.heap [] := va_S.rf
  replace hP : va_P D vwCl (MW cI ma u) s.heap := hP
  have hl := lv_entry ([.ref (ma 0), .int p1, .int p2, .int p3]) (n := 4) (Nat.le_of_ble_eq_true rfl)
  rw [lg_entry_eq]
  generalize (lg_sl ([.ref (ma 0), .int p1, .int p2, .int p3]) ++ List.replicate (4 - (lg_sl ([.ref (ma 0), .int p1, .int p2, .int p3])).length) Slot.unset).toArray = ls at hl ⊢
  replace hl : lv_has ls 4 [(0, .ref (ma 0)), (1, .int p1), (2, .int p2), (3, .int p3)] := hl
  have hk_54 := (hts _ (cwc _ mw_335))
  have hk_29 := (hts _ (cwc _ mw_345))
  have hk_32 := (hts _ (cwc _ mw_346))
  have hk_35 := (hts _ (cwc _ mw_347))
  unfold F_M_wagon at hF
  refine (?_ : ∀ (H : Heap) (locs : List Loc), va_P D vwCl (MW cI ma u) H → va_S A s.heap H locs → W p l e _ s m _ below meth c H locs 0 0 _ (F0 m 0 ls [])) s.heap [] hP hS
  intro H locs hP hS
  refine lv_aload_n hx hb dX2_wagon_0 rfl (lv_at hl 0 rfl) ?_
  refine lv_iload_n hx hb dX2_wagon_1 rfl (lv_at hl 1 rfl) ?_
  refine lv_bipush (v := (16 : Int32)) hx hb dX2_wagon_2 (by decide +kernel) ?_
  obtain ⟨r2, u1, hc_3, hF⟩ := bi_some hF
  refine kc_i (W1 := MW cI ma u) (va_runS (As := [.int p1, .int (16 : Int32)]) (rest := [.ref (ma 0)]) ⟨hx, hb, hml, hown, hts⟩ (c_M_in l D cI cR  H.size p1 (16 : Int32) () r2 u1 hc_3) (va_cwS 2 hts (gS cwc mw_380 mw_381 mw_3 mw_382) rfl rfl rfl (by decide +kernel) ⟨(Nat.le_of_ble_eq_true rfl), (Nat.le_of_ble_eq_true rfl)⟩) (kp_S hK hP hD (sb_nil _)) rfl rfl hl.1 rfl (lv_room (Nat.le_of_ble_eq_true rfl)) dX2_wagon_4 ⟨(Nat.le_of_ble_eq_true rfl), (Nat.le_of_ble_eq_true rfl)⟩) hP hD hS hA (sb_nil _) (jn_nil _) (fun H locs hP hD hS => ?_)
  refine lv_if_eq (tgt := 18) hx hb dX2_wagon_7 (by decide) (fun c_4 => ?_) (fun c_4 => ?_)
  · replace hF := (if_pos c_4).symm.trans hF
    exact w_M_wagon_J18 hx hb hr hml hown hts hlocks hA hK p1 p2 p3 u _ _ hF H locs ls hP hD hS (lv_sub hl [0, 1, 2, 3] rfl)
  · replace hF := (if_neg c_4).symm.trans hF
    refine lv_iload_n hx hb dX2_wagon_10 rfl (lv_at hl 2 rfl) ?_
    refine lv_iconst (v := (4 : Int32)) hx hb dX2_wagon_11 (by decide +kernel) ?_
    obtain ⟨r9, u8, hc_10, hF⟩ := bi_some hF
    refine kc_i (W1 := MW cI ma u) (va_runS (As := [.int p2, .int (4 : Int32)]) (rest := [.ref (ma 0)]) ⟨hx, hb, hml, hown, hts⟩ (c_M_in l D cI cR  H.size p2 (4 : Int32) () r9 u8 hc_10) (va_cwS 2 hts (gS cwc mw_380 mw_381 mw_3 mw_382) rfl rfl rfl (by decide +kernel) ⟨(Nat.le_of_ble_eq_true rfl), (Nat.le_of_ble_eq_true rfl)⟩) (kp_S hK hP hD (sb_nil _)) rfl rfl hl.1 rfl (lv_room (Nat.le_of_ble_eq_true rfl)) dX2_wagon_12 ⟨(Nat.le_of_ble_eq_true rfl), (Nat.le_of_ble_eq_true rfl)⟩) hP hD hS hA (sb_nil _) (jn_nil _) (fun H locs hP hD hS => ?_)
    refine lv_if_ne (tgt := 22) hx hb dX2_wagon_15 (by decide) (fun c_11 => ?_) (fun c_11 => ?_)
    · replace hF := (if_neg c_11).symm.trans hF
      refine lv_iload_n hx hb dX2_wagon_22 rfl (lv_at hl 3 rfl) ?_
      refine lv_bipush (v := (81 : Int32)) hx hb dX2_wagon_23 (by decide +kernel) ?_
      obtain ⟨r13, u12, hc_14, hF⟩ := bi_some hF
      refine kc_i (W1 := MW cI ma u) (va_runS (As := [.int p3, .int (81 : Int32)]) (rest := [.ref (ma 0)]) ⟨hx, hb, hml, hown, hts⟩ (c_M_in l D cI cR  H.size p3 (81 : Int32) () r13 u12 hc_14) (va_cwS 2 hts (gS cwc mw_380 mw_381 mw_3 mw_382) rfl rfl rfl (by decide +kernel) ⟨(Nat.le_of_ble_eq_true rfl), (Nat.le_of_ble_eq_true rfl)⟩) (kp_S hK hP hD (sb_nil _)) rfl rfl hl.1 rfl (lv_room (Nat.le_of_ble_eq_true rfl)) dX2_wagon_25 ⟨(Nat.le_of_ble_eq_true rfl), (Nat.le_of_ble_eq_true rfl)⟩) hP hD hS hA (sb_nil _) (jn_nil _) (fun H locs hP hD hS => ?_)
      refine lv_if_eq (tgt := 66) hx hb dX2_wagon_28 (by decide) (fun c_15 => ?_) (fun c_15 => ?_)
      · replace hF := (if_pos c_15).symm.trans hF
        exact w_M_wagon_J66 hx hb hr hml hown hts hlocks hA hK p1 p2 p3 u _ _ hF H locs ls hP hD hS (lv_sub hl [0, 1, 2, 3] rfl)
      · replace hF := (if_neg c_15).symm.trans hF
        refine lv_aload_n hx hb dX2_wagon_31 rfl (lv_at hl 0 rfl) ?_
        refine va_get (D := D) (ci := 2) (v := .ref (ma 8)) (C := RX2) (T := TX2) (N := 18) hx hb hts (fun w h => cwc w (in_X2 w h)) hown hK hP 0 rfl rfl 12 (by decide) hk_35 (fun _ h9 => h9) rfl dX2_wagon_32 ?_
        refine lv_bipush (v := (32 : Int32)) hx hb dX2_wagon_35 (by decide +kernel) ?_
        refine lv_iload_n hx hb dX2_wagon_37 rfl (lv_at hl 1 rfl) ?_
        refine lv_iadd hx hb dX2_wagon_38 ?_
        obtain ⟨h_16, hF⟩ := gd_some hF
        refine va_iald (f := u.2.2.2.2.2.2.2.2.2.2.2.2.1) hx hb hK hP 8 0 rfl rfl (inb_in h_16) dX2_wagon_39 ?_
        refine lv_iload_n hx hb dX2_wagon_40 rfl (lv_at hl 3 rfl) ?_
        refine lv_icmp_gt (tgt := 66) hx hb dX2_wagon_41 (by decide) (fun c_17 => ?_) (fun c_17 => ?_)
        · replace hF := (if_pos c_17).symm.trans hF
          exact w_M_wagon_J66 hx hb hr hml hown hts hlocks hA hK p1 p2 p3 u _ _ hF H locs ls hP hD hS (lv_sub hl [0, 1, 2, 3] rfl)
        · replace hF := (if_neg c_17).symm.trans hF
          refine lv_aload_n hx hb dX2_wagon_44 rfl (lv_at hl 0 rfl) ?_
          refine va_get (D := D) (ci := 2) (v := .ref (ma 8)) (C := RX2) (T := TX2) (N := 18) hx hb hts (fun w h => cwc w (in_X2 w h)) hown hK hP 0 rfl rfl 12 (by decide) hk_35 (fun _ h9 => h9) rfl dX2_wagon_45 ?_
          refine lv_bipush (v := (32 : Int32)) hx hb dX2_wagon_48 (by decide +kernel) ?_
          refine lv_iload_n hx hb dX2_wagon_50 rfl (lv_at hl 1 rfl) ?_
          refine lv_iadd hx hb dX2_wagon_51 ?_
          obtain ⟨h_18, hF⟩ := gd_some hF
          refine va_iald (f := u.2.2.2.2.2.2.2.2.2.2.2.2.1) hx hb hK hP 8 0 rfl rfl (inb_in h_18) dX2_wagon_52 ?_
          refine lv_if_le (tgt := 70) hx hb dX2_wagon_53 (by decide) (fun c_19 => ?_) (fun c_19 => ?_)
          · replace hF := (if_pos c_19).symm.trans hF
            exact w_M_wagon_J70 hx hb hr hml hown hts hlocks hA hK p1 p2 p3 u _ _ hF H locs ls hP hD hS (lv_sub hl [0, 1, 2, 3] rfl)
          · replace hF := (if_neg c_19).symm.trans hF
            refine lv_aload_n hx hb dX2_wagon_56 rfl (lv_at hl 0 rfl) ?_
            refine va_get (D := D) (ci := 2) (v := .ref (ma 6)) (C := RX2) (T := TX2) (N := 18) hx hb hts (fun w h => cwc w (in_X2 w h)) hown hK hP 0 rfl rfl 10 (by decide) hk_29 (fun _ h9 => h9) rfl dX2_wagon_57 ?_
            refine lv_iload_n hx hb dX2_wagon_60 rfl (lv_at hl 1 rfl) ?_
            obtain ⟨h_20, hF⟩ := gd_some hF
            refine va_iald (f := u.2.2.2.2.2.2.2.2.2.2.1) hx hb hK hP 6 0 rfl rfl (inb_in h_20) dX2_wagon_61 ?_
            refine lv_iload_n hx hb dX2_wagon_62 rfl (lv_at hl 2 rfl) ?_
            refine lv_icmp_eq (tgt := 70) hx hb dX2_wagon_63 (by decide) (fun c_21 => ?_) (fun c_21 => ?_)
            · replace hF := (if_pos c_21).symm.trans hF
              exact w_M_wagon_J70 hx hb hr hml hown hts hlocks hA hK p1 p2 p3 u _ _ hF H locs ls hP hD hS (lv_sub hl [0, 1, 2, 3] rfl)
            · replace hF := (if_neg c_21).symm.trans hF
              exact w_M_wagon_J66 hx hb hr hml hown hts hlocks hA hK p1 p2 p3 u _ _ hF H locs ls hP hD hS (lv_sub hl [0, 1, 2, 3] rfl)
    · replace hF := (if_pos c_11).symm.trans hF
      exact w_M_wagon_J18 hx hb hr hml hown hts hlocks hA hK p1 p2 p3 u _ _ hF H locs ls hP hD hS (lv_sub hl [0, 1, 2, 3] rfl)
def F_M_pass_L80 (K71 : Int32 → Int32 → Int32 → MSt → Option ((Int32) × MSt)) : Nat → Int32 → Int32 → Int32 → Int32 → MSt → Option ((Int32) × MSt)
  | 0, _, _, _, _, _ => none
  | n + 1, x1, x2, x3, x4, u => gd (inb x3 32) ((if (u.2.2.2.2.2.2.2.2.1 x3.toNatClampNeg) ≤ x4 then K71 x1 x2 (x3 + (1 : Int32)) u else bi (F_M_produce (x3 / (4 : Int32)) (x3 - x3 / (4 : Int32) * (4 : Int32)) u) (fun r12 u11 => F_M_pass_L80 K71 n x1 x2 x3 (x4 + (1 : Int32)) u11)))
def F_M_pass_L71 (K41 : Int32 → Int32 → MSt → Option ((Int32) × MSt)) : Nat → Int32 → Int32 → Int32 → MSt → Option ((Int32) × MSt)
  | 0, _, _, _, _ => none
  | n + 1, x1, x2, x3, u => (if (32 : Int32) ≤ x3 then K41 x1 (x2 + (1 : Int32)) u else F_M_pass_L80 (F_M_pass_L71 K41 n) 2101 x1 x2 x3 (0 : Int32) u)
def F_M_pass_L41 : Nat → Int32 → Int32 → MSt → Option ((Int32) × MSt)
  | 0, _, _, _ => none
  | n + 1, x1, x2, u => (if x1 ≤ x2 then some (u.2.1, u) else (if ((u.2.1 + (1 : Int32)) - (u.2.1 + (1 : Int32)) / (16 : Int32) * (16 : Int32)) = (0 : Int32) then F_M_pass_L71 (F_M_pass_L41 n) 2101 x1 x2 (0 : Int32) (u.1, (u.2.1 + (1 : Int32)), u.2.2.1, u.2.2.2.1, u.2.2.2.2.1, u.2.2.2.2.2.1, u.2.2.2.2.2.2.1, u.2.2.2.2.2.2.2.1, u.2.2.2.2.2.2.2.2.1, u.2.2.2.2.2.2.2.2.2.1, u.2.2.2.2.2.2.2.2.2.2.1, u.2.2.2.2.2.2.2.2.2.2.2.1, u.2.2.2.2.2.2.2.2.2.2.2.2.1, u.2.2.2.2.2.2.2.2.2.2.2.2.2.1, u.2.2.2.2.2.2.2.2.2.2.2.2.2.2.1, u.2.2.2.2.2.2.2.2.2.2.2.2.2.2.2.1, u.2.2.2.2.2.2.2.2.2.2.2.2.2.2.2.2.1, u.2.2.2.2.2.2.2.2.2.2.2.2.2.2.2.2.2) else F_M_pass_L41 n x1 (x2 + (1 : Int32)) (u.1, (u.2.1 + (1 : Int32)), u.2.2.1, u.2.2.2.1, u.2.2.2.2.1, u.2.2.2.2.2.1, u.2.2.2.2.2.2.1, u.2.2.2.2.2.2.2.1, u.2.2.2.2.2.2.2.2.1, u.2.2.2.2.2.2.2.2.2.1, u.2.2.2.2.2.2.2.2.2.2.1, u.2.2.2.2.2.2.2.2.2.2.2.1, u.2.2.2.2.2.2.2.2.2.2.2.2.1, u.2.2.2.2.2.2.2.2.2.2.2.2.2.1, u.2.2.2.2.2.2.2.2.2.2.2.2.2.2.1, u.2.2.2.2.2.2.2.2.2.2.2.2.2.2.2.1, u.2.2.2.2.2.2.2.2.2.2.2.2.2.2.2.2.1, u.2.2.2.2.2.2.2.2.2.2.2.2.2.2.2.2.2)))
def F_M_pass_J22 (x1 : Int32) (u : MSt) : Option ((Int32) × MSt) := (if (1 : Int32) ≤ (0 : Int32) then F_M_pass_L41 2101 x1 (0 : Int32) ((1 : Int32), u.2.1, u.2.2.1, u.2.2.2.1, u.2.2.2.2.1, u.2.2.2.2.2.1, u.2.2.2.2.2.2.1, u.2.2.2.2.2.2.2.1, u.2.2.2.2.2.2.2.2.1, u.2.2.2.2.2.2.2.2.2.1, u.2.2.2.2.2.2.2.2.2.2.1, u.2.2.2.2.2.2.2.2.2.2.2.1, u.2.2.2.2.2.2.2.2.2.2.2.2.1, u.2.2.2.2.2.2.2.2.2.2.2.2.2.1, u.2.2.2.2.2.2.2.2.2.2.2.2.2.2.1, u.2.2.2.2.2.2.2.2.2.2.2.2.2.2.2.1, u.2.2.2.2.2.2.2.2.2.2.2.2.2.2.2.2.1, u.2.2.2.2.2.2.2.2.2.2.2.2.2.2.2.2.2) else some ((0 : Int32), ((1 : Int32), u.2.1, u.2.2.1, u.2.2.2.1, u.2.2.2.2.1, u.2.2.2.2.2.1, u.2.2.2.2.2.2.1, u.2.2.2.2.2.2.2.1, u.2.2.2.2.2.2.2.2.1, u.2.2.2.2.2.2.2.2.2.1, u.2.2.2.2.2.2.2.2.2.2.1, u.2.2.2.2.2.2.2.2.2.2.2.1, u.2.2.2.2.2.2.2.2.2.2.2.2.1, u.2.2.2.2.2.2.2.2.2.2.2.2.2.1, u.2.2.2.2.2.2.2.2.2.2.2.2.2.2.1, u.2.2.2.2.2.2.2.2.2.2.2.2.2.2.2.1, u.2.2.2.2.2.2.2.2.2.2.2.2.2.2.2.2.1, u.2.2.2.2.2.2.2.2.2.2.2.2.2.2.2.2.2)))
def F_M_pass (p1 : Int32) (u : MSt) : Option ((Int32) × MSt) := bi (F_M_in p1 (2001 : Int32) ()) (fun r2 u1 => (if r2 = (0 : Int32) then F_M_pass_J22 p1 u else (if p1 ≤ ((2000000000 : Int32) - u.2.1) then (if (0 : Int32) ≤ (0 : Int32) then F_M_pass_L41 2101 p1 (0 : Int32) ((0 : Int32), u.2.1, u.2.2.1, u.2.2.2.1, u.2.2.2.2.1, u.2.2.2.2.2.1, u.2.2.2.2.2.2.1, u.2.2.2.2.2.2.2.1, u.2.2.2.2.2.2.2.2.1, u.2.2.2.2.2.2.2.2.2.1, u.2.2.2.2.2.2.2.2.2.2.1, u.2.2.2.2.2.2.2.2.2.2.2.1, u.2.2.2.2.2.2.2.2.2.2.2.2.1, u.2.2.2.2.2.2.2.2.2.2.2.2.2.1, u.2.2.2.2.2.2.2.2.2.2.2.2.2.2.1, u.2.2.2.2.2.2.2.2.2.2.2.2.2.2.2.1, u.2.2.2.2.2.2.2.2.2.2.2.2.2.2.2.2.1, u.2.2.2.2.2.2.2.2.2.2.2.2.2.2.2.2.2) else some ((0 : Int32), ((0 : Int32), u.2.1, u.2.2.1, u.2.2.2.1, u.2.2.2.2.1, u.2.2.2.2.2.1, u.2.2.2.2.2.2.1, u.2.2.2.2.2.2.2.1, u.2.2.2.2.2.2.2.2.1, u.2.2.2.2.2.2.2.2.2.1, u.2.2.2.2.2.2.2.2.2.2.1, u.2.2.2.2.2.2.2.2.2.2.2.1, u.2.2.2.2.2.2.2.2.2.2.2.2.1, u.2.2.2.2.2.2.2.2.2.2.2.2.2.1, u.2.2.2.2.2.2.2.2.2.2.2.2.2.2.1, u.2.2.2.2.2.2.2.2.2.2.2.2.2.2.2.1, u.2.2.2.2.2.2.2.2.2.2.2.2.2.2.2.2.1, u.2.2.2.2.2.2.2.2.2.2.2.2.2.2.2.2.2))) else F_M_pass_J22 p1 u)))
set_option maxHeartbeats 4000000 in
set_option maxRecDepth 100000 in
theorem w_M_pass_L80 {p : Program} {l : Launch} {e : Env} {s : State} {m : MethodId} {args : Array Value} {below : List Frame} {meth : Method} {c : Code} {A : Nat → Prop} {D : va_G} {cI cR : ClassId} {ma : Nat → Nat} (hx : p.tables.exec = Jvm.exec) (hb : c.code = cX2_pass) (hr : meth.sig.returnType = (some .int)) (hml : c.maxLocals = 5) (hown : s.vm.findClass RX2 = some m.cls) (hts : ∀ w ∈ wsX2_pass, w.before args s = true) (hlocks : meth.locks = false) (hA : ∀ q : Nat, s.heap.size ≤ q → A q) (hK : va_K D vwCl (TY cI cR) s) (K71 : Int32 → Int32 → Int32 → MSt → Option ((Int32) × MSt)) (hK71 : ∀ (y1 y2 y3 : Int32) (u : MSt) (r : Int32) (u' : MSt), K71 y1 y2 y3 u = some (r, u') → ∀ (H : Heap) (locs : List Loc) (ls : Array Slot), va_P D vwCl (MW cI ma u) H → va_D A (MW cI ma u) → va_S A s.heap H locs → lv_has ls 5 [(0, .ref (ma 0)), (1, .int y1), (2, .int y2), (3, .int y3)] → W p l e (headSpec wsX2_pass ({ frames := 4, cells := 0, slots := 0, locals := 92 })).room s m args below meth c H locs 0 0 (MQ below (QI D (TY cI cR) A (fun v => MW cI ma v) r u') args s 0 0 A) (F0 m 71 ls [])) : ∀ (n : Nat) (x1 x2 x3 x4 : Int32) (u : MSt) (r : Int32) (u' : MSt), F_M_pass_L80 K71 n x1 x2 x3 x4 u = some (r, u') → ∀ (H : Heap) (locs : List Loc) (ls : Array Slot), va_P D vwCl (MW cI ma u) H → va_D A (MW cI ma u) → va_S A s.heap H locs → lv_has ls 5 [(0, .ref (ma 0)), (1, .int x1), (2, .int x2), (3, .int x3), (4, .int x4)] → W p l e (headSpec wsX2_pass ({ frames := 4, cells := 0, slots := 0, locals := 92 })).room s m args below meth c H locs 0 0 (MQ below (QI D (TY cI cR) A (fun v => MW cI ma v) r u') args s 0 0 A) (F0 m 80 ls []) := by
  have hk_54 := (hts _ (cwc _ mw_335))
  have hk_74 := (hts _ (cwc _ mw_336))
  have hk_23 := (hts _ (cwc _ mw_343))
  have hC_73 := (hts _ (cwc _ mw_403))
  intro n
  induction n with
  | zero =>
    intro x1 x2 x3 x4 u r u' hF
    rw [F_M_pass_L80] at hF
    exact absurd hF (by simp)
  | succ n ih =>
    intro x1 x2 x3 x4 u r u' hF H locs ls hP hD hS hl
    rw [F_M_pass_L80] at hF
    refine lv_iload hx hb dX2_pass_80 (lv_at hl 4 rfl) ?_
    refine lv_aload_n hx hb dX2_pass_82 rfl (lv_at hl 0 rfl) ?_
    refine va_get (D := D) (ci := 2) (v := .ref (ma 4)) (C := RX2) (T := TX2) (N := 18) hx hb hts (fun w h => cwc w (in_X2 w h)) hown hK hP 0 rfl rfl 8 (by decide) hk_23 (fun _ h9 => h9) rfl dX2_pass_83 ?_
    refine lv_iload_n hx hb dX2_pass_86 rfl (lv_at hl 3 rfl) ?_
    obtain ⟨h_9, hF⟩ := gd_some hF
    refine va_iald (f := u.2.2.2.2.2.2.2.2.1) hx hb hK hP 4 0 rfl rfl (inb_in h_9) dX2_pass_87 ?_
    refine lv_icmp_ge (tgt := 107) hx hb dX2_pass_88 (by decide) (fun c_10 => ?_) (fun c_10 => ?_)
    · replace hF := (if_pos c_10).symm.trans hF
      refine lv_iinc (v := (x3 + (1 : Int32))) (lv' := [(3, .int (x3 + (1 : Int32))), (0, .ref (ma 0)), (1, .int x1), (2, .int x2), (4, .int x4)]) hx hb dX2_pass_107 hl (k := 3) rfl rfl (by decide) rfl (fun ls hl => ?_)
      refine lv_goto (tgt := 71) hx hb dX2_pass_110 (by decide) ?_
      exact hK71 x1 x2 (x3 + (1 : Int32)) u _ _ hF H locs ls hP hD hS (lv_sub hl [1, 2, 3, 0] rfl)
    · replace hF := (if_neg c_10).symm.trans hF
      refine lv_aload_n hx hb dX2_pass_91 rfl (lv_at hl 0 rfl) ?_
      refine lv_iload_n hx hb dX2_pass_92 rfl (lv_at hl 3 rfl) ?_
      refine lv_iconst (v := (4 : Int32)) hx hb dX2_pass_93 (by decide +kernel) ?_
      refine lv_idiv hx hb dX2_pass_94 (by decide +kernel) ?_
      refine lv_iload_n hx hb dX2_pass_95 rfl (lv_at hl 3 rfl) ?_
      refine lv_iconst (v := (4 : Int32)) hx hb dX2_pass_96 (by decide +kernel) ?_
      refine lv_irem hx hb dX2_pass_97 (by decide +kernel) ?_
      obtain ⟨r12, u11, hc_13, hF⟩ := bi_some hF
      refine kc_v (W1 := MW cI ma u11) (va_runV (As := [.int (x3 / (4 : Int32)), .int (x3 - x3 / (4 : Int32) * (4 : Int32))]) (rest := []) ⟨hx, hb, hml, hown, hts⟩ (c_M_produce l D cI cR ma H.size (x3 / (4 : Int32)) (x3 - x3 / (4 : Int32) * (4 : Int32)) u r12 u11 hc_13) (cwV 2 hts (gV cwc mw_404 mw_405 mw_485 mw_3 mw_406) rfl rfl rfl (by decide +kernel) ⟨(Nat.le_of_ble_eq_true rfl), (Nat.le_of_ble_eq_true rfl)⟩) (kp_V (ci := 2) (q := (RX2, TX2, 18)) hK hP hD (sb_id _) rfl rfl) rfl rfl hl.1 rfl (lv_room (Nat.le_of_ble_eq_true rfl)) dX2_pass_98 ⟨(Nat.le_of_ble_eq_true rfl), (Nat.le_of_ble_eq_true rfl)⟩) hP hD hS hA (sb_id _) (jn_id rfl) (fun H locs hP hD hS => ?_)
      refine lv_iinc (v := (x4 + (1 : Int32))) (lv' := [(4, .int (x4 + (1 : Int32))), (0, .ref (ma 0)), (1, .int x1), (2, .int x2), (3, .int x3)]) hx hb dX2_pass_101 hl (k := 4) rfl rfl (by decide) rfl (fun ls hl => ?_)
      refine lv_goto (tgt := 80) hx hb dX2_pass_104 (by decide) ?_
      exact ih x1 x2 x3 (x4 + (1 : Int32)) u11 _ _ hF H locs ls hP hD hS (lv_sub hl [1, 2, 3, 4, 0] rfl)
set_option maxHeartbeats 4000000 in
set_option maxRecDepth 100000 in
theorem w_M_pass_L71 {p : Program} {l : Launch} {e : Env} {s : State} {m : MethodId} {args : Array Value} {below : List Frame} {meth : Method} {c : Code} {A : Nat → Prop} {D : va_G} {cI cR : ClassId} {ma : Nat → Nat} (hx : p.tables.exec = Jvm.exec) (hb : c.code = cX2_pass) (hr : meth.sig.returnType = (some .int)) (hml : c.maxLocals = 5) (hown : s.vm.findClass RX2 = some m.cls) (hts : ∀ w ∈ wsX2_pass, w.before args s = true) (hlocks : meth.locks = false) (hA : ∀ q : Nat, s.heap.size ≤ q → A q) (hK : va_K D vwCl (TY cI cR) s) (K41 : Int32 → Int32 → MSt → Option ((Int32) × MSt)) (hK41 : ∀ (y1 y2 : Int32) (u : MSt) (r : Int32) (u' : MSt), K41 y1 y2 u = some (r, u') → ∀ (H : Heap) (locs : List Loc) (ls : Array Slot), va_P D vwCl (MW cI ma u) H → va_D A (MW cI ma u) → va_S A s.heap H locs → lv_has ls 5 [(0, .ref (ma 0)), (1, .int y1), (2, .int y2)] → W p l e (headSpec wsX2_pass ({ frames := 4, cells := 0, slots := 0, locals := 92 })).room s m args below meth c H locs 0 0 (MQ below (QI D (TY cI cR) A (fun v => MW cI ma v) r u') args s 0 0 A) (F0 m 41 ls [])) : ∀ (n : Nat) (x1 x2 x3 : Int32) (u : MSt) (r : Int32) (u' : MSt), F_M_pass_L71 K41 n x1 x2 x3 u = some (r, u') → ∀ (H : Heap) (locs : List Loc) (ls : Array Slot), va_P D vwCl (MW cI ma u) H → va_D A (MW cI ma u) → va_S A s.heap H locs → lv_has ls 5 [(0, .ref (ma 0)), (1, .int x1), (2, .int x2), (3, .int x3)] → W p l e (headSpec wsX2_pass ({ frames := 4, cells := 0, slots := 0, locals := 92 })).room s m args below meth c H locs 0 0 (MQ below (QI D (TY cI cR) A (fun v => MW cI ma v) r u') args s 0 0 A) (F0 m 71 ls []) := by
  have hk_54 := (hts _ (cwc _ mw_335))
  have hk_74 := (hts _ (cwc _ mw_336))
  have hk_23 := (hts _ (cwc _ mw_343))
  have hC_73 := (hts _ (cwc _ mw_403))
  intro n
  induction n with
  | zero =>
    intro x1 x2 x3 u r u' hF
    rw [F_M_pass_L71] at hF
    exact absurd hF (by simp)
  | succ n ih =>
    intro x1 x2 x3 u r u' hF H locs ls hP hD hS hl
    rw [F_M_pass_L71] at hF
    refine lv_iload_n hx hb dX2_pass_71 rfl (lv_at hl 3 rfl) ?_
    refine lv_bipush (v := (32 : Int32)) hx hb dX2_pass_72 (by decide +kernel) ?_
    refine lv_icmp_ge (tgt := 113) hx hb dX2_pass_74 (by decide) (fun c_8 => ?_) (fun c_8 => ?_)
    · replace hF := (if_pos c_8).symm.trans hF
      refine lv_iinc (v := (x2 + (1 : Int32))) (lv' := [(2, .int (x2 + (1 : Int32))), (0, .ref (ma 0)), (1, .int x1), (3, .int x3)]) hx hb dX2_pass_113 hl (k := 2) rfl rfl (by decide) rfl (fun ls hl => ?_)
      refine lv_goto (tgt := 41) hx hb dX2_pass_116 (by decide) ?_
      exact hK41 x1 (x2 + (1 : Int32)) u _ _ hF H locs ls hP hD hS (lv_sub hl [1, 2, 0] rfl)
    · replace hF := (if_neg c_8).symm.trans hF
      refine lv_iconst (v := (0 : Int32)) hx hb dX2_pass_77 (by decide +kernel) ?_
      refine lv_istore (lv' := [(4, .int (0 : Int32)), (0, .ref (ma 0)), (1, .int x1), (2, .int x2), (3, .int x3)]) hx hb dX2_pass_78 hl (by decide) rfl (fun ls hl => ?_)
      exact w_M_pass_L80 hx hb hr hml hown hts hlocks hA hK (F_M_pass_L71 K41 n) (fun y1 y2 y3 u9 r9 v9 h9 => ih y1 y2 y3 u9 r9 v9 h9) 2101 x1 x2 x3 (0 : Int32) u _ _ hF H locs ls hP hD hS (lv_sub hl [1, 2, 3, 4, 0] rfl)
set_option maxHeartbeats 4000000 in
set_option maxRecDepth 100000 in
theorem w_M_pass_L41 {p : Program} {l : Launch} {e : Env} {s : State} {m : MethodId} {args : Array Value} {below : List Frame} {meth : Method} {c : Code} {A : Nat → Prop} {D : va_G} {cI cR : ClassId} {ma : Nat → Nat} (hx : p.tables.exec = Jvm.exec) (hb : c.code = cX2_pass) (hr : meth.sig.returnType = (some .int)) (hml : c.maxLocals = 5) (hown : s.vm.findClass RX2 = some m.cls) (hts : ∀ w ∈ wsX2_pass, w.before args s = true) (hlocks : meth.locks = false) (hA : ∀ q : Nat, s.heap.size ≤ q → A q) (hK : va_K D vwCl (TY cI cR) s) : ∀ (n : Nat) (x1 x2 : Int32) (u : MSt) (r : Int32) (u' : MSt), F_M_pass_L41 n x1 x2 u = some (r, u') → ∀ (H : Heap) (locs : List Loc) (ls : Array Slot), va_P D vwCl (MW cI ma u) H → va_D A (MW cI ma u) → va_S A s.heap H locs → lv_has ls 5 [(0, .ref (ma 0)), (1, .int x1), (2, .int x2)] → W p l e (headSpec wsX2_pass ({ frames := 4, cells := 0, slots := 0, locals := 92 })).room s m args below meth c H locs 0 0 (MQ below (QI D (TY cI cR) A (fun v => MW cI ma v) r u') args s 0 0 A) (F0 m 41 ls []) := by
  have hk_54 := (hts _ (cwc _ mw_335))
  have hk_74 := (hts _ (cwc _ mw_336))
  have hk_23 := (hts _ (cwc _ mw_343))
  have hC_73 := (hts _ (cwc _ mw_403))
  intro n
  induction n with
  | zero =>
    intro x1 x2 u r u' hF
    rw [F_M_pass_L41] at hF
    exact absurd hF (by simp)
  | succ n ih =>
    intro x1 x2 u r u' hF H locs ls hP hD hS hl
    rw [F_M_pass_L41] at hF
    refine lv_iload_n hx hb dX2_pass_41 rfl (lv_at hl 2 rfl) ?_
    refine lv_iload_n hx hb dX2_pass_42 rfl (lv_at hl 1 rfl) ?_
    refine lv_icmp_ge (tgt := 119) hx hb dX2_pass_43 (by decide) (fun c_6 => ?_) (fun c_6 => ?_)
    · replace hF := (if_pos c_6).symm.trans hF
      refine lv_aload_n hx hb dX2_pass_119 rfl (lv_at hl 0 rfl) ?_
      refine va_get (D := D) (ci := 2) (v := .int u.2.1) (C := RX2) (T := TX2) (N := 18) hx hb hts (fun w h => cwc w (in_X2 w h)) hown hK hP 0 rfl rfl 1 (by decide) hk_74 (fun _ h9 => h9) rfl dX2_pass_120 ?_
      cases hF
      refine W.widen (k := 0) (n := 0) (Nat.le_of_ble_eq_true rfl) (Nat.le_of_ble_eq_true rfl) ?_
      exact W.iret hx hb hr (fun t ht hW => ⟨⟨_, _, rfl, ⟨rfl, rfl⟩, by rw [ht]; exact hP, va_K.moved hW.alike hK, hD⟩, hS.F ht⟩) hS.2.2 dX2_pass_123
    · replace hF := (if_neg c_6).symm.trans hF
      refine lv_aload_n hx hb dX2_pass_46 rfl (lv_at hl 0 rfl) ?_
      refine lv_dup hx hb dX2_pass_47 rfl ?_
      refine va_get (D := D) (ci := 2) (v := .int u.2.1) (C := RX2) (T := TX2) (N := 18) hx hb hts (fun w h => cwc w (in_X2 w h)) hown hK hP 0 rfl rfl 1 (by decide) hk_74 (fun _ h9 => h9) rfl dX2_pass_48 ?_
      refine lv_iconst (v := (1 : Int32)) hx hb dX2_pass_51 (by decide +kernel) ?_
      refine lv_iadd hx hb dX2_pass_52 ?_
      refine va_put (D := D) (ci := 2) (v := .int (u.2.1 + (1 : Int32))) (ty := .int) (C := RX2) (T := TX2) (N := 18) hx hb hts (fun w h => cwc w (in_X2 w h)) tyX2 tyX2_ok nmX2 hown hK hP hD hS 0 rfl rfl 1 (by decide) hk_74 (fun _ h9 => h9) rfl (by decide +kernel) rfl rfl (Nat.le_of_ble_eq_true rfl) dX2_pass_53 (fun H locs hP hD hS => ?_)
      replace hP : va_P D vwCl (MW cI ma (u.1, (u.2.1 + (1 : Int32)), u.2.2.1, u.2.2.2.1, u.2.2.2.2.1, u.2.2.2.2.2.1, u.2.2.2.2.2.2.1, u.2.2.2.2.2.2.2.1, u.2.2.2.2.2.2.2.2.1, u.2.2.2.2.2.2.2.2.2.1, u.2.2.2.2.2.2.2.2.2.2.1, u.2.2.2.2.2.2.2.2.2.2.2.1, u.2.2.2.2.2.2.2.2.2.2.2.2.1, u.2.2.2.2.2.2.2.2.2.2.2.2.2.1, u.2.2.2.2.2.2.2.2.2.2.2.2.2.2.1, u.2.2.2.2.2.2.2.2.2.2.2.2.2.2.2.1, u.2.2.2.2.2.2.2.2.2.2.2.2.2.2.2.2.1, u.2.2.2.2.2.2.2.2.2.2.2.2.2.2.2.2.2)) H := hP
      replace hD : va_D A (MW cI ma (u.1, (u.2.1 + (1 : Int32)), u.2.2.1, u.2.2.2.1, u.2.2.2.2.1, u.2.2.2.2.2.1, u.2.2.2.2.2.2.1, u.2.2.2.2.2.2.2.1, u.2.2.2.2.2.2.2.2.1, u.2.2.2.2.2.2.2.2.2.1, u.2.2.2.2.2.2.2.2.2.2.1, u.2.2.2.2.2.2.2.2.2.2.2.1, u.2.2.2.2.2.2.2.2.2.2.2.2.1, u.2.2.2.2.2.2.2.2.2.2.2.2.2.1, u.2.2.2.2.2.2.2.2.2.2.2.2.2.2.1, u.2.2.2.2.2.2.2.2.2.2.2.2.2.2.2.1, u.2.2.2.2.2.2.2.2.2.2.2.2.2.2.2.2.1, u.2.2.2.2.2.2.2.2.2.2.2.2.2.2.2.2.2)) := hD
      refine lv_aload_n hx hb dX2_pass_56 rfl (lv_at hl 0 rfl) ?_
      refine va_get (D := D) (ci := 2) (v := .int (u.2.1 + (1 : Int32))) (C := RX2) (T := TX2) (N := 18) hx hb hts (fun w h => cwc w (in_X2 w h)) hown hK hP 0 rfl rfl 1 (by decide) hk_74 (fun _ h9 => h9) rfl dX2_pass_57 ?_
      refine lv_bipush (v := (16 : Int32)) hx hb dX2_pass_60 (by decide +kernel) ?_
      refine lv_irem hx hb dX2_pass_62 (by decide +kernel) ?_
      refine lv_if_eq (tgt := 69) hx hb dX2_pass_63 (by decide) (fun c_7 => ?_) (fun c_7 => ?_)
      · replace hF := (if_pos c_7).symm.trans hF
        refine lv_iconst (v := (0 : Int32)) hx hb dX2_pass_69 (by decide +kernel) ?_
        refine lv_istore_n (lv' := [(3, .int (0 : Int32)), (0, .ref (ma 0)), (1, .int x1), (2, .int x2)]) hx hb dX2_pass_70 rfl hl (by decide) rfl (fun ls hl => ?_)
        exact w_M_pass_L71 hx hb hr hml hown hts hlocks hA hK (F_M_pass_L41 n) (fun y1 y2 u9 r9 v9 h9 => ih y1 y2 u9 r9 v9 h9) 2101 x1 x2 (0 : Int32) (u.1, (u.2.1 + (1 : Int32)), u.2.2.1, u.2.2.2.1, u.2.2.2.2.1, u.2.2.2.2.2.1, u.2.2.2.2.2.2.1, u.2.2.2.2.2.2.2.1, u.2.2.2.2.2.2.2.2.1, u.2.2.2.2.2.2.2.2.2.1, u.2.2.2.2.2.2.2.2.2.2.1, u.2.2.2.2.2.2.2.2.2.2.2.1, u.2.2.2.2.2.2.2.2.2.2.2.2.1, u.2.2.2.2.2.2.2.2.2.2.2.2.2.1, u.2.2.2.2.2.2.2.2.2.2.2.2.2.2.1, u.2.2.2.2.2.2.2.2.2.2.2.2.2.2.2.1, u.2.2.2.2.2.2.2.2.2.2.2.2.2.2.2.2.1, u.2.2.2.2.2.2.2.2.2.2.2.2.2.2.2.2.2) _ _ hF H locs ls hP hD hS (lv_sub hl [1, 2, 3, 0] rfl)
      · replace hF := (if_neg c_7).symm.trans hF
        refine lv_goto (tgt := 113) hx hb dX2_pass_66 (by decide) ?_
        refine lv_iinc (v := (x2 + (1 : Int32))) (lv' := [(2, .int (x2 + (1 : Int32))), (0, .ref (ma 0)), (1, .int x1)]) hx hb dX2_pass_113 hl (k := 2) rfl rfl (by decide) rfl (fun ls hl => ?_)
        refine lv_goto (tgt := 41) hx hb dX2_pass_116 (by decide) ?_
        exact ih x1 (x2 + (1 : Int32)) (u.1, (u.2.1 + (1 : Int32)), u.2.2.1, u.2.2.2.1, u.2.2.2.2.1, u.2.2.2.2.2.1, u.2.2.2.2.2.2.1, u.2.2.2.2.2.2.2.1, u.2.2.2.2.2.2.2.2.1, u.2.2.2.2.2.2.2.2.2.1, u.2.2.2.2.2.2.2.2.2.2.1, u.2.2.2.2.2.2.2.2.2.2.2.1, u.2.2.2.2.2.2.2.2.2.2.2.2.1, u.2.2.2.2.2.2.2.2.2.2.2.2.2.1, u.2.2.2.2.2.2.2.2.2.2.2.2.2.2.1, u.2.2.2.2.2.2.2.2.2.2.2.2.2.2.2.1, u.2.2.2.2.2.2.2.2.2.2.2.2.2.2.2.2.1, u.2.2.2.2.2.2.2.2.2.2.2.2.2.2.2.2.2) _ _ hF H locs ls hP hD hS (lv_sub hl [1, 2, 0] rfl)
set_option maxHeartbeats 4000000 in
set_option maxRecDepth 100000 in
theorem w_M_pass_J22 {p : Program} {l : Launch} {e : Env} {s : State} {m : MethodId} {args : Array Value} {below : List Frame} {meth : Method} {c : Code} {A : Nat → Prop} {D : va_G} {cI cR : ClassId} {ma : Nat → Nat} (hx : p.tables.exec = Jvm.exec) (hb : c.code = cX2_pass) (hr : meth.sig.returnType = (some .int)) (hml : c.maxLocals = 5) (hown : s.vm.findClass RX2 = some m.cls) (hts : ∀ w ∈ wsX2_pass, w.before args s = true) (hlocks : meth.locks = false) (hA : ∀ q : Nat, s.heap.size ≤ q → A q) (hK : va_K D vwCl (TY cI cR) s) : ∀ (x1 : Int32) (u : MSt) (r : Int32) (u' : MSt), F_M_pass_J22 x1 u = some (r, u') → ∀ (H : Heap) (locs : List Loc) (ls : Array Slot), va_P D vwCl (MW cI ma u) H → va_D A (MW cI ma u) → va_S A s.heap H locs → lv_has ls 5 [(0, .ref (ma 0)), (1, .int x1)] → W p l e (headSpec wsX2_pass ({ frames := 4, cells := 0, slots := 0, locals := 92 })).room s m args below meth c H locs 0 0 (MQ below (QI D (TY cI cR) A (fun v => MW cI ma v) r u') args s 0 0 A) (F0 m 22 ls [.ref (ma 0)]) := by
  have hk_54 := (hts _ (cwc _ mw_335))
  have hk_74 := (hts _ (cwc _ mw_336))
  have hk_23 := (hts _ (cwc _ mw_343))
  have hC_73 := (hts _ (cwc _ mw_403))
  intro x1 u r u' hF H locs ls hP hD hS hl
  unfold F_M_pass_J22 at hF
  refine lv_iconst (v := (1 : Int32)) hx hb dX2_pass_22 (by decide +kernel) ?_
  refine lv_goto (tgt := 27) hx hb dX2_pass_23 (by decide) ?_
  refine va_put (D := D) (ci := 2) (v := .int (1 : Int32)) (ty := .int) (C := RX2) (T := TX2) (N := 18) hx hb hts (fun w h => cwc w (in_X2 w h)) tyX2 tyX2_ok nmX2 hown hK hP hD hS 0 rfl rfl 0 (by decide) hk_54 (fun _ h9 => h9) rfl (by decide +kernel) rfl rfl (Nat.le_of_ble_eq_true rfl) dX2_pass_27 (fun H locs hP hD hS => ?_)
  replace hP : va_P D vwCl (MW cI ma ((1 : Int32), u.2.1, u.2.2.1, u.2.2.2.1, u.2.2.2.2.1, u.2.2.2.2.2.1, u.2.2.2.2.2.2.1, u.2.2.2.2.2.2.2.1, u.2.2.2.2.2.2.2.2.1, u.2.2.2.2.2.2.2.2.2.1, u.2.2.2.2.2.2.2.2.2.2.1, u.2.2.2.2.2.2.2.2.2.2.2.1, u.2.2.2.2.2.2.2.2.2.2.2.2.1, u.2.2.2.2.2.2.2.2.2.2.2.2.2.1, u.2.2.2.2.2.2.2.2.2.2.2.2.2.2.1, u.2.2.2.2.2.2.2.2.2.2.2.2.2.2.2.1, u.2.2.2.2.2.2.2.2.2.2.2.2.2.2.2.2.1, u.2.2.2.2.2.2.2.2.2.2.2.2.2.2.2.2.2)) H := hP
  replace hD : va_D A (MW cI ma ((1 : Int32), u.2.1, u.2.2.1, u.2.2.2.1, u.2.2.2.2.1, u.2.2.2.2.2.1, u.2.2.2.2.2.2.1, u.2.2.2.2.2.2.2.1, u.2.2.2.2.2.2.2.2.1, u.2.2.2.2.2.2.2.2.2.1, u.2.2.2.2.2.2.2.2.2.2.1, u.2.2.2.2.2.2.2.2.2.2.2.1, u.2.2.2.2.2.2.2.2.2.2.2.2.1, u.2.2.2.2.2.2.2.2.2.2.2.2.2.1, u.2.2.2.2.2.2.2.2.2.2.2.2.2.2.1, u.2.2.2.2.2.2.2.2.2.2.2.2.2.2.2.1, u.2.2.2.2.2.2.2.2.2.2.2.2.2.2.2.2.1, u.2.2.2.2.2.2.2.2.2.2.2.2.2.2.2.2.2)) := hD
  refine lv_aload_n hx hb dX2_pass_30 rfl (lv_at hl 0 rfl) ?_
  refine va_get (D := D) (ci := 2) (v := .int (1 : Int32)) (C := RX2) (T := TX2) (N := 18) hx hb hts (fun w h => cwc w (in_X2 w h)) hown hK hP 0 rfl rfl 0 (by decide) hk_54 (fun _ h9 => h9) rfl dX2_pass_31 ?_
  refine lv_if_le (tgt := 39) hx hb dX2_pass_34 (by decide) (fun c_5 => ?_) (fun c_5 => ?_)
  · replace hF := (if_pos c_5).symm.trans hF
    refine lv_iconst (v := (0 : Int32)) hx hb dX2_pass_39 (by decide +kernel) ?_
    refine lv_istore_n (lv' := [(2, .int (0 : Int32)), (0, .ref (ma 0)), (1, .int x1)]) hx hb dX2_pass_40 rfl hl (by decide) rfl (fun ls hl => ?_)
    exact w_M_pass_L41 hx hb hr hml hown hts hlocks hA hK 2101 x1 (0 : Int32) ((1 : Int32), u.2.1, u.2.2.1, u.2.2.2.1, u.2.2.2.2.1, u.2.2.2.2.2.1, u.2.2.2.2.2.2.1, u.2.2.2.2.2.2.2.1, u.2.2.2.2.2.2.2.2.1, u.2.2.2.2.2.2.2.2.2.1, u.2.2.2.2.2.2.2.2.2.2.1, u.2.2.2.2.2.2.2.2.2.2.2.1, u.2.2.2.2.2.2.2.2.2.2.2.2.1, u.2.2.2.2.2.2.2.2.2.2.2.2.2.1, u.2.2.2.2.2.2.2.2.2.2.2.2.2.2.1, u.2.2.2.2.2.2.2.2.2.2.2.2.2.2.2.1, u.2.2.2.2.2.2.2.2.2.2.2.2.2.2.2.2.1, u.2.2.2.2.2.2.2.2.2.2.2.2.2.2.2.2.2) _ _ hF H locs ls hP hD hS (lv_sub hl [1, 2, 0] rfl)
  · replace hF := (if_neg c_5).symm.trans hF
    refine lv_iconst (v := (0 : Int32)) hx hb dX2_pass_37 (by decide +kernel) ?_
    cases hF
    refine W.widen (k := 0) (n := 0) (Nat.le_of_ble_eq_true rfl) (Nat.le_of_ble_eq_true rfl) ?_
    exact W.iret hx hb hr (fun t ht hW => ⟨⟨_, _, rfl, ⟨rfl, rfl⟩, by rw [ht]; exact hP, va_K.moved hW.alike hK, hD⟩, hS.F ht⟩) hS.2.2 dX2_pass_38
set_option maxHeartbeats 4000000 in
set_option maxRecDepth 100000 in
theorem c_M_pass (l : Launch) (D : va_G) (cI cR : ClassId) (ma : Nat → Nat) (sz : Nat) (p1 : Int32) (u : MSt) (r : Int32) (u' : MSt) (hF : F_M_pass p1 u = some (r, u')) : Met l yX2_pass wsX2_pass ({ frames := 4, cells := 0, slots := 0, locals := 92 }) (va_Pc [.ref (ma 0), .int p1] (PRE D (TY cI cR) (MW cI ma u) sz)) (QI D (TY cI cR) (va_A (MW cI ma u) sz) (fun v => MW cI ma v) r u') 0 0 (va_A (MW cI ma u) sz) := by
  refine Met.ofW (cc := cX2_pass) (maxL := 5) (ret := (some .int)) (by decide) rfl ?_
  intro p e s m args below meth c s₁ B hml hv
  obtain ⟨rfl, hsz, hP, hK, hD0⟩ := hv
  have hx := B.exec
  have hb := B.bytes
  have hr := B.returns
  have hts := atoms_spec (ws := wsX2_pass) B.pre
  have hown : s.vm.findClass RX2 = some m.cls := findClass_of_methodNamed B.named
  have hlocks := B.notSynchronized
  subst hsz
  have hD := hD0.self (sz := s.heap.size)
  generalize hAe : va_A (MW cI ma u) s.heap.size = A at hD ⊢
  have hA : ∀ q : Nat, s.heap.size ≤ q → A q := fun q h => by rw [← hAe]; exact Or.inr h
  have hS : va_S A s.heap s.heap [] := va_S.rf
  replace hP : va_P D vwCl (MW cI ma u) s.heap := hP
  have hl := lv_entry ([.ref (ma 0), .int p1]) (n := 5) (Nat.le_of_ble_eq_true rfl)
  rw [lg_entry_eq]
  generalize (lg_sl ([.ref (ma 0), .int p1]) ++ List.replicate (5 - (lg_sl ([.ref (ma 0), .int p1])).length) Slot.unset).toArray = ls at hl ⊢
  replace hl : lv_has ls 5 [(0, .ref (ma 0)), (1, .int p1)] := hl
  have hk_54 := (hts _ (cwc _ mw_335))
  have hk_74 := (hts _ (cwc _ mw_336))
  have hk_23 := (hts _ (cwc _ mw_343))
  have hC_73 := (hts _ (cwc _ mw_403))
  unfold F_M_pass at hF
  refine (?_ : ∀ (H : Heap) (locs : List Loc), va_P D vwCl (MW cI ma u) H → va_S A s.heap H locs → W p l e _ s m _ below meth c H locs 0 0 _ (F0 m 0 ls [])) s.heap [] hP hS
  intro H locs hP hS
  refine lv_aload_n hx hb dX2_pass_0 rfl (lv_at hl 0 rfl) ?_
  refine lv_iload_n hx hb dX2_pass_1 rfl (lv_at hl 1 rfl) ?_
  refine lv_sipush (v := (2001 : Int32)) hx hb dX2_pass_2 (by decide +kernel) ?_
  obtain ⟨r2, u1, hc_3, hF⟩ := bi_some hF
  refine kc_i (W1 := MW cI ma u) (va_runS (As := [.int p1, .int (2001 : Int32)]) (rest := [.ref (ma 0)]) ⟨hx, hb, hml, hown, hts⟩ (c_M_in l D cI cR  H.size p1 (2001 : Int32) () r2 u1 hc_3) (va_cwS 2 hts (gS cwc mw_380 mw_381 mw_3 mw_382) rfl rfl rfl (by decide +kernel) ⟨(Nat.le_of_ble_eq_true rfl), (Nat.le_of_ble_eq_true rfl)⟩) (kp_S hK hP hD (sb_nil _)) rfl rfl hl.1 rfl (lv_room (Nat.le_of_ble_eq_true rfl)) dX2_pass_5 ⟨(Nat.le_of_ble_eq_true rfl), (Nat.le_of_ble_eq_true rfl)⟩) hP hD hS hA (sb_nil _) (jn_nil _) (fun H locs hP hD hS => ?_)
  refine lv_if_eq (tgt := 22) hx hb dX2_pass_8 (by decide) (fun c_4 => ?_) (fun c_4 => ?_)
  · replace hF := (if_pos c_4).symm.trans hF
    exact w_M_pass_J22 hx hb hr hml hown hts hlocks hA hK p1 u _ _ hF H locs ls hP hD hS (lv_sub hl [0, 1] rfl)
  · replace hF := (if_neg c_4).symm.trans hF
    refine lv_iload_n hx hb dX2_pass_11 rfl (lv_at hl 1 rfl) ?_
    refine lv_ldc (v := (2000000000 : Int32)) hx hb hown hC_73 dX2_pass_12 ?_
    refine lv_aload_n hx hb dX2_pass_14 rfl (lv_at hl 0 rfl) ?_
    refine va_get (D := D) (ci := 2) (v := .int u.2.1) (C := RX2) (T := TX2) (N := 18) hx hb hts (fun w h => cwc w (in_X2 w h)) hown hK hP 0 rfl rfl 1 (by decide) hk_74 (fun _ h9 => h9) rfl dX2_pass_15 ?_
    refine lv_isub hx hb dX2_pass_18 ?_
    refine lv_icmp_le (tgt := 26) hx hb dX2_pass_19 (by decide) (fun c_14 => ?_) (fun c_14 => ?_)
    · replace hF := (if_pos c_14).symm.trans hF
      refine lv_iconst (v := (0 : Int32)) hx hb dX2_pass_26 (by decide +kernel) ?_
      refine va_put (D := D) (ci := 2) (v := .int (0 : Int32)) (ty := .int) (C := RX2) (T := TX2) (N := 18) hx hb hts (fun w h => cwc w (in_X2 w h)) tyX2 tyX2_ok nmX2 hown hK hP hD hS 0 rfl rfl 0 (by decide) hk_54 (fun _ h9 => h9) rfl (by decide +kernel) rfl rfl (Nat.le_of_ble_eq_true rfl) dX2_pass_27 (fun H locs hP hD hS => ?_)
      replace hP : va_P D vwCl (MW cI ma ((0 : Int32), u.2.1, u.2.2.1, u.2.2.2.1, u.2.2.2.2.1, u.2.2.2.2.2.1, u.2.2.2.2.2.2.1, u.2.2.2.2.2.2.2.1, u.2.2.2.2.2.2.2.2.1, u.2.2.2.2.2.2.2.2.2.1, u.2.2.2.2.2.2.2.2.2.2.1, u.2.2.2.2.2.2.2.2.2.2.2.1, u.2.2.2.2.2.2.2.2.2.2.2.2.1, u.2.2.2.2.2.2.2.2.2.2.2.2.2.1, u.2.2.2.2.2.2.2.2.2.2.2.2.2.2.1, u.2.2.2.2.2.2.2.2.2.2.2.2.2.2.2.1, u.2.2.2.2.2.2.2.2.2.2.2.2.2.2.2.2.1, u.2.2.2.2.2.2.2.2.2.2.2.2.2.2.2.2.2)) H := hP
      replace hD : va_D A (MW cI ma ((0 : Int32), u.2.1, u.2.2.1, u.2.2.2.1, u.2.2.2.2.1, u.2.2.2.2.2.1, u.2.2.2.2.2.2.1, u.2.2.2.2.2.2.2.1, u.2.2.2.2.2.2.2.2.1, u.2.2.2.2.2.2.2.2.2.1, u.2.2.2.2.2.2.2.2.2.2.1, u.2.2.2.2.2.2.2.2.2.2.2.1, u.2.2.2.2.2.2.2.2.2.2.2.2.1, u.2.2.2.2.2.2.2.2.2.2.2.2.2.1, u.2.2.2.2.2.2.2.2.2.2.2.2.2.2.1, u.2.2.2.2.2.2.2.2.2.2.2.2.2.2.2.1, u.2.2.2.2.2.2.2.2.2.2.2.2.2.2.2.2.1, u.2.2.2.2.2.2.2.2.2.2.2.2.2.2.2.2.2)) := hD
      refine lv_aload_n hx hb dX2_pass_30 rfl (lv_at hl 0 rfl) ?_
      refine va_get (D := D) (ci := 2) (v := .int (0 : Int32)) (C := RX2) (T := TX2) (N := 18) hx hb hts (fun w h => cwc w (in_X2 w h)) hown hK hP 0 rfl rfl 0 (by decide) hk_54 (fun _ h9 => h9) rfl dX2_pass_31 ?_
      refine lv_if_le (tgt := 39) hx hb dX2_pass_34 (by decide) (fun c_15 => ?_) (fun c_15 => ?_)
      · replace hF := (if_pos c_15).symm.trans hF
        refine lv_iconst (v := (0 : Int32)) hx hb dX2_pass_39 (by decide +kernel) ?_
        refine lv_istore_n (lv' := [(2, .int (0 : Int32)), (0, .ref (ma 0)), (1, .int p1)]) hx hb dX2_pass_40 rfl hl (by decide) rfl (fun ls hl => ?_)
        exact w_M_pass_L41 hx hb hr hml hown hts hlocks hA hK 2101 p1 (0 : Int32) ((0 : Int32), u.2.1, u.2.2.1, u.2.2.2.1, u.2.2.2.2.1, u.2.2.2.2.2.1, u.2.2.2.2.2.2.1, u.2.2.2.2.2.2.2.1, u.2.2.2.2.2.2.2.2.1, u.2.2.2.2.2.2.2.2.2.1, u.2.2.2.2.2.2.2.2.2.2.1, u.2.2.2.2.2.2.2.2.2.2.2.1, u.2.2.2.2.2.2.2.2.2.2.2.2.1, u.2.2.2.2.2.2.2.2.2.2.2.2.2.1, u.2.2.2.2.2.2.2.2.2.2.2.2.2.2.1, u.2.2.2.2.2.2.2.2.2.2.2.2.2.2.2.1, u.2.2.2.2.2.2.2.2.2.2.2.2.2.2.2.2.1, u.2.2.2.2.2.2.2.2.2.2.2.2.2.2.2.2.2) _ _ hF H locs ls hP hD hS (lv_sub hl [1, 2, 0] rfl)
      · replace hF := (if_neg c_15).symm.trans hF
        refine lv_iconst (v := (0 : Int32)) hx hb dX2_pass_37 (by decide +kernel) ?_
        cases hF
        refine W.widen (k := 0) (n := 0) (Nat.le_of_ble_eq_true rfl) (Nat.le_of_ble_eq_true rfl) ?_
        exact W.iret hx hb hr (fun t ht hW => ⟨⟨_, _, rfl, ⟨rfl, rfl⟩, by rw [ht]; exact hP, va_K.moved hW.alike hK, hD⟩, hS.F ht⟩) hS.2.2 dX2_pass_38
    · replace hF := (if_neg c_14).symm.trans hF
      exact w_M_pass_J22 hx hb hr hml hown hts hlocks hA hK p1 u _ _ hF H locs ls hP hD hS (lv_sub hl [0, 1] rfl)
def F_M_load_L59 : Nat → Int32 → Int32 → Int32 → Int32 → MSt → Option ((Int32) × MSt)
  | 0, _, _, _, _, _ => none
  | n + 1, x1, x3, x4, x5, u => (if x3 ≤ x5 then some (x5, u) else gd (inb x4 49) ((if (u.2.2.2.2.2.2.2.2.2.2.2.2.1 x4.toNatClampNeg) ≤ (0 : Int32) then some (x5, u) else gd (inb ((32 : Int32) + x1) 49) (gd (inb x1 16) ((if (u.2.2.2.2.2.2.2.2.2.2.2.1 x1.toNatClampNeg) ≤ (u.2.2.2.2.2.2.2.2.2.2.2.2.1 ((32 : Int32) + x1).toNatClampNeg) then some (x5, u) else bi (F_M_move x4 ((32 : Int32) + x1) u) (fun r15 u14 => F_M_load_L59 n x1 x3 x4 (x5 + (1 : Int32)) u14)))))))
def F_M_load_J32 (x1 x2 x3 s0 : Int32) (u : MSt) : Option ((Int32) × MSt) := (if s0 ≤ (0 : Int32) then gd (inb x1 16) (nm ((((4 : Int32) * x2) + (u.2.2.2.2.2.2.2.2.2.2.1 x1.toNatClampNeg))) (fun v7 => F_M_load_L59 1001 x1 x3 v7 (0 : Int32) (s0, u.2.1, u.2.2.1, u.2.2.2.1, u.2.2.2.2.1, u.2.2.2.2.2.1, u.2.2.2.2.2.2.1, u.2.2.2.2.2.2.2.1, u.2.2.2.2.2.2.2.2.1, u.2.2.2.2.2.2.2.2.2.1, u.2.2.2.2.2.2.2.2.2.2.1, u.2.2.2.2.2.2.2.2.2.2.2.1, u.2.2.2.2.2.2.2.2.2.2.2.2.1, u.2.2.2.2.2.2.2.2.2.2.2.2.2.1, u.2.2.2.2.2.2.2.2.2.2.2.2.2.2.1, u.2.2.2.2.2.2.2.2.2.2.2.2.2.2.2.1, u.2.2.2.2.2.2.2.2.2.2.2.2.2.2.2.2.1, u.2.2.2.2.2.2.2.2.2.2.2.2.2.2.2.2.2))) else some ((0 : Int32), (s0, u.2.1, u.2.2.1, u.2.2.2.1, u.2.2.2.2.1, u.2.2.2.2.2.1, u.2.2.2.2.2.2.1, u.2.2.2.2.2.2.2.1, u.2.2.2.2.2.2.2.2.1, u.2.2.2.2.2.2.2.2.2.1, u.2.2.2.2.2.2.2.2.2.2.1, u.2.2.2.2.2.2.2.2.2.2.2.1, u.2.2.2.2.2.2.2.2.2.2.2.2.1, u.2.2.2.2.2.2.2.2.2.2.2.2.2.1, u.2.2.2.2.2.2.2.2.2.2.2.2.2.2.1, u.2.2.2.2.2.2.2.2.2.2.2.2.2.2.2.1, u.2.2.2.2.2.2.2.2.2.2.2.2.2.2.2.2.1, u.2.2.2.2.2.2.2.2.2.2.2.2.2.2.2.2.2)))
def F_M_load_J19 (x1 x2 x3 : Int32) (u : MSt) : Option ((Int32) × MSt) := F_M_load_J32 x1 x2 x3 (1 : Int32) u
def F_M_load (p1 : Int32) (p2 : Int32) (p3 : Int32) (u : MSt) : Option ((Int32) × MSt) := bi (F_M_in p1 (16 : Int32) ()) (fun r2 u1 => (if r2 = (0 : Int32) then F_M_load_J19 p1 p2 p3 u else bi (F_M_in p2 (8 : Int32) ()) (fun r18 u17 => (if r18 = (0 : Int32) then F_M_load_J19 p1 p2 p3 u else (if (0 : Int32) ≤ p3 then F_M_load_J32 p1 p2 p3 (0 : Int32) u else F_M_load_J32 p1 p2 p3 (2 : Int32) u)))))
set_option maxHeartbeats 4000000 in
set_option maxRecDepth 100000 in
theorem w_M_load_L59 {p : Program} {l : Launch} {e : Env} {s : State} {m : MethodId} {args : Array Value} {below : List Frame} {meth : Method} {c : Code} {A : Nat → Prop} {D : va_G} {cI cR : ClassId} {ma : Nat → Nat} (hx : p.tables.exec = Jvm.exec) (hb : c.code = cX2_load) (hr : meth.sig.returnType = (some .int)) (hml : c.maxLocals = 6) (hown : s.vm.findClass RX2 = some m.cls) (hts : ∀ w ∈ wsX2_load, w.before args s = true) (hlocks : meth.locks = false) (hA : ∀ q : Nat, s.heap.size ≤ q → A q) (hK : va_K D vwCl (TY cI cR) s) : ∀ (n : Nat) (x1 x3 x4 x5 : Int32) (u : MSt) (r : Int32) (u' : MSt), F_M_load_L59 n x1 x3 x4 x5 u = some (r, u') → ∀ (H : Heap) (locs : List Loc) (ls : Array Slot), va_P D vwCl (MW cI ma u) H → va_D A (MW cI ma u) → va_S A s.heap H locs → lv_has ls 6 [(0, .ref (ma 0)), (1, .int x1), (3, .int x3), (4, .int x4), (5, .int x5)] → W p l e (headSpec wsX2_load ({ frames := 4, cells := 0, slots := 0, locals := 94 })).room s m args below meth c H locs 0 0 (MQ below (QI D (TY cI cR) A (fun v => MW cI ma v) r u') args s 0 0 A) (F0 m 59 ls []) := by
  have hk_54 := (hts _ (cwc _ mw_335))
  have hk_29 := (hts _ (cwc _ mw_345))
  have hk_35 := (hts _ (cwc _ mw_347))
  have hk_32 := (hts _ (cwc _ mw_346))
  intro n
  induction n with
  | zero =>
    intro x1 x3 x4 x5 u r u' hF
    rw [F_M_load_L59] at hF
    exact absurd hF (by simp)
  | succ n ih =>
    intro x1 x3 x4 x5 u r u' hF H locs ls hP hD hS hl
    rw [F_M_load_L59] at hF
    refine lv_iload hx hb dX2_load_59 (lv_at hl 4 rfl) ?_
    refine lv_iload_n hx hb dX2_load_61 rfl (lv_at hl 2 rfl) ?_
    refine lv_icmp_ge (tgt := 109) hx hb dX2_load_62 (by decide) (fun c_8 => ?_) (fun c_8 => ?_)
    · replace hF := (if_pos c_8).symm.trans hF
      refine lv_iload hx hb dX2_load_109 (lv_at hl 4 rfl) ?_
      cases hF
      refine W.widen (k := 0) (n := 0) (Nat.le_of_ble_eq_true rfl) (Nat.le_of_ble_eq_true rfl) ?_
      exact W.iret hx hb hr (fun t ht hW => ⟨⟨_, _, rfl, ⟨rfl, rfl⟩, by rw [ht]; exact hP, va_K.moved hW.alike hK, hD⟩, hS.F ht⟩) hS.2.2 dX2_load_111
    · replace hF := (if_neg c_8).symm.trans hF
      refine lv_aload_n hx hb dX2_load_65 rfl (lv_at hl 0 rfl) ?_
      refine va_get (D := D) (ci := 2) (v := .ref (ma 8)) (C := RX2) (T := TX2) (N := 18) hx hb hts (fun w h => cwc w (in_X2 w h)) hown hK hP 0 rfl rfl 12 (by decide) hk_35 (fun _ h9 => h9) rfl dX2_load_66 ?_
      refine lv_iload hx hb dX2_load_69 (lv_at hl 3 rfl) ?_
      obtain ⟨h_9, hF⟩ := gd_some hF
      refine va_iald (f := u.2.2.2.2.2.2.2.2.2.2.2.2.1) hx hb hK hP 8 0 rfl rfl (inb_in h_9) dX2_load_71 ?_
      refine lv_if_le (tgt := 109) hx hb dX2_load_72 (by decide) (fun c_10 => ?_) (fun c_10 => ?_)
      · replace hF := (if_pos c_10).symm.trans hF
        refine lv_iload hx hb dX2_load_109 (lv_at hl 4 rfl) ?_
        cases hF
        refine W.widen (k := 0) (n := 0) (Nat.le_of_ble_eq_true rfl) (Nat.le_of_ble_eq_true rfl) ?_
        exact W.iret hx hb hr (fun t ht hW => ⟨⟨_, _, rfl, ⟨rfl, rfl⟩, by rw [ht]; exact hP, va_K.moved hW.alike hK, hD⟩, hS.F ht⟩) hS.2.2 dX2_load_111
      · replace hF := (if_neg c_10).symm.trans hF
        refine lv_aload_n hx hb dX2_load_75 rfl (lv_at hl 0 rfl) ?_
        refine va_get (D := D) (ci := 2) (v := .ref (ma 8)) (C := RX2) (T := TX2) (N := 18) hx hb hts (fun w h => cwc w (in_X2 w h)) hown hK hP 0 rfl rfl 12 (by decide) hk_35 (fun _ h9 => h9) rfl dX2_load_76 ?_
        refine lv_bipush (v := (32 : Int32)) hx hb dX2_load_79 (by decide +kernel) ?_
        refine lv_iload_n hx hb dX2_load_81 rfl (lv_at hl 1 rfl) ?_
        refine lv_iadd hx hb dX2_load_82 ?_
        obtain ⟨h_11, hF⟩ := gd_some hF
        refine va_iald (f := u.2.2.2.2.2.2.2.2.2.2.2.2.1) hx hb hK hP 8 0 rfl rfl (inb_in h_11) dX2_load_83 ?_
        refine lv_aload_n hx hb dX2_load_84 rfl (lv_at hl 0 rfl) ?_
        refine va_get (D := D) (ci := 2) (v := .ref (ma 7)) (C := RX2) (T := TX2) (N := 18) hx hb hts (fun w h => cwc w (in_X2 w h)) hown hK hP 0 rfl rfl 11 (by decide) hk_32 (fun _ h9 => h9) rfl dX2_load_85 ?_
        refine lv_iload_n hx hb dX2_load_88 rfl (lv_at hl 1 rfl) ?_
        obtain ⟨h_12, hF⟩ := gd_some hF
        refine va_iald (f := u.2.2.2.2.2.2.2.2.2.2.2.1) hx hb hK hP 7 0 rfl rfl (inb_in h_12) dX2_load_89 ?_
        refine lv_icmp_ge (tgt := 109) hx hb dX2_load_90 (by decide) (fun c_13 => ?_) (fun c_13 => ?_)
        · replace hF := (if_pos c_13).symm.trans hF
          refine lv_iload hx hb dX2_load_109 (lv_at hl 4 rfl) ?_
          cases hF
          refine W.widen (k := 0) (n := 0) (Nat.le_of_ble_eq_true rfl) (Nat.le_of_ble_eq_true rfl) ?_
          exact W.iret hx hb hr (fun t ht hW => ⟨⟨_, _, rfl, ⟨rfl, rfl⟩, by rw [ht]; exact hP, va_K.moved hW.alike hK, hD⟩, hS.F ht⟩) hS.2.2 dX2_load_111
        · replace hF := (if_neg c_13).symm.trans hF
          refine lv_aload_n hx hb dX2_load_93 rfl (lv_at hl 0 rfl) ?_
          refine lv_iload hx hb dX2_load_94 (lv_at hl 3 rfl) ?_
          refine lv_bipush (v := (32 : Int32)) hx hb dX2_load_96 (by decide +kernel) ?_
          refine lv_iload_n hx hb dX2_load_98 rfl (lv_at hl 1 rfl) ?_
          refine lv_iadd hx hb dX2_load_99 ?_
          obtain ⟨r15, u14, hc_16, hF⟩ := bi_some hF
          refine kc_v (W1 := MW cI ma u14) (va_runV (As := [.int x4, .int ((32 : Int32) + x1)]) (rest := []) ⟨hx, hb, hml, hown, hts⟩ (c_M_move l D cI cR ma H.size x4 ((32 : Int32) + x1) u r15 u14 hc_16) (cwV 2 hts (gV cwc mw_420 mw_421 mw_489 mw_3 mw_422) rfl rfl rfl (by decide +kernel) ⟨(Nat.le_of_ble_eq_true rfl), (Nat.le_of_ble_eq_true rfl)⟩) (kp_V (ci := 2) (q := (RX2, TX2, 18)) hK hP hD (sb_id _) rfl rfl) rfl rfl hl.1 rfl (lv_room (Nat.le_of_ble_eq_true rfl)) dX2_load_100 ⟨(Nat.le_of_ble_eq_true rfl), (Nat.le_of_ble_eq_true rfl)⟩) hP hD hS hA (sb_id _) (jn_id rfl) (fun H locs hP hD hS => ?_)
          refine lv_iinc (v := (x5 + (1 : Int32))) (lv' := [(5, .int (x5 + (1 : Int32))), (0, .ref (ma 0)), (1, .int x1), (3, .int x3), (4, .int x4)]) hx hb dX2_load_103 hl (k := 4) rfl rfl (by decide) rfl (fun ls hl => ?_)
          refine lv_goto (tgt := 59) hx hb dX2_load_106 (by decide) ?_
          exact ih x1 x3 x4 (x5 + (1 : Int32)) u14 _ _ hF H locs ls hP hD hS (lv_sub hl [1, 2, 3, 4, 0] rfl)
set_option maxHeartbeats 4000000 in
set_option maxRecDepth 100000 in
theorem w_M_load_J32 {p : Program} {l : Launch} {e : Env} {s : State} {m : MethodId} {args : Array Value} {below : List Frame} {meth : Method} {c : Code} {A : Nat → Prop} {D : va_G} {cI cR : ClassId} {ma : Nat → Nat} (hx : p.tables.exec = Jvm.exec) (hb : c.code = cX2_load) (hr : meth.sig.returnType = (some .int)) (hml : c.maxLocals = 6) (hown : s.vm.findClass RX2 = some m.cls) (hts : ∀ w ∈ wsX2_load, w.before args s = true) (hlocks : meth.locks = false) (hA : ∀ q : Nat, s.heap.size ≤ q → A q) (hK : va_K D vwCl (TY cI cR) s) : ∀ (x1 x2 x3 s0 : Int32) (u : MSt) (r : Int32) (u' : MSt), F_M_load_J32 x1 x2 x3 s0 u = some (r, u') → ∀ (H : Heap) (locs : List Loc) (ls : Array Slot), va_P D vwCl (MW cI ma u) H → va_D A (MW cI ma u) → va_S A s.heap H locs → lv_has ls 6 [(0, .ref (ma 0)), (1, .int x1), (2, .int x2), (3, .int x3)] → W p l e (headSpec wsX2_load ({ frames := 4, cells := 0, slots := 0, locals := 94 })).room s m args below meth c H locs 0 0 (MQ below (QI D (TY cI cR) A (fun v => MW cI ma v) r u') args s 0 0 A) (F0 m 32 ls [.int s0, .ref (ma 0)]) := by
  have hk_54 := (hts _ (cwc _ mw_335))
  have hk_29 := (hts _ (cwc _ mw_345))
  have hk_35 := (hts _ (cwc _ mw_347))
  have hk_32 := (hts _ (cwc _ mw_346))
  intro x1 x2 x3 s0 u r u' hF H locs ls hP hD hS hl
  unfold F_M_load_J32 at hF
  refine va_put (D := D) (ci := 2) (v := .int s0) (ty := .int) (C := RX2) (T := TX2) (N := 18) hx hb hts (fun w h => cwc w (in_X2 w h)) tyX2 tyX2_ok nmX2 hown hK hP hD hS 0 rfl rfl 0 (by decide) hk_54 (fun _ h9 => h9) rfl (by decide +kernel) rfl rfl (Nat.le_of_ble_eq_true rfl) dX2_load_32 (fun H locs hP hD hS => ?_)
  replace hP : va_P D vwCl (MW cI ma (s0, u.2.1, u.2.2.1, u.2.2.2.1, u.2.2.2.2.1, u.2.2.2.2.2.1, u.2.2.2.2.2.2.1, u.2.2.2.2.2.2.2.1, u.2.2.2.2.2.2.2.2.1, u.2.2.2.2.2.2.2.2.2.1, u.2.2.2.2.2.2.2.2.2.2.1, u.2.2.2.2.2.2.2.2.2.2.2.1, u.2.2.2.2.2.2.2.2.2.2.2.2.1, u.2.2.2.2.2.2.2.2.2.2.2.2.2.1, u.2.2.2.2.2.2.2.2.2.2.2.2.2.2.1, u.2.2.2.2.2.2.2.2.2.2.2.2.2.2.2.1, u.2.2.2.2.2.2.2.2.2.2.2.2.2.2.2.2.1, u.2.2.2.2.2.2.2.2.2.2.2.2.2.2.2.2.2)) H := hP
  replace hD : va_D A (MW cI ma (s0, u.2.1, u.2.2.1, u.2.2.2.1, u.2.2.2.2.1, u.2.2.2.2.2.1, u.2.2.2.2.2.2.1, u.2.2.2.2.2.2.2.1, u.2.2.2.2.2.2.2.2.1, u.2.2.2.2.2.2.2.2.2.1, u.2.2.2.2.2.2.2.2.2.2.1, u.2.2.2.2.2.2.2.2.2.2.2.1, u.2.2.2.2.2.2.2.2.2.2.2.2.1, u.2.2.2.2.2.2.2.2.2.2.2.2.2.1, u.2.2.2.2.2.2.2.2.2.2.2.2.2.2.1, u.2.2.2.2.2.2.2.2.2.2.2.2.2.2.2.1, u.2.2.2.2.2.2.2.2.2.2.2.2.2.2.2.2.1, u.2.2.2.2.2.2.2.2.2.2.2.2.2.2.2.2.2)) := hD
  refine lv_aload_n hx hb dX2_load_35 rfl (lv_at hl 0 rfl) ?_
  refine va_get (D := D) (ci := 2) (v := .int s0) (C := RX2) (T := TX2) (N := 18) hx hb hts (fun w h => cwc w (in_X2 w h)) hown hK hP 0 rfl rfl 0 (by decide) hk_54 (fun _ h9 => h9) rfl dX2_load_36 ?_
  refine lv_if_le (tgt := 44) hx hb dX2_load_39 (by decide) (fun c_5 => ?_) (fun c_5 => ?_)
  · replace hF := (if_pos c_5).symm.trans hF
    refine lv_iconst (v := (4 : Int32)) hx hb dX2_load_44 (by decide +kernel) ?_
    refine lv_iload_n hx hb dX2_load_45 rfl (lv_at hl 2 rfl) ?_
    refine lv_imul hx hb dX2_load_46 ?_
    refine lv_aload_n hx hb dX2_load_47 rfl (lv_at hl 0 rfl) ?_
    refine va_get (D := D) (ci := 2) (v := .ref (ma 6)) (C := RX2) (T := TX2) (N := 18) hx hb hts (fun w h => cwc w (in_X2 w h)) hown hK hP 0 rfl rfl 10 (by decide) hk_29 (fun _ h9 => h9) rfl dX2_load_48 ?_
    refine lv_iload_n hx hb dX2_load_51 rfl (lv_at hl 1 rfl) ?_
    obtain ⟨h_6, hF⟩ := gd_some hF
    refine va_iald (f := u.2.2.2.2.2.2.2.2.2.2.1) hx hb hK hP 6 0 rfl rfl (inb_in h_6) dX2_load_52 ?_
    refine lv_iadd hx hb dX2_load_53 ?_
    obtain ⟨v7, ev7, hF⟩ := nm_some hF
    refine W.eq (g2 := F0 m 54 ls (.int v7 :: [])) (congrArg (fun z => F0 m 54 ls (.int z :: [])) ev7.symm) ?_
    refine lv_istore (lv' := [(4, .int v7), (0, .ref (ma 0)), (1, .int x1), (2, .int x2), (3, .int x3)]) hx hb dX2_load_54 hl (by decide) rfl (fun ls hl => ?_)
    refine lv_iconst (v := (0 : Int32)) hx hb dX2_load_56 (by decide +kernel) ?_
    refine lv_istore (lv' := [(5, .int (0 : Int32)), (4, .int v7), (0, .ref (ma 0)), (1, .int x1), (2, .int x2), (3, .int x3)]) hx hb dX2_load_57 hl (by decide) rfl (fun ls hl => ?_)
    exact w_M_load_L59 hx hb hr hml hown hts hlocks hA hK 1001 x1 x3 v7 (0 : Int32) (s0, u.2.1, u.2.2.1, u.2.2.2.1, u.2.2.2.2.1, u.2.2.2.2.2.1, u.2.2.2.2.2.2.1, u.2.2.2.2.2.2.2.1, u.2.2.2.2.2.2.2.2.1, u.2.2.2.2.2.2.2.2.2.1, u.2.2.2.2.2.2.2.2.2.2.1, u.2.2.2.2.2.2.2.2.2.2.2.1, u.2.2.2.2.2.2.2.2.2.2.2.2.1, u.2.2.2.2.2.2.2.2.2.2.2.2.2.1, u.2.2.2.2.2.2.2.2.2.2.2.2.2.2.1, u.2.2.2.2.2.2.2.2.2.2.2.2.2.2.2.1, u.2.2.2.2.2.2.2.2.2.2.2.2.2.2.2.2.1, u.2.2.2.2.2.2.2.2.2.2.2.2.2.2.2.2.2) _ _ hF H locs ls hP hD hS (lv_sub hl [2, 3, 5, 1, 0] rfl)
  · replace hF := (if_neg c_5).symm.trans hF
    refine lv_iconst (v := (0 : Int32)) hx hb dX2_load_42 (by decide +kernel) ?_
    cases hF
    refine W.widen (k := 0) (n := 0) (Nat.le_of_ble_eq_true rfl) (Nat.le_of_ble_eq_true rfl) ?_
    exact W.iret hx hb hr (fun t ht hW => ⟨⟨_, _, rfl, ⟨rfl, rfl⟩, by rw [ht]; exact hP, va_K.moved hW.alike hK, hD⟩, hS.F ht⟩) hS.2.2 dX2_load_43
set_option maxHeartbeats 4000000 in
set_option maxRecDepth 100000 in
theorem w_M_load_J19 {p : Program} {l : Launch} {e : Env} {s : State} {m : MethodId} {args : Array Value} {below : List Frame} {meth : Method} {c : Code} {A : Nat → Prop} {D : va_G} {cI cR : ClassId} {ma : Nat → Nat} (hx : p.tables.exec = Jvm.exec) (hb : c.code = cX2_load) (hr : meth.sig.returnType = (some .int)) (hml : c.maxLocals = 6) (hown : s.vm.findClass RX2 = some m.cls) (hts : ∀ w ∈ wsX2_load, w.before args s = true) (hlocks : meth.locks = false) (hA : ∀ q : Nat, s.heap.size ≤ q → A q) (hK : va_K D vwCl (TY cI cR) s) : ∀ (x1 x2 x3 : Int32) (u : MSt) (r : Int32) (u' : MSt), F_M_load_J19 x1 x2 x3 u = some (r, u') → ∀ (H : Heap) (locs : List Loc) (ls : Array Slot), va_P D vwCl (MW cI ma u) H → va_D A (MW cI ma u) → va_S A s.heap H locs → lv_has ls 6 [(0, .ref (ma 0)), (1, .int x1), (2, .int x2), (3, .int x3)] → W p l e (headSpec wsX2_load ({ frames := 4, cells := 0, slots := 0, locals := 94 })).room s m args below meth c H locs 0 0 (MQ below (QI D (TY cI cR) A (fun v => MW cI ma v) r u') args s 0 0 A) (F0 m 19 ls [.ref (ma 0)]) := by
  have hk_54 := (hts _ (cwc _ mw_335))
  have hk_29 := (hts _ (cwc _ mw_345))
  have hk_35 := (hts _ (cwc _ mw_347))
  have hk_32 := (hts _ (cwc _ mw_346))
  intro x1 x2 x3 u r u' hF H locs ls hP hD hS hl
  unfold F_M_load_J19 at hF
  refine lv_iconst (v := (1 : Int32)) hx hb dX2_load_19 (by decide +kernel) ?_
  refine lv_goto (tgt := 32) hx hb dX2_load_20 (by decide) ?_
  exact w_M_load_J32 hx hb hr hml hown hts hlocks hA hK x1 x2 x3 (1 : Int32) u _ _ hF H locs ls hP hD hS (lv_sub hl [0, 1, 2, 3] rfl)
set_option maxHeartbeats 4000000 in
set_option maxRecDepth 100000 in
theorem c_M_load (l : Launch) (D : va_G) (cI cR : ClassId) (ma : Nat → Nat) (sz : Nat) (p1 : Int32) (p2 : Int32) (p3 : Int32) (u : MSt) (r : Int32) (u' : MSt) (hF : F_M_load p1 p2 p3 u = some (r, u')) : Met l yX2_load wsX2_load ({ frames := 4, cells := 0, slots := 0, locals := 94 }) (va_Pc [.ref (ma 0), .int p1, .int p2, .int p3] (PRE D (TY cI cR) (MW cI ma u) sz)) (QI D (TY cI cR) (va_A (MW cI ma u) sz) (fun v => MW cI ma v) r u') 0 0 (va_A (MW cI ma u) sz) := by
  refine Met.ofW (cc := cX2_load) (maxL := 6) (ret := (some .int)) (by decide) rfl ?_
  intro p e s m args below meth c s₁ B hml hv
  obtain ⟨rfl, hsz, hP, hK, hD0⟩ := hv
  have hx := B.exec
  have hb := B.bytes
  have hr := B.returns
  have hts := atoms_spec (ws := wsX2_load) B.pre
  have hown : s.vm.findClass RX2 = some m.cls := findClass_of_methodNamed B.named
  have hlocks := B.notSynchronized
  subst hsz
  have hD := hD0.self (sz := s.heap.size)
  generalize hAe : va_A (MW cI ma u) s.heap.size = A at hD ⊢
  have hA : ∀ q : Nat, s.heap.size ≤ q → A q := fun q h => by rw [← hAe]; exact Or.inr h
  have hS : va_S A s.heap s.heap [] := va_S.rf
  replace hP : va_P D vwCl (MW cI ma u) s.heap := hP
  have hl := lv_entry ([.ref (ma 0), .int p1, .int p2, .int p3]) (n := 6) (Nat.le_of_ble_eq_true rfl)
  rw [lg_entry_eq]
  generalize (lg_sl ([.ref (ma 0), .int p1, .int p2, .int p3]) ++ List.replicate (6 - (lg_sl ([.ref (ma 0), .int p1, .int p2, .int p3])).length) Slot.unset).toArray = ls at hl ⊢
  replace hl : lv_has ls 6 [(0, .ref (ma 0)), (1, .int p1), (2, .int p2), (3, .int p3)] := hl
  have hk_54 := (hts _ (cwc _ mw_335))
  have hk_29 := (hts _ (cwc _ mw_345))
  have hk_35 := (hts _ (cwc _ mw_347))
  have hk_32 := (hts _ (cwc _ mw_346))
  unfold F_M_load at hF
  refine (?_ : ∀ (H : Heap) (locs : List Loc), va_P D vwCl (MW cI ma u) H → va_S A s.heap H locs → W p l e _ s m _ below meth c H locs 0 0 _ (F0 m 0 ls [])) s.heap [] hP hS
  intro H locs hP hS
  refine lv_aload_n hx hb dX2_load_0 rfl (lv_at hl 0 rfl) ?_
  refine lv_iload_n hx hb dX2_load_1 rfl (lv_at hl 1 rfl) ?_
  refine lv_bipush (v := (16 : Int32)) hx hb dX2_load_2 (by decide +kernel) ?_
  obtain ⟨r2, u1, hc_3, hF⟩ := bi_some hF
  refine kc_i (W1 := MW cI ma u) (va_runS (As := [.int p1, .int (16 : Int32)]) (rest := [.ref (ma 0)]) ⟨hx, hb, hml, hown, hts⟩ (c_M_in l D cI cR  H.size p1 (16 : Int32) () r2 u1 hc_3) (va_cwS 2 hts (gS cwc mw_380 mw_381 mw_3 mw_382) rfl rfl rfl (by decide +kernel) ⟨(Nat.le_of_ble_eq_true rfl), (Nat.le_of_ble_eq_true rfl)⟩) (kp_S hK hP hD (sb_nil _)) rfl rfl hl.1 rfl (lv_room (Nat.le_of_ble_eq_true rfl)) dX2_load_4 ⟨(Nat.le_of_ble_eq_true rfl), (Nat.le_of_ble_eq_true rfl)⟩) hP hD hS hA (sb_nil _) (jn_nil _) (fun H locs hP hD hS => ?_)
  refine lv_if_eq (tgt := 19) hx hb dX2_load_7 (by decide) (fun c_4 => ?_) (fun c_4 => ?_)
  · replace hF := (if_pos c_4).symm.trans hF
    exact w_M_load_J19 hx hb hr hml hown hts hlocks hA hK p1 p2 p3 u _ _ hF H locs ls hP hD hS (lv_sub hl [0, 1, 2, 3] rfl)
  · replace hF := (if_neg c_4).symm.trans hF
    refine lv_iload_n hx hb dX2_load_10 rfl (lv_at hl 2 rfl) ?_
    refine lv_bipush (v := (8 : Int32)) hx hb dX2_load_11 (by decide +kernel) ?_
    obtain ⟨r18, u17, hc_19, hF⟩ := bi_some hF
    refine kc_i (W1 := MW cI ma u) (va_runS (As := [.int p2, .int (8 : Int32)]) (rest := [.ref (ma 0)]) ⟨hx, hb, hml, hown, hts⟩ (c_M_in l D cI cR  H.size p2 (8 : Int32) () r18 u17 hc_19) (va_cwS 2 hts (gS cwc mw_380 mw_381 mw_3 mw_382) rfl rfl rfl (by decide +kernel) ⟨(Nat.le_of_ble_eq_true rfl), (Nat.le_of_ble_eq_true rfl)⟩) (kp_S hK hP hD (sb_nil _)) rfl rfl hl.1 rfl (lv_room (Nat.le_of_ble_eq_true rfl)) dX2_load_13 ⟨(Nat.le_of_ble_eq_true rfl), (Nat.le_of_ble_eq_true rfl)⟩) hP hD hS hA (sb_nil _) (jn_nil _) (fun H locs hP hD hS => ?_)
    refine lv_if_ne (tgt := 23) hx hb dX2_load_16 (by decide) (fun c_20 => ?_) (fun c_20 => ?_)
    · replace hF := (if_neg c_20).symm.trans hF
      refine lv_iload_n hx hb dX2_load_23 rfl (lv_at hl 3 rfl) ?_
      refine lv_if_ge (tgt := 31) hx hb dX2_load_24 (by decide) (fun c_21 => ?_) (fun c_21 => ?_)
      · replace hF := (if_pos c_21).symm.trans hF
        refine lv_iconst (v := (0 : Int32)) hx hb dX2_load_31 (by decide +kernel) ?_
        exact w_M_load_J32 hx hb hr hml hown hts hlocks hA hK p1 p2 p3 (0 : Int32) u _ _ hF H locs ls hP hD hS (lv_sub hl [0, 1, 2, 3] rfl)
      · replace hF := (if_neg c_21).symm.trans hF
        refine lv_iconst (v := (2 : Int32)) hx hb dX2_load_27 (by decide +kernel) ?_
        refine lv_goto (tgt := 32) hx hb dX2_load_28 (by decide) ?_
        exact w_M_load_J32 hx hb hr hml hown hts hlocks hA hK p1 p2 p3 (2 : Int32) u _ _ hF H locs ls hP hD hS (lv_sub hl [0, 1, 2, 3] rfl)
    · replace hF := (if_pos c_20).symm.trans hF
      exact w_M_load_J19 hx hb hr hml hown hts hlocks hA hK p1 p2 p3 u _ _ hF H locs ls hP hD hS (lv_sub hl [0, 1, 2, 3] rfl)
