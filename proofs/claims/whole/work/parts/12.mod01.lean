def F_M_drop_L16 : Nat → Int32 → Int32 → MSt → Option ((Unit) × MSt)
  | 0, _, _, _ => none
  | n + 1, x1, x2, u => gd (inb x1 49) ((if (((1000 : Int32) * x1) + (u.2.2.2.2.2.2.2.2.2.2.2.2.1 x1.toNatClampNeg)) ≤ x2 then some ((), u) else gd (inb (x2 + (1 : Int32)) 49000) (gd (inb x2 49000) (gd (inb (x2 + (1 : Int32)) 49000) (gd (inb x2 49000) (F_M_drop_L16 n x1 (x2 + (1 : Int32)) (u.1, u.2.1, u.2.2.1, u.2.2.2.1, u.2.2.2.2.1, u.2.2.2.2.2.1, u.2.2.2.2.2.2.1, u.2.2.2.2.2.2.2.1, u.2.2.2.2.2.2.2.2.1, u.2.2.2.2.2.2.2.2.2.1, u.2.2.2.2.2.2.2.2.2.2.1, u.2.2.2.2.2.2.2.2.2.2.2.1, u.2.2.2.2.2.2.2.2.2.2.2.2.1, (upd u.2.2.2.2.2.2.2.2.2.2.2.2.2.1 x2.toNatClampNeg (u.2.2.2.2.2.2.2.2.2.2.2.2.2.1 (x2 + (1 : Int32)).toNatClampNeg)), (upd u.2.2.2.2.2.2.2.2.2.2.2.2.2.2.1 x2.toNatClampNeg (u.2.2.2.2.2.2.2.2.2.2.2.2.2.2.1 (x2 + (1 : Int32)).toNatClampNeg)), u.2.2.2.2.2.2.2.2.2.2.2.2.2.2.2.1, u.2.2.2.2.2.2.2.2.2.2.2.2.2.2.2.2.1, u.2.2.2.2.2.2.2.2.2.2.2.2.2.2.2.2.2)))))))
def F_M_drop (p1 : Int32) (u : MSt) : Option ((Unit) × MSt) := gd (inb p1 49) (gd (inb p1 49) (nm (((1000 : Int32) * p1)) (fun v3 => F_M_drop_L16 1001 p1 v3 (u.1, u.2.1, u.2.2.1, u.2.2.2.1, u.2.2.2.2.1, u.2.2.2.2.2.1, u.2.2.2.2.2.2.1, u.2.2.2.2.2.2.2.1, u.2.2.2.2.2.2.2.2.1, u.2.2.2.2.2.2.2.2.2.1, u.2.2.2.2.2.2.2.2.2.2.1, u.2.2.2.2.2.2.2.2.2.2.2.1, (upd u.2.2.2.2.2.2.2.2.2.2.2.2.1 p1.toNatClampNeg ((u.2.2.2.2.2.2.2.2.2.2.2.2.1 p1.toNatClampNeg) - (1 : Int32))), u.2.2.2.2.2.2.2.2.2.2.2.2.2.1, u.2.2.2.2.2.2.2.2.2.2.2.2.2.2.1, u.2.2.2.2.2.2.2.2.2.2.2.2.2.2.2.1, u.2.2.2.2.2.2.2.2.2.2.2.2.2.2.2.2.1, u.2.2.2.2.2.2.2.2.2.2.2.2.2.2.2.2.2))))
set_option maxHeartbeats 4000000 in
set_option maxRecDepth 100000 in
theorem w_M_drop_L16 {p : Program} {l : Launch} {e : Env} {s : State} {m : MethodId} {args : Array Value} {below : List Frame} {meth : Method} {c : Code} {A : Nat → Prop} {D : va_G} {cI cR : ClassId} {ma : Nat → Nat} (hx : p.tables.exec = Jvm.exec) (hb : c.code = cX2_drop) (hr : meth.sig.returnType = none) (hml : c.maxLocals = 3) (hown : s.vm.findClass RX2 = some m.cls) (hts : ∀ w ∈ wsX2_drop, w.before args s = true) (hlocks : meth.locks = false) (hA : ∀ q : Nat, s.heap.size ≤ q → A q) (hK : va_K D vwCl (TY cI cR) s) : ∀ (n : Nat) (x1 x2 : Int32) (u : MSt) (r : Unit) (u' : MSt), F_M_drop_L16 n x1 x2 u = some (r, u') → ∀ (H : Heap) (locs : List Loc) (ls : Array Slot), va_P D vwCl (MW cI ma u) H → va_D A (MW cI ma u) → va_S A s.heap H locs → lv_has ls 3 [(0, .ref (ma 0)), (1, .int x1), (2, .int x2)] → W p l e (headSpec wsX2_drop ({ frames := 0, cells := 0, slots := 0, locals := 0 })).room s m args below meth c H locs 0 0 (MQ below (QV D (TY cI cR) A (fun v => MW cI ma v) u') args s 0 0 A) (F0 m 16 ls []) := by
  have hk_35 := (hts _ (cwc _ mw_347))
  have hk_39 := (hts _ (cwc _ mw_348))
  have hk_42 := (hts _ (cwc _ mw_349))
  intro n
  induction n with
  | zero =>
    intro x1 x2 u r u' hF
    rw [F_M_drop_L16] at hF
    exact absurd hF (by simp)
  | succ n ih =>
    intro x1 x2 u r u' hF H locs ls hP hD hS hl
    rw [F_M_drop_L16] at hF
    refine lv_iload_n hx hb dX2_drop_16 rfl (lv_at hl 2 rfl) ?_
    refine lv_sipush (v := (1000 : Int32)) hx hb dX2_drop_17 (by decide +kernel) ?_
    refine lv_iload_n hx hb dX2_drop_20 rfl (lv_at hl 1 rfl) ?_
    refine lv_imul hx hb dX2_drop_21 ?_
    refine lv_aload_n hx hb dX2_drop_22 rfl (lv_at hl 0 rfl) ?_
    refine va_get (D := D) (ci := 2) (v := .ref (ma 8)) (C := RX2) (T := TX2) (N := 18) hx hb hts (fun w h => cwc w (in_X2 w h)) hown hK hP 0 rfl rfl 12 (by decide) hk_35 (fun _ h9 => h9) rfl dX2_drop_23 ?_
    refine lv_iload_n hx hb dX2_drop_26 rfl (lv_at hl 1 rfl) ?_
    obtain ⟨h_4, hF⟩ := gd_some hF
    refine va_iald (f := u.2.2.2.2.2.2.2.2.2.2.2.2.1) hx hb hK hP 8 0 rfl rfl (inb_in h_4) dX2_drop_27 ?_
    refine lv_iadd hx hb dX2_drop_28 ?_
    refine lv_icmp_ge (tgt := 66) hx hb dX2_drop_29 (by decide) (fun c_5 => ?_) (fun c_5 => ?_)
    · replace hF := (if_pos c_5).symm.trans hF
      cases hF
      refine W.widen (k := 0) (n := 0) (Nat.le_of_ble_eq_true rfl) (Nat.le_of_ble_eq_true rfl) ?_
      exact W.vret hx hb hr (fun t ht hW => ⟨⟨_, rfl, rfl, by rw [ht]; exact hP, va_K.moved hW.alike hK, hD⟩, hS.F ht⟩) hS.2.2 dX2_drop_66
    · replace hF := (if_neg c_5).symm.trans hF
      refine lv_aload_n hx hb dX2_drop_32 rfl (lv_at hl 0 rfl) ?_
      refine va_get (D := D) (ci := 2) (v := .ref (ma 9)) (C := RX2) (T := TX2) (N := 18) hx hb hts (fun w h => cwc w (in_X2 w h)) hown hK hP 0 rfl rfl 13 (by decide) hk_39 (fun _ h9 => h9) rfl dX2_drop_33 ?_
      refine lv_iload_n hx hb dX2_drop_36 rfl (lv_at hl 2 rfl) ?_
      refine lv_aload_n hx hb dX2_drop_37 rfl (lv_at hl 0 rfl) ?_
      refine va_get (D := D) (ci := 2) (v := .ref (ma 9)) (C := RX2) (T := TX2) (N := 18) hx hb hts (fun w h => cwc w (in_X2 w h)) hown hK hP 0 rfl rfl 13 (by decide) hk_39 (fun _ h9 => h9) rfl dX2_drop_38 ?_
      refine lv_iload_n hx hb dX2_drop_41 rfl (lv_at hl 2 rfl) ?_
      refine lv_iconst (v := (1 : Int32)) hx hb dX2_drop_42 (by decide +kernel) ?_
      refine lv_iadd hx hb dX2_drop_43 ?_
      obtain ⟨h_6, hF⟩ := gd_some hF
      refine va_iald (f := u.2.2.2.2.2.2.2.2.2.2.2.2.2.1) hx hb hK hP 9 0 rfl rfl (inb_in h_6) dX2_drop_44 ?_
      obtain ⟨h_7, hF⟩ := gd_some hF
      refine va_iast (f := u.2.2.2.2.2.2.2.2.2.2.2.2.2.1) hx hb hK hP hD hS 9 0 rfl rfl (inb_in h_7) dX2_drop_45 (fun H locs hP hD hS => ?_)
      replace hP : va_P D vwCl (MW cI ma (u.1, u.2.1, u.2.2.1, u.2.2.2.1, u.2.2.2.2.1, u.2.2.2.2.2.1, u.2.2.2.2.2.2.1, u.2.2.2.2.2.2.2.1, u.2.2.2.2.2.2.2.2.1, u.2.2.2.2.2.2.2.2.2.1, u.2.2.2.2.2.2.2.2.2.2.1, u.2.2.2.2.2.2.2.2.2.2.2.1, u.2.2.2.2.2.2.2.2.2.2.2.2.1, (upd u.2.2.2.2.2.2.2.2.2.2.2.2.2.1 x2.toNatClampNeg (u.2.2.2.2.2.2.2.2.2.2.2.2.2.1 (x2 + (1 : Int32)).toNatClampNeg)), u.2.2.2.2.2.2.2.2.2.2.2.2.2.2.1, u.2.2.2.2.2.2.2.2.2.2.2.2.2.2.2.1, u.2.2.2.2.2.2.2.2.2.2.2.2.2.2.2.2.1, u.2.2.2.2.2.2.2.2.2.2.2.2.2.2.2.2.2)) H := hP
      replace hD : va_D A (MW cI ma (u.1, u.2.1, u.2.2.1, u.2.2.2.1, u.2.2.2.2.1, u.2.2.2.2.2.1, u.2.2.2.2.2.2.1, u.2.2.2.2.2.2.2.1, u.2.2.2.2.2.2.2.2.1, u.2.2.2.2.2.2.2.2.2.1, u.2.2.2.2.2.2.2.2.2.2.1, u.2.2.2.2.2.2.2.2.2.2.2.1, u.2.2.2.2.2.2.2.2.2.2.2.2.1, (upd u.2.2.2.2.2.2.2.2.2.2.2.2.2.1 x2.toNatClampNeg (u.2.2.2.2.2.2.2.2.2.2.2.2.2.1 (x2 + (1 : Int32)).toNatClampNeg)), u.2.2.2.2.2.2.2.2.2.2.2.2.2.2.1, u.2.2.2.2.2.2.2.2.2.2.2.2.2.2.2.1, u.2.2.2.2.2.2.2.2.2.2.2.2.2.2.2.2.1, u.2.2.2.2.2.2.2.2.2.2.2.2.2.2.2.2.2)) := hD
      refine lv_aload_n hx hb dX2_drop_46 rfl (lv_at hl 0 rfl) ?_
      refine va_get (D := D) (ci := 2) (v := .ref (ma 10)) (C := RX2) (T := TX2) (N := 18) hx hb hts (fun w h => cwc w (in_X2 w h)) hown hK hP 0 rfl rfl 14 (by decide) hk_42 (fun _ h9 => h9) rfl dX2_drop_47 ?_
      refine lv_iload_n hx hb dX2_drop_50 rfl (lv_at hl 2 rfl) ?_
      refine lv_aload_n hx hb dX2_drop_51 rfl (lv_at hl 0 rfl) ?_
      refine va_get (D := D) (ci := 2) (v := .ref (ma 10)) (C := RX2) (T := TX2) (N := 18) hx hb hts (fun w h => cwc w (in_X2 w h)) hown hK hP 0 rfl rfl 14 (by decide) hk_42 (fun _ h9 => h9) rfl dX2_drop_52 ?_
      refine lv_iload_n hx hb dX2_drop_55 rfl (lv_at hl 2 rfl) ?_
      refine lv_iconst (v := (1 : Int32)) hx hb dX2_drop_56 (by decide +kernel) ?_
      refine lv_iadd hx hb dX2_drop_57 ?_
      obtain ⟨h_8, hF⟩ := gd_some hF
      refine va_iald (f := u.2.2.2.2.2.2.2.2.2.2.2.2.2.2.1) hx hb hK hP 10 0 rfl rfl (inb_in h_8) dX2_drop_58 ?_
      obtain ⟨h_9, hF⟩ := gd_some hF
      refine va_iast (f := u.2.2.2.2.2.2.2.2.2.2.2.2.2.2.1) hx hb hK hP hD hS 10 0 rfl rfl (inb_in h_9) dX2_drop_59 (fun H locs hP hD hS => ?_)
      replace hP : va_P D vwCl (MW cI ma (u.1, u.2.1, u.2.2.1, u.2.2.2.1, u.2.2.2.2.1, u.2.2.2.2.2.1, u.2.2.2.2.2.2.1, u.2.2.2.2.2.2.2.1, u.2.2.2.2.2.2.2.2.1, u.2.2.2.2.2.2.2.2.2.1, u.2.2.2.2.2.2.2.2.2.2.1, u.2.2.2.2.2.2.2.2.2.2.2.1, u.2.2.2.2.2.2.2.2.2.2.2.2.1, (upd u.2.2.2.2.2.2.2.2.2.2.2.2.2.1 x2.toNatClampNeg (u.2.2.2.2.2.2.2.2.2.2.2.2.2.1 (x2 + (1 : Int32)).toNatClampNeg)), (upd u.2.2.2.2.2.2.2.2.2.2.2.2.2.2.1 x2.toNatClampNeg (u.2.2.2.2.2.2.2.2.2.2.2.2.2.2.1 (x2 + (1 : Int32)).toNatClampNeg)), u.2.2.2.2.2.2.2.2.2.2.2.2.2.2.2.1, u.2.2.2.2.2.2.2.2.2.2.2.2.2.2.2.2.1, u.2.2.2.2.2.2.2.2.2.2.2.2.2.2.2.2.2)) H := hP
      replace hD : va_D A (MW cI ma (u.1, u.2.1, u.2.2.1, u.2.2.2.1, u.2.2.2.2.1, u.2.2.2.2.2.1, u.2.2.2.2.2.2.1, u.2.2.2.2.2.2.2.1, u.2.2.2.2.2.2.2.2.1, u.2.2.2.2.2.2.2.2.2.1, u.2.2.2.2.2.2.2.2.2.2.1, u.2.2.2.2.2.2.2.2.2.2.2.1, u.2.2.2.2.2.2.2.2.2.2.2.2.1, (upd u.2.2.2.2.2.2.2.2.2.2.2.2.2.1 x2.toNatClampNeg (u.2.2.2.2.2.2.2.2.2.2.2.2.2.1 (x2 + (1 : Int32)).toNatClampNeg)), (upd u.2.2.2.2.2.2.2.2.2.2.2.2.2.2.1 x2.toNatClampNeg (u.2.2.2.2.2.2.2.2.2.2.2.2.2.2.1 (x2 + (1 : Int32)).toNatClampNeg)), u.2.2.2.2.2.2.2.2.2.2.2.2.2.2.2.1, u.2.2.2.2.2.2.2.2.2.2.2.2.2.2.2.2.1, u.2.2.2.2.2.2.2.2.2.2.2.2.2.2.2.2.2)) := hD
      refine lv_iinc (v := (x2 + (1 : Int32))) (lv' := [(2, .int (x2 + (1 : Int32))), (0, .ref (ma 0)), (1, .int x1)]) hx hb dX2_drop_60 hl (k := 2) rfl rfl (by decide) rfl (fun ls hl => ?_)
      refine lv_goto (tgt := 16) hx hb dX2_drop_63 (by decide) ?_
      exact ih x1 (x2 + (1 : Int32)) (u.1, u.2.1, u.2.2.1, u.2.2.2.1, u.2.2.2.2.1, u.2.2.2.2.2.1, u.2.2.2.2.2.2.1, u.2.2.2.2.2.2.2.1, u.2.2.2.2.2.2.2.2.1, u.2.2.2.2.2.2.2.2.2.1, u.2.2.2.2.2.2.2.2.2.2.1, u.2.2.2.2.2.2.2.2.2.2.2.1, u.2.2.2.2.2.2.2.2.2.2.2.2.1, (upd u.2.2.2.2.2.2.2.2.2.2.2.2.2.1 x2.toNatClampNeg (u.2.2.2.2.2.2.2.2.2.2.2.2.2.1 (x2 + (1 : Int32)).toNatClampNeg)), (upd u.2.2.2.2.2.2.2.2.2.2.2.2.2.2.1 x2.toNatClampNeg (u.2.2.2.2.2.2.2.2.2.2.2.2.2.2.1 (x2 + (1 : Int32)).toNatClampNeg)), u.2.2.2.2.2.2.2.2.2.2.2.2.2.2.2.1, u.2.2.2.2.2.2.2.2.2.2.2.2.2.2.2.2.1, u.2.2.2.2.2.2.2.2.2.2.2.2.2.2.2.2.2) _ _ hF H locs ls hP hD hS (lv_sub hl [1, 2, 0] rfl)
set_option maxHeartbeats 4000000 in
set_option maxRecDepth 100000 in
theorem c_M_drop (l : Launch) (D : va_G) (cI cR : ClassId) (ma : Nat → Nat) (sz : Nat) (p1 : Int32) (u : MSt) (r : Unit) (u' : MSt) (hF : F_M_drop p1 u = some (r, u')) : Met l yX2_drop wsX2_drop ({ frames := 0, cells := 0, slots := 0, locals := 0 }) (va_Pc [.ref (ma 0), .int p1] (PRE D (TY cI cR) (MW cI ma u) sz)) (QV D (TY cI cR) (va_A (MW cI ma u) sz) (fun v => MW cI ma v) u') 0 0 (va_A (MW cI ma u) sz) := by
  refine Met.ofW (cc := cX2_drop) (maxL := 3) (ret := none) (by decide) rfl ?_
  intro p e s m args below meth c s₁ B hml hv
  obtain ⟨rfl, hsz, hP, hK, hD0⟩ := hv
  have hx := B.exec
  have hb := B.bytes
  have hr := B.returns
  have hts := atoms_spec (ws := wsX2_drop) B.pre
  have hown : s.vm.findClass RX2 = some m.cls := findClass_of_methodNamed B.named
  have hlocks := B.notSynchronized
  subst hsz
  have hD := hD0.self (sz := s.heap.size)
  generalize hAe : va_A (MW cI ma u) s.heap.size = A at hD ⊢
  have hA : ∀ q : Nat, s.heap.size ≤ q → A q := fun q h => by rw [← hAe]; exact Or.inr h
  have hS : va_S A s.heap s.heap [] := va_S.rf
  replace hP : va_P D vwCl (MW cI ma u) s.heap := hP
  have hl := lv_entry ([.ref (ma 0), .int p1]) (n := 3) (Nat.le_of_ble_eq_true rfl)
  rw [lg_entry_eq]
  generalize (lg_sl ([.ref (ma 0), .int p1]) ++ List.replicate (3 - (lg_sl ([.ref (ma 0), .int p1])).length) Slot.unset).toArray = ls at hl ⊢
  replace hl : lv_has ls 3 [(0, .ref (ma 0)), (1, .int p1)] := hl
  have hk_35 := (hts _ (cwc _ mw_347))
  have hk_39 := (hts _ (cwc _ mw_348))
  have hk_42 := (hts _ (cwc _ mw_349))
  unfold F_M_drop at hF
  refine (?_ : ∀ (H : Heap) (locs : List Loc), va_P D vwCl (MW cI ma u) H → va_S A s.heap H locs → W p l e _ s m _ below meth c H locs 0 0 _ (F0 m 0 ls [])) s.heap [] hP hS
  intro H locs hP hS
  refine lv_aload_n hx hb dX2_drop_0 rfl (lv_at hl 0 rfl) ?_
  refine va_get (D := D) (ci := 2) (v := .ref (ma 8)) (C := RX2) (T := TX2) (N := 18) hx hb hts (fun w h => cwc w (in_X2 w h)) hown hK hP 0 rfl rfl 12 (by decide) hk_35 (fun _ h9 => h9) rfl dX2_drop_1 ?_
  refine lv_iload_n hx hb dX2_drop_4 rfl (lv_at hl 1 rfl) ?_
  refine lv_dup2_11 hx hb dX2_drop_5 rfl rfl ?_
  obtain ⟨h_1, hF⟩ := gd_some hF
  refine va_iald (f := u.2.2.2.2.2.2.2.2.2.2.2.2.1) hx hb hK hP 8 0 rfl rfl (inb_in h_1) dX2_drop_6 ?_
  refine lv_iconst (v := (1 : Int32)) hx hb dX2_drop_7 (by decide +kernel) ?_
  refine lv_isub hx hb dX2_drop_8 ?_
  obtain ⟨h_2, hF⟩ := gd_some hF
  refine va_iast (f := u.2.2.2.2.2.2.2.2.2.2.2.2.1) hx hb hK hP hD hS 8 0 rfl rfl (inb_in h_2) dX2_drop_9 (fun H locs hP hD hS => ?_)
  replace hP : va_P D vwCl (MW cI ma (u.1, u.2.1, u.2.2.1, u.2.2.2.1, u.2.2.2.2.1, u.2.2.2.2.2.1, u.2.2.2.2.2.2.1, u.2.2.2.2.2.2.2.1, u.2.2.2.2.2.2.2.2.1, u.2.2.2.2.2.2.2.2.2.1, u.2.2.2.2.2.2.2.2.2.2.1, u.2.2.2.2.2.2.2.2.2.2.2.1, (upd u.2.2.2.2.2.2.2.2.2.2.2.2.1 p1.toNatClampNeg ((u.2.2.2.2.2.2.2.2.2.2.2.2.1 p1.toNatClampNeg) - (1 : Int32))), u.2.2.2.2.2.2.2.2.2.2.2.2.2.1, u.2.2.2.2.2.2.2.2.2.2.2.2.2.2.1, u.2.2.2.2.2.2.2.2.2.2.2.2.2.2.2.1, u.2.2.2.2.2.2.2.2.2.2.2.2.2.2.2.2.1, u.2.2.2.2.2.2.2.2.2.2.2.2.2.2.2.2.2)) H := hP
  replace hD : va_D A (MW cI ma (u.1, u.2.1, u.2.2.1, u.2.2.2.1, u.2.2.2.2.1, u.2.2.2.2.2.1, u.2.2.2.2.2.2.1, u.2.2.2.2.2.2.2.1, u.2.2.2.2.2.2.2.2.1, u.2.2.2.2.2.2.2.2.2.1, u.2.2.2.2.2.2.2.2.2.2.1, u.2.2.2.2.2.2.2.2.2.2.2.1, (upd u.2.2.2.2.2.2.2.2.2.2.2.2.1 p1.toNatClampNeg ((u.2.2.2.2.2.2.2.2.2.2.2.2.1 p1.toNatClampNeg) - (1 : Int32))), u.2.2.2.2.2.2.2.2.2.2.2.2.2.1, u.2.2.2.2.2.2.2.2.2.2.2.2.2.2.1, u.2.2.2.2.2.2.2.2.2.2.2.2.2.2.2.1, u.2.2.2.2.2.2.2.2.2.2.2.2.2.2.2.2.1, u.2.2.2.2.2.2.2.2.2.2.2.2.2.2.2.2.2)) := hD
  refine lv_sipush (v := (1000 : Int32)) hx hb dX2_drop_10 (by decide +kernel) ?_
  refine lv_iload_n hx hb dX2_drop_13 rfl (lv_at hl 1 rfl) ?_
  refine lv_imul hx hb dX2_drop_14 ?_
  obtain ⟨v3, ev3, hF⟩ := nm_some hF
  refine W.eq (g2 := F0 m 15 ls (.int v3 :: [])) (congrArg (fun z => F0 m 15 ls (.int z :: [])) ev3.symm) ?_
  refine lv_istore_n (lv' := [(2, .int v3), (0, .ref (ma 0)), (1, .int p1)]) hx hb dX2_drop_15 rfl hl (by decide) rfl (fun ls hl => ?_)
  exact w_M_drop_L16 hx hb hr hml hown hts hlocks hA hK 1001 p1 v3 (u.1, u.2.1, u.2.2.1, u.2.2.2.1, u.2.2.2.2.1, u.2.2.2.2.2.1, u.2.2.2.2.2.2.1, u.2.2.2.2.2.2.2.1, u.2.2.2.2.2.2.2.2.1, u.2.2.2.2.2.2.2.2.2.1, u.2.2.2.2.2.2.2.2.2.2.1, u.2.2.2.2.2.2.2.2.2.2.2.1, (upd u.2.2.2.2.2.2.2.2.2.2.2.2.1 p1.toNatClampNeg ((u.2.2.2.2.2.2.2.2.2.2.2.2.1 p1.toNatClampNeg) - (1 : Int32))), u.2.2.2.2.2.2.2.2.2.2.2.2.2.1, u.2.2.2.2.2.2.2.2.2.2.2.2.2.2.1, u.2.2.2.2.2.2.2.2.2.2.2.2.2.2.2.1, u.2.2.2.2.2.2.2.2.2.2.2.2.2.2.2.2.1, u.2.2.2.2.2.2.2.2.2.2.2.2.2.2.2.2.2) _ _ hF H locs ls hP hD hS (lv_sub hl [1, 2, 0] rfl)
def F_M_move (p1 : Int32) (p2 : Int32) (u : MSt) : Option ((Unit) × MSt) := gd (inb ((1000 : Int32) * p1) 49000) (nm ((u.2.2.2.2.2.2.2.2.2.2.2.2.2.1 ((1000 : Int32) * p1).toNatClampNeg)) (fun v2 => gd (inb ((1000 : Int32) * p1) 49000) (nm ((u.2.2.2.2.2.2.2.2.2.2.2.2.2.2.1 ((1000 : Int32) * p1).toNatClampNeg)) (fun v4 => bi (F_M_drop p1 u) (fun r6 u5 => bi (F_M_put p2 v2 v4 u5) (fun r9 u8 => some ((), u8)))))))
set_option maxHeartbeats 4000000 in
set_option maxRecDepth 100000 in
theorem c_M_move (l : Launch) (D : va_G) (cI cR : ClassId) (ma : Nat → Nat) (sz : Nat) (p1 : Int32) (p2 : Int32) (u : MSt) (r : Unit) (u' : MSt) (hF : F_M_move p1 p2 u = some (r, u')) : Met l yX2_move wsX2_move ({ frames := 3, cells := 0, slots := 0, locals := 70 }) (va_Pc [.ref (ma 0), .int p1, .int p2] (PRE D (TY cI cR) (MW cI ma u) sz)) (QV D (TY cI cR) (va_A (MW cI ma u) sz) (fun v => MW cI ma v) u') 0 0 (va_A (MW cI ma u) sz) := by
  refine Met.ofW (cc := cX2_move) (maxL := 5) (ret := none) (by decide) rfl ?_
  intro p e s m args below meth c s₁ B hml hv
  obtain ⟨rfl, hsz, hP, hK, hD0⟩ := hv
  have hx := B.exec
  have hb := B.bytes
  have hr := B.returns
  have hts := atoms_spec (ws := wsX2_move) B.pre
  have hown : s.vm.findClass RX2 = some m.cls := findClass_of_methodNamed B.named
  have hlocks := B.notSynchronized
  subst hsz
  have hD := hD0.self (sz := s.heap.size)
  generalize hAe : va_A (MW cI ma u) s.heap.size = A at hD ⊢
  have hA : ∀ q : Nat, s.heap.size ≤ q → A q := fun q h => by rw [← hAe]; exact Or.inr h
  have hS : va_S A s.heap s.heap [] := va_S.rf
  replace hP : va_P D vwCl (MW cI ma u) s.heap := hP
  have hl := lv_entry ([.ref (ma 0), .int p1, .int p2]) (n := 5) (Nat.le_of_ble_eq_true rfl)
  rw [lg_entry_eq]
  generalize (lg_sl ([.ref (ma 0), .int p1, .int p2]) ++ List.replicate (5 - (lg_sl ([.ref (ma 0), .int p1, .int p2])).length) Slot.unset).toArray = ls at hl ⊢
  replace hl : lv_has ls 5 [(0, .ref (ma 0)), (1, .int p1), (2, .int p2)] := hl
  have hk_39 := (hts _ (cwc _ mw_348))
  have hk_42 := (hts _ (cwc _ mw_349))
  unfold F_M_move at hF
  refine (?_ : ∀ (H : Heap) (locs : List Loc), va_P D vwCl (MW cI ma u) H → va_S A s.heap H locs → W p l e _ s m _ below meth c H locs 0 0 _ (F0 m 0 ls [])) s.heap [] hP hS
  intro H locs hP hS
  refine lv_aload_n hx hb dX2_move_0 rfl (lv_at hl 0 rfl) ?_
  refine va_get (D := D) (ci := 2) (v := .ref (ma 9)) (C := RX2) (T := TX2) (N := 18) hx hb hts (fun w h => cwc w (in_X2 w h)) hown hK hP 0 rfl rfl 13 (by decide) hk_39 (fun _ h9 => h9) rfl dX2_move_1 ?_
  refine lv_sipush (v := (1000 : Int32)) hx hb dX2_move_4 (by decide +kernel) ?_
  refine lv_iload_n hx hb dX2_move_7 rfl (lv_at hl 1 rfl) ?_
  refine lv_imul hx hb dX2_move_8 ?_
  obtain ⟨h_1, hF⟩ := gd_some hF
  refine va_iald (f := u.2.2.2.2.2.2.2.2.2.2.2.2.2.1) hx hb hK hP 9 0 rfl rfl (inb_in h_1) dX2_move_9 ?_
  obtain ⟨v2, ev2, hF⟩ := nm_some hF
  refine W.eq (g2 := F0 m 10 ls (.int v2 :: [])) (congrArg (fun z => F0 m 10 ls (.int z :: [])) ev2.symm) ?_
  refine lv_istore_n (lv' := [(3, .int v2), (0, .ref (ma 0)), (1, .int p1), (2, .int p2)]) hx hb dX2_move_10 rfl hl (by decide) rfl (fun ls hl => ?_)
  refine lv_aload_n hx hb dX2_move_11 rfl (lv_at hl 1 rfl) ?_
  refine va_get (D := D) (ci := 2) (v := .ref (ma 10)) (C := RX2) (T := TX2) (N := 18) hx hb hts (fun w h => cwc w (in_X2 w h)) hown hK hP 0 rfl rfl 14 (by decide) hk_42 (fun _ h9 => h9) rfl dX2_move_12 ?_
  refine lv_sipush (v := (1000 : Int32)) hx hb dX2_move_15 (by decide +kernel) ?_
  refine lv_iload_n hx hb dX2_move_18 rfl (lv_at hl 2 rfl) ?_
  refine lv_imul hx hb dX2_move_19 ?_
  obtain ⟨h_3, hF⟩ := gd_some hF
  refine va_iald (f := u.2.2.2.2.2.2.2.2.2.2.2.2.2.2.1) hx hb hK hP 10 0 rfl rfl (inb_in h_3) dX2_move_20 ?_
  obtain ⟨v4, ev4, hF⟩ := nm_some hF
  refine W.eq (g2 := F0 m 21 ls (.int v4 :: [])) (congrArg (fun z => F0 m 21 ls (.int z :: [])) ev4.symm) ?_
  refine lv_istore (lv' := [(4, .int v4), (3, .int v2), (0, .ref (ma 0)), (1, .int p1), (2, .int p2)]) hx hb dX2_move_21 hl (by decide) rfl (fun ls hl => ?_)
  refine lv_aload_n hx hb dX2_move_23 rfl (lv_at hl 2 rfl) ?_
  refine lv_iload_n hx hb dX2_move_24 rfl (lv_at hl 3 rfl) ?_
  obtain ⟨r6, u5, hc_7, hF⟩ := bi_some hF
  refine kc_v (W1 := MW cI ma u5) (va_runV (As := [.int p1]) (rest := []) ⟨hx, hb, hml, hown, hts⟩ (c_M_drop l D cI cR ma H.size p1 u r6 u5 hc_7) (cwV 1 hts (gV cwc mw_423 mw_424 mw_490 mw_3 mw_425) rfl rfl rfl (by decide +kernel) ⟨(Nat.le_of_ble_eq_true rfl), (Nat.le_of_ble_eq_true rfl)⟩) (kp_V (ci := 2) (q := (RX2, TX2, 18)) hK hP hD (sb_id _) rfl rfl) rfl rfl hl.1 rfl (lv_room (Nat.le_of_ble_eq_true rfl)) dX2_move_25 ⟨(Nat.le_of_ble_eq_true rfl), (Nat.le_of_ble_eq_true rfl)⟩) hP hD hS hA (sb_id _) (jn_id rfl) (fun H locs hP hD hS => ?_)
  refine lv_aload_n hx hb dX2_move_28 rfl (lv_at hl 2 rfl) ?_
  refine lv_iload_n hx hb dX2_move_29 rfl (lv_at hl 4 rfl) ?_
  refine lv_iload_n hx hb dX2_move_30 rfl (lv_at hl 1 rfl) ?_
  refine lv_iload hx hb dX2_move_31 (lv_at hl 0 rfl) ?_
  obtain ⟨r9, u8, hc_10, hF⟩ := bi_some hF
  refine kc_v (W1 := MW cI ma u8) (va_runV (As := [.int p2, .int v2, .int v4]) (rest := []) ⟨hx, hb, hml, hown, hts⟩ (c_M_put l D cI cR ma H.size p2 v2 v4 u5 r9 u8 hc_10) (cwV 3 hts (gV cwc mw_407 mw_408 mw_486 mw_3 mw_409) rfl rfl rfl (by decide +kernel) ⟨(Nat.le_of_ble_eq_true rfl), (Nat.le_of_ble_eq_true rfl)⟩) (kp_V (ci := 2) (q := (RX2, TX2, 18)) hK hP hD (sb_id _) rfl rfl) rfl rfl hl.1 rfl (lv_room (Nat.le_of_ble_eq_true rfl)) dX2_move_33 ⟨(Nat.le_of_ble_eq_true rfl), (Nat.le_of_ble_eq_true rfl)⟩) hP hD hS hA (sb_id _) (jn_id rfl) (fun H locs hP hD hS => ?_)
  cases hF
  refine W.widen (k := 0) (n := 0) (Nat.le_of_ble_eq_true rfl) (Nat.le_of_ble_eq_true rfl) ?_
  exact W.vret hx hb hr (fun t ht hW => ⟨⟨_, rfl, rfl, by rw [ht]; exact hP, va_K.moved hW.alike hK, hD⟩, hS.F ht⟩) hS.2.2 dX2_move_36
def F_M_produce (p1 : Int32) (p2 : Int32) (u : MSt) : Option ((Unit) × MSt) := gd (inb (((4 : Int32) * p1) + p2) 49) ((if (u.2.2.2.2.2.2.2.2.2.2.2.2.1 (((4 : Int32) * p1) + p2).toNatClampNeg) = (999 : Int32) then some ((), u) else gd (inb p2 4) ((if (u.2.2.2.2.2.2.2.2.2.2.2.2.2.2.2.1 p2.toNatClampNeg) = (2000000000 : Int32) then some ((), u) else gd (inb p2 4) (gd (inb p2 4) (bi (F_M_put (((4 : Int32) * p1) + p2) p1 u.2.1 (u.1, u.2.1, u.2.2.1, u.2.2.2.1, u.2.2.2.2.1, u.2.2.2.2.2.1, u.2.2.2.2.2.2.1, u.2.2.2.2.2.2.2.1, u.2.2.2.2.2.2.2.2.1, u.2.2.2.2.2.2.2.2.2.1, u.2.2.2.2.2.2.2.2.2.2.1, u.2.2.2.2.2.2.2.2.2.2.2.1, u.2.2.2.2.2.2.2.2.2.2.2.2.1, u.2.2.2.2.2.2.2.2.2.2.2.2.2.1, u.2.2.2.2.2.2.2.2.2.2.2.2.2.2.1, (upd u.2.2.2.2.2.2.2.2.2.2.2.2.2.2.2.1 p2.toNatClampNeg ((u.2.2.2.2.2.2.2.2.2.2.2.2.2.2.2.1 p2.toNatClampNeg) + (1 : Int32))), u.2.2.2.2.2.2.2.2.2.2.2.2.2.2.2.2.1, u.2.2.2.2.2.2.2.2.2.2.2.2.2.2.2.2.2)) (fun r8 u7 => some ((), u7))))))))
set_option maxHeartbeats 4000000 in
set_option maxRecDepth 100000 in
theorem c_M_produce (l : Launch) (D : va_G) (cI cR : ClassId) (ma : Nat → Nat) (sz : Nat) (p1 : Int32) (p2 : Int32) (u : MSt) (r : Unit) (u' : MSt) (hF : F_M_produce p1 p2 u = some (r, u')) : Met l yX2_produce wsX2_produce ({ frames := 3, cells := 0, slots := 0, locals := 70 }) (va_Pc [.ref (ma 0), .int p1, .int p2] (PRE D (TY cI cR) (MW cI ma u) sz)) (QV D (TY cI cR) (va_A (MW cI ma u) sz) (fun v => MW cI ma v) u') 0 0 (va_A (MW cI ma u) sz) := by
  refine Met.ofW (cc := cX2_produce) (maxL := 3) (ret := none) (by decide) rfl ?_
  intro p e s m args below meth c s₁ B hml hv
  obtain ⟨rfl, hsz, hP, hK, hD0⟩ := hv
  have hx := B.exec
  have hb := B.bytes
  have hr := B.returns
  have hts := atoms_spec (ws := wsX2_produce) B.pre
  have hown : s.vm.findClass RX2 = some m.cls := findClass_of_methodNamed B.named
  have hlocks := B.notSynchronized
  subst hsz
  have hD := hD0.self (sz := s.heap.size)
  generalize hAe : va_A (MW cI ma u) s.heap.size = A at hD ⊢
  have hA : ∀ q : Nat, s.heap.size ≤ q → A q := fun q h => by rw [← hAe]; exact Or.inr h
  have hS : va_S A s.heap s.heap [] := va_S.rf
  replace hP : va_P D vwCl (MW cI ma u) s.heap := hP
  have hl := lv_entry ([.ref (ma 0), .int p1, .int p2]) (n := 3) (Nat.le_of_ble_eq_true rfl)
  rw [lg_entry_eq]
  generalize (lg_sl ([.ref (ma 0), .int p1, .int p2]) ++ List.replicate (3 - (lg_sl ([.ref (ma 0), .int p1, .int p2])).length) Slot.unset).toArray = ls at hl ⊢
  replace hl : lv_has ls 3 [(0, .ref (ma 0)), (1, .int p1), (2, .int p2)] := hl
  have hk_35 := (hts _ (cwc _ mw_347))
  have hk_45 := (hts _ (cwc _ mw_350))
  have hC_73 := (hts _ (cwc _ mw_403))
  have hk_74 := (hts _ (cwc _ mw_336))
  unfold F_M_produce at hF
  refine (?_ : ∀ (H : Heap) (locs : List Loc), va_P D vwCl (MW cI ma u) H → va_S A s.heap H locs → W p l e _ s m _ below meth c H locs 0 0 _ (F0 m 0 ls [])) s.heap [] hP hS
  intro H locs hP hS
  refine lv_aload_n hx hb dX2_produce_0 rfl (lv_at hl 0 rfl) ?_
  refine va_get (D := D) (ci := 2) (v := .ref (ma 8)) (C := RX2) (T := TX2) (N := 18) hx hb hts (fun w h => cwc w (in_X2 w h)) hown hK hP 0 rfl rfl 12 (by decide) hk_35 (fun _ h9 => h9) rfl dX2_produce_1 ?_
  refine lv_iconst (v := (4 : Int32)) hx hb dX2_produce_4 (by decide +kernel) ?_
  refine lv_iload_n hx hb dX2_produce_5 rfl (lv_at hl 1 rfl) ?_
  refine lv_imul hx hb dX2_produce_6 ?_
  refine lv_iload_n hx hb dX2_produce_7 rfl (lv_at hl 2 rfl) ?_
  refine lv_iadd hx hb dX2_produce_8 ?_
  obtain ⟨h_1, hF⟩ := gd_some hF
  refine va_iald (f := u.2.2.2.2.2.2.2.2.2.2.2.2.1) hx hb hK hP 8 0 rfl rfl (inb_in h_1) dX2_produce_9 ?_
  refine lv_sipush (v := (999 : Int32)) hx hb dX2_produce_10 (by decide +kernel) ?_
  refine lv_icmp_eq (tgt := 27) hx hb dX2_produce_13 (by decide) (fun c_2 => ?_) (fun c_2 => ?_)
  · replace hF := (if_pos c_2).symm.trans hF
    cases hF
    refine W.widen (k := 0) (n := 0) (Nat.le_of_ble_eq_true rfl) (Nat.le_of_ble_eq_true rfl) ?_
    exact W.vret hx hb hr (fun t ht hW => ⟨⟨_, rfl, rfl, by rw [ht]; exact hP, va_K.moved hW.alike hK, hD⟩, hS.F ht⟩) hS.2.2 dX2_produce_27
  · replace hF := (if_neg c_2).symm.trans hF
    refine lv_aload_n hx hb dX2_produce_16 rfl (lv_at hl 0 rfl) ?_
    refine va_get (D := D) (ci := 2) (v := .ref (ma 11)) (C := RX2) (T := TX2) (N := 18) hx hb hts (fun w h => cwc w (in_X2 w h)) hown hK hP 0 rfl rfl 15 (by decide) hk_45 (fun _ h9 => h9) rfl dX2_produce_17 ?_
    refine lv_iload_n hx hb dX2_produce_20 rfl (lv_at hl 2 rfl) ?_
    obtain ⟨h_3, hF⟩ := gd_some hF
    refine va_iald (f := u.2.2.2.2.2.2.2.2.2.2.2.2.2.2.2.1) hx hb hK hP 11 0 rfl rfl (inb_in h_3) dX2_produce_21 ?_
    refine lv_ldc (v := (2000000000 : Int32)) hx hb hown hC_73 dX2_produce_22 ?_
    refine lv_icmp_ne (tgt := 28) hx hb dX2_produce_24 (by decide) (fun c_4 => ?_) (fun c_4 => ?_)
    · replace hF := (if_neg c_4).symm.trans hF
      refine lv_aload_n hx hb dX2_produce_28 rfl (lv_at hl 0 rfl) ?_
      refine va_get (D := D) (ci := 2) (v := .ref (ma 11)) (C := RX2) (T := TX2) (N := 18) hx hb hts (fun w h => cwc w (in_X2 w h)) hown hK hP 0 rfl rfl 15 (by decide) hk_45 (fun _ h9 => h9) rfl dX2_produce_29 ?_
      refine lv_iload_n hx hb dX2_produce_32 rfl (lv_at hl 2 rfl) ?_
      refine lv_dup2_11 hx hb dX2_produce_33 rfl rfl ?_
      obtain ⟨h_5, hF⟩ := gd_some hF
      refine va_iald (f := u.2.2.2.2.2.2.2.2.2.2.2.2.2.2.2.1) hx hb hK hP 11 0 rfl rfl (inb_in h_5) dX2_produce_34 ?_
      refine lv_iconst (v := (1 : Int32)) hx hb dX2_produce_35 (by decide +kernel) ?_
      refine lv_iadd hx hb dX2_produce_36 ?_
      obtain ⟨h_6, hF⟩ := gd_some hF
      refine va_iast (f := u.2.2.2.2.2.2.2.2.2.2.2.2.2.2.2.1) hx hb hK hP hD hS 11 0 rfl rfl (inb_in h_6) dX2_produce_37 (fun H locs hP hD hS => ?_)
      replace hP : va_P D vwCl (MW cI ma (u.1, u.2.1, u.2.2.1, u.2.2.2.1, u.2.2.2.2.1, u.2.2.2.2.2.1, u.2.2.2.2.2.2.1, u.2.2.2.2.2.2.2.1, u.2.2.2.2.2.2.2.2.1, u.2.2.2.2.2.2.2.2.2.1, u.2.2.2.2.2.2.2.2.2.2.1, u.2.2.2.2.2.2.2.2.2.2.2.1, u.2.2.2.2.2.2.2.2.2.2.2.2.1, u.2.2.2.2.2.2.2.2.2.2.2.2.2.1, u.2.2.2.2.2.2.2.2.2.2.2.2.2.2.1, (upd u.2.2.2.2.2.2.2.2.2.2.2.2.2.2.2.1 p2.toNatClampNeg ((u.2.2.2.2.2.2.2.2.2.2.2.2.2.2.2.1 p2.toNatClampNeg) + (1 : Int32))), u.2.2.2.2.2.2.2.2.2.2.2.2.2.2.2.2.1, u.2.2.2.2.2.2.2.2.2.2.2.2.2.2.2.2.2)) H := hP
      replace hD : va_D A (MW cI ma (u.1, u.2.1, u.2.2.1, u.2.2.2.1, u.2.2.2.2.1, u.2.2.2.2.2.1, u.2.2.2.2.2.2.1, u.2.2.2.2.2.2.2.1, u.2.2.2.2.2.2.2.2.1, u.2.2.2.2.2.2.2.2.2.1, u.2.2.2.2.2.2.2.2.2.2.1, u.2.2.2.2.2.2.2.2.2.2.2.1, u.2.2.2.2.2.2.2.2.2.2.2.2.1, u.2.2.2.2.2.2.2.2.2.2.2.2.2.1, u.2.2.2.2.2.2.2.2.2.2.2.2.2.2.1, (upd u.2.2.2.2.2.2.2.2.2.2.2.2.2.2.2.1 p2.toNatClampNeg ((u.2.2.2.2.2.2.2.2.2.2.2.2.2.2.2.1 p2.toNatClampNeg) + (1 : Int32))), u.2.2.2.2.2.2.2.2.2.2.2.2.2.2.2.2.1, u.2.2.2.2.2.2.2.2.2.2.2.2.2.2.2.2.2)) := hD
      refine lv_aload_n hx hb dX2_produce_38 rfl (lv_at hl 0 rfl) ?_
      refine lv_iconst (v := (4 : Int32)) hx hb dX2_produce_39 (by decide +kernel) ?_
      refine lv_iload_n hx hb dX2_produce_40 rfl (lv_at hl 1 rfl) ?_
      refine lv_imul hx hb dX2_produce_41 ?_
      refine lv_iload_n hx hb dX2_produce_42 rfl (lv_at hl 2 rfl) ?_
      refine lv_iadd hx hb dX2_produce_43 ?_
      refine lv_iload_n hx hb dX2_produce_44 rfl (lv_at hl 1 rfl) ?_
      refine lv_aload_n hx hb dX2_produce_45 rfl (lv_at hl 0 rfl) ?_
      refine va_get (D := D) (ci := 2) (v := .int u.2.1) (C := RX2) (T := TX2) (N := 18) hx hb hts (fun w h => cwc w (in_X2 w h)) hown hK hP 0 rfl rfl 1 (by decide) hk_74 (fun _ h9 => h9) rfl dX2_produce_46 ?_
      obtain ⟨r8, u7, hc_9, hF⟩ := bi_some hF
      refine kc_v (W1 := MW cI ma u7) (va_runV (As := [.int (((4 : Int32) * p1) + p2), .int p1, .int u.2.1]) (rest := []) ⟨hx, hb, hml, hown, hts⟩ (c_M_put l D cI cR ma H.size (((4 : Int32) * p1) + p2) p1 u.2.1 (u.1, u.2.1, u.2.2.1, u.2.2.2.1, u.2.2.2.2.1, u.2.2.2.2.2.1, u.2.2.2.2.2.2.1, u.2.2.2.2.2.2.2.1, u.2.2.2.2.2.2.2.2.1, u.2.2.2.2.2.2.2.2.2.1, u.2.2.2.2.2.2.2.2.2.2.1, u.2.2.2.2.2.2.2.2.2.2.2.1, u.2.2.2.2.2.2.2.2.2.2.2.2.1, u.2.2.2.2.2.2.2.2.2.2.2.2.2.1, u.2.2.2.2.2.2.2.2.2.2.2.2.2.2.1, (upd u.2.2.2.2.2.2.2.2.2.2.2.2.2.2.2.1 p2.toNatClampNeg ((u.2.2.2.2.2.2.2.2.2.2.2.2.2.2.2.1 p2.toNatClampNeg) + (1 : Int32))), u.2.2.2.2.2.2.2.2.2.2.2.2.2.2.2.2.1, u.2.2.2.2.2.2.2.2.2.2.2.2.2.2.2.2.2) r8 u7 hc_9) (cwV 3 hts (gV cwc mw_407 mw_408 mw_486 mw_3 mw_409) rfl rfl rfl (by decide +kernel) ⟨(Nat.le_of_ble_eq_true rfl), (Nat.le_of_ble_eq_true rfl)⟩) (kp_V (ci := 2) (q := (RX2, TX2, 18)) hK hP hD (sb_id _) rfl rfl) rfl rfl hl.1 rfl (lv_room (Nat.le_of_ble_eq_true rfl)) dX2_produce_49 ⟨(Nat.le_of_ble_eq_true rfl), (Nat.le_of_ble_eq_true rfl)⟩) hP hD hS hA (sb_id _) (jn_id rfl) (fun H locs hP hD hS => ?_)
      cases hF
      refine W.widen (k := 0) (n := 0) (Nat.le_of_ble_eq_true rfl) (Nat.le_of_ble_eq_true rfl) ?_
      exact W.vret hx hb hr (fun t ht hW => ⟨⟨_, rfl, rfl, by rw [ht]; exact hP, va_K.moved hW.alike hK, hD⟩, hS.F ht⟩) hS.2.2 dX2_produce_52
    · replace hF := (if_pos c_4).symm.trans hF
      cases hF
      refine W.widen (k := 0) (n := 0) (Nat.le_of_ble_eq_true rfl) (Nat.le_of_ble_eq_true rfl) ?_
      exact W.vret hx hb hr (fun t ht hW => ⟨⟨_, rfl, rfl, by rw [ht]; exact hP, va_K.moved hW.alike hK, hD⟩, hS.F ht⟩) hS.2.2 dX2_produce_27
def F_M_place_J37 (x1 x2 x3 s0 : Int32) (u : MSt) : Option ((Unit) × MSt) := (if s0 ≤ (0 : Int32) then gd (inb x1 8) (gd (inb x1 8) (some ((), (s0, u.2.1, u.2.2.1, u.2.2.2.1, u.2.2.2.2.1, (upd u.2.2.2.2.2.1 x1.toNatClampNeg x2), (upd u.2.2.2.2.2.2.1 x1.toNatClampNeg x3), u.2.2.2.2.2.2.2.1, u.2.2.2.2.2.2.2.2.1, u.2.2.2.2.2.2.2.2.2.1, u.2.2.2.2.2.2.2.2.2.2.1, u.2.2.2.2.2.2.2.2.2.2.2.1, u.2.2.2.2.2.2.2.2.2.2.2.2.1, u.2.2.2.2.2.2.2.2.2.2.2.2.2.1, u.2.2.2.2.2.2.2.2.2.2.2.2.2.2.1, u.2.2.2.2.2.2.2.2.2.2.2.2.2.2.2.1, u.2.2.2.2.2.2.2.2.2.2.2.2.2.2.2.2.1, u.2.2.2.2.2.2.2.2.2.2.2.2.2.2.2.2.2)))) else some ((), (s0, u.2.1, u.2.2.1, u.2.2.2.1, u.2.2.2.2.1, u.2.2.2.2.2.1, u.2.2.2.2.2.2.1, u.2.2.2.2.2.2.2.1, u.2.2.2.2.2.2.2.2.1, u.2.2.2.2.2.2.2.2.2.1, u.2.2.2.2.2.2.2.2.2.2.1, u.2.2.2.2.2.2.2.2.2.2.2.1, u.2.2.2.2.2.2.2.2.2.2.2.2.1, u.2.2.2.2.2.2.2.2.2.2.2.2.2.1, u.2.2.2.2.2.2.2.2.2.2.2.2.2.2.1, u.2.2.2.2.2.2.2.2.2.2.2.2.2.2.2.1, u.2.2.2.2.2.2.2.2.2.2.2.2.2.2.2.2.1, u.2.2.2.2.2.2.2.2.2.2.2.2.2.2.2.2.2)))
def F_M_place_J32 (x1 x2 x3 : Int32) (u : MSt) : Option ((Unit) × MSt) := F_M_place_J37 x1 x2 x3 (2 : Int32) u
def F_M_place (p1 : Int32) (p2 : Int32) (p3 : Int32) (u : MSt) : Option ((Unit) × MSt) := bi (F_M_in p1 (8 : Int32) ()) (fun r2 u1 => (if r2 = (0 : Int32) then F_M_place_J37 p1 p2 p3 (1 : Int32) u else bi (F_M_in p2 (100 : Int32) ()) (fun r6 u5 => (if r6 = (0 : Int32) then F_M_place_J32 p1 p2 p3 u else bi (F_M_in p3 (100 : Int32) ()) (fun r13 u12 => (if r13 = (0 : Int32) then F_M_place_J32 p1 p2 p3 u else F_M_place_J37 p1 p2 p3 (0 : Int32) u))))))
set_option maxHeartbeats 4000000 in
set_option maxRecDepth 100000 in
theorem w_M_place_J37 {p : Program} {l : Launch} {e : Env} {s : State} {m : MethodId} {args : Array Value} {below : List Frame} {meth : Method} {c : Code} {A : Nat → Prop} {D : va_G} {cI cR : ClassId} {ma : Nat → Nat} (hx : p.tables.exec = Jvm.exec) (hb : c.code = cX2_place) (hr : meth.sig.returnType = none) (hml : c.maxLocals = 4) (hown : s.vm.findClass RX2 = some m.cls) (hts : ∀ w ∈ wsX2_place, w.before args s = true) (hlocks : meth.locks = false) (hA : ∀ q : Nat, s.heap.size ≤ q → A q) (hK : va_K D vwCl (TY cI cR) s) : ∀ (x1 x2 x3 s0 : Int32) (u : MSt) (r : Unit) (u' : MSt), F_M_place_J37 x1 x2 x3 s0 u = some (r, u') → ∀ (H : Heap) (locs : List Loc) (ls : Array Slot), va_P D vwCl (MW cI ma u) H → va_D A (MW cI ma u) → va_S A s.heap H locs → lv_has ls 4 [(0, .ref (ma 0)), (1, .int x1), (2, .int x2), (3, .int x3)] → W p l e (headSpec wsX2_place ({ frames := 1, cells := 0, slots := 0, locals := 21 })).room s m args below meth c H locs 0 0 (MQ below (QV D (TY cI cR) A (fun v => MW cI ma v) u') args s 0 0 A) (F0 m 37 ls [.int s0, .ref (ma 0)]) := by
  have hk_54 := (hts _ (cwc _ mw_335))
  have hk_13 := (hts _ (cwc _ mw_340))
  have hk_17 := (hts _ (cwc _ mw_341))
  intro x1 x2 x3 s0 u r u' hF H locs ls hP hD hS hl
  unfold F_M_place_J37 at hF
  refine va_put (D := D) (ci := 2) (v := .int s0) (ty := .int) (C := RX2) (T := TX2) (N := 18) hx hb hts (fun w h => cwc w (in_X2 w h)) tyX2 tyX2_ok nmX2 hown hK hP hD hS 0 rfl rfl 0 (by decide) hk_54 (fun _ h9 => h9) rfl (by decide +kernel) rfl rfl (Nat.le_of_ble_eq_true rfl) dX2_place_37 (fun H locs hP hD hS => ?_)
  replace hP : va_P D vwCl (MW cI ma (s0, u.2.1, u.2.2.1, u.2.2.2.1, u.2.2.2.2.1, u.2.2.2.2.2.1, u.2.2.2.2.2.2.1, u.2.2.2.2.2.2.2.1, u.2.2.2.2.2.2.2.2.1, u.2.2.2.2.2.2.2.2.2.1, u.2.2.2.2.2.2.2.2.2.2.1, u.2.2.2.2.2.2.2.2.2.2.2.1, u.2.2.2.2.2.2.2.2.2.2.2.2.1, u.2.2.2.2.2.2.2.2.2.2.2.2.2.1, u.2.2.2.2.2.2.2.2.2.2.2.2.2.2.1, u.2.2.2.2.2.2.2.2.2.2.2.2.2.2.2.1, u.2.2.2.2.2.2.2.2.2.2.2.2.2.2.2.2.1, u.2.2.2.2.2.2.2.2.2.2.2.2.2.2.2.2.2)) H := hP
  replace hD : va_D A (MW cI ma (s0, u.2.1, u.2.2.1, u.2.2.2.1, u.2.2.2.2.1, u.2.2.2.2.2.1, u.2.2.2.2.2.2.1, u.2.2.2.2.2.2.2.1, u.2.2.2.2.2.2.2.2.1, u.2.2.2.2.2.2.2.2.2.1, u.2.2.2.2.2.2.2.2.2.2.1, u.2.2.2.2.2.2.2.2.2.2.2.1, u.2.2.2.2.2.2.2.2.2.2.2.2.1, u.2.2.2.2.2.2.2.2.2.2.2.2.2.1, u.2.2.2.2.2.2.2.2.2.2.2.2.2.2.1, u.2.2.2.2.2.2.2.2.2.2.2.2.2.2.2.1, u.2.2.2.2.2.2.2.2.2.2.2.2.2.2.2.2.1, u.2.2.2.2.2.2.2.2.2.2.2.2.2.2.2.2.2)) := hD
  refine lv_aload_n hx hb dX2_place_40 rfl (lv_at hl 0 rfl) ?_
  refine va_get (D := D) (ci := 2) (v := .int s0) (C := RX2) (T := TX2) (N := 18) hx hb hts (fun w h => cwc w (in_X2 w h)) hown hK hP 0 rfl rfl 0 (by decide) hk_54 (fun _ h9 => h9) rfl dX2_place_41 ?_
  refine lv_if_le (tgt := 48) hx hb dX2_place_44 (by decide) (fun c_9 => ?_) (fun c_9 => ?_)
  · replace hF := (if_pos c_9).symm.trans hF
    refine lv_aload_n hx hb dX2_place_48 rfl (lv_at hl 0 rfl) ?_
    refine va_get (D := D) (ci := 2) (v := .ref (ma 1)) (C := RX2) (T := TX2) (N := 18) hx hb hts (fun w h => cwc w (in_X2 w h)) hown hK hP 0 rfl rfl 5 (by decide) hk_13 (fun _ h9 => h9) rfl dX2_place_49 ?_
    refine lv_iload_n hx hb dX2_place_52 rfl (lv_at hl 1 rfl) ?_
    refine lv_iload_n hx hb dX2_place_53 rfl (lv_at hl 2 rfl) ?_
    obtain ⟨h_10, hF⟩ := gd_some hF
    refine va_iast (f := u.2.2.2.2.2.1) hx hb hK hP hD hS 1 0 rfl rfl (inb_in h_10) dX2_place_54 (fun H locs hP hD hS => ?_)
    replace hP : va_P D vwCl (MW cI ma (s0, u.2.1, u.2.2.1, u.2.2.2.1, u.2.2.2.2.1, (upd u.2.2.2.2.2.1 x1.toNatClampNeg x2), u.2.2.2.2.2.2.1, u.2.2.2.2.2.2.2.1, u.2.2.2.2.2.2.2.2.1, u.2.2.2.2.2.2.2.2.2.1, u.2.2.2.2.2.2.2.2.2.2.1, u.2.2.2.2.2.2.2.2.2.2.2.1, u.2.2.2.2.2.2.2.2.2.2.2.2.1, u.2.2.2.2.2.2.2.2.2.2.2.2.2.1, u.2.2.2.2.2.2.2.2.2.2.2.2.2.2.1, u.2.2.2.2.2.2.2.2.2.2.2.2.2.2.2.1, u.2.2.2.2.2.2.2.2.2.2.2.2.2.2.2.2.1, u.2.2.2.2.2.2.2.2.2.2.2.2.2.2.2.2.2)) H := hP
    replace hD : va_D A (MW cI ma (s0, u.2.1, u.2.2.1, u.2.2.2.1, u.2.2.2.2.1, (upd u.2.2.2.2.2.1 x1.toNatClampNeg x2), u.2.2.2.2.2.2.1, u.2.2.2.2.2.2.2.1, u.2.2.2.2.2.2.2.2.1, u.2.2.2.2.2.2.2.2.2.1, u.2.2.2.2.2.2.2.2.2.2.1, u.2.2.2.2.2.2.2.2.2.2.2.1, u.2.2.2.2.2.2.2.2.2.2.2.2.1, u.2.2.2.2.2.2.2.2.2.2.2.2.2.1, u.2.2.2.2.2.2.2.2.2.2.2.2.2.2.1, u.2.2.2.2.2.2.2.2.2.2.2.2.2.2.2.1, u.2.2.2.2.2.2.2.2.2.2.2.2.2.2.2.2.1, u.2.2.2.2.2.2.2.2.2.2.2.2.2.2.2.2.2)) := hD
    refine lv_aload_n hx hb dX2_place_55 rfl (lv_at hl 0 rfl) ?_
    refine va_get (D := D) (ci := 2) (v := .ref (ma 2)) (C := RX2) (T := TX2) (N := 18) hx hb hts (fun w h => cwc w (in_X2 w h)) hown hK hP 0 rfl rfl 6 (by decide) hk_17 (fun _ h9 => h9) rfl dX2_place_56 ?_
    refine lv_iload_n hx hb dX2_place_59 rfl (lv_at hl 1 rfl) ?_
    refine lv_iload_n hx hb dX2_place_60 rfl (lv_at hl 3 rfl) ?_
    obtain ⟨h_11, hF⟩ := gd_some hF
    refine va_iast (f := u.2.2.2.2.2.2.1) hx hb hK hP hD hS 2 0 rfl rfl (inb_in h_11) dX2_place_61 (fun H locs hP hD hS => ?_)
    replace hP : va_P D vwCl (MW cI ma (s0, u.2.1, u.2.2.1, u.2.2.2.1, u.2.2.2.2.1, (upd u.2.2.2.2.2.1 x1.toNatClampNeg x2), (upd u.2.2.2.2.2.2.1 x1.toNatClampNeg x3), u.2.2.2.2.2.2.2.1, u.2.2.2.2.2.2.2.2.1, u.2.2.2.2.2.2.2.2.2.1, u.2.2.2.2.2.2.2.2.2.2.1, u.2.2.2.2.2.2.2.2.2.2.2.1, u.2.2.2.2.2.2.2.2.2.2.2.2.1, u.2.2.2.2.2.2.2.2.2.2.2.2.2.1, u.2.2.2.2.2.2.2.2.2.2.2.2.2.2.1, u.2.2.2.2.2.2.2.2.2.2.2.2.2.2.2.1, u.2.2.2.2.2.2.2.2.2.2.2.2.2.2.2.2.1, u.2.2.2.2.2.2.2.2.2.2.2.2.2.2.2.2.2)) H := hP
    replace hD : va_D A (MW cI ma (s0, u.2.1, u.2.2.1, u.2.2.2.1, u.2.2.2.2.1, (upd u.2.2.2.2.2.1 x1.toNatClampNeg x2), (upd u.2.2.2.2.2.2.1 x1.toNatClampNeg x3), u.2.2.2.2.2.2.2.1, u.2.2.2.2.2.2.2.2.1, u.2.2.2.2.2.2.2.2.2.1, u.2.2.2.2.2.2.2.2.2.2.1, u.2.2.2.2.2.2.2.2.2.2.2.1, u.2.2.2.2.2.2.2.2.2.2.2.2.1, u.2.2.2.2.2.2.2.2.2.2.2.2.2.1, u.2.2.2.2.2.2.2.2.2.2.2.2.2.2.1, u.2.2.2.2.2.2.2.2.2.2.2.2.2.2.2.1, u.2.2.2.2.2.2.2.2.2.2.2.2.2.2.2.2.1, u.2.2.2.2.2.2.2.2.2.2.2.2.2.2.2.2.2)) := hD
    cases hF
    refine W.widen (k := 0) (n := 0) (Nat.le_of_ble_eq_true rfl) (Nat.le_of_ble_eq_true rfl) ?_
    exact W.vret hx hb hr (fun t ht hW => ⟨⟨_, rfl, rfl, by rw [ht]; exact hP, va_K.moved hW.alike hK, hD⟩, hS.F ht⟩) hS.2.2 dX2_place_62
  · replace hF := (if_neg c_9).symm.trans hF
    cases hF
    refine W.widen (k := 0) (n := 0) (Nat.le_of_ble_eq_true rfl) (Nat.le_of_ble_eq_true rfl) ?_
    exact W.vret hx hb hr (fun t ht hW => ⟨⟨_, rfl, rfl, by rw [ht]; exact hP, va_K.moved hW.alike hK, hD⟩, hS.F ht⟩) hS.2.2 dX2_place_47
set_option maxHeartbeats 4000000 in
set_option maxRecDepth 100000 in
theorem w_M_place_J32 {p : Program} {l : Launch} {e : Env} {s : State} {m : MethodId} {args : Array Value} {below : List Frame} {meth : Method} {c : Code} {A : Nat → Prop} {D : va_G} {cI cR : ClassId} {ma : Nat → Nat} (hx : p.tables.exec = Jvm.exec) (hb : c.code = cX2_place) (hr : meth.sig.returnType = none) (hml : c.maxLocals = 4) (hown : s.vm.findClass RX2 = some m.cls) (hts : ∀ w ∈ wsX2_place, w.before args s = true) (hlocks : meth.locks = false) (hA : ∀ q : Nat, s.heap.size ≤ q → A q) (hK : va_K D vwCl (TY cI cR) s) : ∀ (x1 x2 x3 : Int32) (u : MSt) (r : Unit) (u' : MSt), F_M_place_J32 x1 x2 x3 u = some (r, u') → ∀ (H : Heap) (locs : List Loc) (ls : Array Slot), va_P D vwCl (MW cI ma u) H → va_D A (MW cI ma u) → va_S A s.heap H locs → lv_has ls 4 [(0, .ref (ma 0)), (1, .int x1), (2, .int x2), (3, .int x3)] → W p l e (headSpec wsX2_place ({ frames := 1, cells := 0, slots := 0, locals := 21 })).room s m args below meth c H locs 0 0 (MQ below (QV D (TY cI cR) A (fun v => MW cI ma v) u') args s 0 0 A) (F0 m 32 ls [.ref (ma 0)]) := by
  have hk_54 := (hts _ (cwc _ mw_335))
  have hk_13 := (hts _ (cwc _ mw_340))
  have hk_17 := (hts _ (cwc _ mw_341))
  intro x1 x2 x3 u r u' hF H locs ls hP hD hS hl
  unfold F_M_place_J32 at hF
  refine lv_iconst (v := (2 : Int32)) hx hb dX2_place_32 (by decide +kernel) ?_
  refine lv_goto (tgt := 37) hx hb dX2_place_33 (by decide) ?_
  exact w_M_place_J37 hx hb hr hml hown hts hlocks hA hK x1 x2 x3 (2 : Int32) u _ _ hF H locs ls hP hD hS (lv_sub hl [0, 1, 2, 3] rfl)
set_option maxHeartbeats 4000000 in
set_option maxRecDepth 100000 in
theorem c_M_place (l : Launch) (D : va_G) (cI cR : ClassId) (ma : Nat → Nat) (sz : Nat) (p1 : Int32) (p2 : Int32) (p3 : Int32) (u : MSt) (r : Unit) (u' : MSt) (hF : F_M_place p1 p2 p3 u = some (r, u')) : Met l yX2_place wsX2_place ({ frames := 1, cells := 0, slots := 0, locals := 21 }) (va_Pc [.ref (ma 0), .int p1, .int p2, .int p3] (PRE D (TY cI cR) (MW cI ma u) sz)) (QV D (TY cI cR) (va_A (MW cI ma u) sz) (fun v => MW cI ma v) u') 0 0 (va_A (MW cI ma u) sz) := by
  refine Met.ofW (cc := cX2_place) (maxL := 4) (ret := none) (by decide) rfl ?_
  intro p e s m args below meth c s₁ B hml hv
  obtain ⟨rfl, hsz, hP, hK, hD0⟩ := hv
  have hx := B.exec
  have hb := B.bytes
  have hr := B.returns
  have hts := atoms_spec (ws := wsX2_place) B.pre
  have hown : s.vm.findClass RX2 = some m.cls := findClass_of_methodNamed B.named
  have hlocks := B.notSynchronized
  subst hsz
  have hD := hD0.self (sz := s.heap.size)
  generalize hAe : va_A (MW cI ma u) s.heap.size = A at hD ⊢
  have hA : ∀ q : Nat, s.heap.size ≤ q → A q := fun q h => by rw [← hAe]; exact Or.inr h
  have hS : va_S A s.heap s.heap [] := va_S.rf
  replace hP : va_P D vwCl (MW cI ma u) s.heap := hP
  have hl := lv_entry ([.ref (ma 0), .int p1, .int p2, .int p3]) (n := 4) (Nat.le_of_ble_eq_true rfl)
  rw [lg_entry_eq]
  generalize (lg_sl ([.ref (ma 0), .int p1, .int p2, .int p3]) ++ List.replicate (4 - (lg_sl ([.ref (ma 0), .int p1, .int p2, .int p3])).length) Slot.unset).toArray = ls at hl ⊢
  replace hl : lv_has ls 4 [(0, .ref (ma 0)), (1, .int p1), (2, .int p2), (3, .int p3)] := hl
  have hk_54 := (hts _ (cwc _ mw_335))
  have hk_13 := (hts _ (cwc _ mw_340))
  have hk_17 := (hts _ (cwc _ mw_341))
  unfold F_M_place at hF
  refine (?_ : ∀ (H : Heap) (locs : List Loc), va_P D vwCl (MW cI ma u) H → va_S A s.heap H locs → W p l e _ s m _ below meth c H locs 0 0 _ (F0 m 0 ls [])) s.heap [] hP hS
  intro H locs hP hS
  refine lv_aload_n hx hb dX2_place_0 rfl (lv_at hl 0 rfl) ?_
  refine lv_iload_n hx hb dX2_place_1 rfl (lv_at hl 1 rfl) ?_
  refine lv_bipush (v := (8 : Int32)) hx hb dX2_place_2 (by decide +kernel) ?_
  obtain ⟨r2, u1, hc_3, hF⟩ := bi_some hF
  refine kc_i (W1 := MW cI ma u) (va_runS (As := [.int p1, .int (8 : Int32)]) (rest := [.ref (ma 0)]) ⟨hx, hb, hml, hown, hts⟩ (c_M_in l D cI cR  H.size p1 (8 : Int32) () r2 u1 hc_3) (va_cwS 2 hts (gS cwc mw_380 mw_381 mw_3 mw_382) rfl rfl rfl (by decide +kernel) ⟨(Nat.le_of_ble_eq_true rfl), (Nat.le_of_ble_eq_true rfl)⟩) (kp_S hK hP hD (sb_nil _)) rfl rfl hl.1 rfl (lv_room (Nat.le_of_ble_eq_true rfl)) dX2_place_4 ⟨(Nat.le_of_ble_eq_true rfl), (Nat.le_of_ble_eq_true rfl)⟩) hP hD hS hA (sb_nil _) (jn_nil _) (fun H locs hP hD hS => ?_)
  refine lv_if_ne (tgt := 14) hx hb dX2_place_7 (by decide) (fun c_4 => ?_) (fun c_4 => ?_)
  · replace hF := (if_neg c_4).symm.trans hF
    refine lv_iload_n hx hb dX2_place_14 rfl (lv_at hl 2 rfl) ?_
    refine lv_bipush (v := (100 : Int32)) hx hb dX2_place_15 (by decide +kernel) ?_
    obtain ⟨r6, u5, hc_7, hF⟩ := bi_some hF
    refine kc_i (W1 := MW cI ma u) (va_runS (As := [.int p2, .int (100 : Int32)]) (rest := [.ref (ma 0)]) ⟨hx, hb, hml, hown, hts⟩ (c_M_in l D cI cR  H.size p2 (100 : Int32) () r6 u5 hc_7) (va_cwS 2 hts (gS cwc mw_380 mw_381 mw_3 mw_382) rfl rfl rfl (by decide +kernel) ⟨(Nat.le_of_ble_eq_true rfl), (Nat.le_of_ble_eq_true rfl)⟩) (kp_S hK hP hD (sb_nil _)) rfl rfl hl.1 rfl (lv_room (Nat.le_of_ble_eq_true rfl)) dX2_place_17 ⟨(Nat.le_of_ble_eq_true rfl), (Nat.le_of_ble_eq_true rfl)⟩) hP hD hS hA (sb_nil _) (jn_nil _) (fun H locs hP hD hS => ?_)
    refine lv_if_eq (tgt := 32) hx hb dX2_place_20 (by decide) (fun c_8 => ?_) (fun c_8 => ?_)
    · replace hF := (if_pos c_8).symm.trans hF
      exact w_M_place_J32 hx hb hr hml hown hts hlocks hA hK p1 p2 p3 u _ _ hF H locs ls hP hD hS (lv_sub hl [0, 1, 2, 3] rfl)
    · replace hF := (if_neg c_8).symm.trans hF
      refine lv_iload_n hx hb dX2_place_23 rfl (lv_at hl 3 rfl) ?_
      refine lv_bipush (v := (100 : Int32)) hx hb dX2_place_24 (by decide +kernel) ?_
      obtain ⟨r13, u12, hc_14, hF⟩ := bi_some hF
      refine kc_i (W1 := MW cI ma u) (va_runS (As := [.int p3, .int (100 : Int32)]) (rest := [.ref (ma 0)]) ⟨hx, hb, hml, hown, hts⟩ (c_M_in l D cI cR  H.size p3 (100 : Int32) () r13 u12 hc_14) (va_cwS 2 hts (gS cwc mw_380 mw_381 mw_3 mw_382) rfl rfl rfl (by decide +kernel) ⟨(Nat.le_of_ble_eq_true rfl), (Nat.le_of_ble_eq_true rfl)⟩) (kp_S hK hP hD (sb_nil _)) rfl rfl hl.1 rfl (lv_room (Nat.le_of_ble_eq_true rfl)) dX2_place_26 ⟨(Nat.le_of_ble_eq_true rfl), (Nat.le_of_ble_eq_true rfl)⟩) hP hD hS hA (sb_nil _) (jn_nil _) (fun H locs hP hD hS => ?_)
      refine lv_if_ne (tgt := 36) hx hb dX2_place_29 (by decide) (fun c_15 => ?_) (fun c_15 => ?_)
      · replace hF := (if_neg c_15).symm.trans hF
        refine lv_iconst (v := (0 : Int32)) hx hb dX2_place_36 (by decide +kernel) ?_
        exact w_M_place_J37 hx hb hr hml hown hts hlocks hA hK p1 p2 p3 (0 : Int32) u _ _ hF H locs ls hP hD hS (lv_sub hl [0, 1, 2, 3] rfl)
      · replace hF := (if_pos c_15).symm.trans hF
        exact w_M_place_J32 hx hb hr hml hown hts hlocks hA hK p1 p2 p3 u _ _ hF H locs ls hP hD hS (lv_sub hl [0, 1, 2, 3] rfl)
  · replace hF := (if_pos c_4).symm.trans hF
    refine lv_iconst (v := (1 : Int32)) hx hb dX2_place_10 (by decide +kernel) ?_
    refine lv_goto (tgt := 37) hx hb dX2_place_11 (by decide) ?_
    exact w_M_place_J37 hx hb hr hml hown hts hlocks hA hK p1 p2 p3 (1 : Int32) u _ _ hF H locs ls hP hD hS (lv_sub hl [0, 1, 2, 3] rfl)
def F_M_rate_J36 (x1 x2 x3 s0 : Int32) (u : MSt) : Option ((Unit) × MSt) := (if s0 = (0 : Int32) then gd (inb (((4 : Int32) * x1) + x2) 32) (some ((), (s0, u.2.1, u.2.2.1, u.2.2.2.1, u.2.2.2.2.1, u.2.2.2.2.2.1, u.2.2.2.2.2.2.1, u.2.2.2.2.2.2.2.1, (upd u.2.2.2.2.2.2.2.2.1 (((4 : Int32) * x1) + x2).toNatClampNeg x3), u.2.2.2.2.2.2.2.2.2.1, u.2.2.2.2.2.2.2.2.2.2.1, u.2.2.2.2.2.2.2.2.2.2.2.1, u.2.2.2.2.2.2.2.2.2.2.2.2.1, u.2.2.2.2.2.2.2.2.2.2.2.2.2.1, u.2.2.2.2.2.2.2.2.2.2.2.2.2.2.1, u.2.2.2.2.2.2.2.2.2.2.2.2.2.2.2.1, u.2.2.2.2.2.2.2.2.2.2.2.2.2.2.2.2.1, u.2.2.2.2.2.2.2.2.2.2.2.2.2.2.2.2.2))) else some ((), (s0, u.2.1, u.2.2.1, u.2.2.2.1, u.2.2.2.2.1, u.2.2.2.2.2.1, u.2.2.2.2.2.2.1, u.2.2.2.2.2.2.2.1, u.2.2.2.2.2.2.2.2.1, u.2.2.2.2.2.2.2.2.2.1, u.2.2.2.2.2.2.2.2.2.2.1, u.2.2.2.2.2.2.2.2.2.2.2.1, u.2.2.2.2.2.2.2.2.2.2.2.2.1, u.2.2.2.2.2.2.2.2.2.2.2.2.2.1, u.2.2.2.2.2.2.2.2.2.2.2.2.2.2.1, u.2.2.2.2.2.2.2.2.2.2.2.2.2.2.2.1, u.2.2.2.2.2.2.2.2.2.2.2.2.2.2.2.2.1, u.2.2.2.2.2.2.2.2.2.2.2.2.2.2.2.2.2)))
def F_M_rate_J18 (x1 x2 x3 : Int32) (u : MSt) : Option ((Unit) × MSt) := F_M_rate_J36 x1 x2 x3 (1 : Int32) u
def F_M_rate (p1 : Int32) (p2 : Int32) (p3 : Int32) (u : MSt) : Option ((Unit) × MSt) := bi (F_M_in p1 (8 : Int32) ()) (fun r2 u1 => (if r2 = (0 : Int32) then F_M_rate_J18 p1 p2 p3 u else bi (F_M_in p2 (4 : Int32) ()) (fun r8 u7 => (if r8 = (0 : Int32) then F_M_rate_J18 p1 p2 p3 u else bi (F_M_in p3 (32 : Int32) ()) (fun r12 u11 => (if r12 = (0 : Int32) then F_M_rate_J36 p1 p2 p3 (2 : Int32) u else F_M_rate_J36 p1 p2 p3 (0 : Int32) u))))))
set_option maxHeartbeats 4000000 in
set_option maxRecDepth 100000 in
theorem w_M_rate_J36 {p : Program} {l : Launch} {e : Env} {s : State} {m : MethodId} {args : Array Value} {below : List Frame} {meth : Method} {c : Code} {A : Nat → Prop} {D : va_G} {cI cR : ClassId} {ma : Nat → Nat} (hx : p.tables.exec = Jvm.exec) (hb : c.code = cX2_rate) (hr : meth.sig.returnType = none) (hml : c.maxLocals = 4) (hown : s.vm.findClass RX2 = some m.cls) (hts : ∀ w ∈ wsX2_rate, w.before args s = true) (hlocks : meth.locks = false) (hA : ∀ q : Nat, s.heap.size ≤ q → A q) (hK : va_K D vwCl (TY cI cR) s) : ∀ (x1 x2 x3 s0 : Int32) (u : MSt) (r : Unit) (u' : MSt), F_M_rate_J36 x1 x2 x3 s0 u = some (r, u') → ∀ (H : Heap) (locs : List Loc) (ls : Array Slot), va_P D vwCl (MW cI ma u) H → va_D A (MW cI ma u) → va_S A s.heap H locs → lv_has ls 4 [(0, .ref (ma 0)), (1, .int x1), (2, .int x2), (3, .int x3)] → W p l e (headSpec wsX2_rate ({ frames := 1, cells := 0, slots := 0, locals := 21 })).room s m args below meth c H locs 0 0 (MQ below (QV D (TY cI cR) A (fun v => MW cI ma v) u') args s 0 0 A) (F0 m 36 ls [.int s0, .ref (ma 0)]) := by
  have hk_54 := (hts _ (cwc _ mw_335))
  have hk_23 := (hts _ (cwc _ mw_343))
  intro x1 x2 x3 s0 u r u' hF H locs ls hP hD hS hl
  unfold F_M_rate_J36 at hF
  refine va_put (D := D) (ci := 2) (v := .int s0) (ty := .int) (C := RX2) (T := TX2) (N := 18) hx hb hts (fun w h => cwc w (in_X2 w h)) tyX2 tyX2_ok nmX2 hown hK hP hD hS 0 rfl rfl 0 (by decide) hk_54 (fun _ h9 => h9) rfl (by decide +kernel) rfl rfl (Nat.le_of_ble_eq_true rfl) dX2_rate_36 (fun H locs hP hD hS => ?_)
  replace hP : va_P D vwCl (MW cI ma (s0, u.2.1, u.2.2.1, u.2.2.2.1, u.2.2.2.2.1, u.2.2.2.2.2.1, u.2.2.2.2.2.2.1, u.2.2.2.2.2.2.2.1, u.2.2.2.2.2.2.2.2.1, u.2.2.2.2.2.2.2.2.2.1, u.2.2.2.2.2.2.2.2.2.2.1, u.2.2.2.2.2.2.2.2.2.2.2.1, u.2.2.2.2.2.2.2.2.2.2.2.2.1, u.2.2.2.2.2.2.2.2.2.2.2.2.2.1, u.2.2.2.2.2.2.2.2.2.2.2.2.2.2.1, u.2.2.2.2.2.2.2.2.2.2.2.2.2.2.2.1, u.2.2.2.2.2.2.2.2.2.2.2.2.2.2.2.2.1, u.2.2.2.2.2.2.2.2.2.2.2.2.2.2.2.2.2)) H := hP
  replace hD : va_D A (MW cI ma (s0, u.2.1, u.2.2.1, u.2.2.2.1, u.2.2.2.2.1, u.2.2.2.2.2.1, u.2.2.2.2.2.2.1, u.2.2.2.2.2.2.2.1, u.2.2.2.2.2.2.2.2.1, u.2.2.2.2.2.2.2.2.2.1, u.2.2.2.2.2.2.2.2.2.2.1, u.2.2.2.2.2.2.2.2.2.2.2.1, u.2.2.2.2.2.2.2.2.2.2.2.2.1, u.2.2.2.2.2.2.2.2.2.2.2.2.2.1, u.2.2.2.2.2.2.2.2.2.2.2.2.2.2.1, u.2.2.2.2.2.2.2.2.2.2.2.2.2.2.2.1, u.2.2.2.2.2.2.2.2.2.2.2.2.2.2.2.2.1, u.2.2.2.2.2.2.2.2.2.2.2.2.2.2.2.2.2)) := hD
  refine lv_aload_n hx hb dX2_rate_39 rfl (lv_at hl 0 rfl) ?_
  refine va_get (D := D) (ci := 2) (v := .int s0) (C := RX2) (T := TX2) (N := 18) hx hb hts (fun w h => cwc w (in_X2 w h)) hown hK hP 0 rfl rfl 0 (by decide) hk_54 (fun _ h9 => h9) rfl dX2_rate_40 ?_
  refine lv_if_ne (tgt := 57) hx hb dX2_rate_43 (by decide) (fun c_5 => ?_) (fun c_5 => ?_)
  · replace hF := (if_neg c_5).symm.trans hF
    cases hF
    refine W.widen (k := 0) (n := 0) (Nat.le_of_ble_eq_true rfl) (Nat.le_of_ble_eq_true rfl) ?_
    exact W.vret hx hb hr (fun t ht hW => ⟨⟨_, rfl, rfl, by rw [ht]; exact hP, va_K.moved hW.alike hK, hD⟩, hS.F ht⟩) hS.2.2 dX2_rate_57
  · replace hF := (if_pos c_5).symm.trans hF
    refine lv_aload_n hx hb dX2_rate_46 rfl (lv_at hl 0 rfl) ?_
    refine va_get (D := D) (ci := 2) (v := .ref (ma 4)) (C := RX2) (T := TX2) (N := 18) hx hb hts (fun w h => cwc w (in_X2 w h)) hown hK hP 0 rfl rfl 8 (by decide) hk_23 (fun _ h9 => h9) rfl dX2_rate_47 ?_
    refine lv_iconst (v := (4 : Int32)) hx hb dX2_rate_50 (by decide +kernel) ?_
    refine lv_iload_n hx hb dX2_rate_51 rfl (lv_at hl 1 rfl) ?_
    refine lv_imul hx hb dX2_rate_52 ?_
    refine lv_iload_n hx hb dX2_rate_53 rfl (lv_at hl 2 rfl) ?_
    refine lv_iadd hx hb dX2_rate_54 ?_
    refine lv_iload_n hx hb dX2_rate_55 rfl (lv_at hl 3 rfl) ?_
    obtain ⟨h_6, hF⟩ := gd_some hF
    refine va_iast (f := u.2.2.2.2.2.2.2.2.1) hx hb hK hP hD hS 4 0 rfl rfl (inb_in h_6) dX2_rate_56 (fun H locs hP hD hS => ?_)
    replace hP : va_P D vwCl (MW cI ma (s0, u.2.1, u.2.2.1, u.2.2.2.1, u.2.2.2.2.1, u.2.2.2.2.2.1, u.2.2.2.2.2.2.1, u.2.2.2.2.2.2.2.1, (upd u.2.2.2.2.2.2.2.2.1 (((4 : Int32) * x1) + x2).toNatClampNeg x3), u.2.2.2.2.2.2.2.2.2.1, u.2.2.2.2.2.2.2.2.2.2.1, u.2.2.2.2.2.2.2.2.2.2.2.1, u.2.2.2.2.2.2.2.2.2.2.2.2.1, u.2.2.2.2.2.2.2.2.2.2.2.2.2.1, u.2.2.2.2.2.2.2.2.2.2.2.2.2.2.1, u.2.2.2.2.2.2.2.2.2.2.2.2.2.2.2.1, u.2.2.2.2.2.2.2.2.2.2.2.2.2.2.2.2.1, u.2.2.2.2.2.2.2.2.2.2.2.2.2.2.2.2.2)) H := hP
    replace hD : va_D A (MW cI ma (s0, u.2.1, u.2.2.1, u.2.2.2.1, u.2.2.2.2.1, u.2.2.2.2.2.1, u.2.2.2.2.2.2.1, u.2.2.2.2.2.2.2.1, (upd u.2.2.2.2.2.2.2.2.1 (((4 : Int32) * x1) + x2).toNatClampNeg x3), u.2.2.2.2.2.2.2.2.2.1, u.2.2.2.2.2.2.2.2.2.2.1, u.2.2.2.2.2.2.2.2.2.2.2.1, u.2.2.2.2.2.2.2.2.2.2.2.2.1, u.2.2.2.2.2.2.2.2.2.2.2.2.2.1, u.2.2.2.2.2.2.2.2.2.2.2.2.2.2.1, u.2.2.2.2.2.2.2.2.2.2.2.2.2.2.2.1, u.2.2.2.2.2.2.2.2.2.2.2.2.2.2.2.2.1, u.2.2.2.2.2.2.2.2.2.2.2.2.2.2.2.2.2)) := hD
    cases hF
    refine W.widen (k := 0) (n := 0) (Nat.le_of_ble_eq_true rfl) (Nat.le_of_ble_eq_true rfl) ?_
    exact W.vret hx hb hr (fun t ht hW => ⟨⟨_, rfl, rfl, by rw [ht]; exact hP, va_K.moved hW.alike hK, hD⟩, hS.F ht⟩) hS.2.2 dX2_rate_57
set_option maxHeartbeats 4000000 in
set_option maxRecDepth 100000 in
theorem w_M_rate_J18 {p : Program} {l : Launch} {e : Env} {s : State} {m : MethodId} {args : Array Value} {below : List Frame} {meth : Method} {c : Code} {A : Nat → Prop} {D : va_G} {cI cR : ClassId} {ma : Nat → Nat} (hx : p.tables.exec = Jvm.exec) (hb : c.code = cX2_rate) (hr : meth.sig.returnType = none) (hml : c.maxLocals = 4) (hown : s.vm.findClass RX2 = some m.cls) (hts : ∀ w ∈ wsX2_rate, w.before args s = true) (hlocks : meth.locks = false) (hA : ∀ q : Nat, s.heap.size ≤ q → A q) (hK : va_K D vwCl (TY cI cR) s) : ∀ (x1 x2 x3 : Int32) (u : MSt) (r : Unit) (u' : MSt), F_M_rate_J18 x1 x2 x3 u = some (r, u') → ∀ (H : Heap) (locs : List Loc) (ls : Array Slot), va_P D vwCl (MW cI ma u) H → va_D A (MW cI ma u) → va_S A s.heap H locs → lv_has ls 4 [(0, .ref (ma 0)), (1, .int x1), (2, .int x2), (3, .int x3)] → W p l e (headSpec wsX2_rate ({ frames := 1, cells := 0, slots := 0, locals := 21 })).room s m args below meth c H locs 0 0 (MQ below (QV D (TY cI cR) A (fun v => MW cI ma v) u') args s 0 0 A) (F0 m 18 ls [.ref (ma 0)]) := by
  have hk_54 := (hts _ (cwc _ mw_335))
  have hk_23 := (hts _ (cwc _ mw_343))
  intro x1 x2 x3 u r u' hF H locs ls hP hD hS hl
  unfold F_M_rate_J18 at hF
  refine lv_iconst (v := (1 : Int32)) hx hb dX2_rate_18 (by decide +kernel) ?_
  refine lv_goto (tgt := 36) hx hb dX2_rate_19 (by decide) ?_
  exact w_M_rate_J36 hx hb hr hml hown hts hlocks hA hK x1 x2 x3 (1 : Int32) u _ _ hF H locs ls hP hD hS (lv_sub hl [0, 1, 2, 3] rfl)
set_option maxHeartbeats 4000000 in
set_option maxRecDepth 100000 in
theorem c_M_rate (l : Launch) (D : va_G) (cI cR : ClassId) (ma : Nat → Nat) (sz : Nat) (p1 : Int32) (p2 : Int32) (p3 : Int32) (u : MSt) (r : Unit) (u' : MSt) (hF : F_M_rate p1 p2 p3 u = some (r, u')) : Met l yX2_rate wsX2_rate ({ frames := 1, cells := 0, slots := 0, locals := 21 }) (va_Pc [.ref (ma 0), .int p1, .int p2, .int p3] (PRE D (TY cI cR) (MW cI ma u) sz)) (QV D (TY cI cR) (va_A (MW cI ma u) sz) (fun v => MW cI ma v) u') 0 0 (va_A (MW cI ma u) sz) := by
  refine Met.ofW (cc := cX2_rate) (maxL := 4) (ret := none) (by decide) rfl ?_
  intro p e s m args below meth c s₁ B hml hv
  obtain ⟨rfl, hsz, hP, hK, hD0⟩ := hv
  have hx := B.exec
  have hb := B.bytes
  have hr := B.returns
  have hts := atoms_spec (ws := wsX2_rate) B.pre
  have hown : s.vm.findClass RX2 = some m.cls := findClass_of_methodNamed B.named
  have hlocks := B.notSynchronized
  subst hsz
  have hD := hD0.self (sz := s.heap.size)
  generalize hAe : va_A (MW cI ma u) s.heap.size = A at hD ⊢
  have hA : ∀ q : Nat, s.heap.size ≤ q → A q := fun q h => by rw [← hAe]; exact Or.inr h
  have hS : va_S A s.heap s.heap [] := va_S.rf
  replace hP : va_P D vwCl (MW cI ma u) s.heap := hP
  have hl := lv_entry ([.ref (ma 0), .int p1, .int p2, .int p3]) (n := 4) (Nat.le_of_ble_eq_true rfl)
  rw [lg_entry_eq]
  generalize (lg_sl ([.ref (ma 0), .int p1, .int p2, .int p3]) ++ List.replicate (4 - (lg_sl ([.ref (ma 0), .int p1, .int p2, .int p3])).length) Slot.unset).toArray = ls at hl ⊢
  replace hl : lv_has ls 4 [(0, .ref (ma 0)), (1, .int p1), (2, .int p2), (3, .int p3)] := hl
  have hk_54 := (hts _ (cwc _ mw_335))
  have hk_23 := (hts _ (cwc _ mw_343))
  unfold F_M_rate at hF
  refine (?_ : ∀ (H : Heap) (locs : List Loc), va_P D vwCl (MW cI ma u) H → va_S A s.heap H locs → W p l e _ s m _ below meth c H locs 0 0 _ (F0 m 0 ls [])) s.heap [] hP hS
  intro H locs hP hS
  refine lv_aload_n hx hb dX2_rate_0 rfl (lv_at hl 0 rfl) ?_
  refine lv_iload_n hx hb dX2_rate_1 rfl (lv_at hl 1 rfl) ?_
  refine lv_bipush (v := (8 : Int32)) hx hb dX2_rate_2 (by decide +kernel) ?_
  obtain ⟨r2, u1, hc_3, hF⟩ := bi_some hF
  refine kc_i (W1 := MW cI ma u) (va_runS (As := [.int p1, .int (8 : Int32)]) (rest := [.ref (ma 0)]) ⟨hx, hb, hml, hown, hts⟩ (c_M_in l D cI cR  H.size p1 (8 : Int32) () r2 u1 hc_3) (va_cwS 2 hts (gS cwc mw_380 mw_381 mw_3 mw_382) rfl rfl rfl (by decide +kernel) ⟨(Nat.le_of_ble_eq_true rfl), (Nat.le_of_ble_eq_true rfl)⟩) (kp_S hK hP hD (sb_nil _)) rfl rfl hl.1 rfl (lv_room (Nat.le_of_ble_eq_true rfl)) dX2_rate_4 ⟨(Nat.le_of_ble_eq_true rfl), (Nat.le_of_ble_eq_true rfl)⟩) hP hD hS hA (sb_nil _) (jn_nil _) (fun H locs hP hD hS => ?_)
  refine lv_if_eq (tgt := 18) hx hb dX2_rate_7 (by decide) (fun c_4 => ?_) (fun c_4 => ?_)
  · replace hF := (if_pos c_4).symm.trans hF
    exact w_M_rate_J18 hx hb hr hml hown hts hlocks hA hK p1 p2 p3 u _ _ hF H locs ls hP hD hS (lv_sub hl [0, 1, 2, 3] rfl)
  · replace hF := (if_neg c_4).symm.trans hF
    refine lv_iload_n hx hb dX2_rate_10 rfl (lv_at hl 2 rfl) ?_
    refine lv_iconst (v := (4 : Int32)) hx hb dX2_rate_11 (by decide +kernel) ?_
    obtain ⟨r8, u7, hc_9, hF⟩ := bi_some hF
    refine kc_i (W1 := MW cI ma u) (va_runS (As := [.int p2, .int (4 : Int32)]) (rest := [.ref (ma 0)]) ⟨hx, hb, hml, hown, hts⟩ (c_M_in l D cI cR  H.size p2 (4 : Int32) () r8 u7 hc_9) (va_cwS 2 hts (gS cwc mw_380 mw_381 mw_3 mw_382) rfl rfl rfl (by decide +kernel) ⟨(Nat.le_of_ble_eq_true rfl), (Nat.le_of_ble_eq_true rfl)⟩) (kp_S hK hP hD (sb_nil _)) rfl rfl hl.1 rfl (lv_room (Nat.le_of_ble_eq_true rfl)) dX2_rate_12 ⟨(Nat.le_of_ble_eq_true rfl), (Nat.le_of_ble_eq_true rfl)⟩) hP hD hS hA (sb_nil _) (jn_nil _) (fun H locs hP hD hS => ?_)
    refine lv_if_ne (tgt := 22) hx hb dX2_rate_15 (by decide) (fun c_10 => ?_) (fun c_10 => ?_)
    · replace hF := (if_neg c_10).symm.trans hF
      refine lv_iload_n hx hb dX2_rate_22 rfl (lv_at hl 3 rfl) ?_
      refine lv_bipush (v := (32 : Int32)) hx hb dX2_rate_23 (by decide +kernel) ?_
      obtain ⟨r12, u11, hc_13, hF⟩ := bi_some hF
      refine kc_i (W1 := MW cI ma u) (va_runS (As := [.int p3, .int (32 : Int32)]) (rest := [.ref (ma 0)]) ⟨hx, hb, hml, hown, hts⟩ (c_M_in l D cI cR  H.size p3 (32 : Int32) () r12 u11 hc_13) (va_cwS 2 hts (gS cwc mw_380 mw_381 mw_3 mw_382) rfl rfl rfl (by decide +kernel) ⟨(Nat.le_of_ble_eq_true rfl), (Nat.le_of_ble_eq_true rfl)⟩) (kp_S hK hP hD (sb_nil _)) rfl rfl hl.1 rfl (lv_room (Nat.le_of_ble_eq_true rfl)) dX2_rate_25 ⟨(Nat.le_of_ble_eq_true rfl), (Nat.le_of_ble_eq_true rfl)⟩) hP hD hS hA (sb_nil _) (jn_nil _) (fun H locs hP hD hS => ?_)
      refine lv_if_ne (tgt := 35) hx hb dX2_rate_28 (by decide) (fun c_14 => ?_) (fun c_14 => ?_)
      · replace hF := (if_neg c_14).symm.trans hF
        refine lv_iconst (v := (0 : Int32)) hx hb dX2_rate_35 (by decide +kernel) ?_
        exact w_M_rate_J36 hx hb hr hml hown hts hlocks hA hK p1 p2 p3 (0 : Int32) u _ _ hF H locs ls hP hD hS (lv_sub hl [0, 1, 2, 3] rfl)
      · replace hF := (if_pos c_14).symm.trans hF
        refine lv_iconst (v := (2 : Int32)) hx hb dX2_rate_31 (by decide +kernel) ?_
        refine lv_goto (tgt := 36) hx hb dX2_rate_32 (by decide) ?_
        exact w_M_rate_J36 hx hb hr hml hown hts hlocks hA hK p1 p2 p3 (2 : Int32) u _ _ hF H locs ls hP hD hS (lv_sub hl [0, 1, 2, 3] rfl)
    · replace hF := (if_pos c_10).symm.trans hF
      exact w_M_rate_J18 hx hb hr hml hown hts hlocks hA hK p1 p2 p3 u _ _ hF H locs ls hP hD hS (lv_sub hl [0, 1, 2, 3] rfl)
