def F_M_dump_J15 (x1 s0 : Int32) (u : MSt) : Option ((Int32) × MSt) := (if s0 ≤ (0 : Int32) then gd (inb ((32 : Int32) + x1) 49) (nm ((u.2.2.2.2.2.2.2.2.2.2.2.2.1 ((32 : Int32) + x1).toNatClampNeg)) (fun v7 => gd (inb x1 16) (gd (inb (u.2.2.2.2.2.2.2.2.2.2.1 x1.toNatClampNeg) 4) (gd (inb (u.2.2.2.2.2.2.2.2.2.2.1 x1.toNatClampNeg) 4) (gd (inb ((32 : Int32) + x1) 49) (some (v7, (s0, u.2.1, u.2.2.1, u.2.2.2.1, u.2.2.2.2.1, u.2.2.2.2.2.1, u.2.2.2.2.2.2.1, u.2.2.2.2.2.2.2.1, u.2.2.2.2.2.2.2.2.1, u.2.2.2.2.2.2.2.2.2.1, u.2.2.2.2.2.2.2.2.2.2.1, u.2.2.2.2.2.2.2.2.2.2.2.1, (upd u.2.2.2.2.2.2.2.2.2.2.2.2.1 ((32 : Int32) + x1).toNatClampNeg (0 : Int32)), u.2.2.2.2.2.2.2.2.2.2.2.2.2.1, u.2.2.2.2.2.2.2.2.2.2.2.2.2.2.1, u.2.2.2.2.2.2.2.2.2.2.2.2.2.2.2.1, u.2.2.2.2.2.2.2.2.2.2.2.2.2.2.2.2.1, (upd u.2.2.2.2.2.2.2.2.2.2.2.2.2.2.2.2.2 (u.2.2.2.2.2.2.2.2.2.2.1 x1.toNatClampNeg).toNatClampNeg ((u.2.2.2.2.2.2.2.2.2.2.2.2.2.2.2.2.2 (u.2.2.2.2.2.2.2.2.2.2.1 x1.toNatClampNeg).toNatClampNeg) + v7)))))))))) else some ((0 : Int32), (s0, u.2.1, u.2.2.1, u.2.2.2.1, u.2.2.2.2.1, u.2.2.2.2.2.1, u.2.2.2.2.2.2.1, u.2.2.2.2.2.2.2.1, u.2.2.2.2.2.2.2.2.1, u.2.2.2.2.2.2.2.2.2.1, u.2.2.2.2.2.2.2.2.2.2.1, u.2.2.2.2.2.2.2.2.2.2.2.1, u.2.2.2.2.2.2.2.2.2.2.2.2.1, u.2.2.2.2.2.2.2.2.2.2.2.2.2.1, u.2.2.2.2.2.2.2.2.2.2.2.2.2.2.1, u.2.2.2.2.2.2.2.2.2.2.2.2.2.2.2.1, u.2.2.2.2.2.2.2.2.2.2.2.2.2.2.2.2.1, u.2.2.2.2.2.2.2.2.2.2.2.2.2.2.2.2.2)))
def F_M_dump (p1 : Int32) (u : MSt) : Option ((Int32) × MSt) := bi (F_M_in p1 (16 : Int32) ()) (fun r2 u1 => (if r2 = (0 : Int32) then F_M_dump_J15 p1 (1 : Int32) u else F_M_dump_J15 p1 (0 : Int32) u))
set_option maxHeartbeats 4000000 in
set_option maxRecDepth 100000 in
theorem w_M_dump_J15 {p : Program} {l : Launch} {e : Env} {s : State} {m : MethodId} {args : Array Value} {below : List Frame} {meth : Method} {c : Code} {A : Nat → Prop} {D : va_G} {cI cR : ClassId} {ma : Nat → Nat} (hx : p.tables.exec = Jvm.exec) (hb : c.code = cX2_dump) (hr : meth.sig.returnType = (some .int)) (hml : c.maxLocals = 3) (hown : s.vm.findClass RX2 = some m.cls) (hts : ∀ w ∈ wsX2_dump, w.before args s = true) (hlocks : meth.locks = false) (hA : ∀ q : Nat, s.heap.size ≤ q → A q) (hK : va_K D vwCl (TY cI cR) s) : ∀ (x1 s0 : Int32) (u : MSt) (r : Int32) (u' : MSt), F_M_dump_J15 x1 s0 u = some (r, u') → ∀ (H : Heap) (locs : List Loc) (ls : Array Slot), va_P D vwCl (MW cI ma u) H → va_D A (MW cI ma u) → va_S A s.heap H locs → lv_has ls 3 [(0, .ref (ma 0)), (1, .int x1)] → W p l e (headSpec wsX2_dump ({ frames := 1, cells := 0, slots := 0, locals := 21 })).room s m args below meth c H locs 0 0 (MQ below (QI D (TY cI cR) A (fun v => MW cI ma v) r u') args s 0 0 A) (F0 m 15 ls [.int s0, .ref (ma 0)]) := by
  have hk_54 := (hts _ (cwc _ mw_335))
  have hk_35 := (hts _ (cwc _ mw_347))
  have hk_51 := (hts _ (cwc _ mw_352))
  have hk_29 := (hts _ (cwc _ mw_345))
  intro x1 s0 u r u' hF H locs ls hP hD hS hl
  unfold F_M_dump_J15 at hF
  refine va_put (D := D) (ci := 2) (v := .int s0) (ty := .int) (C := RX2) (T := TX2) (N := 18) hx hb hts (fun w h => cwc w (in_X2 w h)) tyX2 tyX2_ok nmX2 hown hK hP hD hS 0 rfl rfl 0 (by decide) hk_54 (fun _ h9 => h9) rfl (by decide +kernel) rfl rfl (Nat.le_of_ble_eq_true rfl) dX2_dump_15 (fun H locs hP hD hS => ?_)
  replace hP : va_P D vwCl (MW cI ma (s0, u.2.1, u.2.2.1, u.2.2.2.1, u.2.2.2.2.1, u.2.2.2.2.2.1, u.2.2.2.2.2.2.1, u.2.2.2.2.2.2.2.1, u.2.2.2.2.2.2.2.2.1, u.2.2.2.2.2.2.2.2.2.1, u.2.2.2.2.2.2.2.2.2.2.1, u.2.2.2.2.2.2.2.2.2.2.2.1, u.2.2.2.2.2.2.2.2.2.2.2.2.1, u.2.2.2.2.2.2.2.2.2.2.2.2.2.1, u.2.2.2.2.2.2.2.2.2.2.2.2.2.2.1, u.2.2.2.2.2.2.2.2.2.2.2.2.2.2.2.1, u.2.2.2.2.2.2.2.2.2.2.2.2.2.2.2.2.1, u.2.2.2.2.2.2.2.2.2.2.2.2.2.2.2.2.2)) H := hP
  replace hD : va_D A (MW cI ma (s0, u.2.1, u.2.2.1, u.2.2.2.1, u.2.2.2.2.1, u.2.2.2.2.2.1, u.2.2.2.2.2.2.1, u.2.2.2.2.2.2.2.1, u.2.2.2.2.2.2.2.2.1, u.2.2.2.2.2.2.2.2.2.1, u.2.2.2.2.2.2.2.2.2.2.1, u.2.2.2.2.2.2.2.2.2.2.2.1, u.2.2.2.2.2.2.2.2.2.2.2.2.1, u.2.2.2.2.2.2.2.2.2.2.2.2.2.1, u.2.2.2.2.2.2.2.2.2.2.2.2.2.2.1, u.2.2.2.2.2.2.2.2.2.2.2.2.2.2.2.1, u.2.2.2.2.2.2.2.2.2.2.2.2.2.2.2.2.1, u.2.2.2.2.2.2.2.2.2.2.2.2.2.2.2.2.2)) := hD
  refine lv_aload_n hx hb dX2_dump_18 rfl (lv_at hl 0 rfl) ?_
  refine va_get (D := D) (ci := 2) (v := .int s0) (C := RX2) (T := TX2) (N := 18) hx hb hts (fun w h => cwc w (in_X2 w h)) hown hK hP 0 rfl rfl 0 (by decide) hk_54 (fun _ h9 => h9) rfl dX2_dump_19 ?_
  refine lv_if_le (tgt := 27) hx hb dX2_dump_22 (by decide) (fun c_5 => ?_) (fun c_5 => ?_)
  · replace hF := (if_pos c_5).symm.trans hF
    refine lv_aload_n hx hb dX2_dump_27 rfl (lv_at hl 0 rfl) ?_
    refine va_get (D := D) (ci := 2) (v := .ref (ma 8)) (C := RX2) (T := TX2) (N := 18) hx hb hts (fun w h => cwc w (in_X2 w h)) hown hK hP 0 rfl rfl 12 (by decide) hk_35 (fun _ h9 => h9) rfl dX2_dump_28 ?_
    refine lv_bipush (v := (32 : Int32)) hx hb dX2_dump_31 (by decide +kernel) ?_
    refine lv_iload_n hx hb dX2_dump_33 rfl (lv_at hl 1 rfl) ?_
    refine lv_iadd hx hb dX2_dump_34 ?_
    obtain ⟨h_6, hF⟩ := gd_some hF
    refine va_iald (f := u.2.2.2.2.2.2.2.2.2.2.2.2.1) hx hb hK hP 8 0 rfl rfl (inb_in h_6) dX2_dump_35 ?_
    obtain ⟨v7, ev7, hF⟩ := nm_some hF
    refine W.eq (g2 := F0 m 36 ls (.int v7 :: [])) (congrArg (fun z => F0 m 36 ls (.int z :: [])) ev7.symm) ?_
    refine lv_istore_n (lv' := [(2, .int v7), (0, .ref (ma 0)), (1, .int x1)]) hx hb dX2_dump_36 rfl hl (by decide) rfl (fun ls hl => ?_)
    refine lv_aload_n hx hb dX2_dump_37 rfl (lv_at hl 1 rfl) ?_
    refine va_get (D := D) (ci := 2) (v := .ref (ma 13)) (C := RX2) (T := TX2) (N := 18) hx hb hts (fun w h => cwc w (in_X2 w h)) hown hK hP 0 rfl rfl 17 (by decide) hk_51 (fun _ h9 => h9) rfl dX2_dump_38 ?_
    refine lv_aload_n hx hb dX2_dump_41 rfl (lv_at hl 1 rfl) ?_
    refine va_get (D := D) (ci := 2) (v := .ref (ma 6)) (C := RX2) (T := TX2) (N := 18) hx hb hts (fun w h => cwc w (in_X2 w h)) hown hK hP 0 rfl rfl 10 (by decide) hk_29 (fun _ h9 => h9) rfl dX2_dump_42 ?_
    refine lv_iload_n hx hb dX2_dump_45 rfl (lv_at hl 2 rfl) ?_
    obtain ⟨h_8, hF⟩ := gd_some hF
    refine va_iald (f := u.2.2.2.2.2.2.2.2.2.2.1) hx hb hK hP 6 0 rfl rfl (inb_in h_8) dX2_dump_46 ?_
    refine lv_dup2_11 hx hb dX2_dump_47 rfl rfl ?_
    obtain ⟨h_9, hF⟩ := gd_some hF
    refine va_iald (f := u.2.2.2.2.2.2.2.2.2.2.2.2.2.2.2.2.2) hx hb hK hP 13 0 rfl rfl (inb_in h_9) dX2_dump_48 ?_
    refine lv_iload_n hx hb dX2_dump_49 rfl (lv_at hl 0 rfl) ?_
    refine lv_iadd hx hb dX2_dump_50 ?_
    obtain ⟨h_10, hF⟩ := gd_some hF
    refine va_iast (f := u.2.2.2.2.2.2.2.2.2.2.2.2.2.2.2.2.2) hx hb hK hP hD hS 13 0 rfl rfl (inb_in h_10) dX2_dump_51 (fun H locs hP hD hS => ?_)
    rw [MW_s13] at hP hD
    replace hP : va_P D vwCl (MW cI ma (s0, u.2.1, u.2.2.1, u.2.2.2.1, u.2.2.2.2.1, u.2.2.2.2.2.1, u.2.2.2.2.2.2.1, u.2.2.2.2.2.2.2.1, u.2.2.2.2.2.2.2.2.1, u.2.2.2.2.2.2.2.2.2.1, u.2.2.2.2.2.2.2.2.2.2.1, u.2.2.2.2.2.2.2.2.2.2.2.1, u.2.2.2.2.2.2.2.2.2.2.2.2.1, u.2.2.2.2.2.2.2.2.2.2.2.2.2.1, u.2.2.2.2.2.2.2.2.2.2.2.2.2.2.1, u.2.2.2.2.2.2.2.2.2.2.2.2.2.2.2.1, u.2.2.2.2.2.2.2.2.2.2.2.2.2.2.2.2.1, (upd u.2.2.2.2.2.2.2.2.2.2.2.2.2.2.2.2.2 (u.2.2.2.2.2.2.2.2.2.2.1 x1.toNatClampNeg).toNatClampNeg ((u.2.2.2.2.2.2.2.2.2.2.2.2.2.2.2.2.2 (u.2.2.2.2.2.2.2.2.2.2.1 x1.toNatClampNeg).toNatClampNeg) + v7)))) H := hP
    replace hD : va_D A (MW cI ma (s0, u.2.1, u.2.2.1, u.2.2.2.1, u.2.2.2.2.1, u.2.2.2.2.2.1, u.2.2.2.2.2.2.1, u.2.2.2.2.2.2.2.1, u.2.2.2.2.2.2.2.2.1, u.2.2.2.2.2.2.2.2.2.1, u.2.2.2.2.2.2.2.2.2.2.1, u.2.2.2.2.2.2.2.2.2.2.2.1, u.2.2.2.2.2.2.2.2.2.2.2.2.1, u.2.2.2.2.2.2.2.2.2.2.2.2.2.1, u.2.2.2.2.2.2.2.2.2.2.2.2.2.2.1, u.2.2.2.2.2.2.2.2.2.2.2.2.2.2.2.1, u.2.2.2.2.2.2.2.2.2.2.2.2.2.2.2.2.1, (upd u.2.2.2.2.2.2.2.2.2.2.2.2.2.2.2.2.2 (u.2.2.2.2.2.2.2.2.2.2.1 x1.toNatClampNeg).toNatClampNeg ((u.2.2.2.2.2.2.2.2.2.2.2.2.2.2.2.2.2 (u.2.2.2.2.2.2.2.2.2.2.1 x1.toNatClampNeg).toNatClampNeg) + v7)))) := hD
    refine lv_aload_n hx hb dX2_dump_52 rfl (lv_at hl 1 rfl) ?_
    refine va_get (D := D) (ci := 2) (v := .ref (ma 8)) (C := RX2) (T := TX2) (N := 18) hx hb hts (fun w h => cwc w (in_X2 w h)) hown hK hP 0 rfl rfl 12 (by decide) hk_35 (fun _ h9 => h9) rfl dX2_dump_53 ?_
    refine lv_bipush (v := (32 : Int32)) hx hb dX2_dump_56 (by decide +kernel) ?_
    refine lv_iload_n hx hb dX2_dump_58 rfl (lv_at hl 2 rfl) ?_
    refine lv_iadd hx hb dX2_dump_59 ?_
    refine lv_iconst (v := (0 : Int32)) hx hb dX2_dump_60 (by decide +kernel) ?_
    obtain ⟨h_11, hF⟩ := gd_some hF
    refine va_iast (f := u.2.2.2.2.2.2.2.2.2.2.2.2.1) hx hb hK hP hD hS 8 0 rfl rfl (inb_in h_11) dX2_dump_61 (fun H locs hP hD hS => ?_)
    replace hP : va_P D vwCl (MW cI ma (s0, u.2.1, u.2.2.1, u.2.2.2.1, u.2.2.2.2.1, u.2.2.2.2.2.1, u.2.2.2.2.2.2.1, u.2.2.2.2.2.2.2.1, u.2.2.2.2.2.2.2.2.1, u.2.2.2.2.2.2.2.2.2.1, u.2.2.2.2.2.2.2.2.2.2.1, u.2.2.2.2.2.2.2.2.2.2.2.1, (upd u.2.2.2.2.2.2.2.2.2.2.2.2.1 ((32 : Int32) + x1).toNatClampNeg (0 : Int32)), u.2.2.2.2.2.2.2.2.2.2.2.2.2.1, u.2.2.2.2.2.2.2.2.2.2.2.2.2.2.1, u.2.2.2.2.2.2.2.2.2.2.2.2.2.2.2.1, u.2.2.2.2.2.2.2.2.2.2.2.2.2.2.2.2.1, (upd u.2.2.2.2.2.2.2.2.2.2.2.2.2.2.2.2.2 (u.2.2.2.2.2.2.2.2.2.2.1 x1.toNatClampNeg).toNatClampNeg ((u.2.2.2.2.2.2.2.2.2.2.2.2.2.2.2.2.2 (u.2.2.2.2.2.2.2.2.2.2.1 x1.toNatClampNeg).toNatClampNeg) + v7)))) H := hP
    replace hD : va_D A (MW cI ma (s0, u.2.1, u.2.2.1, u.2.2.2.1, u.2.2.2.2.1, u.2.2.2.2.2.1, u.2.2.2.2.2.2.1, u.2.2.2.2.2.2.2.1, u.2.2.2.2.2.2.2.2.1, u.2.2.2.2.2.2.2.2.2.1, u.2.2.2.2.2.2.2.2.2.2.1, u.2.2.2.2.2.2.2.2.2.2.2.1, (upd u.2.2.2.2.2.2.2.2.2.2.2.2.1 ((32 : Int32) + x1).toNatClampNeg (0 : Int32)), u.2.2.2.2.2.2.2.2.2.2.2.2.2.1, u.2.2.2.2.2.2.2.2.2.2.2.2.2.2.1, u.2.2.2.2.2.2.2.2.2.2.2.2.2.2.2.1, u.2.2.2.2.2.2.2.2.2.2.2.2.2.2.2.2.1, (upd u.2.2.2.2.2.2.2.2.2.2.2.2.2.2.2.2.2 (u.2.2.2.2.2.2.2.2.2.2.1 x1.toNatClampNeg).toNatClampNeg ((u.2.2.2.2.2.2.2.2.2.2.2.2.2.2.2.2.2 (u.2.2.2.2.2.2.2.2.2.2.1 x1.toNatClampNeg).toNatClampNeg) + v7)))) := hD
    refine lv_iload_n hx hb dX2_dump_62 rfl (lv_at hl 0 rfl) ?_
    cases hF
    refine W.widen (k := 0) (n := 0) (Nat.le_of_ble_eq_true rfl) (Nat.le_of_ble_eq_true rfl) ?_
    exact W.iret hx hb hr (fun t ht hW => ⟨⟨_, _, rfl, ⟨rfl, rfl⟩, by rw [ht]; exact hP, va_K.moved hW.alike hK, hD⟩, hS.F ht⟩) hS.2.2 dX2_dump_63
  · replace hF := (if_neg c_5).symm.trans hF
    refine lv_iconst (v := (0 : Int32)) hx hb dX2_dump_25 (by decide +kernel) ?_
    cases hF
    refine W.widen (k := 0) (n := 0) (Nat.le_of_ble_eq_true rfl) (Nat.le_of_ble_eq_true rfl) ?_
    exact W.iret hx hb hr (fun t ht hW => ⟨⟨_, _, rfl, ⟨rfl, rfl⟩, by rw [ht]; exact hP, va_K.moved hW.alike hK, hD⟩, hS.F ht⟩) hS.2.2 dX2_dump_26
set_option maxHeartbeats 4000000 in
set_option maxRecDepth 100000 in
theorem c_M_dump (l : Launch) (D : va_G) (cI cR : ClassId) (ma : Nat → Nat) (sz : Nat) (p1 : Int32) (u : MSt) (r : Int32) (u' : MSt) (hF : F_M_dump p1 u = some (r, u')) : Met l yX2_dump wsX2_dump ({ frames := 1, cells := 0, slots := 0, locals := 21 }) (va_Pc [.ref (ma 0), .int p1] (PRE D (TY cI cR) (MW cI ma u) sz)) (QI D (TY cI cR) (va_A (MW cI ma u) sz) (fun v => MW cI ma v) r u') 0 0 (va_A (MW cI ma u) sz) := by
  refine Met.ofW (cc := cX2_dump) (maxL := 3) (ret := (some .int)) (by decide) rfl ?_
  intro p e s m args below meth c s₁ B hml hv
  obtain ⟨rfl, hsz, hP, hK, hD0⟩ := hv
  have hx := B.exec
  have hb := B.bytes
  have hr := B.returns
  have hts := atoms_spec (ws := wsX2_dump) B.pre
  have hown : s.vm.findClass RX2 = some m.cls := findClass_of_methodNamed B.named
  have hlocks := B.notSynchronized
  subst hsz
  have hD := hD0.self (sz := s.heap.size)
  generalize hAe : va_A (MW cI ma u) s.heap.size = A at hD ⊢
  have hA : ∀ q : Nat, s.heap.size ≤ q → A q := fun q h => by rw [← hAe]; exact Or.inr h
  have hS : va_S A s.heap s.heap [] := va_S.rf
  replace hP : va_P D vwCl (MW cI ma u) s.heap := hP
  have hl := lv_entry ([.ref (ma 0), .int p1]) (n := 3) (Nat.le_of_ble_eq_true rfl)
  rw [lg_entry_eq]
  generalize (lg_sl ([.ref (ma 0), .int p1]) ++ List.replicate (3 - (lg_sl ([.ref (ma 0), .int p1])).length) Slot.unset).toArray = ls at hl ⊢
  replace hl : lv_has ls 3 [(0, .ref (ma 0)), (1, .int p1)] := hl
  have hk_54 := (hts _ (cwc _ mw_335))
  have hk_35 := (hts _ (cwc _ mw_347))
  have hk_51 := (hts _ (cwc _ mw_352))
  have hk_29 := (hts _ (cwc _ mw_345))
  unfold F_M_dump at hF
  refine (?_ : ∀ (H : Heap) (locs : List Loc), va_P D vwCl (MW cI ma u) H → va_S A s.heap H locs → W p l e _ s m _ below meth c H locs 0 0 _ (F0 m 0 ls [])) s.heap [] hP hS
  intro H locs hP hS
  refine lv_aload_n hx hb dX2_dump_0 rfl (lv_at hl 0 rfl) ?_
  refine lv_iload_n hx hb dX2_dump_1 rfl (lv_at hl 1 rfl) ?_
  refine lv_bipush (v := (16 : Int32)) hx hb dX2_dump_2 (by decide +kernel) ?_
  obtain ⟨r2, u1, hc_3, hF⟩ := bi_some hF
  refine kc_i (W1 := MW cI ma u) (va_runS (As := [.int p1, .int (16 : Int32)]) (rest := [.ref (ma 0)]) ⟨hx, hb, hml, hown, hts⟩ (c_M_in l D cI cR  H.size p1 (16 : Int32) () r2 u1 hc_3) (va_cwS 2 hts (gS cwc mw_380 mw_381 mw_3 mw_382) rfl rfl rfl (by decide +kernel) ⟨(Nat.le_of_ble_eq_true rfl), (Nat.le_of_ble_eq_true rfl)⟩) (kp_S hK hP hD (sb_nil _)) rfl rfl hl.1 rfl (lv_room (Nat.le_of_ble_eq_true rfl)) dX2_dump_4 ⟨(Nat.le_of_ble_eq_true rfl), (Nat.le_of_ble_eq_true rfl)⟩) hP hD hS hA (sb_nil _) (jn_nil _) (fun H locs hP hD hS => ?_)
  refine lv_if_ne (tgt := 14) hx hb dX2_dump_7 (by decide) (fun c_4 => ?_) (fun c_4 => ?_)
  · replace hF := (if_neg c_4).symm.trans hF
    refine lv_iconst (v := (0 : Int32)) hx hb dX2_dump_14 (by decide +kernel) ?_
    exact w_M_dump_J15 hx hb hr hml hown hts hlocks hA hK p1 (0 : Int32) u _ _ hF H locs ls hP hD hS (lv_sub hl [0, 1] rfl)
  · replace hF := (if_pos c_4).symm.trans hF
    refine lv_iconst (v := (1 : Int32)) hx hb dX2_dump_10 (by decide +kernel) ?_
    refine lv_goto (tgt := 15) hx hb dX2_dump_11 (by decide) ?_
    exact w_M_dump_J15 hx hb hr hml hown hts hlocks hA hK p1 (1 : Int32) u _ _ hF H locs ls hP hD hS (lv_sub hl [0, 1] rfl)
def F_M_spend (p1 : Int32) (u : MSt) : Option ((Int32) × MSt) := (if p1 < (0 : Int32) then some ((0 : Int32), ((0 : Int32), u.2.1, u.2.2.1, u.2.2.2.1, u.2.2.2.2.1, u.2.2.2.2.2.1, u.2.2.2.2.2.2.1, u.2.2.2.2.2.2.2.1, u.2.2.2.2.2.2.2.2.1, u.2.2.2.2.2.2.2.2.2.1, u.2.2.2.2.2.2.2.2.2.2.1, u.2.2.2.2.2.2.2.2.2.2.2.1, u.2.2.2.2.2.2.2.2.2.2.2.2.1, u.2.2.2.2.2.2.2.2.2.2.2.2.2.1, u.2.2.2.2.2.2.2.2.2.2.2.2.2.2.1, u.2.2.2.2.2.2.2.2.2.2.2.2.2.2.2.1, u.2.2.2.2.2.2.2.2.2.2.2.2.2.2.2.2.1, u.2.2.2.2.2.2.2.2.2.2.2.2.2.2.2.2.2)) else (if u.2.2.1 < p1 then some ((0 : Int32), ((0 : Int32), u.2.1, u.2.2.1, u.2.2.2.1, u.2.2.2.2.1, u.2.2.2.2.2.1, u.2.2.2.2.2.2.1, u.2.2.2.2.2.2.2.1, u.2.2.2.2.2.2.2.2.1, u.2.2.2.2.2.2.2.2.2.1, u.2.2.2.2.2.2.2.2.2.2.1, u.2.2.2.2.2.2.2.2.2.2.2.1, u.2.2.2.2.2.2.2.2.2.2.2.2.1, u.2.2.2.2.2.2.2.2.2.2.2.2.2.1, u.2.2.2.2.2.2.2.2.2.2.2.2.2.2.1, u.2.2.2.2.2.2.2.2.2.2.2.2.2.2.2.1, u.2.2.2.2.2.2.2.2.2.2.2.2.2.2.2.2.1, u.2.2.2.2.2.2.2.2.2.2.2.2.2.2.2.2.2)) else (if p1 ≤ ((2000000000 : Int32) - u.2.2.2.2.1) then some ((1 : Int32), ((0 : Int32), u.2.1, (u.2.2.1 - p1), u.2.2.2.1, (u.2.2.2.2.1 + p1), u.2.2.2.2.2.1, u.2.2.2.2.2.2.1, u.2.2.2.2.2.2.2.1, u.2.2.2.2.2.2.2.2.1, u.2.2.2.2.2.2.2.2.2.1, u.2.2.2.2.2.2.2.2.2.2.1, u.2.2.2.2.2.2.2.2.2.2.2.1, u.2.2.2.2.2.2.2.2.2.2.2.2.1, u.2.2.2.2.2.2.2.2.2.2.2.2.2.1, u.2.2.2.2.2.2.2.2.2.2.2.2.2.2.1, u.2.2.2.2.2.2.2.2.2.2.2.2.2.2.2.1, u.2.2.2.2.2.2.2.2.2.2.2.2.2.2.2.2.1, u.2.2.2.2.2.2.2.2.2.2.2.2.2.2.2.2.2)) else some ((0 : Int32), ((0 : Int32), u.2.1, u.2.2.1, u.2.2.2.1, u.2.2.2.2.1, u.2.2.2.2.2.1, u.2.2.2.2.2.2.1, u.2.2.2.2.2.2.2.1, u.2.2.2.2.2.2.2.2.1, u.2.2.2.2.2.2.2.2.2.1, u.2.2.2.2.2.2.2.2.2.2.1, u.2.2.2.2.2.2.2.2.2.2.2.1, u.2.2.2.2.2.2.2.2.2.2.2.2.1, u.2.2.2.2.2.2.2.2.2.2.2.2.2.1, u.2.2.2.2.2.2.2.2.2.2.2.2.2.2.1, u.2.2.2.2.2.2.2.2.2.2.2.2.2.2.2.1, u.2.2.2.2.2.2.2.2.2.2.2.2.2.2.2.2.1, u.2.2.2.2.2.2.2.2.2.2.2.2.2.2.2.2.2)))))
set_option maxHeartbeats 4000000 in
set_option maxRecDepth 100000 in
theorem c_M_spend (l : Launch) (D : va_G) (cI cR : ClassId) (ma : Nat → Nat) (sz : Nat) (p1 : Int32) (u : MSt) (r : Int32) (u' : MSt) (hF : F_M_spend p1 u = some (r, u')) : Met l yX2_spend wsX2_spend ({ frames := 0, cells := 0, slots := 0, locals := 0 }) (va_Pc [.ref (ma 0), .int p1] (PRE D (TY cI cR) (MW cI ma u) sz)) (QI D (TY cI cR) (va_A (MW cI ma u) sz) (fun v => MW cI ma v) r u') 0 0 (va_A (MW cI ma u) sz) := by
  refine Met.ofW (cc := cX2_spend) (maxL := 2) (ret := (some .boolean)) (by decide) rfl ?_
  intro p e s m args below meth c s₁ B hml hv
  obtain ⟨rfl, hsz, hP, hK, hD0⟩ := hv
  have hx := B.exec
  have hb := B.bytes
  have hr := B.returns
  have hts := atoms_spec (ws := wsX2_spend) B.pre
  have hown : s.vm.findClass RX2 = some m.cls := findClass_of_methodNamed B.named
  have hlocks := B.notSynchronized
  subst hsz
  have hD := hD0.self (sz := s.heap.size)
  generalize hAe : va_A (MW cI ma u) s.heap.size = A at hD ⊢
  have hA : ∀ q : Nat, s.heap.size ≤ q → A q := fun q h => by rw [← hAe]; exact Or.inr h
  have hS : va_S A s.heap s.heap [] := va_S.rf
  replace hP : va_P D vwCl (MW cI ma u) s.heap := hP
  have hl := lv_entry ([.ref (ma 0), .int p1]) (n := 2) (Nat.le_of_ble_eq_true rfl)
  rw [lg_entry_eq]
  generalize (lg_sl ([.ref (ma 0), .int p1]) ++ List.replicate (2 - (lg_sl ([.ref (ma 0), .int p1])).length) Slot.unset).toArray = ls at hl ⊢
  replace hl : lv_has ls 2 [(0, .ref (ma 0)), (1, .int p1)] := hl
  have hk_54 := (hts _ (cwc _ mw_335))
  have hk_7 := (hts _ (cwc _ mw_337))
  have hC_73 := (hts _ (cwc _ mw_403))
  have hk_98 := (hts _ (cwc _ mw_339))
  unfold F_M_spend at hF
  refine (?_ : ∀ (H : Heap) (locs : List Loc), va_P D vwCl (MW cI ma u) H → va_S A s.heap H locs → W p l e _ s m _ below meth c H locs 0 0 _ (F0 m 0 ls [])) s.heap [] hP hS
  intro H locs hP hS
  refine lv_aload_n hx hb dX2_spend_0 rfl (lv_at hl 0 rfl) ?_
  refine lv_iconst (v := (0 : Int32)) hx hb dX2_spend_1 (by decide +kernel) ?_
  refine va_put (D := D) (ci := 2) (v := .int (0 : Int32)) (ty := .int) (C := RX2) (T := TX2) (N := 18) hx hb hts (fun w h => cwc w (in_X2 w h)) tyX2 tyX2_ok nmX2 hown hK hP hD hS 0 rfl rfl 0 (by decide) hk_54 (fun _ h9 => h9) rfl (by decide +kernel) rfl rfl (Nat.le_of_ble_eq_true rfl) dX2_spend_2 (fun H locs hP hD hS => ?_)
  replace hP : va_P D vwCl (MW cI ma ((0 : Int32), u.2.1, u.2.2.1, u.2.2.2.1, u.2.2.2.2.1, u.2.2.2.2.2.1, u.2.2.2.2.2.2.1, u.2.2.2.2.2.2.2.1, u.2.2.2.2.2.2.2.2.1, u.2.2.2.2.2.2.2.2.2.1, u.2.2.2.2.2.2.2.2.2.2.1, u.2.2.2.2.2.2.2.2.2.2.2.1, u.2.2.2.2.2.2.2.2.2.2.2.2.1, u.2.2.2.2.2.2.2.2.2.2.2.2.2.1, u.2.2.2.2.2.2.2.2.2.2.2.2.2.2.1, u.2.2.2.2.2.2.2.2.2.2.2.2.2.2.2.1, u.2.2.2.2.2.2.2.2.2.2.2.2.2.2.2.2.1, u.2.2.2.2.2.2.2.2.2.2.2.2.2.2.2.2.2)) H := hP
  replace hD : va_D A (MW cI ma ((0 : Int32), u.2.1, u.2.2.1, u.2.2.2.1, u.2.2.2.2.1, u.2.2.2.2.2.1, u.2.2.2.2.2.2.1, u.2.2.2.2.2.2.2.1, u.2.2.2.2.2.2.2.2.1, u.2.2.2.2.2.2.2.2.2.1, u.2.2.2.2.2.2.2.2.2.2.1, u.2.2.2.2.2.2.2.2.2.2.2.1, u.2.2.2.2.2.2.2.2.2.2.2.2.1, u.2.2.2.2.2.2.2.2.2.2.2.2.2.1, u.2.2.2.2.2.2.2.2.2.2.2.2.2.2.1, u.2.2.2.2.2.2.2.2.2.2.2.2.2.2.2.1, u.2.2.2.2.2.2.2.2.2.2.2.2.2.2.2.2.1, u.2.2.2.2.2.2.2.2.2.2.2.2.2.2.2.2.2)) := hD
  refine lv_iload_n hx hb dX2_spend_5 rfl (lv_at hl 1 rfl) ?_
  refine lv_if_lt (tgt := 28) hx hb dX2_spend_6 (by decide) (fun c_1 => ?_) (fun c_1 => ?_)
  · replace hF := (if_pos c_1).symm.trans hF
    refine lv_iconst (v := (0 : Int32)) hx hb dX2_spend_28 (by decide +kernel) ?_
    cases hF
    refine W.widen (k := 0) (n := 0) (Nat.le_of_ble_eq_true rfl) (Nat.le_of_ble_eq_true rfl) ?_
    exact W.zret hx hb hr rfl (fun t ht hW => ⟨⟨_, _, rfl, ⟨rfl, rfl⟩, by rw [ht]; exact hP, va_K.moved hW.alike hK, hD⟩, hS.F ht⟩) hS.2.2 dX2_spend_29
  · replace hF := (if_neg c_1).symm.trans hF
    refine lv_iload_n hx hb dX2_spend_9 rfl (lv_at hl 1 rfl) ?_
    refine lv_aload_n hx hb dX2_spend_10 rfl (lv_at hl 0 rfl) ?_
    refine va_get (D := D) (ci := 2) (v := .int u.2.2.1) (C := RX2) (T := TX2) (N := 18) hx hb hts (fun w h => cwc w (in_X2 w h)) hown hK hP 0 rfl rfl 2 (by decide) hk_7 (fun _ h9 => h9) rfl dX2_spend_11 ?_
    refine lv_icmp_gt (tgt := 28) hx hb dX2_spend_14 (by decide) (fun c_2 => ?_) (fun c_2 => ?_)
    · replace hF := (if_pos c_2).symm.trans hF
      refine lv_iconst (v := (0 : Int32)) hx hb dX2_spend_28 (by decide +kernel) ?_
      cases hF
      refine W.widen (k := 0) (n := 0) (Nat.le_of_ble_eq_true rfl) (Nat.le_of_ble_eq_true rfl) ?_
      exact W.zret hx hb hr rfl (fun t ht hW => ⟨⟨_, _, rfl, ⟨rfl, rfl⟩, by rw [ht]; exact hP, va_K.moved hW.alike hK, hD⟩, hS.F ht⟩) hS.2.2 dX2_spend_29
    · replace hF := (if_neg c_2).symm.trans hF
      refine lv_iload_n hx hb dX2_spend_17 rfl (lv_at hl 1 rfl) ?_
      refine lv_ldc (v := (2000000000 : Int32)) hx hb hown hC_73 dX2_spend_18 ?_
      refine lv_aload_n hx hb dX2_spend_20 rfl (lv_at hl 0 rfl) ?_
      refine va_get (D := D) (ci := 2) (v := .int u.2.2.2.2.1) (C := RX2) (T := TX2) (N := 18) hx hb hts (fun w h => cwc w (in_X2 w h)) hown hK hP 0 rfl rfl 4 (by decide) hk_98 (fun _ h9 => h9) rfl dX2_spend_21 ?_
      refine lv_isub hx hb dX2_spend_24 ?_
      refine lv_icmp_le (tgt := 30) hx hb dX2_spend_25 (by decide) (fun c_3 => ?_) (fun c_3 => ?_)
      · replace hF := (if_pos c_3).symm.trans hF
        refine lv_aload_n hx hb dX2_spend_30 rfl (lv_at hl 0 rfl) ?_
        refine lv_dup hx hb dX2_spend_31 rfl ?_
        refine va_get (D := D) (ci := 2) (v := .int u.2.2.1) (C := RX2) (T := TX2) (N := 18) hx hb hts (fun w h => cwc w (in_X2 w h)) hown hK hP 0 rfl rfl 2 (by decide) hk_7 (fun _ h9 => h9) rfl dX2_spend_32 ?_
        refine lv_iload_n hx hb dX2_spend_35 rfl (lv_at hl 1 rfl) ?_
        refine lv_isub hx hb dX2_spend_36 ?_
        refine va_put (D := D) (ci := 2) (v := .int (u.2.2.1 - p1)) (ty := .int) (C := RX2) (T := TX2) (N := 18) hx hb hts (fun w h => cwc w (in_X2 w h)) tyX2 tyX2_ok nmX2 hown hK hP hD hS 0 rfl rfl 2 (by decide) hk_7 (fun _ h9 => h9) rfl (by decide +kernel) rfl rfl (Nat.le_of_ble_eq_true rfl) dX2_spend_37 (fun H locs hP hD hS => ?_)
        replace hP : va_P D vwCl (MW cI ma ((0 : Int32), u.2.1, (u.2.2.1 - p1), u.2.2.2.1, u.2.2.2.2.1, u.2.2.2.2.2.1, u.2.2.2.2.2.2.1, u.2.2.2.2.2.2.2.1, u.2.2.2.2.2.2.2.2.1, u.2.2.2.2.2.2.2.2.2.1, u.2.2.2.2.2.2.2.2.2.2.1, u.2.2.2.2.2.2.2.2.2.2.2.1, u.2.2.2.2.2.2.2.2.2.2.2.2.1, u.2.2.2.2.2.2.2.2.2.2.2.2.2.1, u.2.2.2.2.2.2.2.2.2.2.2.2.2.2.1, u.2.2.2.2.2.2.2.2.2.2.2.2.2.2.2.1, u.2.2.2.2.2.2.2.2.2.2.2.2.2.2.2.2.1, u.2.2.2.2.2.2.2.2.2.2.2.2.2.2.2.2.2)) H := hP
        replace hD : va_D A (MW cI ma ((0 : Int32), u.2.1, (u.2.2.1 - p1), u.2.2.2.1, u.2.2.2.2.1, u.2.2.2.2.2.1, u.2.2.2.2.2.2.1, u.2.2.2.2.2.2.2.1, u.2.2.2.2.2.2.2.2.1, u.2.2.2.2.2.2.2.2.2.1, u.2.2.2.2.2.2.2.2.2.2.1, u.2.2.2.2.2.2.2.2.2.2.2.1, u.2.2.2.2.2.2.2.2.2.2.2.2.1, u.2.2.2.2.2.2.2.2.2.2.2.2.2.1, u.2.2.2.2.2.2.2.2.2.2.2.2.2.2.1, u.2.2.2.2.2.2.2.2.2.2.2.2.2.2.2.1, u.2.2.2.2.2.2.2.2.2.2.2.2.2.2.2.2.1, u.2.2.2.2.2.2.2.2.2.2.2.2.2.2.2.2.2)) := hD
        refine lv_aload_n hx hb dX2_spend_40 rfl (lv_at hl 0 rfl) ?_
        refine lv_dup hx hb dX2_spend_41 rfl ?_
        refine va_get (D := D) (ci := 2) (v := .int u.2.2.2.2.1) (C := RX2) (T := TX2) (N := 18) hx hb hts (fun w h => cwc w (in_X2 w h)) hown hK hP 0 rfl rfl 4 (by decide) hk_98 (fun _ h9 => h9) rfl dX2_spend_42 ?_
        refine lv_iload_n hx hb dX2_spend_45 rfl (lv_at hl 1 rfl) ?_
        refine lv_iadd hx hb dX2_spend_46 ?_
        refine va_put (D := D) (ci := 2) (v := .int (u.2.2.2.2.1 + p1)) (ty := .int) (C := RX2) (T := TX2) (N := 18) hx hb hts (fun w h => cwc w (in_X2 w h)) tyX2 tyX2_ok nmX2 hown hK hP hD hS 0 rfl rfl 4 (by decide) hk_98 (fun _ h9 => h9) rfl (by decide +kernel) rfl rfl (Nat.le_of_ble_eq_true rfl) dX2_spend_47 (fun H locs hP hD hS => ?_)
        replace hP : va_P D vwCl (MW cI ma ((0 : Int32), u.2.1, (u.2.2.1 - p1), u.2.2.2.1, (u.2.2.2.2.1 + p1), u.2.2.2.2.2.1, u.2.2.2.2.2.2.1, u.2.2.2.2.2.2.2.1, u.2.2.2.2.2.2.2.2.1, u.2.2.2.2.2.2.2.2.2.1, u.2.2.2.2.2.2.2.2.2.2.1, u.2.2.2.2.2.2.2.2.2.2.2.1, u.2.2.2.2.2.2.2.2.2.2.2.2.1, u.2.2.2.2.2.2.2.2.2.2.2.2.2.1, u.2.2.2.2.2.2.2.2.2.2.2.2.2.2.1, u.2.2.2.2.2.2.2.2.2.2.2.2.2.2.2.1, u.2.2.2.2.2.2.2.2.2.2.2.2.2.2.2.2.1, u.2.2.2.2.2.2.2.2.2.2.2.2.2.2.2.2.2)) H := hP
        replace hD : va_D A (MW cI ma ((0 : Int32), u.2.1, (u.2.2.1 - p1), u.2.2.2.1, (u.2.2.2.2.1 + p1), u.2.2.2.2.2.1, u.2.2.2.2.2.2.1, u.2.2.2.2.2.2.2.1, u.2.2.2.2.2.2.2.2.1, u.2.2.2.2.2.2.2.2.2.1, u.2.2.2.2.2.2.2.2.2.2.1, u.2.2.2.2.2.2.2.2.2.2.2.1, u.2.2.2.2.2.2.2.2.2.2.2.2.1, u.2.2.2.2.2.2.2.2.2.2.2.2.2.1, u.2.2.2.2.2.2.2.2.2.2.2.2.2.2.1, u.2.2.2.2.2.2.2.2.2.2.2.2.2.2.2.1, u.2.2.2.2.2.2.2.2.2.2.2.2.2.2.2.2.1, u.2.2.2.2.2.2.2.2.2.2.2.2.2.2.2.2.2)) := hD
        refine lv_iconst (v := (1 : Int32)) hx hb dX2_spend_50 (by decide +kernel) ?_
        cases hF
        refine W.widen (k := 0) (n := 0) (Nat.le_of_ble_eq_true rfl) (Nat.le_of_ble_eq_true rfl) ?_
        exact W.zret hx hb hr rfl (fun t ht hW => ⟨⟨_, _, rfl, ⟨rfl, rfl⟩, by rw [ht]; exact hP, va_K.moved hW.alike hK, hD⟩, hS.F ht⟩) hS.2.2 dX2_spend_51
      · replace hF := (if_neg c_3).symm.trans hF
        refine lv_iconst (v := (0 : Int32)) hx hb dX2_spend_28 (by decide +kernel) ?_
        cases hF
        refine W.widen (k := 0) (n := 0) (Nat.le_of_ble_eq_true rfl) (Nat.le_of_ble_eq_true rfl) ?_
        exact W.zret hx hb hr rfl (fun t ht hW => ⟨⟨_, _, rfl, ⟨rfl, rfl⟩, by rw [ht]; exact hP, va_K.moved hW.alike hK, hD⟩, hS.F ht⟩) hS.2.2 dX2_spend_29
def F_M_rowOf_J17 (x1 x2 : Int32) (u : MSt) : Option ((Int32) × Unit) := bi (F_M_in x1 (8 : Int32) ()) (fun r3 u2 => (if r3 = (0 : Int32) then some ((-1 : Int32), ()) else bi (F_M_in x2 (4 : Int32) ()) (fun r7 u6 => (if r7 = (0 : Int32) then some ((-1 : Int32), ()) else some ((((4 : Int32) * x1) + x2), ())))))
def F_M_rowOf (p1 : Int32) (p2 : Int32) (u : MSt) : Option ((Int32) × Unit) := (if p1 < (8 : Int32) then F_M_rowOf_J17 p1 p2 u else (if (24 : Int32) ≤ p1 then F_M_rowOf_J17 p1 p2 u else some (((24 : Int32) + p1), ())))
set_option maxHeartbeats 4000000 in
set_option maxRecDepth 100000 in
theorem w_M_rowOf_J17 {p : Program} {l : Launch} {e : Env} {s : State} {m : MethodId} {args : Array Value} {below : List Frame} {meth : Method} {c : Code} {A : Nat → Prop} {D : va_G} {cI cR : ClassId} {ma : Nat → Nat} (hx : p.tables.exec = Jvm.exec) (hb : c.code = cX2_rowOf) (hr : meth.sig.returnType = (some .int)) (hml : c.maxLocals = 3) (hown : s.vm.findClass RX2 = some m.cls) (hts : ∀ w ∈ wsX2_rowOf, w.before args s = true) (hlocks : meth.locks = false) (hA : ∀ q : Nat, s.heap.size ≤ q → A q) (hK : va_K D vwCl (TY cI cR) s) : ∀ (x1 x2 : Int32) (u : MSt) (r : Int32) (u' : Unit), F_M_rowOf_J17 x1 x2 u = some (r, u') → ∀ (H : Heap) (locs : List Loc) (ls : Array Slot), va_P D vwCl (MW cI ma u) H → va_D A (MW cI ma u) → va_S A s.heap H locs → lv_has ls 3 [(1, .int x1), (2, .int x2)] → W p l e (headSpec wsX2_rowOf ({ frames := 1, cells := 0, slots := 0, locals := 21 })).room s m args below meth c H locs 0 0 (MQ below (QI D (TY cI cR) A (fun v => MW cI ma v) r u) args s 0 0 A) (F0 m 17 ls []) := by
  intro x1 x2 u r u' hF H locs ls hP hD hS hl
  unfold F_M_rowOf_J17 at hF
  refine lv_iload_n hx hb dX2_rowOf_17 rfl (lv_at hl 0 rfl) ?_
  refine lv_bipush (v := (8 : Int32)) hx hb dX2_rowOf_18 (by decide +kernel) ?_
  obtain ⟨r3, u2, hc_4, hF⟩ := bi_some hF
  refine kc_i (W1 := MW cI ma u) (va_runS (As := [.int x1, .int (8 : Int32)]) (rest := []) ⟨hx, hb, hml, hown, hts⟩ (c_M_in l D cI cR  H.size x1 (8 : Int32) () r3 u2 hc_4) (va_cwS 2 hts (gS cwc mw_380 mw_381 mw_3 mw_382) rfl rfl rfl (by decide +kernel) ⟨(Nat.le_of_ble_eq_true rfl), (Nat.le_of_ble_eq_true rfl)⟩) (kp_S hK hP hD (sb_nil _)) rfl rfl hl.1 rfl (lv_room (Nat.le_of_ble_eq_true rfl)) dX2_rowOf_20 ⟨(Nat.le_of_ble_eq_true rfl), (Nat.le_of_ble_eq_true rfl)⟩) hP hD hS hA (sb_nil _) (jn_nil _) (fun H locs hP hD hS => ?_)
  refine lv_if_eq (tgt := 42) hx hb dX2_rowOf_23 (by decide) (fun c_5 => ?_) (fun c_5 => ?_)
  · replace hF := (if_pos c_5).symm.trans hF
    refine lv_iconst (v := (-1 : Int32)) hx hb dX2_rowOf_42 (by decide +kernel) ?_
    cases hF
    refine W.widen (k := 0) (n := 0) (Nat.le_of_ble_eq_true rfl) (Nat.le_of_ble_eq_true rfl) ?_
    exact W.iret hx hb hr (fun t ht hW => ⟨⟨_, _, rfl, ⟨rfl, rfl⟩, by rw [ht]; exact hP, va_K.moved hW.alike hK, hD⟩, hS.F ht⟩) hS.2.2 dX2_rowOf_43
  · replace hF := (if_neg c_5).symm.trans hF
    refine lv_iload_n hx hb dX2_rowOf_26 rfl (lv_at hl 1 rfl) ?_
    refine lv_iconst (v := (4 : Int32)) hx hb dX2_rowOf_27 (by decide +kernel) ?_
    obtain ⟨r7, u6, hc_8, hF⟩ := bi_some hF
    refine kc_i (W1 := MW cI ma u) (va_runS (As := [.int x2, .int (4 : Int32)]) (rest := []) ⟨hx, hb, hml, hown, hts⟩ (c_M_in l D cI cR  H.size x2 (4 : Int32) () r7 u6 hc_8) (va_cwS 2 hts (gS cwc mw_380 mw_381 mw_3 mw_382) rfl rfl rfl (by decide +kernel) ⟨(Nat.le_of_ble_eq_true rfl), (Nat.le_of_ble_eq_true rfl)⟩) (kp_S hK hP hD (sb_nil _)) rfl rfl hl.1 rfl (lv_room (Nat.le_of_ble_eq_true rfl)) dX2_rowOf_28 ⟨(Nat.le_of_ble_eq_true rfl), (Nat.le_of_ble_eq_true rfl)⟩) hP hD hS hA (sb_nil _) (jn_nil _) (fun H locs hP hD hS => ?_)
    refine lv_if_eq (tgt := 42) hx hb dX2_rowOf_31 (by decide) (fun c_9 => ?_) (fun c_9 => ?_)
    · replace hF := (if_pos c_9).symm.trans hF
      refine lv_iconst (v := (-1 : Int32)) hx hb dX2_rowOf_42 (by decide +kernel) ?_
      cases hF
      refine W.widen (k := 0) (n := 0) (Nat.le_of_ble_eq_true rfl) (Nat.le_of_ble_eq_true rfl) ?_
      exact W.iret hx hb hr (fun t ht hW => ⟨⟨_, _, rfl, ⟨rfl, rfl⟩, by rw [ht]; exact hP, va_K.moved hW.alike hK, hD⟩, hS.F ht⟩) hS.2.2 dX2_rowOf_43
    · replace hF := (if_neg c_9).symm.trans hF
      refine lv_iconst (v := (4 : Int32)) hx hb dX2_rowOf_34 (by decide +kernel) ?_
      refine lv_iload_n hx hb dX2_rowOf_35 rfl (lv_at hl 0 rfl) ?_
      refine lv_imul hx hb dX2_rowOf_36 ?_
      refine lv_iload_n hx hb dX2_rowOf_37 rfl (lv_at hl 1 rfl) ?_
      refine lv_iadd hx hb dX2_rowOf_38 ?_
      refine lv_goto (tgt := 43) hx hb dX2_rowOf_39 (by decide) ?_
      cases hF
      refine W.widen (k := 0) (n := 0) (Nat.le_of_ble_eq_true rfl) (Nat.le_of_ble_eq_true rfl) ?_
      exact W.iret hx hb hr (fun t ht hW => ⟨⟨_, _, rfl, ⟨rfl, rfl⟩, by rw [ht]; exact hP, va_K.moved hW.alike hK, hD⟩, hS.F ht⟩) hS.2.2 dX2_rowOf_43
set_option maxHeartbeats 4000000 in
set_option maxRecDepth 100000 in
theorem c_M_rowOf (l : Launch) (D : va_G) (cI cR : ClassId) (ma : Nat → Nat) (sz : Nat) (p1 : Int32) (p2 : Int32) (u : MSt) (r : Int32) (u' : Unit) (hF : F_M_rowOf p1 p2 u = some (r, u')) : Met l yX2_rowOf wsX2_rowOf ({ frames := 1, cells := 0, slots := 0, locals := 21 }) (va_Pc [.ref (ma 0), .int p1, .int p2] (PRE D (TY cI cR) (MW cI ma u) sz)) (QI D (TY cI cR) (va_A (MW cI ma u) sz) (fun v => MW cI ma v) r u) 0 0 (va_A (MW cI ma u) sz) := by
  refine Met.ofW (cc := cX2_rowOf) (maxL := 3) (ret := (some .int)) (by decide) rfl ?_
  intro p e s m args below meth c s₁ B hml hv
  obtain ⟨rfl, hsz, hP, hK, hD0⟩ := hv
  have hx := B.exec
  have hb := B.bytes
  have hr := B.returns
  have hts := atoms_spec (ws := wsX2_rowOf) B.pre
  have hown : s.vm.findClass RX2 = some m.cls := findClass_of_methodNamed B.named
  have hlocks := B.notSynchronized
  subst hsz
  have hD := hD0.self (sz := s.heap.size)
  generalize hAe : va_A (MW cI ma u) s.heap.size = A at hD ⊢
  have hA : ∀ q : Nat, s.heap.size ≤ q → A q := fun q h => by rw [← hAe]; exact Or.inr h
  have hS : va_S A s.heap s.heap [] := va_S.rf
  replace hP : va_P D vwCl (MW cI ma u) s.heap := hP
  have hl := lv_entry ([.ref (ma 0), .int p1, .int p2]) (n := 3) (Nat.le_of_ble_eq_true rfl)
  rw [lg_entry_eq]
  generalize (lg_sl ([.ref (ma 0), .int p1, .int p2]) ++ List.replicate (3 - (lg_sl ([.ref (ma 0), .int p1, .int p2])).length) Slot.unset).toArray = ls at hl ⊢
  replace hl : lv_has ls 3 [(0, .ref (ma 0)), (1, .int p1), (2, .int p2)] := hl
  unfold F_M_rowOf at hF
  refine (?_ : ∀ (H : Heap) (locs : List Loc), va_P D vwCl (MW cI ma u) H → va_S A s.heap H locs → W p l e _ s m _ below meth c H locs 0 0 _ (F0 m 0 ls [])) s.heap [] hP hS
  intro H locs hP hS
  refine lv_iload_n hx hb dX2_rowOf_0 rfl (lv_at hl 1 rfl) ?_
  refine lv_bipush (v := (8 : Int32)) hx hb dX2_rowOf_1 (by decide +kernel) ?_
  refine lv_icmp_lt (tgt := 17) hx hb dX2_rowOf_3 (by decide) (fun c_1 => ?_) (fun c_1 => ?_)
  · replace hF := (if_pos c_1).symm.trans hF
    exact w_M_rowOf_J17 hx hb hr hml hown hts hlocks hA hK p1 p2 u _ _ hF H locs ls hP hD hS (lv_sub hl [1, 2] rfl)
  · replace hF := (if_neg c_1).symm.trans hF
    refine lv_iload_n hx hb dX2_rowOf_6 rfl (lv_at hl 1 rfl) ?_
    refine lv_bipush (v := (24 : Int32)) hx hb dX2_rowOf_7 (by decide +kernel) ?_
    refine lv_icmp_ge (tgt := 17) hx hb dX2_rowOf_9 (by decide) (fun c_10 => ?_) (fun c_10 => ?_)
    · replace hF := (if_pos c_10).symm.trans hF
      exact w_M_rowOf_J17 hx hb hr hml hown hts hlocks hA hK p1 p2 u _ _ hF H locs ls hP hD hS (lv_sub hl [1, 2] rfl)
    · replace hF := (if_neg c_10).symm.trans hF
      refine lv_bipush (v := (24 : Int32)) hx hb dX2_rowOf_12 (by decide +kernel) ?_
      refine lv_iload_n hx hb dX2_rowOf_14 rfl (lv_at hl 1 rfl) ?_
      refine lv_iadd hx hb dX2_rowOf_15 ?_
      cases hF
      refine W.widen (k := 0) (n := 0) (Nat.le_of_ble_eq_true rfl) (Nat.le_of_ble_eq_true rfl) ?_
      exact W.iret hx hb hr (fun t ht hW => ⟨⟨_, _, rfl, ⟨rfl, rfl⟩, by rw [ht]; exact hP, va_K.moved hW.alike hK, hD⟩, hS.F ht⟩) hS.2.2 dX2_rowOf_16
def F_M_packet_J140 (x4 x5 x6 x8 : Int32) (u : MSt) : Option ((Int32) × MSt) := (if x4 = (0 : Int32) then gd (inb (((1000 : Int32) * x5) + x6) 49000) (some ((u.2.2.2.2.2.2.2.2.2.2.2.2.2.1 (((1000 : Int32) * x5) + x6).toNatClampNeg), u)) else (if x4 = (1 : Int32) then some (x8, u) else gd (inb (((1000 : Int32) * x5) + x6) 49000) (some ((u.2.2.2.2.2.2.2.2.2.2.2.2.2.2.1 (((1000 : Int32) * x5) + x6).toNatClampNeg), u))))
def F_M_packet_L105 : Nat → Int32 → Int32 → Int32 → Int32 → MSt → Option ((Int32) × MSt)
  | 0, _, _, _, _, _ => none
  | n + 1, x4, x5, x6, x8, u => gd (inb x5 49) ((if (u.2.2.2.2.2.2.2.2.2.2.2.2.1 x5.toNatClampNeg) ≤ (x6 + x8) then F_M_packet_J140 x4 x5 x6 x8 u else bi (F_M_isFirst x5 (x6 + x8) u) (fun r21 u20 => (if r21 = (0 : Int32) then F_M_packet_L105 n x4 x5 x6 (x8 + (1 : Int32)) u else F_M_packet_J140 x4 x5 x6 x8 u))))
def F_M_packet_L55 : Nat → Int32 → Int32 → Int32 → Int32 → MSt → Option ((Int32) × MSt)
  | 0, _, _, _, _, _ => none
  | n + 1, x4, x5, x6, x7, u => gd (inb x5 49) ((if (u.2.2.2.2.2.2.2.2.2.2.2.2.1 x5.toNatClampNeg) ≤ x6 then (if x7 ≤ (0 : Int32) then F_M_packet_L105 1001 x4 x5 (x6 + (-1 : Int32)) (1 : Int32) u else some ((-1 : Int32), u)) else (if x7 ≤ (0 : Int32) then (if x7 ≤ (0 : Int32) then F_M_packet_L105 1001 x4 x5 (x6 + (-1 : Int32)) (1 : Int32) u else some ((-1 : Int32), u)) else bi (F_M_isFirst x5 x6 u) (fun r27 u26 => (if r27 = (0 : Int32) then F_M_packet_L55 n x4 x5 (x6 + (1 : Int32)) x7 u else F_M_packet_L55 n x4 x5 (x6 + (1 : Int32)) (x7 + (-1 : Int32)) u)))))
def F_M_packet (p1 : Int32) (p2 : Int32) (p3 : Int32) (p4 : Int32) (u : MSt) : Option ((Int32) × MSt) := bi (F_M_rowOf p1 p2 ((0 : Int32), u.2.1, u.2.2.1, u.2.2.2.1, u.2.2.2.2.1, u.2.2.2.2.2.1, u.2.2.2.2.2.2.1, u.2.2.2.2.2.2.2.1, u.2.2.2.2.2.2.2.2.1, u.2.2.2.2.2.2.2.2.2.1, u.2.2.2.2.2.2.2.2.2.2.1, u.2.2.2.2.2.2.2.2.2.2.2.1, u.2.2.2.2.2.2.2.2.2.2.2.2.1, u.2.2.2.2.2.2.2.2.2.2.2.2.2.1, u.2.2.2.2.2.2.2.2.2.2.2.2.2.2.1, u.2.2.2.2.2.2.2.2.2.2.2.2.2.2.2.1, u.2.2.2.2.2.2.2.2.2.2.2.2.2.2.2.2.1, u.2.2.2.2.2.2.2.2.2.2.2.2.2.2.2.2.2)) (fun r2 u1 => (if r2 = (-1 : Int32) then some ((-1 : Int32), ((0 : Int32), u.2.1, u.2.2.1, u.2.2.2.1, u.2.2.2.2.1, u.2.2.2.2.2.1, u.2.2.2.2.2.2.1, u.2.2.2.2.2.2.2.1, u.2.2.2.2.2.2.2.2.1, u.2.2.2.2.2.2.2.2.2.1, u.2.2.2.2.2.2.2.2.2.2.1, u.2.2.2.2.2.2.2.2.2.2.2.1, u.2.2.2.2.2.2.2.2.2.2.2.2.1, u.2.2.2.2.2.2.2.2.2.2.2.2.2.1, u.2.2.2.2.2.2.2.2.2.2.2.2.2.2.1, u.2.2.2.2.2.2.2.2.2.2.2.2.2.2.2.1, u.2.2.2.2.2.2.2.2.2.2.2.2.2.2.2.2.1, u.2.2.2.2.2.2.2.2.2.2.2.2.2.2.2.2.2)) else (if p3 < (0 : Int32) then some ((-1 : Int32), ((0 : Int32), u.2.1, u.2.2.1, u.2.2.2.1, u.2.2.2.2.1, u.2.2.2.2.2.1, u.2.2.2.2.2.2.1, u.2.2.2.2.2.2.2.1, u.2.2.2.2.2.2.2.2.1, u.2.2.2.2.2.2.2.2.2.1, u.2.2.2.2.2.2.2.2.2.2.1, u.2.2.2.2.2.2.2.2.2.2.2.1, u.2.2.2.2.2.2.2.2.2.2.2.2.1, u.2.2.2.2.2.2.2.2.2.2.2.2.2.1, u.2.2.2.2.2.2.2.2.2.2.2.2.2.2.1, u.2.2.2.2.2.2.2.2.2.2.2.2.2.2.2.1, u.2.2.2.2.2.2.2.2.2.2.2.2.2.2.2.2.1, u.2.2.2.2.2.2.2.2.2.2.2.2.2.2.2.2.2)) else gd (inb r2 49) ((if (u.2.2.2.2.2.2.2.2.2.2.2.2.1 r2.toNatClampNeg) ≤ p3 then some ((-1 : Int32), ((0 : Int32), u.2.1, u.2.2.1, u.2.2.2.1, u.2.2.2.2.1, u.2.2.2.2.2.1, u.2.2.2.2.2.2.1, u.2.2.2.2.2.2.2.1, u.2.2.2.2.2.2.2.2.1, u.2.2.2.2.2.2.2.2.2.1, u.2.2.2.2.2.2.2.2.2.2.1, u.2.2.2.2.2.2.2.2.2.2.2.1, u.2.2.2.2.2.2.2.2.2.2.2.2.1, u.2.2.2.2.2.2.2.2.2.2.2.2.2.1, u.2.2.2.2.2.2.2.2.2.2.2.2.2.2.1, u.2.2.2.2.2.2.2.2.2.2.2.2.2.2.2.1, u.2.2.2.2.2.2.2.2.2.2.2.2.2.2.2.2.1, u.2.2.2.2.2.2.2.2.2.2.2.2.2.2.2.2.2)) else (if p4 < (0 : Int32) then some ((-1 : Int32), ((0 : Int32), u.2.1, u.2.2.1, u.2.2.2.1, u.2.2.2.2.1, u.2.2.2.2.2.1, u.2.2.2.2.2.2.1, u.2.2.2.2.2.2.2.1, u.2.2.2.2.2.2.2.2.1, u.2.2.2.2.2.2.2.2.2.1, u.2.2.2.2.2.2.2.2.2.2.1, u.2.2.2.2.2.2.2.2.2.2.2.1, u.2.2.2.2.2.2.2.2.2.2.2.2.1, u.2.2.2.2.2.2.2.2.2.2.2.2.2.1, u.2.2.2.2.2.2.2.2.2.2.2.2.2.2.1, u.2.2.2.2.2.2.2.2.2.2.2.2.2.2.2.1, u.2.2.2.2.2.2.2.2.2.2.2.2.2.2.2.2.1, u.2.2.2.2.2.2.2.2.2.2.2.2.2.2.2.2.2)) else (if p4 ≤ (2 : Int32) then nm ((p3 + (1 : Int32))) (fun v10 => F_M_packet_L55 1001 p4 r2 (0 : Int32) v10 ((0 : Int32), u.2.1, u.2.2.1, u.2.2.2.1, u.2.2.2.2.1, u.2.2.2.2.2.1, u.2.2.2.2.2.2.1, u.2.2.2.2.2.2.2.1, u.2.2.2.2.2.2.2.2.1, u.2.2.2.2.2.2.2.2.2.1, u.2.2.2.2.2.2.2.2.2.2.1, u.2.2.2.2.2.2.2.2.2.2.2.1, u.2.2.2.2.2.2.2.2.2.2.2.2.1, u.2.2.2.2.2.2.2.2.2.2.2.2.2.1, u.2.2.2.2.2.2.2.2.2.2.2.2.2.2.1, u.2.2.2.2.2.2.2.2.2.2.2.2.2.2.2.1, u.2.2.2.2.2.2.2.2.2.2.2.2.2.2.2.2.1, u.2.2.2.2.2.2.2.2.2.2.2.2.2.2.2.2.2)) else some ((-1 : Int32), ((0 : Int32), u.2.1, u.2.2.1, u.2.2.2.1, u.2.2.2.2.1, u.2.2.2.2.2.1, u.2.2.2.2.2.2.1, u.2.2.2.2.2.2.2.1, u.2.2.2.2.2.2.2.2.1, u.2.2.2.2.2.2.2.2.2.1, u.2.2.2.2.2.2.2.2.2.2.1, u.2.2.2.2.2.2.2.2.2.2.2.1, u.2.2.2.2.2.2.2.2.2.2.2.2.1, u.2.2.2.2.2.2.2.2.2.2.2.2.2.1, u.2.2.2.2.2.2.2.2.2.2.2.2.2.2.1, u.2.2.2.2.2.2.2.2.2.2.2.2.2.2.2.1, u.2.2.2.2.2.2.2.2.2.2.2.2.2.2.2.2.1, u.2.2.2.2.2.2.2.2.2.2.2.2.2.2.2.2.2)))))))))
set_option maxHeartbeats 4000000 in
set_option maxRecDepth 100000 in
theorem w_M_packet_J140 {p : Program} {l : Launch} {e : Env} {s : State} {m : MethodId} {args : Array Value} {below : List Frame} {meth : Method} {c : Code} {A : Nat → Prop} {D : va_G} {cI cR : ClassId} {ma : Nat → Nat} (hx : p.tables.exec = Jvm.exec) (hb : c.code = cX2_packet) (hr : meth.sig.returnType = (some .int)) (hml : c.maxLocals = 9) (hown : s.vm.findClass RX2 = some m.cls) (hts : ∀ w ∈ wsX2_packet, w.before args s = true) (hlocks : meth.locks = false) (hA : ∀ q : Nat, s.heap.size ≤ q → A q) (hK : va_K D vwCl (TY cI cR) s) : ∀ (x4 x5 x6 x8 : Int32) (u : MSt) (r : Int32) (u' : MSt), F_M_packet_J140 x4 x5 x6 x8 u = some (r, u') → ∀ (H : Heap) (locs : List Loc) (ls : Array Slot), va_P D vwCl (MW cI ma u) H → va_D A (MW cI ma u) → va_S A s.heap H locs → lv_has ls 9 [(0, .ref (ma 0)), (4, .int x4), (5, .int x5), (6, .int x6), (8, .int x8)] → W p l e (headSpec wsX2_packet ({ frames := 2, cells := 0, slots := 0, locals := 43 })).room s m args below meth c H locs 0 0 (MQ below (QI D (TY cI cR) A (fun v => MW cI ma v) r u') args s 0 0 A) (F0 m 140 ls []) := by
  have hk_54 := (hts _ (cwc _ mw_335))
  have hk_35 := (hts _ (cwc _ mw_347))
  have hk_42 := (hts _ (cwc _ mw_349))
  have hk_39 := (hts _ (cwc _ mw_348))
  intro x4 x5 x6 x8 u r u' hF H locs ls hP hD hS hl
  unfold F_M_packet_J140 at hF
  refine lv_iload hx hb dX2_packet_140 (lv_at hl 1 rfl) ?_
  refine lv_if_ne (tgt := 162) hx hb dX2_packet_142 (by decide) (fun c_16 => ?_) (fun c_16 => ?_)
  · replace hF := (if_neg c_16).symm.trans hF
    refine lv_iload hx hb dX2_packet_162 (lv_at hl 1 rfl) ?_
    refine lv_iconst (v := (1 : Int32)) hx hb dX2_packet_164 (by decide +kernel) ?_
    refine lv_icmp_ne (tgt := 173) hx hb dX2_packet_165 (by decide) (fun c_17 => ?_) (fun c_17 => ?_)
    · replace hF := (if_neg c_17).symm.trans hF
      refine lv_aload_n hx hb dX2_packet_173 rfl (lv_at hl 0 rfl) ?_
      refine va_get (D := D) (ci := 2) (v := .ref (ma 10)) (C := RX2) (T := TX2) (N := 18) hx hb hts (fun w h => cwc w (in_X2 w h)) hown hK hP 0 rfl rfl 14 (by decide) hk_42 (fun _ h9 => h9) rfl dX2_packet_174 ?_
      refine lv_sipush (v := (1000 : Int32)) hx hb dX2_packet_177 (by decide +kernel) ?_
      refine lv_iload hx hb dX2_packet_180 (lv_at hl 2 rfl) ?_
      refine lv_imul hx hb dX2_packet_182 ?_
      refine lv_iload hx hb dX2_packet_183 (lv_at hl 3 rfl) ?_
      refine lv_iadd hx hb dX2_packet_185 ?_
      obtain ⟨h_18, hF⟩ := gd_some hF
      refine va_iald (f := u.2.2.2.2.2.2.2.2.2.2.2.2.2.2.1) hx hb hK hP 10 0 rfl rfl (inb_in h_18) dX2_packet_186 ?_
      cases hF
      refine W.widen (k := 0) (n := 0) (Nat.le_of_ble_eq_true rfl) (Nat.le_of_ble_eq_true rfl) ?_
      exact W.iret hx hb hr (fun t ht hW => ⟨⟨_, _, rfl, ⟨rfl, rfl⟩, by rw [ht]; exact hP, va_K.moved hW.alike hK, hD⟩, hS.F ht⟩) hS.2.2 dX2_packet_187
    · replace hF := (if_pos c_17).symm.trans hF
      refine lv_iload hx hb dX2_packet_168 (lv_at hl 4 rfl) ?_
      refine lv_goto (tgt := 187) hx hb dX2_packet_170 (by decide) ?_
      cases hF
      refine W.widen (k := 0) (n := 0) (Nat.le_of_ble_eq_true rfl) (Nat.le_of_ble_eq_true rfl) ?_
      exact W.iret hx hb hr (fun t ht hW => ⟨⟨_, _, rfl, ⟨rfl, rfl⟩, by rw [ht]; exact hP, va_K.moved hW.alike hK, hD⟩, hS.F ht⟩) hS.2.2 dX2_packet_187
  · replace hF := (if_pos c_16).symm.trans hF
    refine lv_aload_n hx hb dX2_packet_145 rfl (lv_at hl 0 rfl) ?_
    refine va_get (D := D) (ci := 2) (v := .ref (ma 9)) (C := RX2) (T := TX2) (N := 18) hx hb hts (fun w h => cwc w (in_X2 w h)) hown hK hP 0 rfl rfl 13 (by decide) hk_39 (fun _ h9 => h9) rfl dX2_packet_146 ?_
    refine lv_sipush (v := (1000 : Int32)) hx hb dX2_packet_149 (by decide +kernel) ?_
    refine lv_iload hx hb dX2_packet_152 (lv_at hl 2 rfl) ?_
    refine lv_imul hx hb dX2_packet_154 ?_
    refine lv_iload hx hb dX2_packet_155 (lv_at hl 3 rfl) ?_
    refine lv_iadd hx hb dX2_packet_157 ?_
    obtain ⟨h_19, hF⟩ := gd_some hF
    refine va_iald (f := u.2.2.2.2.2.2.2.2.2.2.2.2.2.1) hx hb hK hP 9 0 rfl rfl (inb_in h_19) dX2_packet_158 ?_
    refine lv_goto (tgt := 187) hx hb dX2_packet_159 (by decide) ?_
    cases hF
    refine W.widen (k := 0) (n := 0) (Nat.le_of_ble_eq_true rfl) (Nat.le_of_ble_eq_true rfl) ?_
    exact W.iret hx hb hr (fun t ht hW => ⟨⟨_, _, rfl, ⟨rfl, rfl⟩, by rw [ht]; exact hP, va_K.moved hW.alike hK, hD⟩, hS.F ht⟩) hS.2.2 dX2_packet_187
set_option maxHeartbeats 4000000 in
set_option maxRecDepth 100000 in
theorem w_M_packet_L105 {p : Program} {l : Launch} {e : Env} {s : State} {m : MethodId} {args : Array Value} {below : List Frame} {meth : Method} {c : Code} {A : Nat → Prop} {D : va_G} {cI cR : ClassId} {ma : Nat → Nat} (hx : p.tables.exec = Jvm.exec) (hb : c.code = cX2_packet) (hr : meth.sig.returnType = (some .int)) (hml : c.maxLocals = 9) (hown : s.vm.findClass RX2 = some m.cls) (hts : ∀ w ∈ wsX2_packet, w.before args s = true) (hlocks : meth.locks = false) (hA : ∀ q : Nat, s.heap.size ≤ q → A q) (hK : va_K D vwCl (TY cI cR) s) : ∀ (n : Nat) (x4 x5 x6 x8 : Int32) (u : MSt) (r : Int32) (u' : MSt), F_M_packet_L105 n x4 x5 x6 x8 u = some (r, u') → ∀ (H : Heap) (locs : List Loc) (ls : Array Slot), va_P D vwCl (MW cI ma u) H → va_D A (MW cI ma u) → va_S A s.heap H locs → lv_has ls 9 [(0, .ref (ma 0)), (4, .int x4), (5, .int x5), (6, .int x6), (8, .int x8)] → W p l e (headSpec wsX2_packet ({ frames := 2, cells := 0, slots := 0, locals := 43 })).room s m args below meth c H locs 0 0 (MQ below (QI D (TY cI cR) A (fun v => MW cI ma v) r u') args s 0 0 A) (F0 m 105 ls []) := by
  have hk_54 := (hts _ (cwc _ mw_335))
  have hk_35 := (hts _ (cwc _ mw_347))
  have hk_42 := (hts _ (cwc _ mw_349))
  have hk_39 := (hts _ (cwc _ mw_348))
  intro n
  induction n with
  | zero =>
    intro x4 x5 x6 x8 u r u' hF
    rw [F_M_packet_L105] at hF
    exact absurd hF (by simp)
  | succ n ih =>
    intro x4 x5 x6 x8 u r u' hF H locs ls hP hD hS hl
    rw [F_M_packet_L105] at hF
    refine lv_iload hx hb dX2_packet_105 (lv_at hl 3 rfl) ?_
    refine lv_iload hx hb dX2_packet_107 (lv_at hl 4 rfl) ?_
    refine lv_iadd hx hb dX2_packet_109 ?_
    refine lv_aload_n hx hb dX2_packet_110 rfl (lv_at hl 0 rfl) ?_
    refine va_get (D := D) (ci := 2) (v := .ref (ma 8)) (C := RX2) (T := TX2) (N := 18) hx hb hts (fun w h => cwc w (in_X2 w h)) hown hK hP 0 rfl rfl 12 (by decide) hk_35 (fun _ h9 => h9) rfl dX2_packet_111 ?_
    refine lv_iload hx hb dX2_packet_114 (lv_at hl 2 rfl) ?_
    obtain ⟨h_14, hF⟩ := gd_some hF
    refine va_iald (f := u.2.2.2.2.2.2.2.2.2.2.2.2.1) hx hb hK hP 8 0 rfl rfl (inb_in h_14) dX2_packet_116 ?_
    refine lv_icmp_ge (tgt := 140) hx hb dX2_packet_117 (by decide) (fun c_15 => ?_) (fun c_15 => ?_)
    · replace hF := (if_pos c_15).symm.trans hF
      exact w_M_packet_J140 hx hb hr hml hown hts hlocks hA hK x4 x5 x6 x8 u _ _ hF H locs ls hP hD hS (lv_sub hl [0, 1, 2, 3, 4] rfl)
    · replace hF := (if_neg c_15).symm.trans hF
      refine lv_aload_n hx hb dX2_packet_120 rfl (lv_at hl 0 rfl) ?_
      refine lv_iload hx hb dX2_packet_121 (lv_at hl 2 rfl) ?_
      refine lv_iload hx hb dX2_packet_123 (lv_at hl 3 rfl) ?_
      refine lv_iload hx hb dX2_packet_125 (lv_at hl 4 rfl) ?_
      refine lv_iadd hx hb dX2_packet_127 ?_
      obtain ⟨r21, u20, hc_22, hF⟩ := bi_some hF
      refine kc_i (W1 := MW cI ma u) (va_runV (As := [.int x5, .int (x6 + x8)]) (rest := []) ⟨hx, hb, hml, hown, hts⟩ (c_M_isFirst l D cI cR ma H.size x5 (x6 + x8) u r21 u20 hc_22) (cwV 2 hts (gV cwc mw_413 mw_414 mw_488 mw_3 mw_415) rfl rfl rfl (by decide +kernel) ⟨(Nat.le_of_ble_eq_true rfl), (Nat.le_of_ble_eq_true rfl)⟩) (kp_V (ci := 2) (q := (RX2, TX2, 18)) hK hP hD (sb_id _) rfl rfl) rfl rfl hl.1 rfl (lv_room (Nat.le_of_ble_eq_true rfl)) dX2_packet_128 ⟨(Nat.le_of_ble_eq_true rfl), (Nat.le_of_ble_eq_true rfl)⟩) hP hD hS hA (sb_id _) (jn_same (sb_id _)) (fun H locs hP hD hS => ?_)
      refine lv_if_ne (tgt := 140) hx hb dX2_packet_131 (by decide) (fun c_23 => ?_) (fun c_23 => ?_)
      · replace hF := (if_neg c_23).symm.trans hF
        exact w_M_packet_J140 hx hb hr hml hown hts hlocks hA hK x4 x5 x6 x8 u _ _ hF H locs ls hP hD hS (lv_sub hl [0, 1, 2, 3, 4] rfl)
      · replace hF := (if_pos c_23).symm.trans hF
        refine lv_iinc (v := (x8 + (1 : Int32))) (lv' := [(8, .int (x8 + (1 : Int32))), (0, .ref (ma 0)), (4, .int x4), (5, .int x5), (6, .int x6)]) hx hb dX2_packet_134 hl (k := 4) rfl rfl (by decide) rfl (fun ls hl => ?_)
        refine lv_goto (tgt := 105) hx hb dX2_packet_137 (by decide) ?_
        exact ih x4 x5 x6 (x8 + (1 : Int32)) u _ _ hF H locs ls hP hD hS (lv_sub hl [1, 2, 3, 4, 0] rfl)
set_option maxHeartbeats 4000000 in
set_option maxRecDepth 100000 in
theorem w_M_packet_L55 {p : Program} {l : Launch} {e : Env} {s : State} {m : MethodId} {args : Array Value} {below : List Frame} {meth : Method} {c : Code} {A : Nat → Prop} {D : va_G} {cI cR : ClassId} {ma : Nat → Nat} (hx : p.tables.exec = Jvm.exec) (hb : c.code = cX2_packet) (hr : meth.sig.returnType = (some .int)) (hml : c.maxLocals = 9) (hown : s.vm.findClass RX2 = some m.cls) (hts : ∀ w ∈ wsX2_packet, w.before args s = true) (hlocks : meth.locks = false) (hA : ∀ q : Nat, s.heap.size ≤ q → A q) (hK : va_K D vwCl (TY cI cR) s) : ∀ (n : Nat) (x4 x5 x6 x7 : Int32) (u : MSt) (r : Int32) (u' : MSt), F_M_packet_L55 n x4 x5 x6 x7 u = some (r, u') → ∀ (H : Heap) (locs : List Loc) (ls : Array Slot), va_P D vwCl (MW cI ma u) H → va_D A (MW cI ma u) → va_S A s.heap H locs → lv_has ls 9 [(0, .ref (ma 0)), (4, .int x4), (5, .int x5), (6, .int x6), (7, .int x7)] → W p l e (headSpec wsX2_packet ({ frames := 2, cells := 0, slots := 0, locals := 43 })).room s m args below meth c H locs 0 0 (MQ below (QI D (TY cI cR) A (fun v => MW cI ma v) r u') args s 0 0 A) (F0 m 55 ls []) := by
  have hk_54 := (hts _ (cwc _ mw_335))
  have hk_35 := (hts _ (cwc _ mw_347))
  have hk_42 := (hts _ (cwc _ mw_349))
  have hk_39 := (hts _ (cwc _ mw_348))
  intro n
  induction n with
  | zero =>
    intro x4 x5 x6 x7 u r u' hF
    rw [F_M_packet_L55] at hF
    exact absurd hF (by simp)
  | succ n ih =>
    intro x4 x5 x6 x7 u r u' hF H locs ls hP hD hS hl
    rw [F_M_packet_L55] at hF
    refine lv_iload hx hb dX2_packet_55 (lv_at hl 3 rfl) ?_
    refine lv_aload_n hx hb dX2_packet_57 rfl (lv_at hl 0 rfl) ?_
    refine va_get (D := D) (ci := 2) (v := .ref (ma 8)) (C := RX2) (T := TX2) (N := 18) hx hb hts (fun w h => cwc w (in_X2 w h)) hown hK hP 0 rfl rfl 12 (by decide) hk_35 (fun _ h9 => h9) rfl dX2_packet_58 ?_
    refine lv_iload hx hb dX2_packet_61 (lv_at hl 2 rfl) ?_
    obtain ⟨h_11, hF⟩ := gd_some hF
    refine va_iald (f := u.2.2.2.2.2.2.2.2.2.2.2.2.1) hx hb hK hP 8 0 rfl rfl (inb_in h_11) dX2_packet_63 ?_
    refine lv_icmp_ge (tgt := 92) hx hb dX2_packet_64 (by decide) (fun c_12 => ?_) (fun c_12 => ?_)
    · replace hF := (if_pos c_12).symm.trans hF
      refine lv_iload hx hb dX2_packet_92 (lv_at hl 4 rfl) ?_
      refine lv_if_le (tgt := 99) hx hb dX2_packet_94 (by decide) (fun c_13 => ?_) (fun c_13 => ?_)
      · replace hF := (if_pos c_13).symm.trans hF
        refine lv_iinc (v := (x6 + (-1 : Int32))) (lv' := [(6, .int (x6 + (-1 : Int32))), (0, .ref (ma 0)), (4, .int x4), (5, .int x5), (7, .int x7)]) hx hb dX2_packet_99 hl (k := 3) rfl rfl (by decide) rfl (fun ls hl => ?_)
        refine lv_iconst (v := (1 : Int32)) hx hb dX2_packet_102 (by decide +kernel) ?_
        refine lv_istore (lv' := [(8, .int (1 : Int32)), (6, .int (x6 + (-1 : Int32))), (0, .ref (ma 0)), (4, .int x4), (5, .int x5), (7, .int x7)]) hx hb dX2_packet_103 hl (by decide) rfl (fun ls hl => ?_)
        exact w_M_packet_L105 hx hb hr hml hown hts hlocks hA hK 1001 x4 x5 (x6 + (-1 : Int32)) (1 : Int32) u _ _ hF H locs ls hP hD hS (lv_sub hl [2, 3, 4, 1, 0] rfl)
      · replace hF := (if_neg c_13).symm.trans hF
        refine lv_iconst (v := (-1 : Int32)) hx hb dX2_packet_97 (by decide +kernel) ?_
        cases hF
        refine W.widen (k := 0) (n := 0) (Nat.le_of_ble_eq_true rfl) (Nat.le_of_ble_eq_true rfl) ?_
        exact W.iret hx hb hr (fun t ht hW => ⟨⟨_, _, rfl, ⟨rfl, rfl⟩, by rw [ht]; exact hP, va_K.moved hW.alike hK, hD⟩, hS.F ht⟩) hS.2.2 dX2_packet_98
    · replace hF := (if_neg c_12).symm.trans hF
      refine lv_iload hx hb dX2_packet_67 (lv_at hl 4 rfl) ?_
      refine lv_if_le (tgt := 92) hx hb dX2_packet_69 (by decide) (fun c_24 => ?_) (fun c_24 => ?_)
      · replace hF := (if_pos c_24).symm.trans hF
        refine lv_iload hx hb dX2_packet_92 (lv_at hl 4 rfl) ?_
        refine lv_if_le (tgt := 99) hx hb dX2_packet_94 (by decide) (fun c_25 => ?_) (fun c_25 => ?_)
        · replace hF := (if_pos c_25).symm.trans hF
          refine lv_iinc (v := (x6 + (-1 : Int32))) (lv' := [(6, .int (x6 + (-1 : Int32))), (0, .ref (ma 0)), (4, .int x4), (5, .int x5), (7, .int x7)]) hx hb dX2_packet_99 hl (k := 3) rfl rfl (by decide) rfl (fun ls hl => ?_)
          refine lv_iconst (v := (1 : Int32)) hx hb dX2_packet_102 (by decide +kernel) ?_
          refine lv_istore (lv' := [(8, .int (1 : Int32)), (6, .int (x6 + (-1 : Int32))), (0, .ref (ma 0)), (4, .int x4), (5, .int x5), (7, .int x7)]) hx hb dX2_packet_103 hl (by decide) rfl (fun ls hl => ?_)
          exact w_M_packet_L105 hx hb hr hml hown hts hlocks hA hK 1001 x4 x5 (x6 + (-1 : Int32)) (1 : Int32) u _ _ hF H locs ls hP hD hS (lv_sub hl [2, 3, 4, 1, 0] rfl)
        · replace hF := (if_neg c_25).symm.trans hF
          refine lv_iconst (v := (-1 : Int32)) hx hb dX2_packet_97 (by decide +kernel) ?_
          cases hF
          refine W.widen (k := 0) (n := 0) (Nat.le_of_ble_eq_true rfl) (Nat.le_of_ble_eq_true rfl) ?_
          exact W.iret hx hb hr (fun t ht hW => ⟨⟨_, _, rfl, ⟨rfl, rfl⟩, by rw [ht]; exact hP, va_K.moved hW.alike hK, hD⟩, hS.F ht⟩) hS.2.2 dX2_packet_98
      · replace hF := (if_neg c_24).symm.trans hF
        refine lv_aload_n hx hb dX2_packet_72 rfl (lv_at hl 0 rfl) ?_
        refine lv_iload hx hb dX2_packet_73 (lv_at hl 2 rfl) ?_
        refine lv_iload hx hb dX2_packet_75 (lv_at hl 3 rfl) ?_
        obtain ⟨r27, u26, hc_28, hF⟩ := bi_some hF
        refine kc_i (W1 := MW cI ma u) (va_runV (As := [.int x5, .int x6]) (rest := []) ⟨hx, hb, hml, hown, hts⟩ (c_M_isFirst l D cI cR ma H.size x5 x6 u r27 u26 hc_28) (cwV 2 hts (gV cwc mw_413 mw_414 mw_488 mw_3 mw_415) rfl rfl rfl (by decide +kernel) ⟨(Nat.le_of_ble_eq_true rfl), (Nat.le_of_ble_eq_true rfl)⟩) (kp_V (ci := 2) (q := (RX2, TX2, 18)) hK hP hD (sb_id _) rfl rfl) rfl rfl hl.1 rfl (lv_room (Nat.le_of_ble_eq_true rfl)) dX2_packet_77 ⟨(Nat.le_of_ble_eq_true rfl), (Nat.le_of_ble_eq_true rfl)⟩) hP hD hS hA (sb_id _) (jn_same (sb_id _)) (fun H locs hP hD hS => ?_)
        refine lv_if_eq (tgt := 86) hx hb dX2_packet_80 (by decide) (fun c_29 => ?_) (fun c_29 => ?_)
        · replace hF := (if_pos c_29).symm.trans hF
          refine lv_iinc (v := (x6 + (1 : Int32))) (lv' := [(6, .int (x6 + (1 : Int32))), (0, .ref (ma 0)), (4, .int x4), (5, .int x5), (7, .int x7)]) hx hb dX2_packet_86 hl (k := 3) rfl rfl (by decide) rfl (fun ls hl => ?_)
          refine lv_goto (tgt := 55) hx hb dX2_packet_89 (by decide) ?_
          exact ih x4 x5 (x6 + (1 : Int32)) x7 u _ _ hF H locs ls hP hD hS (lv_sub hl [1, 2, 3, 0, 4] rfl)
        · replace hF := (if_neg c_29).symm.trans hF
          refine lv_iinc (v := (x7 + (-1 : Int32))) (lv' := [(7, .int (x7 + (-1 : Int32))), (0, .ref (ma 0)), (4, .int x4), (5, .int x5), (6, .int x6)]) hx hb dX2_packet_83 hl (k := 4) rfl rfl (by decide) rfl (fun ls hl => ?_)
          refine lv_iinc (v := (x6 + (1 : Int32))) (lv' := [(6, .int (x6 + (1 : Int32))), (7, .int (x7 + (-1 : Int32))), (0, .ref (ma 0)), (4, .int x4), (5, .int x5)]) hx hb dX2_packet_86 hl (k := 4) rfl rfl (by decide) rfl (fun ls hl => ?_)
          refine lv_goto (tgt := 55) hx hb dX2_packet_89 (by decide) ?_
          exact ih x4 x5 (x6 + (1 : Int32)) (x7 + (-1 : Int32)) u _ _ hF H locs ls hP hD hS (lv_sub hl [2, 3, 4, 0, 1] rfl)
set_option maxHeartbeats 4000000 in
set_option maxRecDepth 100000 in
theorem c_M_packet (l : Launch) (D : va_G) (cI cR : ClassId) (ma : Nat → Nat) (sz : Nat) (p1 : Int32) (p2 : Int32) (p3 : Int32) (p4 : Int32) (u : MSt) (r : Int32) (u' : MSt) (hF : F_M_packet p1 p2 p3 p4 u = some (r, u')) : Met l yX2_packet wsX2_packet ({ frames := 2, cells := 0, slots := 0, locals := 43 }) (va_Pc [.ref (ma 0), .int p1, .int p2, .int p3, .int p4] (PRE D (TY cI cR) (MW cI ma u) sz)) (QI D (TY cI cR) (va_A (MW cI ma u) sz) (fun v => MW cI ma v) r u') 0 0 (va_A (MW cI ma u) sz) := by
  refine Met.ofW (cc := cX2_packet) (maxL := 9) (ret := (some .int)) (by decide) rfl ?_
  intro p e s m args below meth c s₁ B hml hv
  obtain ⟨rfl, hsz, hP, hK, hD0⟩ := hv
  have hx := B.exec
  have hb := B.bytes
  have hr := B.returns
  have hts := atoms_spec (ws := wsX2_packet) B.pre
  have hown : s.vm.findClass RX2 = some m.cls := findClass_of_methodNamed B.named
  have hlocks := B.notSynchronized
  subst hsz
  have hD := hD0.self (sz := s.heap.size)
  generalize hAe : va_A (MW cI ma u) s.heap.size = A at hD ⊢
  have hA : ∀ q : Nat, s.heap.size ≤ q → A q := fun q h => by rw [← hAe]; exact Or.inr h
  have hS : va_S A s.heap s.heap [] := va_S.rf
  replace hP : va_P D vwCl (MW cI ma u) s.heap := hP
  have hl := lv_entry ([.ref (ma 0), .int p1, .int p2, .int p3, .int p4]) (n := 9) (Nat.le_of_ble_eq_true rfl)
  rw [lg_entry_eq]
  generalize (lg_sl ([.ref (ma 0), .int p1, .int p2, .int p3, .int p4]) ++ List.replicate (9 - (lg_sl ([.ref (ma 0), .int p1, .int p2, .int p3, .int p4])).length) Slot.unset).toArray = ls at hl ⊢
  replace hl : lv_has ls 9 [(0, .ref (ma 0)), (1, .int p1), (2, .int p2), (3, .int p3), (4, .int p4)] := hl
  have hk_54 := (hts _ (cwc _ mw_335))
  have hk_35 := (hts _ (cwc _ mw_347))
  have hk_42 := (hts _ (cwc _ mw_349))
  have hk_39 := (hts _ (cwc _ mw_348))
  unfold F_M_packet at hF
  refine (?_ : ∀ (H : Heap) (locs : List Loc), va_P D vwCl (MW cI ma u) H → va_S A s.heap H locs → W p l e _ s m _ below meth c H locs 0 0 _ (F0 m 0 ls [])) s.heap [] hP hS
  intro H locs hP hS
  refine lv_aload_n hx hb dX2_packet_0 rfl (lv_at hl 0 rfl) ?_
  refine lv_iconst (v := (0 : Int32)) hx hb dX2_packet_1 (by decide +kernel) ?_
  refine va_put (D := D) (ci := 2) (v := .int (0 : Int32)) (ty := .int) (C := RX2) (T := TX2) (N := 18) hx hb hts (fun w h => cwc w (in_X2 w h)) tyX2 tyX2_ok nmX2 hown hK hP hD hS 0 rfl rfl 0 (by decide) hk_54 (fun _ h9 => h9) rfl (by decide +kernel) rfl rfl (Nat.le_of_ble_eq_true rfl) dX2_packet_2 (fun H locs hP hD hS => ?_)
  replace hP : va_P D vwCl (MW cI ma ((0 : Int32), u.2.1, u.2.2.1, u.2.2.2.1, u.2.2.2.2.1, u.2.2.2.2.2.1, u.2.2.2.2.2.2.1, u.2.2.2.2.2.2.2.1, u.2.2.2.2.2.2.2.2.1, u.2.2.2.2.2.2.2.2.2.1, u.2.2.2.2.2.2.2.2.2.2.1, u.2.2.2.2.2.2.2.2.2.2.2.1, u.2.2.2.2.2.2.2.2.2.2.2.2.1, u.2.2.2.2.2.2.2.2.2.2.2.2.2.1, u.2.2.2.2.2.2.2.2.2.2.2.2.2.2.1, u.2.2.2.2.2.2.2.2.2.2.2.2.2.2.2.1, u.2.2.2.2.2.2.2.2.2.2.2.2.2.2.2.2.1, u.2.2.2.2.2.2.2.2.2.2.2.2.2.2.2.2.2)) H := hP
  replace hD : va_D A (MW cI ma ((0 : Int32), u.2.1, u.2.2.1, u.2.2.2.1, u.2.2.2.2.1, u.2.2.2.2.2.1, u.2.2.2.2.2.2.1, u.2.2.2.2.2.2.2.1, u.2.2.2.2.2.2.2.2.1, u.2.2.2.2.2.2.2.2.2.1, u.2.2.2.2.2.2.2.2.2.2.1, u.2.2.2.2.2.2.2.2.2.2.2.1, u.2.2.2.2.2.2.2.2.2.2.2.2.1, u.2.2.2.2.2.2.2.2.2.2.2.2.2.1, u.2.2.2.2.2.2.2.2.2.2.2.2.2.2.1, u.2.2.2.2.2.2.2.2.2.2.2.2.2.2.2.1, u.2.2.2.2.2.2.2.2.2.2.2.2.2.2.2.2.1, u.2.2.2.2.2.2.2.2.2.2.2.2.2.2.2.2.2)) := hD
  refine lv_aload_n hx hb dX2_packet_5 rfl (lv_at hl 0 rfl) ?_
  refine lv_iload_n hx hb dX2_packet_6 rfl (lv_at hl 1 rfl) ?_
  refine lv_iload_n hx hb dX2_packet_7 rfl (lv_at hl 2 rfl) ?_
  obtain ⟨r2, u1, hc_3, hF⟩ := bi_some hF
  refine kc_i (W1 := MW cI ma ((0 : Int32), u.2.1, u.2.2.1, u.2.2.2.1, u.2.2.2.2.1, u.2.2.2.2.2.1, u.2.2.2.2.2.2.1, u.2.2.2.2.2.2.2.1, u.2.2.2.2.2.2.2.2.1, u.2.2.2.2.2.2.2.2.2.1, u.2.2.2.2.2.2.2.2.2.2.1, u.2.2.2.2.2.2.2.2.2.2.2.1, u.2.2.2.2.2.2.2.2.2.2.2.2.1, u.2.2.2.2.2.2.2.2.2.2.2.2.2.1, u.2.2.2.2.2.2.2.2.2.2.2.2.2.2.1, u.2.2.2.2.2.2.2.2.2.2.2.2.2.2.2.1, u.2.2.2.2.2.2.2.2.2.2.2.2.2.2.2.2.1, u.2.2.2.2.2.2.2.2.2.2.2.2.2.2.2.2.2)) (va_runV (As := [.int p1, .int p2]) (rest := []) ⟨hx, hb, hml, hown, hts⟩ (c_M_rowOf l D cI cR ma H.size p1 p2 ((0 : Int32), u.2.1, u.2.2.1, u.2.2.2.1, u.2.2.2.2.1, u.2.2.2.2.2.1, u.2.2.2.2.2.2.1, u.2.2.2.2.2.2.2.1, u.2.2.2.2.2.2.2.2.1, u.2.2.2.2.2.2.2.2.2.1, u.2.2.2.2.2.2.2.2.2.2.1, u.2.2.2.2.2.2.2.2.2.2.2.1, u.2.2.2.2.2.2.2.2.2.2.2.2.1, u.2.2.2.2.2.2.2.2.2.2.2.2.2.1, u.2.2.2.2.2.2.2.2.2.2.2.2.2.2.1, u.2.2.2.2.2.2.2.2.2.2.2.2.2.2.2.1, u.2.2.2.2.2.2.2.2.2.2.2.2.2.2.2.2.1, u.2.2.2.2.2.2.2.2.2.2.2.2.2.2.2.2.2) r2 u1 hc_3) (cwV 2 hts (gV cwc mw_457 mw_458 mw_492 mw_3 mw_459) rfl rfl rfl (by decide +kernel) ⟨(Nat.le_of_ble_eq_true rfl), (Nat.le_of_ble_eq_true rfl)⟩) (kp_V (ci := 2) (q := (RX2, TX2, 18)) hK hP hD (sb_id _) rfl rfl) rfl rfl hl.1 rfl (lv_room (Nat.le_of_ble_eq_true rfl)) dX2_packet_8 ⟨(Nat.le_of_ble_eq_true rfl), (Nat.le_of_ble_eq_true rfl)⟩) hP hD hS hA (sb_id _) (jn_same (sb_id _)) (fun H locs hP hD hS => ?_)
  refine lv_istore (lv' := [(5, .int r2), (0, .ref (ma 0)), (1, .int p1), (2, .int p2), (3, .int p3), (4, .int p4)]) hx hb dX2_packet_11 hl (by decide) rfl (fun ls hl => ?_)
  refine lv_iload hx hb dX2_packet_13 (lv_at hl 0 rfl) ?_
  refine lv_iconst (v := (-1 : Int32)) hx hb dX2_packet_15 (by decide +kernel) ?_
  refine lv_icmp_eq (tgt := 45) hx hb dX2_packet_16 (by decide) (fun c_4 => ?_) (fun c_4 => ?_)
  · replace hF := (if_pos c_4).symm.trans hF
    refine lv_iconst (v := (-1 : Int32)) hx hb dX2_packet_45 (by decide +kernel) ?_
    cases hF
    refine W.widen (k := 0) (n := 0) (Nat.le_of_ble_eq_true rfl) (Nat.le_of_ble_eq_true rfl) ?_
    exact W.iret hx hb hr (fun t ht hW => ⟨⟨_, _, rfl, ⟨rfl, rfl⟩, by rw [ht]; exact hP, va_K.moved hW.alike hK, hD⟩, hS.F ht⟩) hS.2.2 dX2_packet_46
  · replace hF := (if_neg c_4).symm.trans hF
    refine lv_iload_n hx hb dX2_packet_19 rfl (lv_at hl 4 rfl) ?_
    refine lv_if_lt (tgt := 45) hx hb dX2_packet_20 (by decide) (fun c_5 => ?_) (fun c_5 => ?_)
    · replace hF := (if_pos c_5).symm.trans hF
      refine lv_iconst (v := (-1 : Int32)) hx hb dX2_packet_45 (by decide +kernel) ?_
      cases hF
      refine W.widen (k := 0) (n := 0) (Nat.le_of_ble_eq_true rfl) (Nat.le_of_ble_eq_true rfl) ?_
      exact W.iret hx hb hr (fun t ht hW => ⟨⟨_, _, rfl, ⟨rfl, rfl⟩, by rw [ht]; exact hP, va_K.moved hW.alike hK, hD⟩, hS.F ht⟩) hS.2.2 dX2_packet_46
    · replace hF := (if_neg c_5).symm.trans hF
      refine lv_iload_n hx hb dX2_packet_23 rfl (lv_at hl 4 rfl) ?_
      refine lv_aload_n hx hb dX2_packet_24 rfl (lv_at hl 1 rfl) ?_
      refine va_get (D := D) (ci := 2) (v := .ref (ma 8)) (C := RX2) (T := TX2) (N := 18) hx hb hts (fun w h => cwc w (in_X2 w h)) hown hK hP 0 rfl rfl 12 (by decide) hk_35 (fun _ h9 => h9) rfl dX2_packet_25 ?_
      refine lv_iload hx hb dX2_packet_28 (lv_at hl 0 rfl) ?_
      obtain ⟨h_6, hF⟩ := gd_some hF
      refine va_iald (f := u.2.2.2.2.2.2.2.2.2.2.2.2.1) hx hb hK hP 8 0 rfl rfl (inb_in h_6) dX2_packet_30 ?_
      refine lv_icmp_ge (tgt := 45) hx hb dX2_packet_31 (by decide) (fun c_7 => ?_) (fun c_7 => ?_)
      · replace hF := (if_pos c_7).symm.trans hF
        refine lv_iconst (v := (-1 : Int32)) hx hb dX2_packet_45 (by decide +kernel) ?_
        cases hF
        refine W.widen (k := 0) (n := 0) (Nat.le_of_ble_eq_true rfl) (Nat.le_of_ble_eq_true rfl) ?_
        exact W.iret hx hb hr (fun t ht hW => ⟨⟨_, _, rfl, ⟨rfl, rfl⟩, by rw [ht]; exact hP, va_K.moved hW.alike hK, hD⟩, hS.F ht⟩) hS.2.2 dX2_packet_46
      · replace hF := (if_neg c_7).symm.trans hF
        refine lv_iload hx hb dX2_packet_34 (lv_at hl 5 rfl) ?_
        refine lv_if_lt (tgt := 45) hx hb dX2_packet_36 (by decide) (fun c_8 => ?_) (fun c_8 => ?_)
        · replace hF := (if_pos c_8).symm.trans hF
          refine lv_iconst (v := (-1 : Int32)) hx hb dX2_packet_45 (by decide +kernel) ?_
          cases hF
          refine W.widen (k := 0) (n := 0) (Nat.le_of_ble_eq_true rfl) (Nat.le_of_ble_eq_true rfl) ?_
          exact W.iret hx hb hr (fun t ht hW => ⟨⟨_, _, rfl, ⟨rfl, rfl⟩, by rw [ht]; exact hP, va_K.moved hW.alike hK, hD⟩, hS.F ht⟩) hS.2.2 dX2_packet_46
        · replace hF := (if_neg c_8).symm.trans hF
          refine lv_iload hx hb dX2_packet_39 (lv_at hl 5 rfl) ?_
          refine lv_iconst (v := (2 : Int32)) hx hb dX2_packet_41 (by decide +kernel) ?_
          refine lv_icmp_le (tgt := 47) hx hb dX2_packet_42 (by decide) (fun c_9 => ?_) (fun c_9 => ?_)
          · replace hF := (if_pos c_9).symm.trans hF
            refine lv_iconst (v := (0 : Int32)) hx hb dX2_packet_47 (by decide +kernel) ?_
            refine lv_istore (lv' := [(6, .int (0 : Int32)), (5, .int r2), (0, .ref (ma 0)), (1, .int p1), (2, .int p2), (3, .int p3), (4, .int p4)]) hx hb dX2_packet_48 hl (by decide) rfl (fun ls hl => ?_)
            refine lv_iload_n hx hb dX2_packet_50 rfl (lv_at hl 5 rfl) ?_
            refine lv_iconst (v := (1 : Int32)) hx hb dX2_packet_51 (by decide +kernel) ?_
            refine lv_iadd hx hb dX2_packet_52 ?_
            obtain ⟨v10, ev10, hF⟩ := nm_some hF
            refine W.eq (g2 := F0 m 53 ls (.int v10 :: [])) (congrArg (fun z => F0 m 53 ls (.int z :: [])) ev10.symm) ?_
            refine lv_istore (lv' := [(7, .int v10), (6, .int (0 : Int32)), (5, .int r2), (0, .ref (ma 0)), (1, .int p1), (2, .int p2), (3, .int p3), (4, .int p4)]) hx hb dX2_packet_53 hl (by decide) rfl (fun ls hl => ?_)
            exact w_M_packet_L55 hx hb hr hml hown hts hlocks hA hK 1001 p4 r2 (0 : Int32) v10 ((0 : Int32), u.2.1, u.2.2.1, u.2.2.2.1, u.2.2.2.2.1, u.2.2.2.2.2.1, u.2.2.2.2.2.2.1, u.2.2.2.2.2.2.2.1, u.2.2.2.2.2.2.2.2.1, u.2.2.2.2.2.2.2.2.2.1, u.2.2.2.2.2.2.2.2.2.2.1, u.2.2.2.2.2.2.2.2.2.2.2.1, u.2.2.2.2.2.2.2.2.2.2.2.2.1, u.2.2.2.2.2.2.2.2.2.2.2.2.2.1, u.2.2.2.2.2.2.2.2.2.2.2.2.2.2.1, u.2.2.2.2.2.2.2.2.2.2.2.2.2.2.2.1, u.2.2.2.2.2.2.2.2.2.2.2.2.2.2.2.2.1, u.2.2.2.2.2.2.2.2.2.2.2.2.2.2.2.2.2) _ _ hF H locs ls hP hD hS (lv_sub hl [3, 7, 2, 1, 0] rfl)
          · replace hF := (if_neg c_9).symm.trans hF
            refine lv_iconst (v := (-1 : Int32)) hx hb dX2_packet_45 (by decide +kernel) ?_
            cases hF
            refine W.widen (k := 0) (n := 0) (Nat.le_of_ble_eq_true rfl) (Nat.le_of_ble_eq_true rfl) ?_
            exact W.iret hx hb hr (fun t ht hW => ⟨⟨_, _, rfl, ⟨rfl, rfl⟩, by rw [ht]; exact hP, va_K.moved hW.alike hK, hD⟩, hS.F ht⟩) hS.2.2 dX2_packet_46
def F_M_units (p1 : Int32) (p2 : Int32) (u : MSt) : Option ((Int32) × MSt) := bi (F_M_rowOf p1 p2 ((0 : Int32), u.2.1, u.2.2.1, u.2.2.2.1, u.2.2.2.2.1, u.2.2.2.2.2.1, u.2.2.2.2.2.2.1, u.2.2.2.2.2.2.2.1, u.2.2.2.2.2.2.2.2.1, u.2.2.2.2.2.2.2.2.2.1, u.2.2.2.2.2.2.2.2.2.2.1, u.2.2.2.2.2.2.2.2.2.2.2.1, u.2.2.2.2.2.2.2.2.2.2.2.2.1, u.2.2.2.2.2.2.2.2.2.2.2.2.2.1, u.2.2.2.2.2.2.2.2.2.2.2.2.2.2.1, u.2.2.2.2.2.2.2.2.2.2.2.2.2.2.2.1, u.2.2.2.2.2.2.2.2.2.2.2.2.2.2.2.2.1, u.2.2.2.2.2.2.2.2.2.2.2.2.2.2.2.2.2)) (fun r2 u1 => (if r2 = (-1 : Int32) then some ((-1 : Int32), ((0 : Int32), u.2.1, u.2.2.1, u.2.2.2.1, u.2.2.2.2.1, u.2.2.2.2.2.1, u.2.2.2.2.2.2.1, u.2.2.2.2.2.2.2.1, u.2.2.2.2.2.2.2.2.1, u.2.2.2.2.2.2.2.2.2.1, u.2.2.2.2.2.2.2.2.2.2.1, u.2.2.2.2.2.2.2.2.2.2.2.1, u.2.2.2.2.2.2.2.2.2.2.2.2.1, u.2.2.2.2.2.2.2.2.2.2.2.2.2.1, u.2.2.2.2.2.2.2.2.2.2.2.2.2.2.1, u.2.2.2.2.2.2.2.2.2.2.2.2.2.2.2.1, u.2.2.2.2.2.2.2.2.2.2.2.2.2.2.2.2.1, u.2.2.2.2.2.2.2.2.2.2.2.2.2.2.2.2.2)) else gd (inb r2 49) (some ((u.2.2.2.2.2.2.2.2.2.2.2.2.1 r2.toNatClampNeg), ((0 : Int32), u.2.1, u.2.2.1, u.2.2.2.1, u.2.2.2.2.1, u.2.2.2.2.2.1, u.2.2.2.2.2.2.1, u.2.2.2.2.2.2.2.1, u.2.2.2.2.2.2.2.2.1, u.2.2.2.2.2.2.2.2.2.1, u.2.2.2.2.2.2.2.2.2.2.1, u.2.2.2.2.2.2.2.2.2.2.2.1, u.2.2.2.2.2.2.2.2.2.2.2.2.1, u.2.2.2.2.2.2.2.2.2.2.2.2.2.1, u.2.2.2.2.2.2.2.2.2.2.2.2.2.2.1, u.2.2.2.2.2.2.2.2.2.2.2.2.2.2.2.1, u.2.2.2.2.2.2.2.2.2.2.2.2.2.2.2.2.1, u.2.2.2.2.2.2.2.2.2.2.2.2.2.2.2.2.2)))))
set_option maxHeartbeats 4000000 in
set_option maxRecDepth 100000 in
theorem c_M_units (l : Launch) (D : va_G) (cI cR : ClassId) (ma : Nat → Nat) (sz : Nat) (p1 : Int32) (p2 : Int32) (u : MSt) (r : Int32) (u' : MSt) (hF : F_M_units p1 p2 u = some (r, u')) : Met l yX2_units wsX2_units ({ frames := 2, cells := 0, slots := 0, locals := 43 }) (va_Pc [.ref (ma 0), .int p1, .int p2] (PRE D (TY cI cR) (MW cI ma u) sz)) (QI D (TY cI cR) (va_A (MW cI ma u) sz) (fun v => MW cI ma v) r u') 0 0 (va_A (MW cI ma u) sz) := by
  refine Met.ofW (cc := cX2_units) (maxL := 4) (ret := (some .int)) (by decide) rfl ?_
  intro p e s m args below meth c s₁ B hml hv
  obtain ⟨rfl, hsz, hP, hK, hD0⟩ := hv
  have hx := B.exec
  have hb := B.bytes
  have hr := B.returns
  have hts := atoms_spec (ws := wsX2_units) B.pre
  have hown : s.vm.findClass RX2 = some m.cls := findClass_of_methodNamed B.named
  have hlocks := B.notSynchronized
  subst hsz
  have hD := hD0.self (sz := s.heap.size)
  generalize hAe : va_A (MW cI ma u) s.heap.size = A at hD ⊢
  have hA : ∀ q : Nat, s.heap.size ≤ q → A q := fun q h => by rw [← hAe]; exact Or.inr h
  have hS : va_S A s.heap s.heap [] := va_S.rf
  replace hP : va_P D vwCl (MW cI ma u) s.heap := hP
  have hl := lv_entry ([.ref (ma 0), .int p1, .int p2]) (n := 4) (Nat.le_of_ble_eq_true rfl)
  rw [lg_entry_eq]
  generalize (lg_sl ([.ref (ma 0), .int p1, .int p2]) ++ List.replicate (4 - (lg_sl ([.ref (ma 0), .int p1, .int p2])).length) Slot.unset).toArray = ls at hl ⊢
  replace hl : lv_has ls 4 [(0, .ref (ma 0)), (1, .int p1), (2, .int p2)] := hl
  have hk_54 := (hts _ (cwc _ mw_335))
  have hk_35 := (hts _ (cwc _ mw_347))
  unfold F_M_units at hF
  refine (?_ : ∀ (H : Heap) (locs : List Loc), va_P D vwCl (MW cI ma u) H → va_S A s.heap H locs → W p l e _ s m _ below meth c H locs 0 0 _ (F0 m 0 ls [])) s.heap [] hP hS
  intro H locs hP hS
  refine lv_aload_n hx hb dX2_units_0 rfl (lv_at hl 0 rfl) ?_
  refine lv_iconst (v := (0 : Int32)) hx hb dX2_units_1 (by decide +kernel) ?_
  refine va_put (D := D) (ci := 2) (v := .int (0 : Int32)) (ty := .int) (C := RX2) (T := TX2) (N := 18) hx hb hts (fun w h => cwc w (in_X2 w h)) tyX2 tyX2_ok nmX2 hown hK hP hD hS 0 rfl rfl 0 (by decide) hk_54 (fun _ h9 => h9) rfl (by decide +kernel) rfl rfl (Nat.le_of_ble_eq_true rfl) dX2_units_2 (fun H locs hP hD hS => ?_)
  replace hP : va_P D vwCl (MW cI ma ((0 : Int32), u.2.1, u.2.2.1, u.2.2.2.1, u.2.2.2.2.1, u.2.2.2.2.2.1, u.2.2.2.2.2.2.1, u.2.2.2.2.2.2.2.1, u.2.2.2.2.2.2.2.2.1, u.2.2.2.2.2.2.2.2.2.1, u.2.2.2.2.2.2.2.2.2.2.1, u.2.2.2.2.2.2.2.2.2.2.2.1, u.2.2.2.2.2.2.2.2.2.2.2.2.1, u.2.2.2.2.2.2.2.2.2.2.2.2.2.1, u.2.2.2.2.2.2.2.2.2.2.2.2.2.2.1, u.2.2.2.2.2.2.2.2.2.2.2.2.2.2.2.1, u.2.2.2.2.2.2.2.2.2.2.2.2.2.2.2.2.1, u.2.2.2.2.2.2.2.2.2.2.2.2.2.2.2.2.2)) H := hP
  replace hD : va_D A (MW cI ma ((0 : Int32), u.2.1, u.2.2.1, u.2.2.2.1, u.2.2.2.2.1, u.2.2.2.2.2.1, u.2.2.2.2.2.2.1, u.2.2.2.2.2.2.2.1, u.2.2.2.2.2.2.2.2.1, u.2.2.2.2.2.2.2.2.2.1, u.2.2.2.2.2.2.2.2.2.2.1, u.2.2.2.2.2.2.2.2.2.2.2.1, u.2.2.2.2.2.2.2.2.2.2.2.2.1, u.2.2.2.2.2.2.2.2.2.2.2.2.2.1, u.2.2.2.2.2.2.2.2.2.2.2.2.2.2.1, u.2.2.2.2.2.2.2.2.2.2.2.2.2.2.2.1, u.2.2.2.2.2.2.2.2.2.2.2.2.2.2.2.2.1, u.2.2.2.2.2.2.2.2.2.2.2.2.2.2.2.2.2)) := hD
  refine lv_aload_n hx hb dX2_units_5 rfl (lv_at hl 0 rfl) ?_
  refine lv_iload_n hx hb dX2_units_6 rfl (lv_at hl 1 rfl) ?_
  refine lv_iload_n hx hb dX2_units_7 rfl (lv_at hl 2 rfl) ?_
  obtain ⟨r2, u1, hc_3, hF⟩ := bi_some hF
  refine kc_i (W1 := MW cI ma ((0 : Int32), u.2.1, u.2.2.1, u.2.2.2.1, u.2.2.2.2.1, u.2.2.2.2.2.1, u.2.2.2.2.2.2.1, u.2.2.2.2.2.2.2.1, u.2.2.2.2.2.2.2.2.1, u.2.2.2.2.2.2.2.2.2.1, u.2.2.2.2.2.2.2.2.2.2.1, u.2.2.2.2.2.2.2.2.2.2.2.1, u.2.2.2.2.2.2.2.2.2.2.2.2.1, u.2.2.2.2.2.2.2.2.2.2.2.2.2.1, u.2.2.2.2.2.2.2.2.2.2.2.2.2.2.1, u.2.2.2.2.2.2.2.2.2.2.2.2.2.2.2.1, u.2.2.2.2.2.2.2.2.2.2.2.2.2.2.2.2.1, u.2.2.2.2.2.2.2.2.2.2.2.2.2.2.2.2.2)) (va_runV (As := [.int p1, .int p2]) (rest := []) ⟨hx, hb, hml, hown, hts⟩ (c_M_rowOf l D cI cR ma H.size p1 p2 ((0 : Int32), u.2.1, u.2.2.1, u.2.2.2.1, u.2.2.2.2.1, u.2.2.2.2.2.1, u.2.2.2.2.2.2.1, u.2.2.2.2.2.2.2.1, u.2.2.2.2.2.2.2.2.1, u.2.2.2.2.2.2.2.2.2.1, u.2.2.2.2.2.2.2.2.2.2.1, u.2.2.2.2.2.2.2.2.2.2.2.1, u.2.2.2.2.2.2.2.2.2.2.2.2.1, u.2.2.2.2.2.2.2.2.2.2.2.2.2.1, u.2.2.2.2.2.2.2.2.2.2.2.2.2.2.1, u.2.2.2.2.2.2.2.2.2.2.2.2.2.2.2.1, u.2.2.2.2.2.2.2.2.2.2.2.2.2.2.2.2.1, u.2.2.2.2.2.2.2.2.2.2.2.2.2.2.2.2.2) r2 u1 hc_3) (cwV 2 hts (gV cwc mw_457 mw_458 mw_492 mw_3 mw_459) rfl rfl rfl (by decide +kernel) ⟨(Nat.le_of_ble_eq_true rfl), (Nat.le_of_ble_eq_true rfl)⟩) (kp_V (ci := 2) (q := (RX2, TX2, 18)) hK hP hD (sb_id _) rfl rfl) rfl rfl hl.1 rfl (lv_room (Nat.le_of_ble_eq_true rfl)) dX2_units_8 ⟨(Nat.le_of_ble_eq_true rfl), (Nat.le_of_ble_eq_true rfl)⟩) hP hD hS hA (sb_id _) (jn_same (sb_id _)) (fun H locs hP hD hS => ?_)
  refine lv_istore_n (lv' := [(3, .int r2), (0, .ref (ma 0)), (1, .int p1), (2, .int p2)]) hx hb dX2_units_11 rfl hl (by decide) rfl (fun ls hl => ?_)
  refine lv_iload_n hx hb dX2_units_12 rfl (lv_at hl 0 rfl) ?_
  refine lv_iconst (v := (-1 : Int32)) hx hb dX2_units_13 (by decide +kernel) ?_
  refine lv_icmp_ne (tgt := 21) hx hb dX2_units_14 (by decide) (fun c_4 => ?_) (fun c_4 => ?_)
  · replace hF := (if_neg c_4).symm.trans hF
    refine lv_aload_n hx hb dX2_units_21 rfl (lv_at hl 1 rfl) ?_
    refine va_get (D := D) (ci := 2) (v := .ref (ma 8)) (C := RX2) (T := TX2) (N := 18) hx hb hts (fun w h => cwc w (in_X2 w h)) hown hK hP 0 rfl rfl 12 (by decide) hk_35 (fun _ h9 => h9) rfl dX2_units_22 ?_
    refine lv_iload_n hx hb dX2_units_25 rfl (lv_at hl 0 rfl) ?_
    obtain ⟨h_5, hF⟩ := gd_some hF
    refine va_iald (f := u.2.2.2.2.2.2.2.2.2.2.2.2.1) hx hb hK hP 8 0 rfl rfl (inb_in h_5) dX2_units_26 ?_
    cases hF
    refine W.widen (k := 0) (n := 0) (Nat.le_of_ble_eq_true rfl) (Nat.le_of_ble_eq_true rfl) ?_
    exact W.iret hx hb hr (fun t ht hW => ⟨⟨_, _, rfl, ⟨rfl, rfl⟩, by rw [ht]; exact hP, va_K.moved hW.alike hK, hD⟩, hS.F ht⟩) hS.2.2 dX2_units_27
  · replace hF := (if_pos c_4).symm.trans hF
    refine lv_iconst (v := (-1 : Int32)) hx hb dX2_units_17 (by decide +kernel) ?_
    refine lv_goto (tgt := 27) hx hb dX2_units_18 (by decide) ?_
    cases hF
    refine W.widen (k := 0) (n := 0) (Nat.le_of_ble_eq_true rfl) (Nat.le_of_ble_eq_true rfl) ?_
    exact W.iret hx hb hr (fun t ht hW => ⟨⟨_, _, rfl, ⟨rfl, rfl⟩, by rw [ht]; exact hP, va_K.moved hW.alike hK, hD⟩, hS.F ht⟩) hS.2.2 dX2_units_27
