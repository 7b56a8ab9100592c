def F_M_count_L102 : Nat → Int32 → Int32 → Int32 → Int32 → MSt → Option ((Int32) × MSt)
  | 0, _, _, _, _, _ => none
  | n + 1, x1, x2, x3, x4, u => (if (16 : Int32) ≤ x4 then some (x3, u) else (if x2 = (4 : Int32) then gd (inb x4 16) ((if (u.2.2.2.2.2.2.2.2.2.2.1 x4.toNatClampNeg) = x1 then gd (inb ((32 : Int32) + x4) 49) (nm ((x3 + (u.2.2.2.2.2.2.2.2.2.2.2.2.1 ((32 : Int32) + x4).toNatClampNeg))) (fun v17 => F_M_count_L102 n x1 x2 v17 (x4 + (1 : Int32)) u)) else nm ((x3 + (0 : Int32))) (fun v15 => F_M_count_L102 n x1 x2 v15 (x4 + (1 : Int32)) u))) else some (x3, u)))
def F_M_count_L67 : Nat → Int32 → Int32 → Int32 → Int32 → MSt → Option ((Int32) × MSt)
  | 0, _, _, _, _, _ => none
  | n + 1, x1, x2, x3, x4, u => (if (8 : Int32) ≤ x4 then F_M_count_L102 101 x1 x2 x3 (0 : Int32) u else (if x2 = (3 : Int32) then gd (inb (((4 : Int32) * x4) + x1) 49) (nm ((x3 + (u.2.2.2.2.2.2.2.2.2.2.2.2.1 (((4 : Int32) * x4) + x1).toNatClampNeg))) (fun v20 => F_M_count_L67 n x1 x2 v20 (x4 + (1 : Int32)) u)) else F_M_count_L102 101 x1 x2 x3 (0 : Int32) u))
def F_M_count (p1 : Int32) (p2 : Int32) (u : MSt) : Option ((Int32) × MSt) := bi (F_M_in p1 (4 : Int32) ()) (fun r2 u1 => (if r2 = (0 : Int32) then some ((-1 : Int32), ((0 : Int32), u.2.1, u.2.2.1, u.2.2.2.1, u.2.2.2.2.1, u.2.2.2.2.2.1, u.2.2.2.2.2.2.1, u.2.2.2.2.2.2.2.1, u.2.2.2.2.2.2.2.2.1, u.2.2.2.2.2.2.2.2.2.1, u.2.2.2.2.2.2.2.2.2.2.1, u.2.2.2.2.2.2.2.2.2.2.2.1, u.2.2.2.2.2.2.2.2.2.2.2.2.1, u.2.2.2.2.2.2.2.2.2.2.2.2.2.1, u.2.2.2.2.2.2.2.2.2.2.2.2.2.2.1, u.2.2.2.2.2.2.2.2.2.2.2.2.2.2.2.1, u.2.2.2.2.2.2.2.2.2.2.2.2.2.2.2.2.1, u.2.2.2.2.2.2.2.2.2.2.2.2.2.2.2.2.2)) else bi (F_M_in p2 (5 : Int32) ()) (fun r6 u5 => (if r6 = (0 : Int32) then some ((-1 : Int32), ((0 : Int32), u.2.1, u.2.2.1, u.2.2.2.1, u.2.2.2.2.1, u.2.2.2.2.2.1, u.2.2.2.2.2.2.1, u.2.2.2.2.2.2.2.1, u.2.2.2.2.2.2.2.2.1, u.2.2.2.2.2.2.2.2.2.1, u.2.2.2.2.2.2.2.2.2.2.1, u.2.2.2.2.2.2.2.2.2.2.2.1, u.2.2.2.2.2.2.2.2.2.2.2.2.1, u.2.2.2.2.2.2.2.2.2.2.2.2.2.1, u.2.2.2.2.2.2.2.2.2.2.2.2.2.2.1, u.2.2.2.2.2.2.2.2.2.2.2.2.2.2.2.1, u.2.2.2.2.2.2.2.2.2.2.2.2.2.2.2.2.1, u.2.2.2.2.2.2.2.2.2.2.2.2.2.2.2.2.2)) else (if (3 : Int32) ≤ p2 then F_M_count_L67 101 p1 p2 (0 : Int32) (0 : Int32) ((0 : Int32), u.2.1, u.2.2.1, u.2.2.2.1, u.2.2.2.2.1, u.2.2.2.2.2.1, u.2.2.2.2.2.2.1, u.2.2.2.2.2.2.2.1, u.2.2.2.2.2.2.2.2.1, u.2.2.2.2.2.2.2.2.2.1, u.2.2.2.2.2.2.2.2.2.2.1, u.2.2.2.2.2.2.2.2.2.2.2.1, u.2.2.2.2.2.2.2.2.2.2.2.2.1, u.2.2.2.2.2.2.2.2.2.2.2.2.2.1, u.2.2.2.2.2.2.2.2.2.2.2.2.2.2.1, u.2.2.2.2.2.2.2.2.2.2.2.2.2.2.2.1, u.2.2.2.2.2.2.2.2.2.2.2.2.2.2.2.2.1, u.2.2.2.2.2.2.2.2.2.2.2.2.2.2.2.2.2) else (if p2 = (0 : Int32) then gd (inb p1 4) (some ((u.2.2.2.2.2.2.2.2.2.2.2.2.2.2.2.1 p1.toNatClampNeg), ((0 : Int32), u.2.1, u.2.2.1, u.2.2.2.1, u.2.2.2.2.1, u.2.2.2.2.2.1, u.2.2.2.2.2.2.1, u.2.2.2.2.2.2.2.1, u.2.2.2.2.2.2.2.2.1, u.2.2.2.2.2.2.2.2.2.1, u.2.2.2.2.2.2.2.2.2.2.1, u.2.2.2.2.2.2.2.2.2.2.2.1, u.2.2.2.2.2.2.2.2.2.2.2.2.1, u.2.2.2.2.2.2.2.2.2.2.2.2.2.1, u.2.2.2.2.2.2.2.2.2.2.2.2.2.2.1, u.2.2.2.2.2.2.2.2.2.2.2.2.2.2.2.1, u.2.2.2.2.2.2.2.2.2.2.2.2.2.2.2.2.1, u.2.2.2.2.2.2.2.2.2.2.2.2.2.2.2.2.2))) else (if p2 = (1 : Int32) then gd (inb p1 4) (some ((u.2.2.2.2.2.2.2.2.2.2.2.2.2.2.2.2.1 p1.toNatClampNeg), ((0 : Int32), u.2.1, u.2.2.1, u.2.2.2.1, u.2.2.2.2.1, u.2.2.2.2.2.1, u.2.2.2.2.2.2.1, u.2.2.2.2.2.2.2.1, u.2.2.2.2.2.2.2.2.1, u.2.2.2.2.2.2.2.2.2.1, u.2.2.2.2.2.2.2.2.2.2.1, u.2.2.2.2.2.2.2.2.2.2.2.1, u.2.2.2.2.2.2.2.2.2.2.2.2.1, u.2.2.2.2.2.2.2.2.2.2.2.2.2.1, u.2.2.2.2.2.2.2.2.2.2.2.2.2.2.1, u.2.2.2.2.2.2.2.2.2.2.2.2.2.2.2.1, u.2.2.2.2.2.2.2.2.2.2.2.2.2.2.2.2.1, u.2.2.2.2.2.2.2.2.2.2.2.2.2.2.2.2.2))) else gd (inb p1 4) (some ((u.2.2.2.2.2.2.2.2.2.2.2.2.2.2.2.2.2 p1.toNatClampNeg), ((0 : Int32), u.2.1, u.2.2.1, u.2.2.2.1, u.2.2.2.2.1, u.2.2.2.2.2.1, u.2.2.2.2.2.2.1, u.2.2.2.2.2.2.2.1, u.2.2.2.2.2.2.2.2.1, u.2.2.2.2.2.2.2.2.2.1, u.2.2.2.2.2.2.2.2.2.2.1, u.2.2.2.2.2.2.2.2.2.2.2.1, u.2.2.2.2.2.2.2.2.2.2.2.2.1, u.2.2.2.2.2.2.2.2.2.2.2.2.2.1, u.2.2.2.2.2.2.2.2.2.2.2.2.2.2.1, u.2.2.2.2.2.2.2.2.2.2.2.2.2.2.2.1, u.2.2.2.2.2.2.2.2.2.2.2.2.2.2.2.2.1, u.2.2.2.2.2.2.2.2.2.2.2.2.2.2.2.2.2))))))))))
set_option maxHeartbeats 4000000 in
set_option maxRecDepth 100000 in
theorem w_M_count_L102 {p : Program} {l : Launch} {e : Env} {s : State} {m : MethodId} {args : Array Value} {below : List Frame} {meth : Method} {c : Code} {A : Nat → Prop} {D : va_G} {cI cR : ClassId} {ma : Nat → Nat} (hx : p.tables.exec = Jvm.exec) (hb : c.code = cX2_count) (hr : meth.sig.returnType = (some .int)) (hml : c.maxLocals = 5) (hown : s.vm.findClass RX2 = some m.cls) (hts : ∀ w ∈ wsX2_count, w.before args s = true) (hlocks : meth.locks = false) (hA : ∀ q : Nat, s.heap.size ≤ q → A q) (hK : va_K D vwCl (TY cI cR) s) : ∀ (n : Nat) (x1 x2 x3 x4 : Int32) (u : MSt) (r : Int32) (u' : MSt), F_M_count_L102 n x1 x2 x3 x4 u = some (r, u') → ∀ (H : Heap) (locs : List Loc) (ls : Array Slot), va_P D vwCl (MW cI ma u) H → va_D A (MW cI ma u) → va_S A s.heap H locs → lv_has ls 5 [(0, .ref (ma 0)), (1, .int x1), (2, .int x2), (3, .int x3), (4, .int x4)] → W p l e (headSpec wsX2_count ({ frames := 1, cells := 0, slots := 0, locals := 21 })).room s m args below meth c H locs 0 0 (MQ below (QI D (TY cI cR) A (fun v => MW cI ma v) r u') args s 0 0 A) (F0 m 102 ls []) := by
  have hk_54 := (hts _ (cwc _ mw_335))
  have hk_29 := (hts _ (cwc _ mw_345))
  have hk_35 := (hts _ (cwc _ mw_347))
  have hk_51 := (hts _ (cwc _ mw_352))
  have hk_48 := (hts _ (cwc _ mw_351))
  have hk_45 := (hts _ (cwc _ mw_350))
  intro n
  induction n with
  | zero =>
    intro x1 x2 x3 x4 u r u' hF
    rw [F_M_count_L102] at hF
    exact absurd hF (by simp)
  | succ n ih =>
    intro x1 x2 x3 x4 u r u' hF H locs ls hP hD hS hl
    rw [F_M_count_L102] at hF
    refine lv_iload hx hb dX2_count_102 (lv_at hl 4 rfl) ?_
    refine lv_bipush (v := (16 : Int32)) hx hb dX2_count_104 (by decide +kernel) ?_
    refine lv_icmp_ge (tgt := 148) hx hb dX2_count_106 (by decide) (fun c_11 => ?_) (fun c_11 => ?_)
    · replace hF := (if_pos c_11).symm.trans hF
      refine lv_iload_n hx hb dX2_count_148 rfl (lv_at hl 3 rfl) ?_
      cases hF
      refine W.widen (k := 0) (n := 0) (Nat.le_of_ble_eq_true rfl) (Nat.le_of_ble_eq_true rfl) ?_
      exact W.iret hx hb hr (fun t ht hW => ⟨⟨_, _, rfl, ⟨rfl, rfl⟩, by rw [ht]; exact hP, va_K.moved hW.alike hK, hD⟩, hS.F ht⟩) hS.2.2 dX2_count_149
    · replace hF := (if_neg c_11).symm.trans hF
      refine lv_iload_n hx hb dX2_count_109 rfl (lv_at hl 2 rfl) ?_
      refine lv_iconst (v := (4 : Int32)) hx hb dX2_count_110 (by decide +kernel) ?_
      refine lv_icmp_ne (tgt := 148) hx hb dX2_count_111 (by decide) (fun c_12 => ?_) (fun c_12 => ?_)
      · replace hF := (if_neg c_12).symm.trans hF
        refine lv_iload_n hx hb dX2_count_148 rfl (lv_at hl 3 rfl) ?_
        cases hF
        refine W.widen (k := 0) (n := 0) (Nat.le_of_ble_eq_true rfl) (Nat.le_of_ble_eq_true rfl) ?_
        exact W.iret hx hb hr (fun t ht hW => ⟨⟨_, _, rfl, ⟨rfl, rfl⟩, by rw [ht]; exact hP, va_K.moved hW.alike hK, hD⟩, hS.F ht⟩) hS.2.2 dX2_count_149
      · replace hF := (if_pos c_12).symm.trans hF
        refine lv_iload_n hx hb dX2_count_114 rfl (lv_at hl 3 rfl) ?_
        refine lv_aload_n hx hb dX2_count_115 rfl (lv_at hl 0 rfl) ?_
        refine va_get (D := D) (ci := 2) (v := .ref (ma 6)) (C := RX2) (T := TX2) (N := 18) hx hb hts (fun w h => cwc w (in_X2 w h)) hown hK hP 0 rfl rfl 10 (by decide) hk_29 (fun _ h9 => h9) rfl dX2_count_116 ?_
        refine lv_iload hx hb dX2_count_119 (lv_at hl 4 rfl) ?_
        obtain ⟨h_13, hF⟩ := gd_some hF
        refine va_iald (f := u.2.2.2.2.2.2.2.2.2.2.1) hx hb hK hP 6 0 rfl rfl (inb_in h_13) dX2_count_121 ?_
        refine lv_iload_n hx hb dX2_count_122 rfl (lv_at hl 1 rfl) ?_
        refine lv_icmp_ne (tgt := 139) hx hb dX2_count_123 (by decide) (fun c_14 => ?_) (fun c_14 => ?_)
        · replace hF := (if_neg c_14).symm.trans hF
          refine lv_iconst (v := (0 : Int32)) hx hb dX2_count_139 (by decide +kernel) ?_
          refine lv_iadd hx hb dX2_count_140 ?_
          obtain ⟨v15, ev15, hF⟩ := nm_some hF
          refine W.eq (g2 := F0 m 141 ls (.int v15 :: [])) (congrArg (fun z => F0 m 141 ls (.int z :: [])) ev15.symm) ?_
          refine lv_istore_n (lv' := [(3, .int v15), (0, .ref (ma 0)), (1, .int x1), (2, .int x2), (4, .int x4)]) hx hb dX2_count_141 rfl hl (by decide) rfl (fun ls hl => ?_)
          refine lv_iinc (v := (x4 + (1 : Int32))) (lv' := [(4, .int (x4 + (1 : Int32))), (3, .int v15), (0, .ref (ma 0)), (1, .int x1), (2, .int x2)]) hx hb dX2_count_142 hl (k := 4) rfl rfl (by decide) rfl (fun ls hl => ?_)
          refine lv_goto (tgt := 102) hx hb dX2_count_145 (by decide) ?_
          exact ih x1 x2 v15 (x4 + (1 : Int32)) u _ _ hF H locs ls hP hD hS (lv_sub hl [2, 3, 4, 1, 0] rfl)
        · replace hF := (if_pos c_14).symm.trans hF
          refine lv_aload_n hx hb dX2_count_126 rfl (lv_at hl 0 rfl) ?_
          refine va_get (D := D) (ci := 2) (v := .ref (ma 8)) (C := RX2) (T := TX2) (N := 18) hx hb hts (fun w h => cwc w (in_X2 w h)) hown hK hP 0 rfl rfl 12 (by decide) hk_35 (fun _ h9 => h9) rfl dX2_count_127 ?_
          refine lv_bipush (v := (32 : Int32)) hx hb dX2_count_130 (by decide +kernel) ?_
          refine lv_iload hx hb dX2_count_132 (lv_at hl 4 rfl) ?_
          refine lv_iadd hx hb dX2_count_134 ?_
          obtain ⟨h_16, hF⟩ := gd_some hF
          refine va_iald (f := u.2.2.2.2.2.2.2.2.2.2.2.2.1) hx hb hK hP 8 0 rfl rfl (inb_in h_16) dX2_count_135 ?_
          refine lv_goto (tgt := 140) hx hb dX2_count_136 (by decide) ?_
          refine lv_iadd hx hb dX2_count_140 ?_
          obtain ⟨v17, ev17, hF⟩ := nm_some hF
          refine W.eq (g2 := F0 m 141 ls (.int v17 :: [])) (congrArg (fun z => F0 m 141 ls (.int z :: [])) ev17.symm) ?_
          refine lv_istore_n (lv' := [(3, .int v17), (0, .ref (ma 0)), (1, .int x1), (2, .int x2), (4, .int x4)]) hx hb dX2_count_141 rfl hl (by decide) rfl (fun ls hl => ?_)
          refine lv_iinc (v := (x4 + (1 : Int32))) (lv' := [(4, .int (x4 + (1 : Int32))), (3, .int v17), (0, .ref (ma 0)), (1, .int x1), (2, .int x2)]) hx hb dX2_count_142 hl (k := 4) rfl rfl (by decide) rfl (fun ls hl => ?_)
          refine lv_goto (tgt := 102) hx hb dX2_count_145 (by decide) ?_
          exact ih x1 x2 v17 (x4 + (1 : Int32)) u _ _ hF H locs ls hP hD hS (lv_sub hl [2, 3, 4, 1, 0] rfl)
set_option maxHeartbeats 4000000 in
set_option maxRecDepth 100000 in
theorem w_M_count_L67 {p : Program} {l : Launch} {e : Env} {s : State} {m : MethodId} {args : Array Value} {below : List Frame} {meth : Method} {c : Code} {A : Nat → Prop} {D : va_G} {cI cR : ClassId} {ma : Nat → Nat} (hx : p.tables.exec = Jvm.exec) (hb : c.code = cX2_count) (hr : meth.sig.returnType = (some .int)) (hml : c.maxLocals = 5) (hown : s.vm.findClass RX2 = some m.cls) (hts : ∀ w ∈ wsX2_count, w.before args s = true) (hlocks : meth.locks = false) (hA : ∀ q : Nat, s.heap.size ≤ q → A q) (hK : va_K D vwCl (TY cI cR) s) : ∀ (n : Nat) (x1 x2 x3 x4 : Int32) (u : MSt) (r : Int32) (u' : MSt), F_M_count_L67 n x1 x2 x3 x4 u = some (r, u') → ∀ (H : Heap) (locs : List Loc) (ls : Array Slot), va_P D vwCl (MW cI ma u) H → va_D A (MW cI ma u) → va_S A s.heap H locs → lv_has ls 5 [(0, .ref (ma 0)), (1, .int x1), (2, .int x2), (3, .int x3), (4, .int x4)] → W p l e (headSpec wsX2_count ({ frames := 1, cells := 0, slots := 0, locals := 21 })).room s m args below meth c H locs 0 0 (MQ below (QI D (TY cI cR) A (fun v => MW cI ma v) r u') args s 0 0 A) (F0 m 67 ls []) := by
  have hk_54 := (hts _ (cwc _ mw_335))
  have hk_29 := (hts _ (cwc _ mw_345))
  have hk_35 := (hts _ (cwc _ mw_347))
  have hk_51 := (hts _ (cwc _ mw_352))
  have hk_48 := (hts _ (cwc _ mw_351))
  have hk_45 := (hts _ (cwc _ mw_350))
  intro n
  induction n with
  | zero =>
    intro x1 x2 x3 x4 u r u' hF
    rw [F_M_count_L67] at hF
    exact absurd hF (by simp)
  | succ n ih =>
    intro x1 x2 x3 x4 u r u' hF H locs ls hP hD hS hl
    rw [F_M_count_L67] at hF
    refine lv_iload hx hb dX2_count_67 (lv_at hl 4 rfl) ?_
    refine lv_bipush (v := (8 : Int32)) hx hb dX2_count_69 (by decide +kernel) ?_
    refine lv_icmp_ge (tgt := 99) hx hb dX2_count_71 (by decide) (fun c_10 => ?_) (fun c_10 => ?_)
    · replace hF := (if_pos c_10).symm.trans hF
      refine lv_iconst (v := (0 : Int32)) hx hb dX2_count_99 (by decide +kernel) ?_
      refine lv_istore (lv' := [(4, .int (0 : Int32)), (0, .ref (ma 0)), (1, .int x1), (2, .int x2), (3, .int x3)]) hx hb dX2_count_100 hl (by decide) rfl (fun ls hl => ?_)
      exact w_M_count_L102 hx hb hr hml hown hts hlocks hA hK 101 x1 x2 x3 (0 : Int32) u _ _ hF H locs ls hP hD hS (lv_sub hl [1, 2, 3, 4, 0] rfl)
    · replace hF := (if_neg c_10).symm.trans hF
      refine lv_iload_n hx hb dX2_count_74 rfl (lv_at hl 2 rfl) ?_
      refine lv_iconst (v := (3 : Int32)) hx hb dX2_count_75 (by decide +kernel) ?_
      refine lv_icmp_ne (tgt := 99) hx hb dX2_count_76 (by decide) (fun c_18 => ?_) (fun c_18 => ?_)
      · replace hF := (if_neg c_18).symm.trans hF
        refine lv_iconst (v := (0 : Int32)) hx hb dX2_count_99 (by decide +kernel) ?_
        refine lv_istore (lv' := [(4, .int (0 : Int32)), (0, .ref (ma 0)), (1, .int x1), (2, .int x2), (3, .int x3)]) hx hb dX2_count_100 hl (by decide) rfl (fun ls hl => ?_)
        exact w_M_count_L102 hx hb hr hml hown hts hlocks hA hK 101 x1 x2 x3 (0 : Int32) u _ _ hF H locs ls hP hD hS (lv_sub hl [1, 2, 3, 4, 0] rfl)
      · replace hF := (if_pos c_18).symm.trans hF
        refine lv_iload_n hx hb dX2_count_79 rfl (lv_at hl 3 rfl) ?_
        refine lv_aload_n hx hb dX2_count_80 rfl (lv_at hl 0 rfl) ?_
        refine va_get (D := D) (ci := 2) (v := .ref (ma 8)) (C := RX2) (T := TX2) (N := 18) hx hb hts (fun w h => cwc w (in_X2 w h)) hown hK hP 0 rfl rfl 12 (by decide) hk_35 (fun _ h9 => h9) rfl dX2_count_81 ?_
        refine lv_iconst (v := (4 : Int32)) hx hb dX2_count_84 (by decide +kernel) ?_
        refine lv_iload hx hb dX2_count_85 (lv_at hl 4 rfl) ?_
        refine lv_imul hx hb dX2_count_87 ?_
        refine lv_iload_n hx hb dX2_count_88 rfl (lv_at hl 1 rfl) ?_
        refine lv_iadd hx hb dX2_count_89 ?_
        obtain ⟨h_19, hF⟩ := gd_some hF
        refine va_iald (f := u.2.2.2.2.2.2.2.2.2.2.2.2.1) hx hb hK hP 8 0 rfl rfl (inb_in h_19) dX2_count_90 ?_
        refine lv_iadd hx hb dX2_count_91 ?_
        obtain ⟨v20, ev20, hF⟩ := nm_some hF
        refine W.eq (g2 := F0 m 92 ls (.int v20 :: [])) (congrArg (fun z => F0 m 92 ls (.int z :: [])) ev20.symm) ?_
        refine lv_istore_n (lv' := [(3, .int v20), (0, .ref (ma 0)), (1, .int x1), (2, .int x2), (4, .int x4)]) hx hb dX2_count_92 rfl hl (by decide) rfl (fun ls hl => ?_)
        refine lv_iinc (v := (x4 + (1 : Int32))) (lv' := [(4, .int (x4 + (1 : Int32))), (3, .int v20), (0, .ref (ma 0)), (1, .int x1), (2, .int x2)]) hx hb dX2_count_93 hl (k := 4) rfl rfl (by decide) rfl (fun ls hl => ?_)
        refine lv_goto (tgt := 67) hx hb dX2_count_96 (by decide) ?_
        exact ih x1 x2 v20 (x4 + (1 : Int32)) u _ _ hF H locs ls hP hD hS (lv_sub hl [2, 3, 4, 1, 0] rfl)
set_option maxHeartbeats 4000000 in
set_option maxRecDepth 100000 in
theorem c_M_count (l : Launch) (D : va_G) (cI cR : ClassId) (ma : Nat → Nat) (sz : Nat) (p1 : Int32) (p2 : Int32) (u : MSt) (r : Int32) (u' : MSt) (hF : F_M_count p1 p2 u = some (r, u')) : Met l yX2_count wsX2_count ({ frames := 1, cells := 0, slots := 0, locals := 21 }) (va_Pc [.ref (ma 0), .int p1, .int p2] (PRE D (TY cI cR) (MW cI ma u) sz)) (QI D (TY cI cR) (va_A (MW cI ma u) sz) (fun v => MW cI ma v) r u') 0 0 (va_A (MW cI ma u) sz) := by
  refine Met.ofW (cc := cX2_count) (maxL := 5) (ret := (some .int)) (by decide) rfl ?_
  intro p e s m args below meth c s₁ B hml hv
  obtain ⟨rfl, hsz, hP, hK, hD0⟩ := hv
  have hx := B.exec
  have hb := B.bytes
  have hr := B.returns
  have hts := atoms_spec (ws := wsX2_count) B.pre
  have hown : s.vm.findClass RX2 = some m.cls := findClass_of_methodNamed B.named
  have hlocks := B.notSynchronized
  subst hsz
  have hD := hD0.self (sz := s.heap.size)
  generalize hAe : va_A (MW cI ma u) s.heap.size = A at hD ⊢
  have hA : ∀ q : Nat, s.heap.size ≤ q → A q := fun q h => by rw [← hAe]; exact Or.inr h
  have hS : va_S A s.heap s.heap [] := va_S.rf
  replace hP : va_P D vwCl (MW cI ma u) s.heap := hP
  have hl := lv_entry ([.ref (ma 0), .int p1, .int p2]) (n := 5) (Nat.le_of_ble_eq_true rfl)
  rw [lg_entry_eq]
  generalize (lg_sl ([.ref (ma 0), .int p1, .int p2]) ++ List.replicate (5 - (lg_sl ([.ref (ma 0), .int p1, .int p2])).length) Slot.unset).toArray = ls at hl ⊢
  replace hl : lv_has ls 5 [(0, .ref (ma 0)), (1, .int p1), (2, .int p2)] := hl
  have hk_54 := (hts _ (cwc _ mw_335))
  have hk_29 := (hts _ (cwc _ mw_345))
  have hk_35 := (hts _ (cwc _ mw_347))
  have hk_51 := (hts _ (cwc _ mw_352))
  have hk_48 := (hts _ (cwc _ mw_351))
  have hk_45 := (hts _ (cwc _ mw_350))
  unfold F_M_count at hF
  refine (?_ : ∀ (H : Heap) (locs : List Loc), va_P D vwCl (MW cI ma u) H → va_S A s.heap H locs → W p l e _ s m _ below meth c H locs 0 0 _ (F0 m 0 ls [])) s.heap [] hP hS
  intro H locs hP hS
  refine lv_aload_n hx hb dX2_count_0 rfl (lv_at hl 0 rfl) ?_
  refine lv_iconst (v := (0 : Int32)) hx hb dX2_count_1 (by decide +kernel) ?_
  refine va_put (D := D) (ci := 2) (v := .int (0 : Int32)) (ty := .int) (C := RX2) (T := TX2) (N := 18) hx hb hts (fun w h => cwc w (in_X2 w h)) tyX2 tyX2_ok nmX2 hown hK hP hD hS 0 rfl rfl 0 (by decide) hk_54 (fun _ h9 => h9) rfl (by decide +kernel) rfl rfl (Nat.le_of_ble_eq_true rfl) dX2_count_2 (fun H locs hP hD hS => ?_)
  replace hP : va_P D vwCl (MW cI ma ((0 : Int32), u.2.1, u.2.2.1, u.2.2.2.1, u.2.2.2.2.1, u.2.2.2.2.2.1, u.2.2.2.2.2.2.1, u.2.2.2.2.2.2.2.1, u.2.2.2.2.2.2.2.2.1, u.2.2.2.2.2.2.2.2.2.1, u.2.2.2.2.2.2.2.2.2.2.1, u.2.2.2.2.2.2.2.2.2.2.2.1, u.2.2.2.2.2.2.2.2.2.2.2.2.1, u.2.2.2.2.2.2.2.2.2.2.2.2.2.1, u.2.2.2.2.2.2.2.2.2.2.2.2.2.2.1, u.2.2.2.2.2.2.2.2.2.2.2.2.2.2.2.1, u.2.2.2.2.2.2.2.2.2.2.2.2.2.2.2.2.1, u.2.2.2.2.2.2.2.2.2.2.2.2.2.2.2.2.2)) H := hP
  replace hD : va_D A (MW cI ma ((0 : Int32), u.2.1, u.2.2.1, u.2.2.2.1, u.2.2.2.2.1, u.2.2.2.2.2.1, u.2.2.2.2.2.2.1, u.2.2.2.2.2.2.2.1, u.2.2.2.2.2.2.2.2.1, u.2.2.2.2.2.2.2.2.2.1, u.2.2.2.2.2.2.2.2.2.2.1, u.2.2.2.2.2.2.2.2.2.2.2.1, u.2.2.2.2.2.2.2.2.2.2.2.2.1, u.2.2.2.2.2.2.2.2.2.2.2.2.2.1, u.2.2.2.2.2.2.2.2.2.2.2.2.2.2.1, u.2.2.2.2.2.2.2.2.2.2.2.2.2.2.2.1, u.2.2.2.2.2.2.2.2.2.2.2.2.2.2.2.2.1, u.2.2.2.2.2.2.2.2.2.2.2.2.2.2.2.2.2)) := hD
  refine lv_iload_n hx hb dX2_count_5 rfl (lv_at hl 1 rfl) ?_
  refine lv_iconst (v := (4 : Int32)) hx hb dX2_count_6 (by decide +kernel) ?_
  obtain ⟨r2, u1, hc_3, hF⟩ := bi_some hF
  refine kc_i (W1 := MW cI ma ((0 : Int32), u.2.1, u.2.2.1, u.2.2.2.1, u.2.2.2.2.1, u.2.2.2.2.2.1, u.2.2.2.2.2.2.1, u.2.2.2.2.2.2.2.1, u.2.2.2.2.2.2.2.2.1, u.2.2.2.2.2.2.2.2.2.1, u.2.2.2.2.2.2.2.2.2.2.1, u.2.2.2.2.2.2.2.2.2.2.2.1, u.2.2.2.2.2.2.2.2.2.2.2.2.1, u.2.2.2.2.2.2.2.2.2.2.2.2.2.1, u.2.2.2.2.2.2.2.2.2.2.2.2.2.2.1, u.2.2.2.2.2.2.2.2.2.2.2.2.2.2.2.1, u.2.2.2.2.2.2.2.2.2.2.2.2.2.2.2.2.1, u.2.2.2.2.2.2.2.2.2.2.2.2.2.2.2.2.2)) (va_runS (As := [.int p1, .int (4 : Int32)]) (rest := []) ⟨hx, hb, hml, hown, hts⟩ (c_M_in l D cI cR  H.size p1 (4 : Int32) () r2 u1 hc_3) (va_cwS 2 hts (gS cwc mw_380 mw_381 mw_3 mw_382) rfl rfl rfl (by decide +kernel) ⟨(Nat.le_of_ble_eq_true rfl), (Nat.le_of_ble_eq_true rfl)⟩) (kp_S hK hP hD (sb_nil _)) rfl rfl hl.1 rfl (lv_room (Nat.le_of_ble_eq_true rfl)) dX2_count_7 ⟨(Nat.le_of_ble_eq_true rfl), (Nat.le_of_ble_eq_true rfl)⟩) hP hD hS hA (sb_nil _) (jn_nil _) (fun H locs hP hD hS => ?_)
  refine lv_if_eq (tgt := 21) hx hb dX2_count_10 (by decide) (fun c_4 => ?_) (fun c_4 => ?_)
  · replace hF := (if_pos c_4).symm.trans hF
    refine lv_iconst (v := (-1 : Int32)) hx hb dX2_count_21 (by decide +kernel) ?_
    cases hF
    refine W.widen (k := 0) (n := 0) (Nat.le_of_ble_eq_true rfl) (Nat.le_of_ble_eq_true rfl) ?_
    exact W.iret hx hb hr (fun t ht hW => ⟨⟨_, _, rfl, ⟨rfl, rfl⟩, by rw [ht]; exact hP, va_K.moved hW.alike hK, hD⟩, hS.F ht⟩) hS.2.2 dX2_count_22
  · replace hF := (if_neg c_4).symm.trans hF
    refine lv_iload_n hx hb dX2_count_13 rfl (lv_at hl 2 rfl) ?_
    refine lv_iconst (v := (5 : Int32)) hx hb dX2_count_14 (by decide +kernel) ?_
    obtain ⟨r6, u5, hc_7, hF⟩ := bi_some hF
    refine kc_i (W1 := MW cI ma ((0 : Int32), u.2.1, u.2.2.1, u.2.2.2.1, u.2.2.2.2.1, u.2.2.2.2.2.1, u.2.2.2.2.2.2.1, u.2.2.2.2.2.2.2.1, u.2.2.2.2.2.2.2.2.1, u.2.2.2.2.2.2.2.2.2.1, u.2.2.2.2.2.2.2.2.2.2.1, u.2.2.2.2.2.2.2.2.2.2.2.1, u.2.2.2.2.2.2.2.2.2.2.2.2.1, u.2.2.2.2.2.2.2.2.2.2.2.2.2.1, u.2.2.2.2.2.2.2.2.2.2.2.2.2.2.1, u.2.2.2.2.2.2.2.2.2.2.2.2.2.2.2.1, u.2.2.2.2.2.2.2.2.2.2.2.2.2.2.2.2.1, u.2.2.2.2.2.2.2.2.2.2.2.2.2.2.2.2.2)) (va_runS (As := [.int p2, .int (5 : Int32)]) (rest := []) ⟨hx, hb, hml, hown, hts⟩ (c_M_in l D cI cR  H.size p2 (5 : Int32) () r6 u5 hc_7) (va_cwS 2 hts (gS cwc mw_380 mw_381 mw_3 mw_382) rfl rfl rfl (by decide +kernel) ⟨(Nat.le_of_ble_eq_true rfl), (Nat.le_of_ble_eq_true rfl)⟩) (kp_S hK hP hD (sb_nil _)) rfl rfl hl.1 rfl (lv_room (Nat.le_of_ble_eq_true rfl)) dX2_count_15 ⟨(Nat.le_of_ble_eq_true rfl), (Nat.le_of_ble_eq_true rfl)⟩) hP hD hS hA (sb_nil _) (jn_nil _) (fun H locs hP hD hS => ?_)
    refine lv_if_ne (tgt := 23) hx hb dX2_count_18 (by decide) (fun c_8 => ?_) (fun c_8 => ?_)
    · replace hF := (if_neg c_8).symm.trans hF
      refine lv_iload_n hx hb dX2_count_23 rfl (lv_at hl 2 rfl) ?_
      refine lv_iconst (v := (3 : Int32)) hx hb dX2_count_24 (by decide +kernel) ?_
      refine lv_icmp_ge (tgt := 62) hx hb dX2_count_25 (by decide) (fun c_9 => ?_) (fun c_9 => ?_)
      · replace hF := (if_pos c_9).symm.trans hF
        refine lv_iconst (v := (0 : Int32)) hx hb dX2_count_62 (by decide +kernel) ?_
        refine lv_istore_n (lv' := [(3, .int (0 : Int32)), (0, .ref (ma 0)), (1, .int p1), (2, .int p2)]) hx hb dX2_count_63 rfl hl (by decide) rfl (fun ls hl => ?_)
        refine lv_iconst (v := (0 : Int32)) hx hb dX2_count_64 (by decide +kernel) ?_
        refine lv_istore (lv' := [(4, .int (0 : Int32)), (3, .int (0 : Int32)), (0, .ref (ma 0)), (1, .int p1), (2, .int p2)]) hx hb dX2_count_65 hl (by decide) rfl (fun ls hl => ?_)
        exact w_M_count_L67 hx hb hr hml hown hts hlocks hA hK 101 p1 p2 (0 : Int32) (0 : Int32) ((0 : Int32), u.2.1, u.2.2.1, u.2.2.2.1, u.2.2.2.2.1, u.2.2.2.2.2.1, u.2.2.2.2.2.2.1, u.2.2.2.2.2.2.2.1, u.2.2.2.2.2.2.2.2.1, u.2.2.2.2.2.2.2.2.2.1, u.2.2.2.2.2.2.2.2.2.2.1, u.2.2.2.2.2.2.2.2.2.2.2.1, u.2.2.2.2.2.2.2.2.2.2.2.2.1, u.2.2.2.2.2.2.2.2.2.2.2.2.2.1, u.2.2.2.2.2.2.2.2.2.2.2.2.2.2.1, u.2.2.2.2.2.2.2.2.2.2.2.2.2.2.2.1, u.2.2.2.2.2.2.2.2.2.2.2.2.2.2.2.2.1, u.2.2.2.2.2.2.2.2.2.2.2.2.2.2.2.2.2) _ _ hF H locs ls hP hD hS (lv_sub hl [2, 3, 4, 1, 0] rfl)
      · replace hF := (if_neg c_9).symm.trans hF
        refine lv_iload_n hx hb dX2_count_28 rfl (lv_at hl 2 rfl) ?_
        refine lv_if_ne (tgt := 41) hx hb dX2_count_29 (by decide) (fun c_21 => ?_) (fun c_21 => ?_)
        · replace hF := (if_neg c_21).symm.trans hF
          refine lv_iload_n hx hb dX2_count_41 rfl (lv_at hl 2 rfl) ?_
          refine lv_iconst (v := (1 : Int32)) hx hb dX2_count_42 (by decide +kernel) ?_
          refine lv_icmp_ne (tgt := 55) hx hb dX2_count_43 (by decide) (fun c_22 => ?_) (fun c_22 => ?_)
          · replace hF := (if_neg c_22).symm.trans hF
            refine lv_aload_n hx hb dX2_count_55 rfl (lv_at hl 0 rfl) ?_
            refine va_get (D := D) (ci := 2) (v := .ref (ma 13)) (C := RX2) (T := TX2) (N := 18) hx hb hts (fun w h => cwc w (in_X2 w h)) hown hK hP 0 rfl rfl 17 (by decide) hk_51 (fun _ h9 => h9) rfl dX2_count_56 ?_
            refine lv_iload_n hx hb dX2_count_59 rfl (lv_at hl 1 rfl) ?_
            obtain ⟨h_23, hF⟩ := gd_some hF
            refine va_iald (f := u.2.2.2.2.2.2.2.2.2.2.2.2.2.2.2.2.2) hx hb hK hP 13 0 rfl rfl (inb_in h_23) dX2_count_60 ?_
            cases hF
            refine W.widen (k := 0) (n := 0) (Nat.le_of_ble_eq_true rfl) (Nat.le_of_ble_eq_true rfl) ?_
            exact W.iret hx hb hr (fun t ht hW => ⟨⟨_, _, rfl, ⟨rfl, rfl⟩, by rw [ht]; exact hP, va_K.moved hW.alike hK, hD⟩, hS.F ht⟩) hS.2.2 dX2_count_61
          · replace hF := (if_pos c_22).symm.trans hF
            refine lv_aload_n hx hb dX2_count_46 rfl (lv_at hl 0 rfl) ?_
            refine va_get (D := D) (ci := 2) (v := .ref (ma 12)) (C := RX2) (T := TX2) (N := 18) hx hb hts (fun w h => cwc w (in_X2 w h)) hown hK hP 0 rfl rfl 16 (by decide) hk_48 (fun _ h9 => h9) rfl dX2_count_47 ?_
            refine lv_iload_n hx hb dX2_count_50 rfl (lv_at hl 1 rfl) ?_
            obtain ⟨h_24, hF⟩ := gd_some hF
            refine va_iald (f := u.2.2.2.2.2.2.2.2.2.2.2.2.2.2.2.2.1) hx hb hK hP 12 0 rfl rfl (inb_in h_24) dX2_count_51 ?_
            refine lv_goto (tgt := 61) hx hb dX2_count_52 (by decide) ?_
            cases hF
            refine W.widen (k := 0) (n := 0) (Nat.le_of_ble_eq_true rfl) (Nat.le_of_ble_eq_true rfl) ?_
            exact W.iret hx hb hr (fun t ht hW => ⟨⟨_, _, rfl, ⟨rfl, rfl⟩, by rw [ht]; exact hP, va_K.moved hW.alike hK, hD⟩, hS.F ht⟩) hS.2.2 dX2_count_61
        · replace hF := (if_pos c_21).symm.trans hF
          refine lv_aload_n hx hb dX2_count_32 rfl (lv_at hl 0 rfl) ?_
          refine va_get (D := D) (ci := 2) (v := .ref (ma 11)) (C := RX2) (T := TX2) (N := 18) hx hb hts (fun w h => cwc w (in_X2 w h)) hown hK hP 0 rfl rfl 15 (by decide) hk_45 (fun _ h9 => h9) rfl dX2_count_33 ?_
          refine lv_iload_n hx hb dX2_count_36 rfl (lv_at hl 1 rfl) ?_
          obtain ⟨h_25, hF⟩ := gd_some hF
          refine va_iald (f := u.2.2.2.2.2.2.2.2.2.2.2.2.2.2.2.1) hx hb hK hP 11 0 rfl rfl (inb_in h_25) dX2_count_37 ?_
          refine lv_goto (tgt := 61) hx hb dX2_count_38 (by decide) ?_
          cases hF
          refine W.widen (k := 0) (n := 0) (Nat.le_of_ble_eq_true rfl) (Nat.le_of_ble_eq_true rfl) ?_
          exact W.iret hx hb hr (fun t ht hW => ⟨⟨_, _, rfl, ⟨rfl, rfl⟩, by rw [ht]; exact hP, va_K.moved hW.alike hK, hD⟩, hS.F ht⟩) hS.2.2 dX2_count_61
    · replace hF := (if_pos c_8).symm.trans hF
      refine lv_iconst (v := (-1 : Int32)) hx hb dX2_count_21 (by decide +kernel) ?_
      cases hF
      refine W.widen (k := 0) (n := 0) (Nat.le_of_ble_eq_true rfl) (Nat.le_of_ble_eq_true rfl) ?_
      exact W.iret hx hb hr (fun t ht hW => ⟨⟨_, _, rfl, ⟨rfl, rfl⟩, by rw [ht]; exact hP, va_K.moved hW.alike hK, hD⟩, hS.F ht⟩) hS.2.2 dX2_count_22
def F_M_sum (p1 : Int32) (u : MSt) : Option ((Int32) × MSt) := (if p1 = (0 : Int32) then some (u.2.2.1, ((0 : Int32), u.2.1, u.2.2.1, u.2.2.2.1, u.2.2.2.2.1, u.2.2.2.2.2.1, u.2.2.2.2.2.2.1, u.2.2.2.2.2.2.2.1, u.2.2.2.2.2.2.2.2.1, u.2.2.2.2.2.2.2.2.2.1, u.2.2.2.2.2.2.2.2.2.2.1, u.2.2.2.2.2.2.2.2.2.2.2.1, u.2.2.2.2.2.2.2.2.2.2.2.2.1, u.2.2.2.2.2.2.2.2.2.2.2.2.2.1, u.2.2.2.2.2.2.2.2.2.2.2.2.2.2.1, u.2.2.2.2.2.2.2.2.2.2.2.2.2.2.2.1, u.2.2.2.2.2.2.2.2.2.2.2.2.2.2.2.2.1, u.2.2.2.2.2.2.2.2.2.2.2.2.2.2.2.2.2)) else (if p1 = (1 : Int32) then some (u.2.2.2.1, ((0 : Int32), u.2.1, u.2.2.1, u.2.2.2.1, u.2.2.2.2.1, u.2.2.2.2.2.1, u.2.2.2.2.2.2.1, u.2.2.2.2.2.2.2.1, u.2.2.2.2.2.2.2.2.1, u.2.2.2.2.2.2.2.2.2.1, u.2.2.2.2.2.2.2.2.2.2.1, u.2.2.2.2.2.2.2.2.2.2.2.1, u.2.2.2.2.2.2.2.2.2.2.2.2.1, u.2.2.2.2.2.2.2.2.2.2.2.2.2.1, u.2.2.2.2.2.2.2.2.2.2.2.2.2.2.1, u.2.2.2.2.2.2.2.2.2.2.2.2.2.2.2.1, u.2.2.2.2.2.2.2.2.2.2.2.2.2.2.2.2.1, u.2.2.2.2.2.2.2.2.2.2.2.2.2.2.2.2.2)) else (if p1 = (2 : Int32) then some (u.2.2.2.2.1, ((0 : Int32), u.2.1, u.2.2.1, u.2.2.2.1, u.2.2.2.2.1, u.2.2.2.2.2.1, u.2.2.2.2.2.2.1, u.2.2.2.2.2.2.2.1, u.2.2.2.2.2.2.2.2.1, u.2.2.2.2.2.2.2.2.2.1, u.2.2.2.2.2.2.2.2.2.2.1, u.2.2.2.2.2.2.2.2.2.2.2.1, u.2.2.2.2.2.2.2.2.2.2.2.2.1, u.2.2.2.2.2.2.2.2.2.2.2.2.2.1, u.2.2.2.2.2.2.2.2.2.2.2.2.2.2.1, u.2.2.2.2.2.2.2.2.2.2.2.2.2.2.2.1, u.2.2.2.2.2.2.2.2.2.2.2.2.2.2.2.2.1, u.2.2.2.2.2.2.2.2.2.2.2.2.2.2.2.2.2)) else (if p1 = (3 : Int32) then some (u.2.1, ((0 : Int32), u.2.1, u.2.2.1, u.2.2.2.1, u.2.2.2.2.1, u.2.2.2.2.2.1, u.2.2.2.2.2.2.1, u.2.2.2.2.2.2.2.1, u.2.2.2.2.2.2.2.2.1, u.2.2.2.2.2.2.2.2.2.1, u.2.2.2.2.2.2.2.2.2.2.1, u.2.2.2.2.2.2.2.2.2.2.2.1, u.2.2.2.2.2.2.2.2.2.2.2.2.1, u.2.2.2.2.2.2.2.2.2.2.2.2.2.1, u.2.2.2.2.2.2.2.2.2.2.2.2.2.2.1, u.2.2.2.2.2.2.2.2.2.2.2.2.2.2.2.1, u.2.2.2.2.2.2.2.2.2.2.2.2.2.2.2.2.1, u.2.2.2.2.2.2.2.2.2.2.2.2.2.2.2.2.2)) else some ((-1 : Int32), ((0 : Int32), u.2.1, u.2.2.1, u.2.2.2.1, u.2.2.2.2.1, u.2.2.2.2.2.1, u.2.2.2.2.2.2.1, u.2.2.2.2.2.2.2.1, u.2.2.2.2.2.2.2.2.1, u.2.2.2.2.2.2.2.2.2.1, u.2.2.2.2.2.2.2.2.2.2.1, u.2.2.2.2.2.2.2.2.2.2.2.1, u.2.2.2.2.2.2.2.2.2.2.2.2.1, u.2.2.2.2.2.2.2.2.2.2.2.2.2.1, u.2.2.2.2.2.2.2.2.2.2.2.2.2.2.1, u.2.2.2.2.2.2.2.2.2.2.2.2.2.2.2.1, u.2.2.2.2.2.2.2.2.2.2.2.2.2.2.2.2.1, u.2.2.2.2.2.2.2.2.2.2.2.2.2.2.2.2.2))))))
set_option maxHeartbeats 4000000 in
set_option maxRecDepth 100000 in
theorem c_M_sum (l : Launch) (D : va_G) (cI cR : ClassId) (ma : Nat → Nat) (sz : Nat) (p1 : Int32) (u : MSt) (r : Int32) (u' : MSt) (hF : F_M_sum p1 u = some (r, u')) : Met l yX2_sum wsX2_sum ({ frames := 0, cells := 0, slots := 0, locals := 0 }) (va_Pc [.ref (ma 0), .int p1] (PRE D (TY cI cR) (MW cI ma u) sz)) (QI D (TY cI cR) (va_A (MW cI ma u) sz) (fun v => MW cI ma v) r u') 0 0 (va_A (MW cI ma u) sz) := by
  refine Met.ofW (cc := cX2_sum) (maxL := 2) (ret := (some .int)) (by decide) rfl ?_
  intro p e s m args below meth c s₁ B hml hv
  obtain ⟨rfl, hsz, hP, hK, hD0⟩ := hv
  have hx := B.exec
  have hb := B.bytes
  have hr := B.returns
  have hts := atoms_spec (ws := wsX2_sum) B.pre
  have hown : s.vm.findClass RX2 = some m.cls := findClass_of_methodNamed B.named
  have hlocks := B.notSynchronized
  subst hsz
  have hD := hD0.self (sz := s.heap.size)
  generalize hAe : va_A (MW cI ma u) s.heap.size = A at hD ⊢
  have hA : ∀ q : Nat, s.heap.size ≤ q → A q := fun q h => by rw [← hAe]; exact Or.inr h
  have hS : va_S A s.heap s.heap [] := va_S.rf
  replace hP : va_P D vwCl (MW cI ma u) s.heap := hP
  have hl := lv_entry ([.ref (ma 0), .int p1]) (n := 2) (Nat.le_of_ble_eq_true rfl)
  rw [lg_entry_eq]
  generalize (lg_sl ([.ref (ma 0), .int p1]) ++ List.replicate (2 - (lg_sl ([.ref (ma 0), .int p1])).length) Slot.unset).toArray = ls at hl ⊢
  replace hl : lv_has ls 2 [(0, .ref (ma 0)), (1, .int p1)] := hl
  have hk_54 := (hts _ (cwc _ mw_335))
  have hk_7 := (hts _ (cwc _ mw_337))
  have hk_91 := (hts _ (cwc _ mw_338))
  have hk_98 := (hts _ (cwc _ mw_339))
  have hk_74 := (hts _ (cwc _ mw_336))
  unfold F_M_sum at hF
  refine (?_ : ∀ (H : Heap) (locs : List Loc), va_P D vwCl (MW cI ma u) H → va_S A s.heap H locs → W p l e _ s m _ below meth c H locs 0 0 _ (F0 m 0 ls [])) s.heap [] hP hS
  intro H locs hP hS
  refine lv_aload_n hx hb dX2_sum_0 rfl (lv_at hl 0 rfl) ?_
  refine lv_iconst (v := (0 : Int32)) hx hb dX2_sum_1 (by decide +kernel) ?_
  refine va_put (D := D) (ci := 2) (v := .int (0 : Int32)) (ty := .int) (C := RX2) (T := TX2) (N := 18) hx hb hts (fun w h => cwc w (in_X2 w h)) tyX2 tyX2_ok nmX2 hown hK hP hD hS 0 rfl rfl 0 (by decide) hk_54 (fun _ h9 => h9) rfl (by decide +kernel) rfl rfl (Nat.le_of_ble_eq_true rfl) dX2_sum_2 (fun H locs hP hD hS => ?_)
  replace hP : va_P D vwCl (MW cI ma ((0 : Int32), u.2.1, u.2.2.1, u.2.2.2.1, u.2.2.2.2.1, u.2.2.2.2.2.1, u.2.2.2.2.2.2.1, u.2.2.2.2.2.2.2.1, u.2.2.2.2.2.2.2.2.1, u.2.2.2.2.2.2.2.2.2.1, u.2.2.2.2.2.2.2.2.2.2.1, u.2.2.2.2.2.2.2.2.2.2.2.1, u.2.2.2.2.2.2.2.2.2.2.2.2.1, u.2.2.2.2.2.2.2.2.2.2.2.2.2.1, u.2.2.2.2.2.2.2.2.2.2.2.2.2.2.1, u.2.2.2.2.2.2.2.2.2.2.2.2.2.2.2.1, u.2.2.2.2.2.2.2.2.2.2.2.2.2.2.2.2.1, u.2.2.2.2.2.2.2.2.2.2.2.2.2.2.2.2.2)) H := hP
  replace hD : va_D A (MW cI ma ((0 : Int32), u.2.1, u.2.2.1, u.2.2.2.1, u.2.2.2.2.1, u.2.2.2.2.2.1, u.2.2.2.2.2.2.1, u.2.2.2.2.2.2.2.1, u.2.2.2.2.2.2.2.2.1, u.2.2.2.2.2.2.2.2.2.1, u.2.2.2.2.2.2.2.2.2.2.1, u.2.2.2.2.2.2.2.2.2.2.2.1, u.2.2.2.2.2.2.2.2.2.2.2.2.1, u.2.2.2.2.2.2.2.2.2.2.2.2.2.1, u.2.2.2.2.2.2.2.2.2.2.2.2.2.2.1, u.2.2.2.2.2.2.2.2.2.2.2.2.2.2.2.1, u.2.2.2.2.2.2.2.2.2.2.2.2.2.2.2.2.1, u.2.2.2.2.2.2.2.2.2.2.2.2.2.2.2.2.2)) := hD
  refine lv_iload_n hx hb dX2_sum_5 rfl (lv_at hl 1 rfl) ?_
  by_cases c_1 : p1 = (0 : Int32)
  · replace hF := (if_pos c_1).symm.trans hF
    refine lv_tableIn (off := 30) (tgt := 36) hx hb dX2_sum_6 (by rw [c_1]; decide +kernel) (by rw [c_1]; decide +kernel) (by rw [c_1]; rfl) (by decide) ?_
    refine lv_aload_n hx hb dX2_sum_36 rfl (lv_at hl 0 rfl) ?_
    refine va_get (D := D) (ci := 2) (v := .int u.2.2.1) (C := RX2) (T := TX2) (N := 18) hx hb hts (fun w h => cwc w (in_X2 w h)) hown hK hP 0 rfl rfl 2 (by decide) hk_7 (fun _ h9 => h9) rfl dX2_sum_37 ?_
    cases hF
    refine W.widen (k := 0) (n := 0) (Nat.le_of_ble_eq_true rfl) (Nat.le_of_ble_eq_true rfl) ?_
    exact W.iret hx hb hr (fun t ht hW => ⟨⟨_, _, rfl, ⟨rfl, rfl⟩, by rw [ht]; exact hP, va_K.moved hW.alike hK, hD⟩, hS.F ht⟩) hS.2.2 dX2_sum_40
  · replace hF := (if_neg c_1).symm.trans hF
    by_cases c_2 : p1 = (1 : Int32)
    · replace hF := (if_pos c_2).symm.trans hF
      refine lv_tableIn (off := 35) (tgt := 41) hx hb dX2_sum_6 (by rw [c_2]; decide +kernel) (by rw [c_2]; decide +kernel) (by rw [c_2]; rfl) (by decide) ?_
      refine lv_aload_n hx hb dX2_sum_41 rfl (lv_at hl 0 rfl) ?_
      refine va_get (D := D) (ci := 2) (v := .int u.2.2.2.1) (C := RX2) (T := TX2) (N := 18) hx hb hts (fun w h => cwc w (in_X2 w h)) hown hK hP 0 rfl rfl 3 (by decide) hk_91 (fun _ h9 => h9) rfl dX2_sum_42 ?_
      cases hF
      refine W.widen (k := 0) (n := 0) (Nat.le_of_ble_eq_true rfl) (Nat.le_of_ble_eq_true rfl) ?_
      exact W.iret hx hb hr (fun t ht hW => ⟨⟨_, _, rfl, ⟨rfl, rfl⟩, by rw [ht]; exact hP, va_K.moved hW.alike hK, hD⟩, hS.F ht⟩) hS.2.2 dX2_sum_45
    · replace hF := (if_neg c_2).symm.trans hF
      by_cases c_3 : p1 = (2 : Int32)
      · replace hF := (if_pos c_3).symm.trans hF
        refine lv_tableIn (off := 40) (tgt := 46) hx hb dX2_sum_6 (by rw [c_3]; decide +kernel) (by rw [c_3]; decide +kernel) (by rw [c_3]; rfl) (by decide) ?_
        refine lv_aload_n hx hb dX2_sum_46 rfl (lv_at hl 0 rfl) ?_
        refine va_get (D := D) (ci := 2) (v := .int u.2.2.2.2.1) (C := RX2) (T := TX2) (N := 18) hx hb hts (fun w h => cwc w (in_X2 w h)) hown hK hP 0 rfl rfl 4 (by decide) hk_98 (fun _ h9 => h9) rfl dX2_sum_47 ?_
        cases hF
        refine W.widen (k := 0) (n := 0) (Nat.le_of_ble_eq_true rfl) (Nat.le_of_ble_eq_true rfl) ?_
        exact W.iret hx hb hr (fun t ht hW => ⟨⟨_, _, rfl, ⟨rfl, rfl⟩, by rw [ht]; exact hP, va_K.moved hW.alike hK, hD⟩, hS.F ht⟩) hS.2.2 dX2_sum_50
      · replace hF := (if_neg c_3).symm.trans hF
        by_cases c_4 : p1 = (3 : Int32)
        · replace hF := (if_pos c_4).symm.trans hF
          refine lv_tableIn (off := 45) (tgt := 51) hx hb dX2_sum_6 (by rw [c_4]; decide +kernel) (by rw [c_4]; decide +kernel) (by rw [c_4]; rfl) (by decide) ?_
          refine lv_aload_n hx hb dX2_sum_51 rfl (lv_at hl 0 rfl) ?_
          refine va_get (D := D) (ci := 2) (v := .int u.2.1) (C := RX2) (T := TX2) (N := 18) hx hb hts (fun w h => cwc w (in_X2 w h)) hown hK hP 0 rfl rfl 1 (by decide) hk_74 (fun _ h9 => h9) rfl dX2_sum_52 ?_
          cases hF
          refine W.widen (k := 0) (n := 0) (Nat.le_of_ble_eq_true rfl) (Nat.le_of_ble_eq_true rfl) ?_
          exact W.iret hx hb hr (fun t ht hW => ⟨⟨_, _, rfl, ⟨rfl, rfl⟩, by rw [ht]; exact hP, va_K.moved hW.alike hK, hD⟩, hS.F ht⟩) hS.2.2 dX2_sum_55
        · replace hF := (if_neg c_4).symm.trans hF
          refine lv_tableOut (tgt := 56) hx hb dX2_sum_6 (by have := i32nz c_1 (show (0 : Int32).toInt = 0 by decide +kernel); have := i32nz c_2 (show (1 : Int32).toInt = 1 by decide +kernel); have := i32nz c_3 (show (2 : Int32).toInt = 2 by decide +kernel); have := i32nz c_4 (show (3 : Int32).toInt = 3 by decide +kernel); omega) (by decide) ?_
          refine lv_iconst (v := (-1 : Int32)) hx hb dX2_sum_56 (by decide +kernel) ?_
          cases hF
          refine W.widen (k := 0) (n := 0) (Nat.le_of_ble_eq_true rfl) (Nat.le_of_ble_eq_true rfl) ?_
          exact W.iret hx hb hr (fun t ht hW => ⟨⟨_, _, rfl, ⟨rfl, rfl⟩, by rw [ht]; exact hP, va_K.moved hW.alike hK, hD⟩, hS.F ht⟩) hS.2.2 dX2_sum_57
