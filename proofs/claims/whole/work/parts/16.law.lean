theorem co_ad {cI cR cJ : ClassId} {ca qa : Nat → Nat} {wa : Nat} (u v : CSt × (Nat → Int64)) : (CO cI cR cJ ca qa wa u).map (·.1) = (CO cI cR cJ ca qa wa v).map (·.1) := congrArg (fun z => wa :: z) (cw_ad u.1 v.1)
abbrev wsL_law : List Cond := Cond.initialized RL :: cwL
def F_law_L (xs : Nat → Int32) (L : Nat) : Nat → Int32 → LSt → Option Int32
  | 0, _, _ => none
  | n + 1, x4, u => (if ((Int32.ofNat L) - (5 : Int32)) < x4 then some (1 : Int32) else gd (inb x4 L) ((if ((xs x4.toNatClampNeg) &&& (15 : Int32)) = (0 : Int32) then gd (inb (x4 + (1 : Int32)) L) (gd (inb (x4 + (2 : Int32)) L) (gd (inb (x4 + (3 : Int32)) L) (bi (F_L_place (xs (x4 + (1 : Int32)).toNatClampNeg) (xs (x4 + (2 : Int32)).toNatClampNeg) (xs (x4 + (3 : Int32)).toNatClampNeg) u.1) (fun r8 u7 => gd (inb (x4 + (1 : Int32)) L) (gd (inb (x4 + (2 : Int32)) L) (gd (inb (x4 + (3 : Int32)) L) (bi (F_M_place (xs (x4 + (1 : Int32)).toNatClampNeg) (xs (x4 + (2 : Int32)).toNatClampNeg) (xs (x4 + (3 : Int32)).toNatClampNeg) u.2.1) (fun r14 u13 => bi (F_M_thrown u13) (fun r17 u16 => (if r17 = r8 then F_law_L xs L n (x4 + (5 : Int32)) (u7, u13, u.2.2) else some (0 : Int32))))))))))) else (if ((xs x4.toNatClampNeg) &&& (15 : Int32)) = (1 : Int32) then gd (inb (x4 + (1 : Int32)) L) (gd (inb (x4 + (2 : Int32)) L) (gd (inb (x4 + (3 : Int32)) L) (bi (F_L_rate (xs (x4 + (1 : Int32)).toNatClampNeg) (xs (x4 + (2 : Int32)).toNatClampNeg) (xs (x4 + (3 : Int32)).toNatClampNeg) u.1) (fun r25 u24 => gd (inb (x4 + (1 : Int32)) L) (gd (inb (x4 + (2 : Int32)) L) (gd (inb (x4 + (3 : Int32)) L) (bi (F_M_rate (xs (x4 + (1 : Int32)).toNatClampNeg) (xs (x4 + (2 : Int32)).toNatClampNeg) (xs (x4 + (3 : Int32)).toNatClampNeg) u.2.1) (fun r31 u30 => bi (F_M_thrown u30) (fun r34 u33 => (if r34 = r25 then F_law_L xs L n (x4 + (5 : Int32)) (u24, u30, u.2.2) else some (0 : Int32))))))))))) else (if ((xs x4.toNatClampNeg) &&& (15 : Int32)) = (2 : Int32) then gd (inb (x4 + (1 : Int32)) L) (gd (inb (x4 + (2 : Int32)) L) (bi (F_L_accept (xs (x4 + (1 : Int32)).toNatClampNeg) (xs (x4 + (2 : Int32)).toNatClampNeg) u.1) (fun r41 u40 => gd (inb (x4 + (1 : Int32)) L) (gd (inb (x4 + (2 : Int32)) L) (bi (F_M_accept (xs (x4 + (1 : Int32)).toNatClampNeg) (xs (x4 + (2 : Int32)).toNatClampNeg) u.2.1) (fun r46 u45 => bi (F_M_thrown u45) (fun r49 u48 => (if r49 = r41 then F_law_L xs L n (x4 + (5 : Int32)) (u40, u45, u.2.2) else some (0 : Int32))))))))) else (if ((xs x4.toNatClampNeg) &&& (15 : Int32)) = (3 : Int32) then gd (inb (x4 + (1 : Int32)) L) (gd (inb (x4 + (2 : Int32)) L) (gd (inb (x4 + (3 : Int32)) L) (bi (F_L_make (xs (x4 + (1 : Int32)).toNatClampNeg) (xs (x4 + (2 : Int32)).toNatClampNeg) (xs (x4 + (3 : Int32)).toNatClampNeg) u.1) (fun r57 u56 => gd (inb (x4 + (1 : Int32)) L) (gd (inb (x4 + (2 : Int32)) L) (gd (inb (x4 + (3 : Int32)) L) (bi (F_M_make (xs (x4 + (1 : Int32)).toNatClampNeg) (xs (x4 + (2 : Int32)).toNatClampNeg) (xs (x4 + (3 : Int32)).toNatClampNeg) u.2.1) (fun r63 u62 => bi (F_M_thrown u62) (fun r66 u65 => (if r66 = r57 then F_law_L xs L n (x4 + (5 : Int32)) (u56, u62, u.2.2) else some (0 : Int32))))))))))) else (if ((xs x4.toNatClampNeg) &&& (15 : Int32)) = (4 : Int32) then gd (inb (x4 + (1 : Int32)) L) (gd (inb (x4 + (2 : Int32)) L) (gd (inb (x4 + (3 : Int32)) L) (bi (F_L_wagon (xs (x4 + (1 : Int32)).toNatClampNeg) (xs (x4 + (2 : Int32)).toNatClampNeg) (xs (x4 + (3 : Int32)).toNatClampNeg) u.1) (fun r74 u73 => gd (inb (x4 + (1 : Int32)) L) (gd (inb (x4 + (2 : Int32)) L) (gd (inb (x4 + (3 : Int32)) L) (bi (F_M_wagon (xs (x4 + (1 : Int32)).toNatClampNeg) (xs (x4 + (2 : Int32)).toNatClampNeg) (xs (x4 + (3 : Int32)).toNatClampNeg) u.2.1) (fun r80 u79 => bi (F_M_thrown u79) (fun r83 u82 => (if r83 = r74 then F_law_L xs L n (x4 + (5 : Int32)) (u73, u79, u.2.2) else some (0 : Int32))))))))))) else (if ((xs x4.toNatClampNeg) &&& (15 : Int32)) = (5 : Int32) then gd (inb (x4 + (1 : Int32)) L) (bi (F_L_pass (xs (x4 + (1 : Int32)).toNatClampNeg) (u.1, u.2.2)) (fun r89 u88 => gd (inb (x4 + (1 : Int32)) L) (bi (F_M_pass (xs (x4 + (1 : Int32)).toNatClampNeg) u.2.1) (fun r93 u92 => bi (F_M_thrown u92) (fun r96 u95 => (if r96 = r89 then (if r89 = (0 : Int32) then gd (inb (0 : Int32) 1) ((if (lg_cmp (u88.2 (0 : Int32).toNatClampNeg) r93.toInt64) = (0 : Int32) then F_law_L xs L n (x4 + (5 : Int32)) (u88.1, u92, u88.2) else some (0 : Int32))) else F_law_L xs L n (x4 + (5 : Int32)) (u88.1, u92, u88.2)) else some (0 : Int32))))))) else (if ((xs x4.toNatClampNeg) &&& (15 : Int32)) = (6 : Int32) then gd (inb (x4 + (1 : Int32)) L) (gd (inb (x4 + (2 : Int32)) L) (gd (inb (x4 + (3 : Int32)) L) (bi (F_L_load (xs (x4 + (1 : Int32)).toNatClampNeg) (xs (x4 + (2 : Int32)).toNatClampNeg) (xs (x4 + (3 : Int32)).toNatClampNeg) (u.1, u.2.2)) (fun r107 u106 => gd (inb (x4 + (1 : Int32)) L) (gd (inb (x4 + (2 : Int32)) L) (gd (inb (x4 + (3 : Int32)) L) (bi (F_M_load (xs (x4 + (1 : Int32)).toNatClampNeg) (xs (x4 + (2 : Int32)).toNatClampNeg) (xs (x4 + (3 : Int32)).toNatClampNeg) u.2.1) (fun r113 u112 => bi (F_M_thrown u112) (fun r116 u115 => (if r116 = r107 then (if r107 = (0 : Int32) then gd (inb (0 : Int32) 1) ((if (lg_cmp (u106.2 (0 : Int32).toNatClampNeg) r113.toInt64) = (0 : Int32) then F_law_L xs L n (x4 + (5 : Int32)) (u106.1, u112, u106.2) else some (0 : Int32))) else F_law_L xs L n (x4 + (5 : Int32)) (u106.1, u112, u106.2)) else some (0 : Int32))))))))))) else (if ((xs x4.toNatClampNeg) &&& (15 : Int32)) = (7 : Int32) then gd (inb (x4 + (1 : Int32)) L) (gd (inb (x4 + (2 : Int32)) L) (gd (inb (x4 + (3 : Int32)) L) (bi (F_L_unload (xs (x4 + (1 : Int32)).toNatClampNeg) (xs (x4 + (2 : Int32)).toNatClampNeg) (xs (x4 + (3 : Int32)).toNatClampNeg) (u.1, u.2.2)) (fun r127 u126 => gd (inb (x4 + (1 : Int32)) L) (gd (inb (x4 + (2 : Int32)) L) (gd (inb (x4 + (3 : Int32)) L) (bi (F_M_unload (xs (x4 + (1 : Int32)).toNatClampNeg) (xs (x4 + (2 : Int32)).toNatClampNeg) (xs (x4 + (3 : Int32)).toNatClampNeg) u.2.1) (fun r133 u132 => bi (F_M_thrown u132) (fun r136 u135 => (if r136 = r127 then (if r127 = (0 : Int32) then gd (inb (0 : Int32) 1) ((if (lg_cmp (u126.2 (0 : Int32).toNatClampNeg) r133.toInt64) = (0 : Int32) then F_law_L xs L n (x4 + (5 : Int32)) (u126.1, u132, u126.2) else some (0 : Int32))) else F_law_L xs L n (x4 + (5 : Int32)) (u126.1, u132, u126.2)) else some (0 : Int32))))))))))) else (if ((xs x4.toNatClampNeg) &&& (15 : Int32)) = (8 : Int32) then gd (inb (x4 + (1 : Int32)) L) (gd (inb (x4 + (2 : Int32)) L) (bi (F_L_pour (xs (x4 + (1 : Int32)).toNatClampNeg) (xs (x4 + (2 : Int32)).toNatClampNeg) u.1) (fun r146 u145 => gd (inb (x4 + (1 : Int32)) L) (gd (inb (x4 + (2 : Int32)) L) (bi (F_M_pour (xs (x4 + (1 : Int32)).toNatClampNeg) (xs (x4 + (2 : Int32)).toNatClampNeg) u.2.1) (fun r151 u150 => bi (F_M_thrown u150) (fun r154 u153 => (if r154 = r146 then F_law_L xs L n (x4 + (5 : Int32)) (u145, u150, u.2.2) else some (0 : Int32))))))))) else (if ((xs x4.toNatClampNeg) &&& (15 : Int32)) = (9 : Int32) then gd (inb (x4 + (1 : Int32)) L) (gd (inb (x4 + (2 : Int32)) L) (gd (inb (x4 + (3 : Int32)) L) (bi (F_L_part (xs (x4 + (1 : Int32)).toNatClampNeg) (xs (x4 + (2 : Int32)).toNatClampNeg) (xs (x4 + (3 : Int32)).toNatClampNeg) u.1) (fun r162 u161 => gd (inb (x4 + (1 : Int32)) L) (gd (inb (x4 + (2 : Int32)) L) (gd (inb (x4 + (3 : Int32)) L) (bi (F_M_part (xs (x4 + (1 : Int32)).toNatClampNeg) (xs (x4 + (2 : Int32)).toNatClampNeg) (xs (x4 + (3 : Int32)).toNatClampNeg) u.2.1) (fun r168 u167 => bi (F_M_thrown u167) (fun r171 u170 => (if r171 = r162 then F_law_L xs L n (x4 + (5 : Int32)) (u161, u167, u.2.2) else some (0 : Int32))))))))))) else (if ((xs x4.toNatClampNeg) &&& (15 : Int32)) = (10 : Int32) then gd (inb (x4 + (1 : Int32)) L) (bi (F_L_dump (xs (x4 + (1 : Int32)).toNatClampNeg) (u.1, u.2.2)) (fun r177 u176 => gd (inb (x4 + (1 : Int32)) L) (bi (F_M_dump (xs (x4 + (1 : Int32)).toNatClampNeg) u.2.1) (fun r181 u180 => bi (F_M_thrown u180) (fun r184 u183 => (if r184 = r177 then (if r177 = (0 : Int32) then gd (inb (0 : Int32) 1) ((if (lg_cmp (u176.2 (0 : Int32).toNatClampNeg) r181.toInt64) = (0 : Int32) then F_law_L xs L n (x4 + (5 : Int32)) (u176.1, u180, u176.2) else some (0 : Int32))) else F_law_L xs L n (x4 + (5 : Int32)) (u176.1, u180, u176.2)) else some (0 : Int32))))))) else (if ((xs x4.toNatClampNeg) &&& (15 : Int32)) = (11 : Int32) then gd (inb (x4 + (1 : Int32)) L) (bi (F_P_spend (xs (x4 + (1 : Int32)).toNatClampNeg) u.1) (fun r193 u192 => gd (inb (x4 + (1 : Int32)) L) (bi (F_M_spend (xs (x4 + (1 : Int32)).toNatClampNeg) u.2.1) (fun r197 u196 => (if r193 = r197 then F_law_L xs L n (x4 + (5 : Int32)) (u192, u196, u.2.2) else some (0 : Int32)))))) else (if ((xs x4.toNatClampNeg) &&& (15 : Int32)) = (12 : Int32) then gd (inb (x4 + (1 : Int32)) L) (gd (inb (x4 + (2 : Int32)) L) (gd (inb (x4 + (3 : Int32)) L) (gd (inb (x4 + (4 : Int32)) L) (bi (F_P_packet (xs (x4 + (1 : Int32)).toNatClampNeg) (xs (x4 + (2 : Int32)).toNatClampNeg) (xs (x4 + (3 : Int32)).toNatClampNeg) (xs (x4 + (4 : Int32)).toNatClampNeg) u.1) (fun r206 u205 => gd (inb (x4 + (1 : Int32)) L) (gd (inb (x4 + (2 : Int32)) L) (gd (inb (x4 + (3 : Int32)) L) (gd (inb (x4 + (4 : Int32)) L) (bi (F_M_packet (xs (x4 + (1 : Int32)).toNatClampNeg) (xs (x4 + (2 : Int32)).toNatClampNeg) (xs (x4 + (3 : Int32)).toNatClampNeg) (xs (x4 + (4 : Int32)).toNatClampNeg) u.2.1) (fun r213 u212 => (if r206 = r213 then F_law_L xs L n (x4 + (5 : Int32)) (u.1, u212, u.2.2) else some (0 : Int32)))))))))))) else (if ((xs x4.toNatClampNeg) &&& (15 : Int32)) = (13 : Int32) then gd (inb (x4 + (1 : Int32)) L) (gd (inb (x4 + (2 : Int32)) L) (bi (F_P_units (xs (x4 + (1 : Int32)).toNatClampNeg) (xs (x4 + (2 : Int32)).toNatClampNeg) u.1) (fun r220 u219 => gd (inb (x4 + (1 : Int32)) L) (gd (inb (x4 + (2 : Int32)) L) (bi (F_M_units (xs (x4 + (1 : Int32)).toNatClampNeg) (xs (x4 + (2 : Int32)).toNatClampNeg) u.2.1) (fun r225 u224 => (if r220 = r225 then F_law_L xs L n (x4 + (5 : Int32)) (u.1, u224, u.2.2) else some (0 : Int32)))))))) else (if ((xs x4.toNatClampNeg) &&& (15 : Int32)) = (14 : Int32) then gd (inb (x4 + (1 : Int32)) L) (gd (inb (x4 + (2 : Int32)) L) (bi (F_P_count (xs (x4 + (1 : Int32)).toNatClampNeg) (xs (x4 + (2 : Int32)).toNatClampNeg) u.1) (fun r232 u231 => gd (inb (x4 + (1 : Int32)) L) (gd (inb (x4 + (2 : Int32)) L) (bi (F_M_count (xs (x4 + (1 : Int32)).toNatClampNeg) (xs (x4 + (2 : Int32)).toNatClampNeg) u.2.1) (fun r237 u236 => (if r232 = r237 then F_law_L xs L n (x4 + (5 : Int32)) (u.1, u236, u.2.2) else some (0 : Int32)))))))) else (if ((xs x4.toNatClampNeg) &&& (15 : Int32)) = (15 : Int32) then gd (inb (x4 + (1 : Int32)) L) (bi (F_P_sum (xs (x4 + (1 : Int32)).toNatClampNeg) u.1) (fun r243 u242 => gd (inb (x4 + (1 : Int32)) L) (bi (F_M_sum (xs (x4 + (1 : Int32)).toNatClampNeg) u.2.1) (fun r247 u246 => (if r243 = r247 then F_law_L xs L n (x4 + (5 : Int32)) (u.1, u246, u.2.2) else some (0 : Int32)))))) else F_law_L xs L n (x4 + (5 : Int32)) u))))))))))))))))))
set_option maxHeartbeats 4000000 in
set_option maxRecDepth 100000 in
theorem w_law {p : Program} {l : Launch} {e : Env} {s : State} {m : MethodId} {below : List Frame} {meth : Method} {c : Code} {A : Nat → Prop} {D : va_G} {cI cR cJ : ClassId} {ca qa ma : Nat → Nat} {wa : Nat} {b L : Nat} {xs : Nat → Int32} {sa : Nat → Nat} (hx : p.tables.exec = Jvm.exec) (hb : c.code = cL_law) (hr : meth.sig.returnType = ret) (hml : c.maxLocals = 7) (hown : s.vm.findClass RL = some m.cls) (hts : ∀ w ∈ wsL_law, w.before #[Value.ref b] s = true) (hlocks : meth.locks = false) (hA : ∀ q : Nat, s.heap.size ≤ q → A q) (hAs : ∀ q : Nat, A q → s.heap.size ≤ q) (hK : va_K D vwCl (TY3 cI cR cJ) s) (hl9 : l.stackTraces = false) (hXK : XK sa A s) (hX : va_X b L xs s s.heap) (hbl : b < s.heap.size) (hbA : ¬ A b) : ∀ (n : Nat) (x4 : Int32) (u : LSt), F_law_L xs L n x4 u = some 1 → ∀ (C S : Nat), C + 8 * n ≤ 601024 → S + 48 * n ≤ 7293034 → ∀ (H : Heap) (locs : List Loc) (ls : Array Slot), va_P D vwCl (LW cI cR cJ ca qa ma wa u) H → va_D A (LW cI cR cJ ca qa ma wa u) → va_S A s.heap H locs → lv_has ls 7 [(0, .ref b), (1, .ref (ca 0)), (2, .ref (ma 0)), (3, .ref wa), (4, .int x4)] → W p l e room_1 s m #[Value.ref b] below meth c H locs C S (lw_Z below #[Value.ref b] s) (F0 m 23 ls []) := by
  intro n
  induction n with
  | zero =>
    intro x4 u hF
    rw [F_law_L] at hF
    exact absurd hF (by simp)
  | succ n ih =>
    intro x4 u hF C S hC hSl H locs ls hP hD hS hl
    rw [F_law_L] at hF
    refine lv_iload hx hb dL_law_23 (lv_at hl 4 rfl) ?_
    refine lv_aload_n hx hb dL_law_25 rfl (lv_at hl 0 rfl) ?_
    refine va_slen hx hb hX hbl hbA hS dL_law_26 ?_
    refine lv_iconst (v := (5 : Int32)) hx hb dL_law_27 (by decide +kernel) ?_
    refine lv_isub hx hb dL_law_28 ?_
    refine lv_icmp_gt (tgt := 975) hx hb dL_law_29 (by decide) (fun c_1 => ?_) (fun c_1 => ?_)
    · replace hF := (if_pos c_1).symm.trans hF
      refine lv_iconst (v := (1 : Int32)) hx hb dL_law_975 (by decide +kernel) ?_
      refine va_forget (fun q hq => hAs _ (hS.2.2 q hq)) ?_
      refine W.widen (k := 601024) (n := 7293034) (by omega) (by omega) ?_
      exact lw_ret hx hb hr hlocks dL_law_976
    · replace hF := (if_neg c_1).symm.trans hF
      refine lv_aload_n hx hb dL_law_32 rfl (lv_at hl 0 rfl) ?_
      refine lv_iload hx hb dL_law_33 (lv_at hl 4 rfl) ?_
      obtain ⟨h_2, hF⟩ := gd_some hF
      refine va_sld hx hb hX hbl hbA hS (inb_in h_2) dL_law_35 ?_
      refine lv_bipush (v := (15 : Int32)) hx hb dL_law_36 (by decide +kernel) ?_
      refine lv_iand hx hb dL_law_38 ?_
      by_cases c_3 : ((xs x4.toNatClampNeg) &&& (15 : Int32)) = (0 : Int32)
      · replace hF := (if_pos c_3).symm.trans hF
        refine lv_tableIn (off := 77) (tgt := 116) hx hb dL_law_39 (by rw [c_3]; decide +kernel) (by rw [c_3]; decide +kernel) (by rw [c_3]; rfl) (by decide) ?_
        refine lv_aload_n hx hb dL_law_116 rfl (lv_at hl 1 rfl) ?_
        refine lv_aload_n hx hb dL_law_117 rfl (lv_at hl 0 rfl) ?_
        refine lv_iload hx hb dL_law_118 (lv_at hl 4 rfl) ?_
        refine lv_iconst (v := (1 : Int32)) hx hb dL_law_120 (by decide +kernel) ?_
        refine lv_iadd hx hb dL_law_121 ?_
        obtain ⟨h_4, hF⟩ := gd_some hF
        refine va_sld hx hb hX hbl hbA hS (inb_in h_4) dL_law_122 ?_
        refine lv_aload_n hx hb dL_law_123 rfl (lv_at hl 0 rfl) ?_
        refine lv_iload hx hb dL_law_124 (lv_at hl 4 rfl) ?_
        refine lv_iconst (v := (2 : Int32)) hx hb dL_law_126 (by decide +kernel) ?_
        refine lv_iadd hx hb dL_law_127 ?_
        obtain ⟨h_5, hF⟩ := gd_some hF
        refine va_sld hx hb hX hbl hbA hS (inb_in h_5) dL_law_128 ?_
        refine lv_aload_n hx hb dL_law_129 rfl (lv_at hl 0 rfl) ?_
        refine lv_iload hx hb dL_law_130 (lv_at hl 4 rfl) ?_
        refine lv_iconst (v := (3 : Int32)) hx hb dL_law_132 (by decide +kernel) ?_
        refine lv_iadd hx hb dL_law_133 ?_
        obtain ⟨h_6, hF⟩ := gd_some hF
        refine va_sld hx hb hX hbl hbA hS (inb_in h_6) dL_law_134 ?_
        obtain ⟨r8, u7, hc_9, hF⟩ := bi_some hF
        refine kc_i (W1 := LW cI cR cJ ca qa ma wa (u7, u.2.1, u.2.2)) (vx_runSW (As := [.ref (ca 0), .int (xs (x4 + (1 : Int32)).toNatClampNeg), .int (xs (x4 + (2 : Int32)).toNatClampNeg), .int (xs (x4 + (3 : Int32)).toNatClampNeg)]) (rest := []) ⟨hx, hb, hml, hown, hts⟩ (c_L_place l hl9 D cI cR sa ca qa H.size (xs (x4 + (1 : Int32)).toNatClampNeg) (xs (x4 + (2 : Int32)).toNatClampNeg) (xs (x4 + (3 : Int32)).toNatClampNeg) u.1 r8 u7 hc_9) (vx_cwSW 4 hts (gS cwc mw_115 mw_116 mw_0 mw_117) rfl rfl rfl (by decide +kernel) ⟨(Nat.le_of_ble_eq_true rfl), (Nat.le_of_ble_eq_true rfl)⟩) (kpX_S hXK (hK.sub [0, 1] rfl) hP hD hS hA (sb_seg [(wa, .inl (cJ, 1, .inr (.inl u.2.2)))] (CW cI cR ca qa u.1) (MW cI ma u.2.1))) rfl rfl hl.1 rfl (lv_room (Nat.le_of_ble_eq_true rfl)) dL_law_135 ⟨(by show _ ≤ 601024; omega), (by show _ ≤ 7293034; omega)⟩) hP hD hS hA (sb_seg [(wa, .inl (cJ, 1, .inr (.inl u.2.2)))] (CW cI cR ca qa u.1) (MW cI ma u.2.1)) (jn_seg [(wa, .inl (cJ, 1, .inr (.inl u.2.2)))] (CW cI cR ca qa u.1) (CW cI cR ca qa u7) (MW cI ma u.2.1) (cw_ad _ _)) (fun H locs hP hD hS => ?_)
        refine lv_istore (lv' := [(5, .int r8), (0, .ref b), (1, .ref (ca 0)), (2, .ref (ma 0)), (3, .ref wa), (4, .int x4)]) hx hb dL_law_138 hl (by decide) rfl (fun ls hl => ?_)
        refine lv_aload_n hx hb dL_law_140 rfl (lv_at hl 3 rfl) ?_
        refine lv_aload_n hx hb dL_law_141 rfl (lv_at hl 1 rfl) ?_
        refine lv_iload hx hb dL_law_142 (lv_at hl 5 rfl) ?_
        refine lv_iconst (v := (1 : Int32)) hx hb dL_law_144 (by decide +kernel) ?_
        refine lv_iadd hx hb dL_law_145 ?_
        obtain ⟨h_10, hF⟩ := gd_some hF
        refine va_sld hx hb hX hbl hbA hS (inb_in h_10) dL_law_146 ?_
        refine lv_aload_n hx hb dL_law_147 rfl (lv_at hl 1 rfl) ?_
        refine lv_iload hx hb dL_law_148 (lv_at hl 5 rfl) ?_
        refine lv_iconst (v := (2 : Int32)) hx hb dL_law_150 (by decide +kernel) ?_
        refine lv_iadd hx hb dL_law_151 ?_
        obtain ⟨h_11, hF⟩ := gd_some hF
        refine va_sld hx hb hX hbl hbA hS (inb_in h_11) dL_law_152 ?_
        refine lv_aload_n hx hb dL_law_153 rfl (lv_at hl 1 rfl) ?_
        refine lv_iload hx hb dL_law_154 (lv_at hl 5 rfl) ?_
        refine lv_iconst (v := (3 : Int32)) hx hb dL_law_156 (by decide +kernel) ?_
        refine lv_iadd hx hb dL_law_157 ?_
        obtain ⟨h_12, hF⟩ := gd_some hF
        refine va_sld hx hb hX hbl hbA hS (inb_in h_12) dL_law_158 ?_
        obtain ⟨r14, u13, hc_15, hF⟩ := bi_some hF
        refine kc_v (W1 := LW cI cR cJ ca qa ma wa (u7, u13, u.2.2)) (va_runV (As := [.int (xs (x4 + (1 : Int32)).toNatClampNeg), .int (xs (x4 + (2 : Int32)).toNatClampNeg), .int (xs (x4 + (3 : Int32)).toNatClampNeg)]) (rest := []) ⟨hx, hb, hml, hown, hts⟩ (c_M_place l D cI cR ma H.size (xs (x4 + (1 : Int32)).toNatClampNeg) (xs (x4 + (2 : Int32)).toNatClampNeg) (xs (x4 + (3 : Int32)).toNatClampNeg) u.2.1 r14 u13 hc_15) (cwV 3 hts (gV cwc mw_376 mw_377 mw_378 mw_3 mw_379) rfl rfl rfl (by decide +kernel) ⟨(Nat.le_of_ble_eq_true rfl), (Nat.le_of_ble_eq_true rfl)⟩) (kp_V (ci := 2) (q := (RX2, TX2, 18)) (hK.sub [0, 1] rfl) hP hD (sb_tail ([(wa, .inl (cJ, 1, .inr (.inl u.2.2)))] ++ (CW cI cR ca qa u7)) (MW cI ma u.2.1)) rfl rfl) rfl rfl hl.1 rfl (lv_room (Nat.le_of_ble_eq_true rfl)) dL_law_159 ⟨(by show _ ≤ 601024; omega), (by show _ ≤ 7293034; omega)⟩) hP hD hS hA (sb_tail ([(wa, .inl (cJ, 1, .inr (.inl u.2.2)))] ++ (CW cI cR ca qa u7)) (MW cI ma u.2.1)) (jn_tail ([(wa, .inl (cJ, 1, .inr (.inl u.2.2)))] ++ (CW cI cR ca qa u7)) (MW cI ma u.2.1) (MW cI ma u13) rfl) (fun H locs hP hD hS => ?_)
        refine lv_aload_n hx hb dL_law_162 rfl (lv_at hl 3 rfl) ?_
        obtain ⟨r17, u16, hc_18, hF⟩ := bi_some hF
        refine kc_i (W1 := LW cI cR cJ ca qa ma wa (u7, u13, u.2.2)) (va_runV (As := []) (rest := []) ⟨hx, hb, hml, hown, hts⟩ (c_M_thrown l D cI cR ma H.size  u13 r17 u16 hc_18) (cwV 0 hts (gV cwc mw_372 mw_373 mw_374 mw_3 mw_375) rfl rfl rfl (by decide +kernel) ⟨(Nat.le_of_ble_eq_true rfl), (Nat.le_of_ble_eq_true rfl)⟩) (kp_V (ci := 2) (q := (RX2, TX2, 18)) (hK.sub [0, 1] rfl) hP hD (sb_tail ([(wa, .inl (cJ, 1, .inr (.inl u.2.2)))] ++ (CW cI cR ca qa u7)) (MW cI ma u13)) rfl rfl) rfl rfl hl.1 rfl (lv_room (Nat.le_of_ble_eq_true rfl)) dL_law_163 ⟨(by show _ ≤ 601024; omega), (by show _ ≤ 7293034; omega)⟩) hP hD hS hA (sb_tail ([(wa, .inl (cJ, 1, .inr (.inl u.2.2)))] ++ (CW cI cR ca qa u7)) (MW cI ma u13)) (jn_same (sb_tail ([(wa, .inl (cJ, 1, .inr (.inl u.2.2)))] ++ (CW cI cR ca qa u7)) (MW cI ma u13))) (fun H locs hP hD hS => ?_)
        refine lv_iload hx hb dL_law_166 (lv_at hl 0 rfl) ?_
        refine lv_icmp_eq (tgt := 173) hx hb dL_law_168 (by decide) (fun c_19 => ?_) (fun c_19 => ?_)
        · replace hF := (if_pos c_19).symm.trans hF
          refine lv_goto (tgt := 969) hx hb dL_law_173 (by decide) ?_
          refine lv_iinc (v := (x4 + (5 : Int32))) (lv' := [(4, .int (x4 + (5 : Int32))), (5, .int r8), (0, .ref b), (1, .ref (ca 0)), (2, .ref (ma 0)), (3, .ref wa)]) hx hb dL_law_969 hl (k := 5) rfl rfl (by decide) rfl (fun ls hl => ?_)
          refine lv_goto (tgt := 23) hx hb dL_law_972 (by decide) ?_
          exact ih (x4 + (5 : Int32)) (u7, u13, u.2.2) hF _ _ (by omega) (by omega) H locs ls hP hD hS (lv_sub hl [2, 3, 4, 5, 0] rfl)
        · replace hF := (if_neg c_19).symm.trans hF
          refine lv_iconst (v := (0 : Int32)) hx hb dL_law_171 (by decide +kernel) ?_
          exact absurd (Option.some.inj hF) (by decide)
      · replace hF := (if_neg c_3).symm.trans hF
        by_cases c_20 : ((xs x4.toNatClampNeg) &&& (15 : Int32)) = (1 : Int32)
        · replace hF := (if_pos c_20).symm.trans hF
          refine lv_tableIn (off := 137) (tgt := 176) hx hb dL_law_39 (by rw [c_20]; decide +kernel) (by rw [c_20]; decide +kernel) (by rw [c_20]; rfl) (by decide) ?_
          refine lv_aload_n hx hb dL_law_176 rfl (lv_at hl 1 rfl) ?_
          refine lv_aload_n hx hb dL_law_177 rfl (lv_at hl 0 rfl) ?_
          refine lv_iload hx hb dL_law_178 (lv_at hl 4 rfl) ?_
          refine lv_iconst (v := (1 : Int32)) hx hb dL_law_180 (by decide +kernel) ?_
          refine lv_iadd hx hb dL_law_181 ?_
          obtain ⟨h_21, hF⟩ := gd_some hF
          refine va_sld hx hb hX hbl hbA hS (inb_in h_21) dL_law_182 ?_
          refine lv_aload_n hx hb dL_law_183 rfl (lv_at hl 0 rfl) ?_
          refine lv_iload hx hb dL_law_184 (lv_at hl 4 rfl) ?_
          refine lv_iconst (v := (2 : Int32)) hx hb dL_law_186 (by decide +kernel) ?_
          refine lv_iadd hx hb dL_law_187 ?_
          obtain ⟨h_22, hF⟩ := gd_some hF
          refine va_sld hx hb hX hbl hbA hS (inb_in h_22) dL_law_188 ?_
          refine lv_aload_n hx hb dL_law_189 rfl (lv_at hl 0 rfl) ?_
          refine lv_iload hx hb dL_law_190 (lv_at hl 4 rfl) ?_
          refine lv_iconst (v := (3 : Int32)) hx hb dL_law_192 (by decide +kernel) ?_
          refine lv_iadd hx hb dL_law_193 ?_
          obtain ⟨h_23, hF⟩ := gd_some hF
          refine va_sld hx hb hX hbl hbA hS (inb_in h_23) dL_law_194 ?_
          obtain ⟨r25, u24, hc_26, hF⟩ := bi_some hF
          refine kc_i (W1 := LW cI cR cJ ca qa ma wa (u24, u.2.1, u.2.2)) (vx_runSW (As := [.ref (ca 0), .int (xs (x4 + (1 : Int32)).toNatClampNeg), .int (xs (x4 + (2 : Int32)).toNatClampNeg), .int (xs (x4 + (3 : Int32)).toNatClampNeg)]) (rest := []) ⟨hx, hb, hml, hown, hts⟩ (c_L_rate l hl9 D cI cR sa ca qa H.size (xs (x4 + (1 : Int32)).toNatClampNeg) (xs (x4 + (2 : Int32)).toNatClampNeg) (xs (x4 + (3 : Int32)).toNatClampNeg) u.1 r25 u24 hc_26) (vx_cwSW 4 hts (gS cwc mw_193 mw_194 mw_0 mw_195) rfl rfl rfl (by decide +kernel) ⟨(Nat.le_of_ble_eq_true rfl), (Nat.le_of_ble_eq_true rfl)⟩) (kpX_S hXK (hK.sub [0, 1] rfl) hP hD hS hA (sb_seg [(wa, .inl (cJ, 1, .inr (.inl u.2.2)))] (CW cI cR ca qa u.1) (MW cI ma u.2.1))) rfl rfl hl.1 rfl (lv_room (Nat.le_of_ble_eq_true rfl)) dL_law_195 ⟨(by show _ ≤ 601024; omega), (by show _ ≤ 7293034; omega)⟩) hP hD hS hA (sb_seg [(wa, .inl (cJ, 1, .inr (.inl u.2.2)))] (CW cI cR ca qa u.1) (MW cI ma u.2.1)) (jn_seg [(wa, .inl (cJ, 1, .inr (.inl u.2.2)))] (CW cI cR ca qa u.1) (CW cI cR ca qa u24) (MW cI ma u.2.1) (cw_ad _ _)) (fun H locs hP hD hS => ?_)
          refine lv_istore (lv' := [(5, .int r25), (0, .ref b), (1, .ref (ca 0)), (2, .ref (ma 0)), (3, .ref wa), (4, .int x4)]) hx hb dL_law_198 hl (by decide) rfl (fun ls hl => ?_)
          refine lv_aload_n hx hb dL_law_200 rfl (lv_at hl 3 rfl) ?_
          refine lv_aload_n hx hb dL_law_201 rfl (lv_at hl 1 rfl) ?_
          refine lv_iload hx hb dL_law_202 (lv_at hl 5 rfl) ?_
          refine lv_iconst (v := (1 : Int32)) hx hb dL_law_204 (by decide +kernel) ?_
          refine lv_iadd hx hb dL_law_205 ?_
          obtain ⟨h_27, hF⟩ := gd_some hF
          refine va_sld hx hb hX hbl hbA hS (inb_in h_27) dL_law_206 ?_
          refine lv_aload_n hx hb dL_law_207 rfl (lv_at hl 1 rfl) ?_
          refine lv_iload hx hb dL_law_208 (lv_at hl 5 rfl) ?_
          refine lv_iconst (v := (2 : Int32)) hx hb dL_law_210 (by decide +kernel) ?_
          refine lv_iadd hx hb dL_law_211 ?_
          obtain ⟨h_28, hF⟩ := gd_some hF
          refine va_sld hx hb hX hbl hbA hS (inb_in h_28) dL_law_212 ?_
          refine lv_aload_n hx hb dL_law_213 rfl (lv_at hl 1 rfl) ?_
          refine lv_iload hx hb dL_law_214 (lv_at hl 5 rfl) ?_
          refine lv_iconst (v := (3 : Int32)) hx hb dL_law_216 (by decide +kernel) ?_
          refine lv_iadd hx hb dL_law_217 ?_
          obtain ⟨h_29, hF⟩ := gd_some hF
          refine va_sld hx hb hX hbl hbA hS (inb_in h_29) dL_law_218 ?_
          obtain ⟨r31, u30, hc_32, hF⟩ := bi_some hF
          refine kc_v (W1 := LW cI cR cJ ca qa ma wa (u24, u30, u.2.2)) (va_runV (As := [.int (xs (x4 + (1 : Int32)).toNatClampNeg), .int (xs (x4 + (2 : Int32)).toNatClampNeg), .int (xs (x4 + (3 : Int32)).toNatClampNeg)]) (rest := []) ⟨hx, hb, hml, hown, hts⟩ (c_M_rate l D cI cR ma H.size (xs (x4 + (1 : Int32)).toNatClampNeg) (xs (x4 + (2 : Int32)).toNatClampNeg) (xs (x4 + (3 : Int32)).toNatClampNeg) u.2.1 r31 u30 hc_32) (cwV 3 hts (gV cwc mw_383 mw_384 mw_385 mw_3 mw_386) rfl rfl rfl (by decide +kernel) ⟨(Nat.le_of_ble_eq_true rfl), (Nat.le_of_ble_eq_true rfl)⟩) (kp_V (ci := 2) (q := (RX2, TX2, 18)) (hK.sub [0, 1] rfl) hP hD (sb_tail ([(wa, .inl (cJ, 1, .inr (.inl u.2.2)))] ++ (CW cI cR ca qa u24)) (MW cI ma u.2.1)) rfl rfl) rfl rfl hl.1 rfl (lv_room (Nat.le_of_ble_eq_true rfl)) dL_law_219 ⟨(by show _ ≤ 601024; omega), (by show _ ≤ 7293034; omega)⟩) hP hD hS hA (sb_tail ([(wa, .inl (cJ, 1, .inr (.inl u.2.2)))] ++ (CW cI cR ca qa u24)) (MW cI ma u.2.1)) (jn_tail ([(wa, .inl (cJ, 1, .inr (.inl u.2.2)))] ++ (CW cI cR ca qa u24)) (MW cI ma u.2.1) (MW cI ma u30) rfl) (fun H locs hP hD hS => ?_)
          refine lv_aload_n hx hb dL_law_222 rfl (lv_at hl 3 rfl) ?_
          obtain ⟨r34, u33, hc_35, hF⟩ := bi_some hF
          refine kc_i (W1 := LW cI cR cJ ca qa ma wa (u24, u30, u.2.2)) (va_runV (As := []) (rest := []) ⟨hx, hb, hml, hown, hts⟩ (c_M_thrown l D cI cR ma H.size  u30 r34 u33 hc_35) (cwV 0 hts (gV cwc mw_372 mw_373 mw_374 mw_3 mw_375) rfl rfl rfl (by decide +kernel) ⟨(Nat.le_of_ble_eq_true rfl), (Nat.le_of_ble_eq_true rfl)⟩) (kp_V (ci := 2) (q := (RX2, TX2, 18)) (hK.sub [0, 1] rfl) hP hD (sb_tail ([(wa, .inl (cJ, 1, .inr (.inl u.2.2)))] ++ (CW cI cR ca qa u24)) (MW cI ma u30)) rfl rfl) rfl rfl hl.1 rfl (lv_room (Nat.le_of_ble_eq_true rfl)) dL_law_223 ⟨(by show _ ≤ 601024; omega), (by show _ ≤ 7293034; omega)⟩) hP hD hS hA (sb_tail ([(wa, .inl (cJ, 1, .inr (.inl u.2.2)))] ++ (CW cI cR ca qa u24)) (MW cI ma u30)) (jn_same (sb_tail ([(wa, .inl (cJ, 1, .inr (.inl u.2.2)))] ++ (CW cI cR ca qa u24)) (MW cI ma u30))) (fun H locs hP hD hS => ?_)
          refine lv_iload hx hb dL_law_226 (lv_at hl 0 rfl) ?_
          refine lv_icmp_eq (tgt := 233) hx hb dL_law_228 (by decide) (fun c_36 => ?_) (fun c_36 => ?_)
          · replace hF := (if_pos c_36).symm.trans hF
            refine lv_goto (tgt := 969) hx hb dL_law_233 (by decide) ?_
            refine lv_iinc (v := (x4 + (5 : Int32))) (lv' := [(4, .int (x4 + (5 : Int32))), (5, .int r25), (0, .ref b), (1, .ref (ca 0)), (2, .ref (ma 0)), (3, .ref wa)]) hx hb dL_law_969 hl (k := 5) rfl rfl (by decide) rfl (fun ls hl => ?_)
            refine lv_goto (tgt := 23) hx hb dL_law_972 (by decide) ?_
            exact ih (x4 + (5 : Int32)) (u24, u30, u.2.2) hF _ _ (by omega) (by omega) H locs ls hP hD hS (lv_sub hl [2, 3, 4, 5, 0] rfl)
          · replace hF := (if_neg c_36).symm.trans hF
            refine lv_iconst (v := (0 : Int32)) hx hb dL_law_231 (by decide +kernel) ?_
            exact absurd (Option.some.inj hF) (by decide)
        · replace hF := (if_neg c_20).symm.trans hF
          by_cases c_37 : ((xs x4.toNatClampNeg) &&& (15 : Int32)) = (2 : Int32)
          · replace hF := (if_pos c_37).symm.trans hF
            refine lv_tableIn (off := 197) (tgt := 236) hx hb dL_law_39 (by rw [c_37]; decide +kernel) (by rw [c_37]; decide +kernel) (by rw [c_37]; rfl) (by decide) ?_
            refine lv_aload_n hx hb dL_law_236 rfl (lv_at hl 1 rfl) ?_
            refine lv_aload_n hx hb dL_law_237 rfl (lv_at hl 0 rfl) ?_
            refine lv_iload hx hb dL_law_238 (lv_at hl 4 rfl) ?_
            refine lv_iconst (v := (1 : Int32)) hx hb dL_law_240 (by decide +kernel) ?_
            refine lv_iadd hx hb dL_law_241 ?_
            obtain ⟨h_38, hF⟩ := gd_some hF
            refine va_sld hx hb hX hbl hbA hS (inb_in h_38) dL_law_242 ?_
            refine lv_aload_n hx hb dL_law_243 rfl (lv_at hl 0 rfl) ?_
            refine lv_iload hx hb dL_law_244 (lv_at hl 4 rfl) ?_
            refine lv_iconst (v := (2 : Int32)) hx hb dL_law_246 (by decide +kernel) ?_
            refine lv_iadd hx hb dL_law_247 ?_
            obtain ⟨h_39, hF⟩ := gd_some hF
            refine va_sld hx hb hX hbl hbA hS (inb_in h_39) dL_law_248 ?_
            obtain ⟨r41, u40, hc_42, hF⟩ := bi_some hF
            refine kc_i (W1 := LW cI cR cJ ca qa ma wa (u40, u.2.1, u.2.2)) (vx_runSW (As := [.ref (ca 0), .int (xs (x4 + (1 : Int32)).toNatClampNeg), .int (xs (x4 + (2 : Int32)).toNatClampNeg)]) (rest := []) ⟨hx, hb, hml, hown, hts⟩ (c_L_accept l hl9 D cI cR sa ca qa H.size (xs (x4 + (1 : Int32)).toNatClampNeg) (xs (x4 + (2 : Int32)).toNatClampNeg) u.1 r41 u40 hc_42) (vx_cwSW 3 hts (gS cwc mw_203 mw_204 mw_0 mw_205) rfl rfl rfl (by decide +kernel) ⟨(Nat.le_of_ble_eq_true rfl), (Nat.le_of_ble_eq_true rfl)⟩) (kpX_S hXK (hK.sub [0, 1] rfl) hP hD hS hA (sb_seg [(wa, .inl (cJ, 1, .inr (.inl u.2.2)))] (CW cI cR ca qa u.1) (MW cI ma u.2.1))) rfl rfl hl.1 rfl (lv_room (Nat.le_of_ble_eq_true rfl)) dL_law_249 ⟨(by show _ ≤ 601024; omega), (by show _ ≤ 7293034; omega)⟩) hP hD hS hA (sb_seg [(wa, .inl (cJ, 1, .inr (.inl u.2.2)))] (CW cI cR ca qa u.1) (MW cI ma u.2.1)) (jn_seg [(wa, .inl (cJ, 1, .inr (.inl u.2.2)))] (CW cI cR ca qa u.1) (CW cI cR ca qa u40) (MW cI ma u.2.1) (cw_ad _ _)) (fun H locs hP hD hS => ?_)
            refine lv_istore (lv' := [(5, .int r41), (0, .ref b), (1, .ref (ca 0)), (2, .ref (ma 0)), (3, .ref wa), (4, .int x4)]) hx hb dL_law_252 hl (by decide) rfl (fun ls hl => ?_)
            refine lv_aload_n hx hb dL_law_254 rfl (lv_at hl 3 rfl) ?_
            refine lv_aload_n hx hb dL_law_255 rfl (lv_at hl 1 rfl) ?_
            refine lv_iload hx hb dL_law_256 (lv_at hl 5 rfl) ?_
            refine lv_iconst (v := (1 : Int32)) hx hb dL_law_258 (by decide +kernel) ?_
            refine lv_iadd hx hb dL_law_259 ?_
            obtain ⟨h_43, hF⟩ := gd_some hF
            refine va_sld hx hb hX hbl hbA hS (inb_in h_43) dL_law_260 ?_
            refine lv_aload_n hx hb dL_law_261 rfl (lv_at hl 1 rfl) ?_
            refine lv_iload hx hb dL_law_262 (lv_at hl 5 rfl) ?_
            refine lv_iconst (v := (2 : Int32)) hx hb dL_law_264 (by decide +kernel) ?_
            refine lv_iadd hx hb dL_law_265 ?_
            obtain ⟨h_44, hF⟩ := gd_some hF
            refine va_sld hx hb hX hbl hbA hS (inb_in h_44) dL_law_266 ?_
            obtain ⟨r46, u45, hc_47, hF⟩ := bi_some hF
            refine kc_v (W1 := LW cI cR cJ ca qa ma wa (u40, u45, u.2.2)) (va_runV (As := [.int (xs (x4 + (1 : Int32)).toNatClampNeg), .int (xs (x4 + (2 : Int32)).toNatClampNeg)]) (rest := []) ⟨hx, hb, hml, hown, hts⟩ (c_M_accept l D cI cR ma H.size (xs (x4 + (1 : Int32)).toNatClampNeg) (xs (x4 + (2 : Int32)).toNatClampNeg) u.2.1 r46 u45 hc_47) (cwV 2 hts (gV cwc mw_387 mw_388 mw_389 mw_3 mw_390) rfl rfl rfl (by decide +kernel) ⟨(Nat.le_of_ble_eq_true rfl), (Nat.le_of_ble_eq_true rfl)⟩) (kp_V (ci := 2) (q := (RX2, TX2, 18)) (hK.sub [0, 1] rfl) hP hD (sb_tail ([(wa, .inl (cJ, 1, .inr (.inl u.2.2)))] ++ (CW cI cR ca qa u40)) (MW cI ma u.2.1)) rfl rfl) rfl rfl hl.1 rfl (lv_room (Nat.le_of_ble_eq_true rfl)) dL_law_267 ⟨(by show _ ≤ 601024; omega), (by show _ ≤ 7293034; omega)⟩) hP hD hS hA (sb_tail ([(wa, .inl (cJ, 1, .inr (.inl u.2.2)))] ++ (CW cI cR ca qa u40)) (MW cI ma u.2.1)) (jn_tail ([(wa, .inl (cJ, 1, .inr (.inl u.2.2)))] ++ (CW cI cR ca qa u40)) (MW cI ma u.2.1) (MW cI ma u45) rfl) (fun H locs hP hD hS => ?_)
            refine lv_aload_n hx hb dL_law_270 rfl (lv_at hl 3 rfl) ?_
            obtain ⟨r49, u48, hc_50, hF⟩ := bi_some hF
            refine kc_i (W1 := LW cI cR cJ ca qa ma wa (u40, u45, u.2.2)) (va_runV (As := []) (rest := []) ⟨hx, hb, hml, hown, hts⟩ (c_M_thrown l D cI cR ma H.size  u45 r49 u48 hc_50) (cwV 0 hts (gV cwc mw_372 mw_373 mw_374 mw_3 mw_375) rfl rfl rfl (by decide +kernel) ⟨(Nat.le_of_ble_eq_true rfl), (Nat.le_of_ble_eq_true rfl)⟩) (kp_V (ci := 2) (q := (RX2, TX2, 18)) (hK.sub [0, 1] rfl) hP hD (sb_tail ([(wa, .inl (cJ, 1, .inr (.inl u.2.2)))] ++ (CW cI cR ca qa u40)) (MW cI ma u45)) rfl rfl) rfl rfl hl.1 rfl (lv_room (Nat.le_of_ble_eq_true rfl)) dL_law_271 ⟨(by show _ ≤ 601024; omega), (by show _ ≤ 7293034; omega)⟩) hP hD hS hA (sb_tail ([(wa, .inl (cJ, 1, .inr (.inl u.2.2)))] ++ (CW cI cR ca qa u40)) (MW cI ma u45)) (jn_same (sb_tail ([(wa, .inl (cJ, 1, .inr (.inl u.2.2)))] ++ (CW cI cR ca qa u40)) (MW cI ma u45))) (fun H locs hP hD hS => ?_)
            refine lv_iload hx hb dL_law_274 (lv_at hl 0 rfl) ?_
            refine lv_icmp_eq (tgt := 281) hx hb dL_law_276 (by decide) (fun c_51 => ?_) (fun c_51 => ?_)
            · replace hF := (if_pos c_51).symm.trans hF
              refine lv_goto (tgt := 969) hx hb dL_law_281 (by decide) ?_
              refine lv_iinc (v := (x4 + (5 : Int32))) (lv' := [(4, .int (x4 + (5 : Int32))), (5, .int r41), (0, .ref b), (1, .ref (ca 0)), (2, .ref (ma 0)), (3, .ref wa)]) hx hb dL_law_969 hl (k := 5) rfl rfl (by decide) rfl (fun ls hl => ?_)
              refine lv_goto (tgt := 23) hx hb dL_law_972 (by decide) ?_
              exact ih (x4 + (5 : Int32)) (u40, u45, u.2.2) hF _ _ (by omega) (by omega) H locs ls hP hD hS (lv_sub hl [2, 3, 4, 5, 0] rfl)
            · replace hF := (if_neg c_51).symm.trans hF
              refine lv_iconst (v := (0 : Int32)) hx hb dL_law_279 (by decide +kernel) ?_
              exact absurd (Option.some.inj hF) (by decide)
          · replace hF := (if_neg c_37).symm.trans hF
            by_cases c_52 : ((xs x4.toNatClampNeg) &&& (15 : Int32)) = (3 : Int32)
            · replace hF := (if_pos c_52).symm.trans hF
              refine lv_tableIn (off := 245) (tgt := 284) hx hb dL_law_39 (by rw [c_52]; decide +kernel) (by rw [c_52]; decide +kernel) (by rw [c_52]; rfl) (by decide) ?_
              refine lv_aload_n hx hb dL_law_284 rfl (lv_at hl 1 rfl) ?_
              refine lv_aload_n hx hb dL_law_285 rfl (lv_at hl 0 rfl) ?_
              refine lv_iload hx hb dL_law_286 (lv_at hl 4 rfl) ?_
              refine lv_iconst (v := (1 : Int32)) hx hb dL_law_288 (by decide +kernel) ?_
              refine lv_iadd hx hb dL_law_289 ?_
              obtain ⟨h_53, hF⟩ := gd_some hF
              refine va_sld hx hb hX hbl hbA hS (inb_in h_53) dL_law_290 ?_
              refine lv_aload_n hx hb dL_law_291 rfl (lv_at hl 0 rfl) ?_
              refine lv_iload hx hb dL_law_292 (lv_at hl 4 rfl) ?_
              refine lv_iconst (v := (2 : Int32)) hx hb dL_law_294 (by decide +kernel) ?_
              refine lv_iadd hx hb dL_law_295 ?_
              obtain ⟨h_54, hF⟩ := gd_some hF
              refine va_sld hx hb hX hbl hbA hS (inb_in h_54) dL_law_296 ?_
              refine lv_aload_n hx hb dL_law_297 rfl (lv_at hl 0 rfl) ?_
              refine lv_iload hx hb dL_law_298 (lv_at hl 4 rfl) ?_
              refine lv_iconst (v := (3 : Int32)) hx hb dL_law_300 (by decide +kernel) ?_
              refine lv_iadd hx hb dL_law_301 ?_
              obtain ⟨h_55, hF⟩ := gd_some hF
              refine va_sld hx hb hX hbl hbA hS (inb_in h_55) dL_law_302 ?_
              obtain ⟨r57, u56, hc_58, hF⟩ := bi_some hF
              refine kc_i (W1 := LW cI cR cJ ca qa ma wa (u56, u.2.1, u.2.2)) (vx_runSW (As := [.ref (ca 0), .int (xs (x4 + (1 : Int32)).toNatClampNeg), .int (xs (x4 + (2 : Int32)).toNatClampNeg), .int (xs (x4 + (3 : Int32)).toNatClampNeg)]) (rest := []) ⟨hx, hb, hml, hown, hts⟩ (c_L_make l hl9 D cI cR sa ca qa H.size (xs (x4 + (1 : Int32)).toNatClampNeg) (xs (x4 + (2 : Int32)).toNatClampNeg) (xs (x4 + (3 : Int32)).toNatClampNeg) u.1 r57 u56 hc_58) (vx_cwSW 4 hts (gS cwc mw_210 mw_211 mw_0 mw_212) rfl rfl rfl (by decide +kernel) ⟨(Nat.le_of_ble_eq_true rfl), (Nat.le_of_ble_eq_true rfl)⟩) (kpX_S hXK (hK.sub [0, 1] rfl) hP hD hS hA (sb_seg [(wa, .inl (cJ, 1, .inr (.inl u.2.2)))] (CW cI cR ca qa u.1) (MW cI ma u.2.1))) rfl rfl hl.1 rfl (lv_room (Nat.le_of_ble_eq_true rfl)) dL_law_303 ⟨(by show _ ≤ 601024; omega), (by show _ ≤ 7293034; omega)⟩) hP hD hS hA (sb_seg [(wa, .inl (cJ, 1, .inr (.inl u.2.2)))] (CW cI cR ca qa u.1) (MW cI ma u.2.1)) (jn_seg [(wa, .inl (cJ, 1, .inr (.inl u.2.2)))] (CW cI cR ca qa u.1) (CW cI cR ca qa u56) (MW cI ma u.2.1) (cw_ad _ _)) (fun H locs hP hD hS => ?_)
              refine lv_istore (lv' := [(5, .int r57), (0, .ref b), (1, .ref (ca 0)), (2, .ref (ma 0)), (3, .ref wa), (4, .int x4)]) hx hb dL_law_306 hl (by decide) rfl (fun ls hl => ?_)
              refine lv_aload_n hx hb dL_law_308 rfl (lv_at hl 3 rfl) ?_
              refine lv_aload_n hx hb dL_law_309 rfl (lv_at hl 1 rfl) ?_
              refine lv_iload hx hb dL_law_310 (lv_at hl 5 rfl) ?_
              refine lv_iconst (v := (1 : Int32)) hx hb dL_law_312 (by decide +kernel) ?_
              refine lv_iadd hx hb dL_law_313 ?_
              obtain ⟨h_59, hF⟩ := gd_some hF
              refine va_sld hx hb hX hbl hbA hS (inb_in h_59) dL_law_314 ?_
              refine lv_aload_n hx hb dL_law_315 rfl (lv_at hl 1 rfl) ?_
              refine lv_iload hx hb dL_law_316 (lv_at hl 5 rfl) ?_
              refine lv_iconst (v := (2 : Int32)) hx hb dL_law_318 (by decide +kernel) ?_
              refine lv_iadd hx hb dL_law_319 ?_
              obtain ⟨h_60, hF⟩ := gd_some hF
              refine va_sld hx hb hX hbl hbA hS (inb_in h_60) dL_law_320 ?_
              refine lv_aload_n hx hb dL_law_321 rfl (lv_at hl 1 rfl) ?_
              refine lv_iload hx hb dL_law_322 (lv_at hl 5 rfl) ?_
              refine lv_iconst (v := (3 : Int32)) hx hb dL_law_324 (by decide +kernel) ?_
              refine lv_iadd hx hb dL_law_325 ?_
              obtain ⟨h_61, hF⟩ := gd_some hF
              refine va_sld hx hb hX hbl hbA hS (inb_in h_61) dL_law_326 ?_
              obtain ⟨r63, u62, hc_64, hF⟩ := bi_some hF
              refine kc_v (W1 := LW cI cR cJ ca qa ma wa (u56, u62, u.2.2)) (va_runV (As := [.int (xs (x4 + (1 : Int32)).toNatClampNeg), .int (xs (x4 + (2 : Int32)).toNatClampNeg), .int (xs (x4 + (3 : Int32)).toNatClampNeg)]) (rest := []) ⟨hx, hb, hml, hown, hts⟩ (c_M_make l D cI cR ma H.size (xs (x4 + (1 : Int32)).toNatClampNeg) (xs (x4 + (2 : Int32)).toNatClampNeg) (xs (x4 + (3 : Int32)).toNatClampNeg) u.2.1 r63 u62 hc_64) (cwV 3 hts (gV cwc mw_391 mw_392 mw_393 mw_3 mw_394) rfl rfl rfl (by decide +kernel) ⟨(Nat.le_of_ble_eq_true rfl), (Nat.le_of_ble_eq_true rfl)⟩) (kp_V (ci := 2) (q := (RX2, TX2, 18)) (hK.sub [0, 1] rfl) hP hD (sb_tail ([(wa, .inl (cJ, 1, .inr (.inl u.2.2)))] ++ (CW cI cR ca qa u56)) (MW cI ma u.2.1)) rfl rfl) rfl rfl hl.1 rfl (lv_room (Nat.le_of_ble_eq_true rfl)) dL_law_327 ⟨(by show _ ≤ 601024; omega), (by show _ ≤ 7293034; omega)⟩) hP hD hS hA (sb_tail ([(wa, .inl (cJ, 1, .inr (.inl u.2.2)))] ++ (CW cI cR ca qa u56)) (MW cI ma u.2.1)) (jn_tail ([(wa, .inl (cJ, 1, .inr (.inl u.2.2)))] ++ (CW cI cR ca qa u56)) (MW cI ma u.2.1) (MW cI ma u62) rfl) (fun H locs hP hD hS => ?_)
              refine lv_aload_n hx hb dL_law_330 rfl (lv_at hl 3 rfl) ?_
              obtain ⟨r66, u65, hc_67, hF⟩ := bi_some hF
              refine kc_i (W1 := LW cI cR cJ ca qa ma wa (u56, u62, u.2.2)) (va_runV (As := []) (rest := []) ⟨hx, hb, hml, hown, hts⟩ (c_M_thrown l D cI cR ma H.size  u62 r66 u65 hc_67) (cwV 0 hts (gV cwc mw_372 mw_373 mw_374 mw_3 mw_375) rfl rfl rfl (by decide +kernel) ⟨(Nat.le_of_ble_eq_true rfl), (Nat.le_of_ble_eq_true rfl)⟩) (kp_V (ci := 2) (q := (RX2, TX2, 18)) (hK.sub [0, 1] rfl) hP hD (sb_tail ([(wa, .inl (cJ, 1, .inr (.inl u.2.2)))] ++ (CW cI cR ca qa u56)) (MW cI ma u62)) rfl rfl) rfl rfl hl.1 rfl (lv_room (Nat.le_of_ble_eq_true rfl)) dL_law_331 ⟨(by show _ ≤ 601024; omega), (by show _ ≤ 7293034; omega)⟩) hP hD hS hA (sb_tail ([(wa, .inl (cJ, 1, .inr (.inl u.2.2)))] ++ (CW cI cR ca qa u56)) (MW cI ma u62)) (jn_same (sb_tail ([(wa, .inl (cJ, 1, .inr (.inl u.2.2)))] ++ (CW cI cR ca qa u56)) (MW cI ma u62))) (fun H locs hP hD hS => ?_)
              refine lv_iload hx hb dL_law_334 (lv_at hl 0 rfl) ?_
              refine lv_icmp_eq (tgt := 341) hx hb dL_law_336 (by decide) (fun c_68 => ?_) (fun c_68 => ?_)
              · replace hF := (if_pos c_68).symm.trans hF
                refine lv_goto (tgt := 969) hx hb dL_law_341 (by decide) ?_
                refine lv_iinc (v := (x4 + (5 : Int32))) (lv' := [(4, .int (x4 + (5 : Int32))), (5, .int r57), (0, .ref b), (1, .ref (ca 0)), (2, .ref (ma 0)), (3, .ref wa)]) hx hb dL_law_969 hl (k := 5) rfl rfl (by decide) rfl (fun ls hl => ?_)
                refine lv_goto (tgt := 23) hx hb dL_law_972 (by decide) ?_
                exact ih (x4 + (5 : Int32)) (u56, u62, u.2.2) hF _ _ (by omega) (by omega) H locs ls hP hD hS (lv_sub hl [2, 3, 4, 5, 0] rfl)
              · replace hF := (if_neg c_68).symm.trans hF
                refine lv_iconst (v := (0 : Int32)) hx hb dL_law_339 (by decide +kernel) ?_
                exact absurd (Option.some.inj hF) (by decide)
            · replace hF := (if_neg c_52).symm.trans hF
              by_cases c_69 : ((xs x4.toNatClampNeg) &&& (15 : Int32)) = (4 : Int32)
              · replace hF := (if_pos c_69).symm.trans hF
                refine lv_tableIn (off := 305) (tgt := 344) hx hb dL_law_39 (by rw [c_69]; decide +kernel) (by rw [c_69]; decide +kernel) (by rw [c_69]; rfl) (by decide) ?_
                refine lv_aload_n hx hb dL_law_344 rfl (lv_at hl 1 rfl) ?_
                refine lv_aload_n hx hb dL_law_345 rfl (lv_at hl 0 rfl) ?_
                refine lv_iload hx hb dL_law_346 (lv_at hl 4 rfl) ?_
                refine lv_iconst (v := (1 : Int32)) hx hb dL_law_348 (by decide +kernel) ?_
                refine lv_iadd hx hb dL_law_349 ?_
                obtain ⟨h_70, hF⟩ := gd_some hF
                refine va_sld hx hb hX hbl hbA hS (inb_in h_70) dL_law_350 ?_
                refine lv_aload_n hx hb dL_law_351 rfl (lv_at hl 0 rfl) ?_
                refine lv_iload hx hb dL_law_352 (lv_at hl 4 rfl) ?_
                refine lv_iconst (v := (2 : Int32)) hx hb dL_law_354 (by decide +kernel) ?_
                refine lv_iadd hx hb dL_law_355 ?_
                obtain ⟨h_71, hF⟩ := gd_some hF
                refine va_sld hx hb hX hbl hbA hS (inb_in h_71) dL_law_356 ?_
                refine lv_aload_n hx hb dL_law_357 rfl (lv_at hl 0 rfl) ?_
                refine lv_iload hx hb dL_law_358 (lv_at hl 4 rfl) ?_
                refine lv_iconst (v := (3 : Int32)) hx hb dL_law_360 (by decide +kernel) ?_
                refine lv_iadd hx hb dL_law_361 ?_
                obtain ⟨h_72, hF⟩ := gd_some hF
                refine va_sld hx hb hX hbl hbA hS (inb_in h_72) dL_law_362 ?_
                obtain ⟨r74, u73, hc_75, hF⟩ := bi_some hF
                refine kc_i (W1 := LW cI cR cJ ca qa ma wa (u73, u.2.1, u.2.2)) (vx_runSW (As := [.ref (ca 0), .int (xs (x4 + (1 : Int32)).toNatClampNeg), .int (xs (x4 + (2 : Int32)).toNatClampNeg), .int (xs (x4 + (3 : Int32)).toNatClampNeg)]) (rest := []) ⟨hx, hb, hml, hown, hts⟩ (c_L_wagon l hl9 D cI cR sa ca qa H.size (xs (x4 + (1 : Int32)).toNatClampNeg) (xs (x4 + (2 : Int32)).toNatClampNeg) (xs (x4 + (3 : Int32)).toNatClampNeg) u.1 r74 u73 hc_75) (vx_cwSW 4 hts (gS cwc mw_217 mw_218 mw_0 mw_219) rfl rfl rfl (by decide +kernel) ⟨(Nat.le_of_ble_eq_true rfl), (Nat.le_of_ble_eq_true rfl)⟩) (kpX_S hXK (hK.sub [0, 1] rfl) hP hD hS hA (sb_seg [(wa, .inl (cJ, 1, .inr (.inl u.2.2)))] (CW cI cR ca qa u.1) (MW cI ma u.2.1))) rfl rfl hl.1 rfl (lv_room (Nat.le_of_ble_eq_true rfl)) dL_law_363 ⟨(by show _ ≤ 601024; omega), (by show _ ≤ 7293034; omega)⟩) hP hD hS hA (sb_seg [(wa, .inl (cJ, 1, .inr (.inl u.2.2)))] (CW cI cR ca qa u.1) (MW cI ma u.2.1)) (jn_seg [(wa, .inl (cJ, 1, .inr (.inl u.2.2)))] (CW cI cR ca qa u.1) (CW cI cR ca qa u73) (MW cI ma u.2.1) (cw_ad _ _)) (fun H locs hP hD hS => ?_)
                refine lv_istore (lv' := [(5, .int r74), (0, .ref b), (1, .ref (ca 0)), (2, .ref (ma 0)), (3, .ref wa), (4, .int x4)]) hx hb dL_law_366 hl (by decide) rfl (fun ls hl => ?_)
                refine lv_aload_n hx hb dL_law_368 rfl (lv_at hl 3 rfl) ?_
                refine lv_aload_n hx hb dL_law_369 rfl (lv_at hl 1 rfl) ?_
                refine lv_iload hx hb dL_law_370 (lv_at hl 5 rfl) ?_
                refine lv_iconst (v := (1 : Int32)) hx hb dL_law_372 (by decide +kernel) ?_
                refine lv_iadd hx hb dL_law_373 ?_
                obtain ⟨h_76, hF⟩ := gd_some hF
                refine va_sld hx hb hX hbl hbA hS (inb_in h_76) dL_law_374 ?_
                refine lv_aload_n hx hb dL_law_375 rfl (lv_at hl 1 rfl) ?_
                refine lv_iload hx hb dL_law_376 (lv_at hl 5 rfl) ?_
                refine lv_iconst (v := (2 : Int32)) hx hb dL_law_378 (by decide +kernel) ?_
                refine lv_iadd hx hb dL_law_379 ?_
                obtain ⟨h_77, hF⟩ := gd_some hF
                refine va_sld hx hb hX hbl hbA hS (inb_in h_77) dL_law_380 ?_
                refine lv_aload_n hx hb dL_law_381 rfl (lv_at hl 1 rfl) ?_
                refine lv_iload hx hb dL_law_382 (lv_at hl 5 rfl) ?_
                refine lv_iconst (v := (3 : Int32)) hx hb dL_law_384 (by decide +kernel) ?_
                refine lv_iadd hx hb dL_law_385 ?_
                obtain ⟨h_78, hF⟩ := gd_some hF
                refine va_sld hx hb hX hbl hbA hS (inb_in h_78) dL_law_386 ?_
                obtain ⟨r80, u79, hc_81, hF⟩ := bi_some hF
                refine kc_v (W1 := LW cI cR cJ ca qa ma wa (u73, u79, u.2.2)) (va_runV (As := [.int (xs (x4 + (1 : Int32)).toNatClampNeg), .int (xs (x4 + (2 : Int32)).toNatClampNeg), .int (xs (x4 + (3 : Int32)).toNatClampNeg)]) (rest := []) ⟨hx, hb, hml, hown, hts⟩ (c_M_wagon l D cI cR ma H.size (xs (x4 + (1 : Int32)).toNatClampNeg) (xs (x4 + (2 : Int32)).toNatClampNeg) (xs (x4 + (3 : Int32)).toNatClampNeg) u.2.1 r80 u79 hc_81) (cwV 3 hts (gV cwc mw_395 mw_396 mw_397 mw_3 mw_398) rfl rfl rfl (by decide +kernel) ⟨(Nat.le_of_ble_eq_true rfl), (Nat.le_of_ble_eq_true rfl)⟩) (kp_V (ci := 2) (q := (RX2, TX2, 18)) (hK.sub [0, 1] rfl) hP hD (sb_tail ([(wa, .inl (cJ, 1, .inr (.inl u.2.2)))] ++ (CW cI cR ca qa u73)) (MW cI ma u.2.1)) rfl rfl) rfl rfl hl.1 rfl (lv_room (Nat.le_of_ble_eq_true rfl)) dL_law_387 ⟨(by show _ ≤ 601024; omega), (by show _ ≤ 7293034; omega)⟩) hP hD hS hA (sb_tail ([(wa, .inl (cJ, 1, .inr (.inl u.2.2)))] ++ (CW cI cR ca qa u73)) (MW cI ma u.2.1)) (jn_tail ([(wa, .inl (cJ, 1, .inr (.inl u.2.2)))] ++ (CW cI cR ca qa u73)) (MW cI ma u.2.1) (MW cI ma u79) rfl) (fun H locs hP hD hS => ?_)
                refine lv_aload_n hx hb dL_law_390 rfl (lv_at hl 3 rfl) ?_
                obtain ⟨r83, u82, hc_84, hF⟩ := bi_some hF
                refine kc_i (W1 := LW cI cR cJ ca qa ma wa (u73, u79, u.2.2)) (va_runV (As := []) (rest := []) ⟨hx, hb, hml, hown, hts⟩ (c_M_thrown l D cI cR ma H.size  u79 r83 u82 hc_84) (cwV 0 hts (gV cwc mw_372 mw_373 mw_374 mw_3 mw_375) rfl rfl rfl (by decide +kernel) ⟨(Nat.le_of_ble_eq_true rfl), (Nat.le_of_ble_eq_true rfl)⟩) (kp_V (ci := 2) (q := (RX2, TX2, 18)) (hK.sub [0, 1] rfl) hP hD (sb_tail ([(wa, .inl (cJ, 1, .inr (.inl u.2.2)))] ++ (CW cI cR ca qa u73)) (MW cI ma u79)) rfl rfl) rfl rfl hl.1 rfl (lv_room (Nat.le_of_ble_eq_true rfl)) dL_law_391 ⟨(by show _ ≤ 601024; omega), (by show _ ≤ 7293034; omega)⟩) hP hD hS hA (sb_tail ([(wa, .inl (cJ, 1, .inr (.inl u.2.2)))] ++ (CW cI cR ca qa u73)) (MW cI ma u79)) (jn_same (sb_tail ([(wa, .inl (cJ, 1, .inr (.inl u.2.2)))] ++ (CW cI cR ca qa u73)) (MW cI ma u79))) (fun H locs hP hD hS => ?_)
                refine lv_iload hx hb dL_law_394 (lv_at hl 0 rfl) ?_
                refine lv_icmp_eq (tgt := 401) hx hb dL_law_396 (by decide) (fun c_85 => ?_) (fun c_85 => ?_)
                · replace hF := (if_pos c_85).symm.trans hF
                  refine lv_goto (tgt := 969) hx hb dL_law_401 (by decide) ?_
                  refine lv_iinc (v := (x4 + (5 : Int32))) (lv' := [(4, .int (x4 + (5 : Int32))), (5, .int r74), (0, .ref b), (1, .ref (ca 0)), (2, .ref (ma 0)), (3, .ref wa)]) hx hb dL_law_969 hl (k := 5) rfl rfl (by decide) rfl (fun ls hl => ?_)
                  refine lv_goto (tgt := 23) hx hb dL_law_972 (by decide) ?_
                  exact ih (x4 + (5 : Int32)) (u73, u79, u.2.2) hF _ _ (by omega) (by omega) H locs ls hP hD hS (lv_sub hl [2, 3, 4, 5, 0] rfl)
                · replace hF := (if_neg c_85).symm.trans hF
                  refine lv_iconst (v := (0 : Int32)) hx hb dL_law_399 (by decide +kernel) ?_
                  exact absurd (Option.some.inj hF) (by decide)
              · replace hF := (if_neg c_69).symm.trans hF
                by_cases c_86 : ((xs x4.toNatClampNeg) &&& (15 : Int32)) = (5 : Int32)
                · replace hF := (if_pos c_86).symm.trans hF
                  refine lv_tableIn (off := 365) (tgt := 404) hx hb dL_law_39 (by rw [c_86]; decide +kernel) (by rw [c_86]; decide +kernel) (by rw [c_86]; rfl) (by decide) ?_
                  refine lv_aload_n hx hb dL_law_404 rfl (lv_at hl 1 rfl) ?_
                  refine lv_aload_n hx hb dL_law_405 rfl (lv_at hl 0 rfl) ?_
                  refine lv_iload hx hb dL_law_406 (lv_at hl 4 rfl) ?_
                  refine lv_iconst (v := (1 : Int32)) hx hb dL_law_408 (by decide +kernel) ?_
                  refine lv_iadd hx hb dL_law_409 ?_
                  obtain ⟨h_87, hF⟩ := gd_some hF
                  refine va_sld hx hb hX hbl hbA hS (inb_in h_87) dL_law_410 ?_
                  refine lv_aload_n hx hb dL_law_411 rfl (lv_at hl 3 rfl) ?_
                  obtain ⟨r89, u88, hc_90, hF⟩ := bi_some hF
                  refine kc_i (W1 := LW cI cR cJ ca qa ma wa (u88.1, u.2.1, u88.2)) (vx_runSW (As := [.ref (ca 0), .int (xs (x4 + (1 : Int32)).toNatClampNeg), .ref wa]) (rest := []) ⟨hx, hb, hml, hown, hts⟩ (c_L_pass l hl9 D cI cR cJ sa ca qa wa H.size (xs (x4 + (1 : Int32)).toNatClampNeg) (u.1, u.2.2) r89 u88 hc_90) (vx_cwSW 3 hts (gS cwc mw_227 mw_228 mw_0 mw_229) rfl rfl rfl (by decide +kernel) ⟨(Nat.le_of_ble_eq_true rfl), (Nat.le_of_ble_eq_true rfl)⟩) (kpX_S hXK hK hP hD hS hA (sb_head (CO cI cR cJ ca qa wa (u.1, u.2.2)) (MW cI ma u.2.1))) rfl rfl hl.1 rfl (lv_room (Nat.le_of_ble_eq_true rfl)) dL_law_412 ⟨(by show _ ≤ 601024; omega), (by show _ ≤ 7293034; omega)⟩) hP hD hS hA (sb_head (CO cI cR cJ ca qa wa (u.1, u.2.2)) (MW cI ma u.2.1)) (jn_head (CO cI cR cJ ca qa wa (u.1, u.2.2)) (CO cI cR cJ ca qa wa u88) (MW cI ma u.2.1) (co_ad _ _)) (fun H locs hP hD hS => ?_)
                  refine lv_istore (lv' := [(5, .int r89), (0, .ref b), (1, .ref (ca 0)), (2, .ref (ma 0)), (3, .ref wa), (4, .int x4)]) hx hb dL_law_415 hl (by decide) rfl (fun ls hl => ?_)
                  refine lv_aload_n hx hb dL_law_417 rfl (lv_at hl 3 rfl) ?_
                  refine lv_aload_n hx hb dL_law_418 rfl (lv_at hl 1 rfl) ?_
                  refine lv_iload hx hb dL_law_419 (lv_at hl 5 rfl) ?_
                  refine lv_iconst (v := (1 : Int32)) hx hb dL_law_421 (by decide +kernel) ?_
                  refine lv_iadd hx hb dL_law_422 ?_
                  obtain ⟨h_91, hF⟩ := gd_some hF
                  refine va_sld hx hb hX hbl hbA hS (inb_in h_91) dL_law_423 ?_
                  obtain ⟨r93, u92, hc_94, hF⟩ := bi_some hF
                  refine kc_i (W1 := LW cI cR cJ ca qa ma wa (u88.1, u92, u88.2)) (va_runV (As := [.int (xs (x4 + (1 : Int32)).toNatClampNeg)]) (rest := []) ⟨hx, hb, hml, hown, hts⟩ (c_M_pass l D cI cR ma H.size (xs (x4 + (1 : Int32)).toNatClampNeg) u.2.1 r93 u92 hc_94) (cwV 1 hts (gV cwc mw_399 mw_400 mw_401 mw_3 mw_402) rfl rfl rfl (by decide +kernel) ⟨(Nat.le_of_ble_eq_true rfl), (Nat.le_of_ble_eq_true rfl)⟩) (kp_V (ci := 2) (q := (RX2, TX2, 18)) (hK.sub [0, 1] rfl) hP hD (sb_tail ([(wa, .inl (cJ, 1, .inr (.inl u88.2)))] ++ (CW cI cR ca qa u88.1)) (MW cI ma u.2.1)) rfl rfl) rfl rfl hl.1 rfl (lv_room (Nat.le_of_ble_eq_true rfl)) dL_law_424 ⟨(by show _ ≤ 601024; omega), (by show _ ≤ 7293034; omega)⟩) hP hD hS hA (sb_tail ([(wa, .inl (cJ, 1, .inr (.inl u88.2)))] ++ (CW cI cR ca qa u88.1)) (MW cI ma u.2.1)) (jn_tail ([(wa, .inl (cJ, 1, .inr (.inl u88.2)))] ++ (CW cI cR ca qa u88.1)) (MW cI ma u.2.1) (MW cI ma u92) rfl) (fun H locs hP hD hS => ?_)
                  refine lv_istore (lv' := [(6, .int r93), (5, .int r89), (0, .ref b), (1, .ref (ca 0)), (2, .ref (ma 0)), (3, .ref wa), (4, .int x4)]) hx hb dL_law_427 hl (by decide) rfl (fun ls hl => ?_)
                  refine lv_aload_n hx hb dL_law_429 rfl (lv_at hl 4 rfl) ?_
                  obtain ⟨r96, u95, hc_97, hF⟩ := bi_some hF
                  refine kc_i (W1 := LW cI cR cJ ca qa ma wa (u88.1, u92, u88.2)) (va_runV (As := []) (rest := []) ⟨hx, hb, hml, hown, hts⟩ (c_M_thrown l D cI cR ma H.size  u92 r96 u95 hc_97) (cwV 0 hts (gV cwc mw_372 mw_373 mw_374 mw_3 mw_375) rfl rfl rfl (by decide +kernel) ⟨(Nat.le_of_ble_eq_true rfl), (Nat.le_of_ble_eq_true rfl)⟩) (kp_V (ci := 2) (q := (RX2, TX2, 18)) (hK.sub [0, 1] rfl) hP hD (sb_tail ([(wa, .inl (cJ, 1, .inr (.inl u88.2)))] ++ (CW cI cR ca qa u88.1)) (MW cI ma u92)) rfl rfl) rfl rfl hl.1 rfl (lv_room (Nat.le_of_ble_eq_true rfl)) dL_law_430 ⟨(by show _ ≤ 601024; omega), (by show _ ≤ 7293034; omega)⟩) hP hD hS hA (sb_tail ([(wa, .inl (cJ, 1, .inr (.inl u88.2)))] ++ (CW cI cR ca qa u88.1)) (MW cI ma u92)) (jn_same (sb_tail ([(wa, .inl (cJ, 1, .inr (.inl u88.2)))] ++ (CW cI cR ca qa u88.1)) (MW cI ma u92))) (fun H locs hP hD hS => ?_)
                  refine lv_iload hx hb dL_law_433 (lv_at hl 1 rfl) ?_
                  refine lv_icmp_eq (tgt := 440) hx hb dL_law_435 (by decide) (fun c_98 => ?_) (fun c_98 => ?_)
                  · replace hF := (if_pos c_98).symm.trans hF
                    refine lv_iload hx hb dL_law_440 (lv_at hl 1 rfl) ?_
                    refine lv_if_ne (tgt := 457) hx hb dL_law_442 (by decide) (fun c_99 => ?_) (fun c_99 => ?_)
                    · replace hF := (if_neg c_99).symm.trans hF
                      refine lv_goto (tgt := 969) hx hb dL_law_457 (by decide) ?_
                      refine lv_iinc (v := (x4 + (5 : Int32))) (lv' := [(4, .int (x4 + (5 : Int32))), (6, .int r93), (5, .int r89), (0, .ref b), (1, .ref (ca 0)), (2, .ref (ma 0)), (3, .ref wa)]) hx hb dL_law_969 hl (k := 6) rfl rfl (by decide) rfl (fun ls hl => ?_)
                      refine lv_goto (tgt := 23) hx hb dL_law_972 (by decide) ?_
                      exact ih (x4 + (5 : Int32)) (u88.1, u92, u88.2) hF _ _ (by omega) (by omega) H locs ls hP hD hS (lv_sub hl [3, 4, 5, 6, 0] rfl)
                    · replace hF := (if_pos c_99).symm.trans hF
                      refine lv_aload_n hx hb dL_law_445 rfl (lv_at hl 5 rfl) ?_
                      refine lv_iconst (v := (0 : Int32)) hx hb dL_law_446 (by decide +kernel) ?_
                      obtain ⟨h_100, hF⟩ := gd_some hF
                      refine va_lald (f := u88.2) hx hb hK hP 0 2 rfl rfl (inb_in h_100) dL_law_447 ?_
                      refine lv_iload hx hb dL_law_448 (lv_at hl 0 rfl) ?_
                      refine lv_i2l (v := r93.toInt64) hx hb dL_law_450 rfl ?_
                      refine W.lcmp hx hb dL_law_451 ?_
                      refine lv_if_eq (tgt := 457) hx hb dL_law_452 (by decide) (fun c_101 => ?_) (fun c_101 => ?_)
                      · replace hF := (if_pos c_101).symm.trans hF
                        refine lv_goto (tgt := 969) hx hb dL_law_457 (by decide) ?_
                        refine lv_iinc (v := (x4 + (5 : Int32))) (lv' := [(4, .int (x4 + (5 : Int32))), (6, .int r93), (5, .int r89), (0, .ref b), (1, .ref (ca 0)), (2, .ref (ma 0)), (3, .ref wa)]) hx hb dL_law_969 hl (k := 6) rfl rfl (by decide) rfl (fun ls hl => ?_)
                        refine lv_goto (tgt := 23) hx hb dL_law_972 (by decide) ?_
                        exact ih (x4 + (5 : Int32)) (u88.1, u92, u88.2) hF _ _ (by omega) (by omega) H locs ls hP hD hS (lv_sub hl [3, 4, 5, 6, 0] rfl)
                      · replace hF := (if_neg c_101).symm.trans hF
                        refine lv_iconst (v := (0 : Int32)) hx hb dL_law_455 (by decide +kernel) ?_
                        exact absurd (Option.some.inj hF) (by decide)
                  · replace hF := (if_neg c_98).symm.trans hF
                    refine lv_iconst (v := (0 : Int32)) hx hb dL_law_438 (by decide +kernel) ?_
                    exact absurd (Option.some.inj hF) (by decide)
                · replace hF := (if_neg c_86).symm.trans hF
                  by_cases c_102 : ((xs x4.toNatClampNeg) &&& (15 : Int32)) = (6 : Int32)
                  · replace hF := (if_pos c_102).symm.trans hF
                    refine lv_tableIn (off := 421) (tgt := 460) hx hb dL_law_39 (by rw [c_102]; decide +kernel) (by rw [c_102]; decide +kernel) (by rw [c_102]; rfl) (by decide) ?_
                    refine lv_aload_n hx hb dL_law_460 rfl (lv_at hl 1 rfl) ?_
                    refine lv_aload_n hx hb dL_law_461 rfl (lv_at hl 0 rfl) ?_
                    refine lv_iload hx hb dL_law_462 (lv_at hl 4 rfl) ?_
                    refine lv_iconst (v := (1 : Int32)) hx hb dL_law_464 (by decide +kernel) ?_
                    refine lv_iadd hx hb dL_law_465 ?_
                    obtain ⟨h_103, hF⟩ := gd_some hF
                    refine va_sld hx hb hX hbl hbA hS (inb_in h_103) dL_law_466 ?_
                    refine lv_aload_n hx hb dL_law_467 rfl (lv_at hl 0 rfl) ?_
                    refine lv_iload hx hb dL_law_468 (lv_at hl 4 rfl) ?_
                    refine lv_iconst (v := (2 : Int32)) hx hb dL_law_470 (by decide +kernel) ?_
                    refine lv_iadd hx hb dL_law_471 ?_
                    obtain ⟨h_104, hF⟩ := gd_some hF
                    refine va_sld hx hb hX hbl hbA hS (inb_in h_104) dL_law_472 ?_
                    refine lv_aload_n hx hb dL_law_473 rfl (lv_at hl 0 rfl) ?_
                    refine lv_iload hx hb dL_law_474 (lv_at hl 4 rfl) ?_
                    refine lv_iconst (v := (3 : Int32)) hx hb dL_law_476 (by decide +kernel) ?_
                    refine lv_iadd hx hb dL_law_477 ?_
                    obtain ⟨h_105, hF⟩ := gd_some hF
                    refine va_sld hx hb hX hbl hbA hS (inb_in h_105) dL_law_478 ?_
                    refine lv_aload_n hx hb dL_law_479 rfl (lv_at hl 3 rfl) ?_
                    obtain ⟨r107, u106, hc_108, hF⟩ := bi_some hF
                    refine kc_i (W1 := LW cI cR cJ ca qa ma wa (u106.1, u.2.1, u106.2)) (vx_runSW (As := [.ref (ca 0), .int (xs (x4 + (1 : Int32)).toNatClampNeg), .int (xs (x4 + (2 : Int32)).toNatClampNeg), .int (xs (x4 + (3 : Int32)).toNatClampNeg), .ref wa]) (rest := []) ⟨hx, hb, hml, hown, hts⟩ (c_L_load l hl9 D cI cR cJ sa ca qa wa H.size (xs (x4 + (1 : Int32)).toNatClampNeg) (xs (x4 + (2 : Int32)).toNatClampNeg) (xs (x4 + (3 : Int32)).toNatClampNeg) (u.1, u.2.2) r107 u106 hc_108) (vx_cwSW 5 hts (gS cwc mw_250 mw_251 mw_0 mw_252) rfl rfl rfl (by decide +kernel) ⟨(Nat.le_of_ble_eq_true rfl), (Nat.le_of_ble_eq_true rfl)⟩) (kpX_S hXK hK hP hD hS hA (sb_head (CO cI cR cJ ca qa wa (u.1, u.2.2)) (MW cI ma u.2.1))) rfl rfl hl.1 rfl (lv_room (Nat.le_of_ble_eq_true rfl)) dL_law_480 ⟨(by show _ ≤ 601024; omega), (by show _ ≤ 7293034; omega)⟩) hP hD hS hA (sb_head (CO cI cR cJ ca qa wa (u.1, u.2.2)) (MW cI ma u.2.1)) (jn_head (CO cI cR cJ ca qa wa (u.1, u.2.2)) (CO cI cR cJ ca qa wa u106) (MW cI ma u.2.1) (co_ad _ _)) (fun H locs hP hD hS => ?_)
                    refine lv_istore (lv' := [(5, .int r107), (0, .ref b), (1, .ref (ca 0)), (2, .ref (ma 0)), (3, .ref wa), (4, .int x4)]) hx hb dL_law_483 hl (by decide) rfl (fun ls hl => ?_)
                    refine lv_aload_n hx hb dL_law_485 rfl (lv_at hl 3 rfl) ?_
                    refine lv_aload_n hx hb dL_law_486 rfl (lv_at hl 1 rfl) ?_
                    refine lv_iload hx hb dL_law_487 (lv_at hl 5 rfl) ?_
                    refine lv_iconst (v := (1 : Int32)) hx hb dL_law_489 (by decide +kernel) ?_
                    refine lv_iadd hx hb dL_law_490 ?_
                    obtain ⟨h_109, hF⟩ := gd_some hF
                    refine va_sld hx hb hX hbl hbA hS (inb_in h_109) dL_law_491 ?_
                    refine lv_aload_n hx hb dL_law_492 rfl (lv_at hl 1 rfl) ?_
                    refine lv_iload hx hb dL_law_493 (lv_at hl 5 rfl) ?_
                    refine lv_iconst (v := (2 : Int32)) hx hb dL_law_495 (by decide +kernel) ?_
                    refine lv_iadd hx hb dL_law_496 ?_
                    obtain ⟨h_110, hF⟩ := gd_some hF
                    refine va_sld hx hb hX hbl hbA hS (inb_in h_110) dL_law_497 ?_
                    refine lv_aload_n hx hb dL_law_498 rfl (lv_at hl 1 rfl) ?_
                    refine lv_iload hx hb dL_law_499 (lv_at hl 5 rfl) ?_
                    refine lv_iconst (v := (3 : Int32)) hx hb dL_law_501 (by decide +kernel) ?_
                    refine lv_iadd hx hb dL_law_502 ?_
                    obtain ⟨h_111, hF⟩ := gd_some hF
                    refine va_sld hx hb hX hbl hbA hS (inb_in h_111) dL_law_503 ?_
                    obtain ⟨r113, u112, hc_114, hF⟩ := bi_some hF
                    refine kc_i (W1 := LW cI cR cJ ca qa ma wa (u106.1, u112, u106.2)) (va_runV (As := [.int (xs (x4 + (1 : Int32)).toNatClampNeg), .int (xs (x4 + (2 : Int32)).toNatClampNeg), .int (xs (x4 + (3 : Int32)).toNatClampNeg)]) (rest := []) ⟨hx, hb, hml, hown, hts⟩ (c_M_load l D cI cR ma H.size (xs (x4 + (1 : Int32)).toNatClampNeg) (xs (x4 + (2 : Int32)).toNatClampNeg) (xs (x4 + (3 : Int32)).toNatClampNeg) u.2.1 r113 u112 hc_114) (cwV 3 hts (gV cwc mw_416 mw_417 mw_418 mw_3 mw_419) rfl rfl rfl (by decide +kernel) ⟨(Nat.le_of_ble_eq_true rfl), (Nat.le_of_ble_eq_true rfl)⟩) (kp_V (ci := 2) (q := (RX2, TX2, 18)) (hK.sub [0, 1] rfl) hP hD (sb_tail ([(wa, .inl (cJ, 1, .inr (.inl u106.2)))] ++ (CW cI cR ca qa u106.1)) (MW cI ma u.2.1)) rfl rfl) rfl rfl hl.1 rfl (lv_room (Nat.le_of_ble_eq_true rfl)) dL_law_504 ⟨(by show _ ≤ 601024; omega), (by show _ ≤ 7293034; omega)⟩) hP hD hS hA (sb_tail ([(wa, .inl (cJ, 1, .inr (.inl u106.2)))] ++ (CW cI cR ca qa u106.1)) (MW cI ma u.2.1)) (jn_tail ([(wa, .inl (cJ, 1, .inr (.inl u106.2)))] ++ (CW cI cR ca qa u106.1)) (MW cI ma u.2.1) (MW cI ma u112) rfl) (fun H locs hP hD hS => ?_)
                    refine lv_istore (lv' := [(6, .int r113), (5, .int r107), (0, .ref b), (1, .ref (ca 0)), (2, .ref (ma 0)), (3, .ref wa), (4, .int x4)]) hx hb dL_law_507 hl (by decide) rfl (fun ls hl => ?_)
                    refine lv_aload_n hx hb dL_law_509 rfl (lv_at hl 4 rfl) ?_
                    obtain ⟨r116, u115, hc_117, hF⟩ := bi_some hF
                    refine kc_i (W1 := LW cI cR cJ ca qa ma wa (u106.1, u112, u106.2)) (va_runV (As := []) (rest := []) ⟨hx, hb, hml, hown, hts⟩ (c_M_thrown l D cI cR ma H.size  u112 r116 u115 hc_117) (cwV 0 hts (gV cwc mw_372 mw_373 mw_374 mw_3 mw_375) rfl rfl rfl (by decide +kernel) ⟨(Nat.le_of_ble_eq_true rfl), (Nat.le_of_ble_eq_true rfl)⟩) (kp_V (ci := 2) (q := (RX2, TX2, 18)) (hK.sub [0, 1] rfl) hP hD (sb_tail ([(wa, .inl (cJ, 1, .inr (.inl u106.2)))] ++ (CW cI cR ca qa u106.1)) (MW cI ma u112)) rfl rfl) rfl rfl hl.1 rfl (lv_room (Nat.le_of_ble_eq_true rfl)) dL_law_510 ⟨(by show _ ≤ 601024; omega), (by show _ ≤ 7293034; omega)⟩) hP hD hS hA (sb_tail ([(wa, .inl (cJ, 1, .inr (.inl u106.2)))] ++ (CW cI cR ca qa u106.1)) (MW cI ma u112)) (jn_same (sb_tail ([(wa, .inl (cJ, 1, .inr (.inl u106.2)))] ++ (CW cI cR ca qa u106.1)) (MW cI ma u112))) (fun H locs hP hD hS => ?_)
                    refine lv_iload hx hb dL_law_513 (lv_at hl 1 rfl) ?_
                    refine lv_icmp_eq (tgt := 520) hx hb dL_law_515 (by decide) (fun c_118 => ?_) (fun c_118 => ?_)
                    · replace hF := (if_pos c_118).symm.trans hF
                      refine lv_iload hx hb dL_law_520 (lv_at hl 1 rfl) ?_
                      refine lv_if_ne (tgt := 537) hx hb dL_law_522 (by decide) (fun c_119 => ?_) (fun c_119 => ?_)
                      · replace hF := (if_neg c_119).symm.trans hF
                        refine lv_goto (tgt := 969) hx hb dL_law_537 (by decide) ?_
                        refine lv_iinc (v := (x4 + (5 : Int32))) (lv' := [(4, .int (x4 + (5 : Int32))), (6, .int r113), (5, .int r107), (0, .ref b), (1, .ref (ca 0)), (2, .ref (ma 0)), (3, .ref wa)]) hx hb dL_law_969 hl (k := 6) rfl rfl (by decide) rfl (fun ls hl => ?_)
                        refine lv_goto (tgt := 23) hx hb dL_law_972 (by decide) ?_
                        exact ih (x4 + (5 : Int32)) (u106.1, u112, u106.2) hF _ _ (by omega) (by omega) H locs ls hP hD hS (lv_sub hl [3, 4, 5, 6, 0] rfl)
                      · replace hF := (if_pos c_119).symm.trans hF
                        refine lv_aload_n hx hb dL_law_525 rfl (lv_at hl 5 rfl) ?_
                        refine lv_iconst (v := (0 : Int32)) hx hb dL_law_526 (by decide +kernel) ?_
                        obtain ⟨h_120, hF⟩ := gd_some hF
                        refine va_lald (f := u106.2) hx hb hK hP 0 2 rfl rfl (inb_in h_120) dL_law_527 ?_
                        refine lv_iload hx hb dL_law_528 (lv_at hl 0 rfl) ?_
                        refine lv_i2l (v := r113.toInt64) hx hb dL_law_530 rfl ?_
                        refine W.lcmp hx hb dL_law_531 ?_
                        refine lv_if_eq (tgt := 537) hx hb dL_law_532 (by decide) (fun c_121 => ?_) (fun c_121 => ?_)
                        · replace hF := (if_pos c_121).symm.trans hF
                          refine lv_goto (tgt := 969) hx hb dL_law_537 (by decide) ?_
                          refine lv_iinc (v := (x4 + (5 : Int32))) (lv' := [(4, .int (x4 + (5 : Int32))), (6, .int r113), (5, .int r107), (0, .ref b), (1, .ref (ca 0)), (2, .ref (ma 0)), (3, .ref wa)]) hx hb dL_law_969 hl (k := 6) rfl rfl (by decide) rfl (fun ls hl => ?_)
                          refine lv_goto (tgt := 23) hx hb dL_law_972 (by decide) ?_
                          exact ih (x4 + (5 : Int32)) (u106.1, u112, u106.2) hF _ _ (by omega) (by omega) H locs ls hP hD hS (lv_sub hl [3, 4, 5, 6, 0] rfl)
                        · replace hF := (if_neg c_121).symm.trans hF
                          refine lv_iconst (v := (0 : Int32)) hx hb dL_law_535 (by decide +kernel) ?_
                          exact absurd (Option.some.inj hF) (by decide)
                    · replace hF := (if_neg c_118).symm.trans hF
                      refine lv_iconst (v := (0 : Int32)) hx hb dL_law_518 (by decide +kernel) ?_
                      exact absurd (Option.some.inj hF) (by decide)
                  · replace hF := (if_neg c_102).symm.trans hF
                    by_cases c_122 : ((xs x4.toNatClampNeg) &&& (15 : Int32)) = (7 : Int32)
                    · replace hF := (if_pos c_122).symm.trans hF
                      refine lv_tableIn (off := 501) (tgt := 540) hx hb dL_law_39 (by rw [c_122]; decide +kernel) (by rw [c_122]; decide +kernel) (by rw [c_122]; rfl) (by decide) ?_
                      refine lv_aload_n hx hb dL_law_540 rfl (lv_at hl 1 rfl) ?_
                      refine lv_aload_n hx hb dL_law_541 rfl (lv_at hl 0 rfl) ?_
                      refine lv_iload hx hb dL_law_542 (lv_at hl 4 rfl) ?_
                      refine lv_iconst (v := (1 : Int32)) hx hb dL_law_544 (by decide +kernel) ?_
                      refine lv_iadd hx hb dL_law_545 ?_
                      obtain ⟨h_123, hF⟩ := gd_some hF
                      refine va_sld hx hb hX hbl hbA hS (inb_in h_123) dL_law_546 ?_
                      refine lv_aload_n hx hb dL_law_547 rfl (lv_at hl 0 rfl) ?_
                      refine lv_iload hx hb dL_law_548 (lv_at hl 4 rfl) ?_
                      refine lv_iconst (v := (2 : Int32)) hx hb dL_law_550 (by decide +kernel) ?_
                      refine lv_iadd hx hb dL_law_551 ?_
                      obtain ⟨h_124, hF⟩ := gd_some hF
                      refine va_sld hx hb hX hbl hbA hS (inb_in h_124) dL_law_552 ?_
                      refine lv_aload_n hx hb dL_law_553 rfl (lv_at hl 0 rfl) ?_
                      refine lv_iload hx hb dL_law_554 (lv_at hl 4 rfl) ?_
                      refine lv_iconst (v := (3 : Int32)) hx hb dL_law_556 (by decide +kernel) ?_
                      refine lv_iadd hx hb dL_law_557 ?_
                      obtain ⟨h_125, hF⟩ := gd_some hF
                      refine va_sld hx hb hX hbl hbA hS (inb_in h_125) dL_law_558 ?_
                      refine lv_aload_n hx hb dL_law_559 rfl (lv_at hl 3 rfl) ?_
                      obtain ⟨r127, u126, hc_128, hF⟩ := bi_some hF
                      refine kc_i (W1 := LW cI cR cJ ca qa ma wa (u126.1, u.2.1, u126.2)) (vx_runSW (As := [.ref (ca 0), .int (xs (x4 + (1 : Int32)).toNatClampNeg), .int (xs (x4 + (2 : Int32)).toNatClampNeg), .int (xs (x4 + (3 : Int32)).toNatClampNeg), .ref wa]) (rest := []) ⟨hx, hb, hml, hown, hts⟩ (c_L_unload l hl9 D cI cR cJ sa ca qa wa H.size (xs (x4 + (1 : Int32)).toNatClampNeg) (xs (x4 + (2 : Int32)).toNatClampNeg) (xs (x4 + (3 : Int32)).toNatClampNeg) (u.1, u.2.2) r127 u126 hc_128) (vx_cwSW 5 hts (gS cwc mw_273 mw_274 mw_0 mw_275) rfl rfl rfl (by decide +kernel) ⟨(Nat.le_of_ble_eq_true rfl), (Nat.le_of_ble_eq_true rfl)⟩) (kpX_S hXK hK hP hD hS hA (sb_head (CO cI cR cJ ca qa wa (u.1, u.2.2)) (MW cI ma u.2.1))) rfl rfl hl.1 rfl (lv_room (Nat.le_of_ble_eq_true rfl)) dL_law_560 ⟨(by show _ ≤ 601024; omega), (by show _ ≤ 7293034; omega)⟩) hP hD hS hA (sb_head (CO cI cR cJ ca qa wa (u.1, u.2.2)) (MW cI ma u.2.1)) (jn_head (CO cI cR cJ ca qa wa (u.1, u.2.2)) (CO cI cR cJ ca qa wa u126) (MW cI ma u.2.1) (co_ad _ _)) (fun H locs hP hD hS => ?_)
                      refine lv_istore (lv' := [(5, .int r127), (0, .ref b), (1, .ref (ca 0)), (2, .ref (ma 0)), (3, .ref wa), (4, .int x4)]) hx hb dL_law_563 hl (by decide) rfl (fun ls hl => ?_)
                      refine lv_aload_n hx hb dL_law_565 rfl (lv_at hl 3 rfl) ?_
                      refine lv_aload_n hx hb dL_law_566 rfl (lv_at hl 1 rfl) ?_
                      refine lv_iload hx hb dL_law_567 (lv_at hl 5 rfl) ?_
                      refine lv_iconst (v := (1 : Int32)) hx hb dL_law_569 (by decide +kernel) ?_
                      refine lv_iadd hx hb dL_law_570 ?_
                      obtain ⟨h_129, hF⟩ := gd_some hF
                      refine va_sld hx hb hX hbl hbA hS (inb_in h_129) dL_law_571 ?_
                      refine lv_aload_n hx hb dL_law_572 rfl (lv_at hl 1 rfl) ?_
                      refine lv_iload hx hb dL_law_573 (lv_at hl 5 rfl) ?_
                      refine lv_iconst (v := (2 : Int32)) hx hb dL_law_575 (by decide +kernel) ?_
                      refine lv_iadd hx hb dL_law_576 ?_
                      obtain ⟨h_130, hF⟩ := gd_some hF
                      refine va_sld hx hb hX hbl hbA hS (inb_in h_130) dL_law_577 ?_
                      refine lv_aload_n hx hb dL_law_578 rfl (lv_at hl 1 rfl) ?_
                      refine lv_iload hx hb dL_law_579 (lv_at hl 5 rfl) ?_
                      refine lv_iconst (v := (3 : Int32)) hx hb dL_law_581 (by decide +kernel) ?_
                      refine lv_iadd hx hb dL_law_582 ?_
                      obtain ⟨h_131, hF⟩ := gd_some hF
                      refine va_sld hx hb hX hbl hbA hS (inb_in h_131) dL_law_583 ?_
                      obtain ⟨r133, u132, hc_134, hF⟩ := bi_some hF
                      refine kc_i (W1 := LW cI cR cJ ca qa ma wa (u126.1, u132, u126.2)) (va_runV (As := [.int (xs (x4 + (1 : Int32)).toNatClampNeg), .int (xs (x4 + (2 : Int32)).toNatClampNeg), .int (xs (x4 + (3 : Int32)).toNatClampNeg)]) (rest := []) ⟨hx, hb, hml, hown, hts⟩ (c_M_unload l D cI cR ma H.size (xs (x4 + (1 : Int32)).toNatClampNeg) (xs (x4 + (2 : Int32)).toNatClampNeg) (xs (x4 + (3 : Int32)).toNatClampNeg) u.2.1 r133 u132 hc_134) (cwV 3 hts (gV cwc mw_426 mw_427 mw_428 mw_3 mw_429) rfl rfl rfl (by decide +kernel) ⟨(Nat.le_of_ble_eq_true rfl), (Nat.le_of_ble_eq_true rfl)⟩) (kp_V (ci := 2) (q := (RX2, TX2, 18)) (hK.sub [0, 1] rfl) hP hD (sb_tail ([(wa, .inl (cJ, 1, .inr (.inl u126.2)))] ++ (CW cI cR ca qa u126.1)) (MW cI ma u.2.1)) rfl rfl) rfl rfl hl.1 rfl (lv_room (Nat.le_of_ble_eq_true rfl)) dL_law_584 ⟨(by show _ ≤ 601024; omega), (by show _ ≤ 7293034; omega)⟩) hP hD hS hA (sb_tail ([(wa, .inl (cJ, 1, .inr (.inl u126.2)))] ++ (CW cI cR ca qa u126.1)) (MW cI ma u.2.1)) (jn_tail ([(wa, .inl (cJ, 1, .inr (.inl u126.2)))] ++ (CW cI cR ca qa u126.1)) (MW cI ma u.2.1) (MW cI ma u132) rfl) (fun H locs hP hD hS => ?_)
                      refine lv_istore (lv' := [(6, .int r133), (5, .int r127), (0, .ref b), (1, .ref (ca 0)), (2, .ref (ma 0)), (3, .ref wa), (4, .int x4)]) hx hb dL_law_587 hl (by decide) rfl (fun ls hl => ?_)
                      refine lv_aload_n hx hb dL_law_589 rfl (lv_at hl 4 rfl) ?_
                      obtain ⟨r136, u135, hc_137, hF⟩ := bi_some hF
                      refine kc_i (W1 := LW cI cR cJ ca qa ma wa (u126.1, u132, u126.2)) (va_runV (As := []) (rest := []) ⟨hx, hb, hml, hown, hts⟩ (c_M_thrown l D cI cR ma H.size  u132 r136 u135 hc_137) (cwV 0 hts (gV cwc mw_372 mw_373 mw_374 mw_3 mw_375) rfl rfl rfl (by decide +kernel) ⟨(Nat.le_of_ble_eq_true rfl), (Nat.le_of_ble_eq_true rfl)⟩) (kp_V (ci := 2) (q := (RX2, TX2, 18)) (hK.sub [0, 1] rfl) hP hD (sb_tail ([(wa, .inl (cJ, 1, .inr (.inl u126.2)))] ++ (CW cI cR ca qa u126.1)) (MW cI ma u132)) rfl rfl) rfl rfl hl.1 rfl (lv_room (Nat.le_of_ble_eq_true rfl)) dL_law_590 ⟨(by show _ ≤ 601024; omega), (by show _ ≤ 7293034; omega)⟩) hP hD hS hA (sb_tail ([(wa, .inl (cJ, 1, .inr (.inl u126.2)))] ++ (CW cI cR ca qa u126.1)) (MW cI ma u132)) (jn_same (sb_tail ([(wa, .inl (cJ, 1, .inr (.inl u126.2)))] ++ (CW cI cR ca qa u126.1)) (MW cI ma u132))) (fun H locs hP hD hS => ?_)
                      refine lv_iload hx hb dL_law_593 (lv_at hl 1 rfl) ?_
                      refine lv_icmp_eq (tgt := 600) hx hb dL_law_595 (by decide) (fun c_138 => ?_) (fun c_138 => ?_)
                      · replace hF := (if_pos c_138).symm.trans hF
                        refine lv_iload hx hb dL_law_600 (lv_at hl 1 rfl) ?_
                        refine lv_if_ne (tgt := 617) hx hb dL_law_602 (by decide) (fun c_139 => ?_) (fun c_139 => ?_)
                        · replace hF := (if_neg c_139).symm.trans hF
                          refine lv_goto (tgt := 969) hx hb dL_law_617 (by decide) ?_
                          refine lv_iinc (v := (x4 + (5 : Int32))) (lv' := [(4, .int (x4 + (5 : Int32))), (6, .int r133), (5, .int r127), (0, .ref b), (1, .ref (ca 0)), (2, .ref (ma 0)), (3, .ref wa)]) hx hb dL_law_969 hl (k := 6) rfl rfl (by decide) rfl (fun ls hl => ?_)
                          refine lv_goto (tgt := 23) hx hb dL_law_972 (by decide) ?_
                          exact ih (x4 + (5 : Int32)) (u126.1, u132, u126.2) hF _ _ (by omega) (by omega) H locs ls hP hD hS (lv_sub hl [3, 4, 5, 6, 0] rfl)
                        · replace hF := (if_pos c_139).symm.trans hF
                          refine lv_aload_n hx hb dL_law_605 rfl (lv_at hl 5 rfl) ?_
                          refine lv_iconst (v := (0 : Int32)) hx hb dL_law_606 (by decide +kernel) ?_
                          obtain ⟨h_140, hF⟩ := gd_some hF
                          refine va_lald (f := u126.2) hx hb hK hP 0 2 rfl rfl (inb_in h_140) dL_law_607 ?_
                          refine lv_iload hx hb dL_law_608 (lv_at hl 0 rfl) ?_
                          refine lv_i2l (v := r133.toInt64) hx hb dL_law_610 rfl ?_
                          refine W.lcmp hx hb dL_law_611 ?_
                          refine lv_if_eq (tgt := 617) hx hb dL_law_612 (by decide) (fun c_141 => ?_) (fun c_141 => ?_)
                          · replace hF := (if_pos c_141).symm.trans hF
                            refine lv_goto (tgt := 969) hx hb dL_law_617 (by decide) ?_
                            refine lv_iinc (v := (x4 + (5 : Int32))) (lv' := [(4, .int (x4 + (5 : Int32))), (6, .int r133), (5, .int r127), (0, .ref b), (1, .ref (ca 0)), (2, .ref (ma 0)), (3, .ref wa)]) hx hb dL_law_969 hl (k := 6) rfl rfl (by decide) rfl (fun ls hl => ?_)
                            refine lv_goto (tgt := 23) hx hb dL_law_972 (by decide) ?_
                            exact ih (x4 + (5 : Int32)) (u126.1, u132, u126.2) hF _ _ (by omega) (by omega) H locs ls hP hD hS (lv_sub hl [3, 4, 5, 6, 0] rfl)
                          · replace hF := (if_neg c_141).symm.trans hF
                            refine lv_iconst (v := (0 : Int32)) hx hb dL_law_615 (by decide +kernel) ?_
                            exact absurd (Option.some.inj hF) (by decide)
                      · replace hF := (if_neg c_138).symm.trans hF
                        refine lv_iconst (v := (0 : Int32)) hx hb dL_law_598 (by decide +kernel) ?_
                        exact absurd (Option.some.inj hF) (by decide)
                    · replace hF := (if_neg c_122).symm.trans hF
                      by_cases c_142 : ((xs x4.toNatClampNeg) &&& (15 : Int32)) = (8 : Int32)
                      · replace hF := (if_pos c_142).symm.trans hF
                        refine lv_tableIn (off := 581) (tgt := 620) hx hb dL_law_39 (by rw [c_142]; decide +kernel) (by rw [c_142]; decide +kernel) (by rw [c_142]; rfl) (by decide) ?_
                        refine lv_aload_n hx hb dL_law_620 rfl (lv_at hl 1 rfl) ?_
                        refine lv_aload_n hx hb dL_law_621 rfl (lv_at hl 0 rfl) ?_
                        refine lv_iload hx hb dL_law_622 (lv_at hl 4 rfl) ?_
                        refine lv_iconst (v := (1 : Int32)) hx hb dL_law_624 (by decide +kernel) ?_
                        refine lv_iadd hx hb dL_law_625 ?_
                        obtain ⟨h_143, hF⟩ := gd_some hF
                        refine va_sld hx hb hX hbl hbA hS (inb_in h_143) dL_law_626 ?_
                        refine lv_aload_n hx hb dL_law_627 rfl (lv_at hl 0 rfl) ?_
                        refine lv_iload hx hb dL_law_628 (lv_at hl 4 rfl) ?_
                        refine lv_iconst (v := (2 : Int32)) hx hb dL_law_630 (by decide +kernel) ?_
                        refine lv_iadd hx hb dL_law_631 ?_
                        obtain ⟨h_144, hF⟩ := gd_some hF
                        refine va_sld hx hb hX hbl hbA hS (inb_in h_144) dL_law_632 ?_
                        obtain ⟨r146, u145, hc_147, hF⟩ := bi_some hF
                        refine kc_i (W1 := LW cI cR cJ ca qa ma wa (u145, u.2.1, u.2.2)) (vx_runSW (As := [.ref (ca 0), .int (xs (x4 + (1 : Int32)).toNatClampNeg), .int (xs (x4 + (2 : Int32)).toNatClampNeg)]) (rest := []) ⟨hx, hb, hml, hown, hts⟩ (c_L_pour l hl9 D cI cR sa ca qa H.size (xs (x4 + (1 : Int32)).toNatClampNeg) (xs (x4 + (2 : Int32)).toNatClampNeg) u.1 r146 u145 hc_147) (vx_cwSW 3 hts (gS cwc mw_296 mw_297 mw_0 mw_298) rfl rfl rfl (by decide +kernel) ⟨(Nat.le_of_ble_eq_true rfl), (Nat.le_of_ble_eq_true rfl)⟩) (kpX_S hXK (hK.sub [0, 1] rfl) hP hD hS hA (sb_seg [(wa, .inl (cJ, 1, .inr (.inl u.2.2)))] (CW cI cR ca qa u.1) (MW cI ma u.2.1))) rfl rfl hl.1 rfl (lv_room (Nat.le_of_ble_eq_true rfl)) dL_law_633 ⟨(by show _ ≤ 601024; omega), (by show _ ≤ 7293034; omega)⟩) hP hD hS hA (sb_seg [(wa, .inl (cJ, 1, .inr (.inl u.2.2)))] (CW cI cR ca qa u.1) (MW cI ma u.2.1)) (jn_seg [(wa, .inl (cJ, 1, .inr (.inl u.2.2)))] (CW cI cR ca qa u.1) (CW cI cR ca qa u145) (MW cI ma u.2.1) (cw_ad _ _)) (fun H locs hP hD hS => ?_)
                        refine lv_istore (lv' := [(5, .int r146), (0, .ref b), (1, .ref (ca 0)), (2, .ref (ma 0)), (3, .ref wa), (4, .int x4)]) hx hb dL_law_636 hl (by decide) rfl (fun ls hl => ?_)
                        refine lv_aload_n hx hb dL_law_638 rfl (lv_at hl 3 rfl) ?_
                        refine lv_aload_n hx hb dL_law_639 rfl (lv_at hl 1 rfl) ?_
                        refine lv_iload hx hb dL_law_640 (lv_at hl 5 rfl) ?_
                        refine lv_iconst (v := (1 : Int32)) hx hb dL_law_642 (by decide +kernel) ?_
                        refine lv_iadd hx hb dL_law_643 ?_
                        obtain ⟨h_148, hF⟩ := gd_some hF
                        refine va_sld hx hb hX hbl hbA hS (inb_in h_148) dL_law_644 ?_
                        refine lv_aload_n hx hb dL_law_645 rfl (lv_at hl 1 rfl) ?_
                        refine lv_iload hx hb dL_law_646 (lv_at hl 5 rfl) ?_
                        refine lv_iconst (v := (2 : Int32)) hx hb dL_law_648 (by decide +kernel) ?_
                        refine lv_iadd hx hb dL_law_649 ?_
                        obtain ⟨h_149, hF⟩ := gd_some hF
                        refine va_sld hx hb hX hbl hbA hS (inb_in h_149) dL_law_650 ?_
                        obtain ⟨r151, u150, hc_152, hF⟩ := bi_some hF
                        refine kc_v (W1 := LW cI cR cJ ca qa ma wa (u145, u150, u.2.2)) (va_runV (As := [.int (xs (x4 + (1 : Int32)).toNatClampNeg), .int (xs (x4 + (2 : Int32)).toNatClampNeg)]) (rest := []) ⟨hx, hb, hml, hown, hts⟩ (c_M_pour l D cI cR ma H.size (xs (x4 + (1 : Int32)).toNatClampNeg) (xs (x4 + (2 : Int32)).toNatClampNeg) u.2.1 r151 u150 hc_152) (cwV 2 hts (gV cwc mw_436 mw_437 mw_438 mw_3 mw_439) rfl rfl rfl (by decide +kernel) ⟨(Nat.le_of_ble_eq_true rfl), (Nat.le_of_ble_eq_true rfl)⟩) (kp_V (ci := 2) (q := (RX2, TX2, 18)) (hK.sub [0, 1] rfl) hP hD (sb_tail ([(wa, .inl (cJ, 1, .inr (.inl u.2.2)))] ++ (CW cI cR ca qa u145)) (MW cI ma u.2.1)) rfl rfl) rfl rfl hl.1 rfl (lv_room (Nat.le_of_ble_eq_true rfl)) dL_law_651 ⟨(by show _ ≤ 601024; omega), (by show _ ≤ 7293034; omega)⟩) hP hD hS hA (sb_tail ([(wa, .inl (cJ, 1, .inr (.inl u.2.2)))] ++ (CW cI cR ca qa u145)) (MW cI ma u.2.1)) (jn_tail ([(wa, .inl (cJ, 1, .inr (.inl u.2.2)))] ++ (CW cI cR ca qa u145)) (MW cI ma u.2.1) (MW cI ma u150) rfl) (fun H locs hP hD hS => ?_)
                        refine lv_aload_n hx hb dL_law_654 rfl (lv_at hl 3 rfl) ?_
                        obtain ⟨r154, u153, hc_155, hF⟩ := bi_some hF
                        refine kc_i (W1 := LW cI cR cJ ca qa ma wa (u145, u150, u.2.2)) (va_runV (As := []) (rest := []) ⟨hx, hb, hml, hown, hts⟩ (c_M_thrown l D cI cR ma H.size  u150 r154 u153 hc_155) (cwV 0 hts (gV cwc mw_372 mw_373 mw_374 mw_3 mw_375) rfl rfl rfl (by decide +kernel) ⟨(Nat.le_of_ble_eq_true rfl), (Nat.le_of_ble_eq_true rfl)⟩) (kp_V (ci := 2) (q := (RX2, TX2, 18)) (hK.sub [0, 1] rfl) hP hD (sb_tail ([(wa, .inl (cJ, 1, .inr (.inl u.2.2)))] ++ (CW cI cR ca qa u145)) (MW cI ma u150)) rfl rfl) rfl rfl hl.1 rfl (lv_room (Nat.le_of_ble_eq_true rfl)) dL_law_655 ⟨(by show _ ≤ 601024; omega), (by show _ ≤ 7293034; omega)⟩) hP hD hS hA (sb_tail ([(wa, .inl (cJ, 1, .inr (.inl u.2.2)))] ++ (CW cI cR ca qa u145)) (MW cI ma u150)) (jn_same (sb_tail ([(wa, .inl (cJ, 1, .inr (.inl u.2.2)))] ++ (CW cI cR ca qa u145)) (MW cI ma u150))) (fun H locs hP hD hS => ?_)
                        refine lv_iload hx hb dL_law_658 (lv_at hl 0 rfl) ?_
                        refine lv_icmp_eq (tgt := 665) hx hb dL_law_660 (by decide) (fun c_156 => ?_) (fun c_156 => ?_)
                        · replace hF := (if_pos c_156).symm.trans hF
                          refine lv_goto (tgt := 969) hx hb dL_law_665 (by decide) ?_
                          refine lv_iinc (v := (x4 + (5 : Int32))) (lv' := [(4, .int (x4 + (5 : Int32))), (5, .int r146), (0, .ref b), (1, .ref (ca 0)), (2, .ref (ma 0)), (3, .ref wa)]) hx hb dL_law_969 hl (k := 5) rfl rfl (by decide) rfl (fun ls hl => ?_)
                          refine lv_goto (tgt := 23) hx hb dL_law_972 (by decide) ?_
                          exact ih (x4 + (5 : Int32)) (u145, u150, u.2.2) hF _ _ (by omega) (by omega) H locs ls hP hD hS (lv_sub hl [2, 3, 4, 5, 0] rfl)
                        · replace hF := (if_neg c_156).symm.trans hF
                          refine lv_iconst (v := (0 : Int32)) hx hb dL_law_663 (by decide +kernel) ?_
                          exact absurd (Option.some.inj hF) (by decide)
                      · replace hF := (if_neg c_142).symm.trans hF
                        by_cases c_157 : ((xs x4.toNatClampNeg) &&& (15 : Int32)) = (9 : Int32)
                        · replace hF := (if_pos c_157).symm.trans hF
                          refine lv_tableIn (off := 629) (tgt := 668) hx hb dL_law_39 (by rw [c_157]; decide +kernel) (by rw [c_157]; decide +kernel) (by rw [c_157]; rfl) (by decide) ?_
                          refine lv_aload_n hx hb dL_law_668 rfl (lv_at hl 1 rfl) ?_
                          refine lv_aload_n hx hb dL_law_669 rfl (lv_at hl 0 rfl) ?_
                          refine lv_iload hx hb dL_law_670 (lv_at hl 4 rfl) ?_
                          refine lv_iconst (v := (1 : Int32)) hx hb dL_law_672 (by decide +kernel) ?_
                          refine lv_iadd hx hb dL_law_673 ?_
                          obtain ⟨h_158, hF⟩ := gd_some hF
                          refine va_sld hx hb hX hbl hbA hS (inb_in h_158) dL_law_674 ?_
                          refine lv_aload_n hx hb dL_law_675 rfl (lv_at hl 0 rfl) ?_
                          refine lv_iload hx hb dL_law_676 (lv_at hl 4 rfl) ?_
                          refine lv_iconst (v := (2 : Int32)) hx hb dL_law_678 (by decide +kernel) ?_
                          refine lv_iadd hx hb dL_law_679 ?_
                          obtain ⟨h_159, hF⟩ := gd_some hF
                          refine va_sld hx hb hX hbl hbA hS (inb_in h_159) dL_law_680 ?_
                          refine lv_aload_n hx hb dL_law_681 rfl (lv_at hl 0 rfl) ?_
                          refine lv_iload hx hb dL_law_682 (lv_at hl 4 rfl) ?_
                          refine lv_iconst (v := (3 : Int32)) hx hb dL_law_684 (by decide +kernel) ?_
                          refine lv_iadd hx hb dL_law_685 ?_
                          obtain ⟨h_160, hF⟩ := gd_some hF
                          refine va_sld hx hb hX hbl hbA hS (inb_in h_160) dL_law_686 ?_
                          obtain ⟨r162, u161, hc_163, hF⟩ := bi_some hF
                          refine kc_i (W1 := LW cI cR cJ ca qa ma wa (u161, u.2.1, u.2.2)) (vx_runSW (As := [.ref (ca 0), .int (xs (x4 + (1 : Int32)).toNatClampNeg), .int (xs (x4 + (2 : Int32)).toNatClampNeg), .int (xs (x4 + (3 : Int32)).toNatClampNeg)]) (rest := []) ⟨hx, hb, hml, hown, hts⟩ (c_L_part l hl9 D cI cR sa ca qa H.size (xs (x4 + (1 : Int32)).toNatClampNeg) (xs (x4 + (2 : Int32)).toNatClampNeg) (xs (x4 + (3 : Int32)).toNatClampNeg) u.1 r162 u161 hc_163) (vx_cwSW 4 hts (gS cwc mw_306 mw_307 mw_0 mw_308) rfl rfl rfl (by decide +kernel) ⟨(Nat.le_of_ble_eq_true rfl), (Nat.le_of_ble_eq_true rfl)⟩) (kpX_S hXK (hK.sub [0, 1] rfl) hP hD hS hA (sb_seg [(wa, .inl (cJ, 1, .inr (.inl u.2.2)))] (CW cI cR ca qa u.1) (MW cI ma u.2.1))) rfl rfl hl.1 rfl (lv_room (Nat.le_of_ble_eq_true rfl)) dL_law_687 ⟨(by show _ ≤ 601024; omega), (by show _ ≤ 7293034; omega)⟩) hP hD hS hA (sb_seg [(wa, .inl (cJ, 1, .inr (.inl u.2.2)))] (CW cI cR ca qa u.1) (MW cI ma u.2.1)) (jn_seg [(wa, .inl (cJ, 1, .inr (.inl u.2.2)))] (CW cI cR ca qa u.1) (CW cI cR ca qa u161) (MW cI ma u.2.1) (cw_ad _ _)) (fun H locs hP hD hS => ?_)
                          refine lv_istore (lv' := [(5, .int r162), (0, .ref b), (1, .ref (ca 0)), (2, .ref (ma 0)), (3, .ref wa), (4, .int x4)]) hx hb dL_law_690 hl (by decide) rfl (fun ls hl => ?_)
                          refine lv_aload_n hx hb dL_law_692 rfl (lv_at hl 3 rfl) ?_
                          refine lv_aload_n hx hb dL_law_693 rfl (lv_at hl 1 rfl) ?_
                          refine lv_iload hx hb dL_law_694 (lv_at hl 5 rfl) ?_
                          refine lv_iconst (v := (1 : Int32)) hx hb dL_law_696 (by decide +kernel) ?_
                          refine lv_iadd hx hb dL_law_697 ?_
                          obtain ⟨h_164, hF⟩ := gd_some hF
                          refine va_sld hx hb hX hbl hbA hS (inb_in h_164) dL_law_698 ?_
                          refine lv_aload_n hx hb dL_law_699 rfl (lv_at hl 1 rfl) ?_
                          refine lv_iload hx hb dL_law_700 (lv_at hl 5 rfl) ?_
                          refine lv_iconst (v := (2 : Int32)) hx hb dL_law_702 (by decide +kernel) ?_
                          refine lv_iadd hx hb dL_law_703 ?_
                          obtain ⟨h_165, hF⟩ := gd_some hF
                          refine va_sld hx hb hX hbl hbA hS (inb_in h_165) dL_law_704 ?_
                          refine lv_aload_n hx hb dL_law_705 rfl (lv_at hl 1 rfl) ?_
                          refine lv_iload hx hb dL_law_706 (lv_at hl 5 rfl) ?_
                          refine lv_iconst (v := (3 : Int32)) hx hb dL_law_708 (by decide +kernel) ?_
                          refine lv_iadd hx hb dL_law_709 ?_
                          obtain ⟨h_166, hF⟩ := gd_some hF
                          refine va_sld hx hb hX hbl hbA hS (inb_in h_166) dL_law_710 ?_
                          obtain ⟨r168, u167, hc_169, hF⟩ := bi_some hF
                          refine kc_v (W1 := LW cI cR cJ ca qa ma wa (u161, u167, u.2.2)) (va_runV (As := [.int (xs (x4 + (1 : Int32)).toNatClampNeg), .int (xs (x4 + (2 : Int32)).toNatClampNeg), .int (xs (x4 + (3 : Int32)).toNatClampNeg)]) (rest := []) ⟨hx, hb, hml, hown, hts⟩ (c_M_part l D cI cR ma H.size (xs (x4 + (1 : Int32)).toNatClampNeg) (xs (x4 + (2 : Int32)).toNatClampNeg) (xs (x4 + (3 : Int32)).toNatClampNeg) u.2.1 r168 u167 hc_169) (cwV 3 hts (gV cwc mw_440 mw_441 mw_442 mw_3 mw_443) rfl rfl rfl (by decide +kernel) ⟨(Nat.le_of_ble_eq_true rfl), (Nat.le_of_ble_eq_true rfl)⟩) (kp_V (ci := 2) (q := (RX2, TX2, 18)) (hK.sub [0, 1] rfl) hP hD (sb_tail ([(wa, .inl (cJ, 1, .inr (.inl u.2.2)))] ++ (CW cI cR ca qa u161)) (MW cI ma u.2.1)) rfl rfl) rfl rfl hl.1 rfl (lv_room (Nat.le_of_ble_eq_true rfl)) dL_law_711 ⟨(by show _ ≤ 601024; omega), (by show _ ≤ 7293034; omega)⟩) hP hD hS hA (sb_tail ([(wa, .inl (cJ, 1, .inr (.inl u.2.2)))] ++ (CW cI cR ca qa u161)) (MW cI ma u.2.1)) (jn_tail ([(wa, .inl (cJ, 1, .inr (.inl u.2.2)))] ++ (CW cI cR ca qa u161)) (MW cI ma u.2.1) (MW cI ma u167) rfl) (fun H locs hP hD hS => ?_)
                          refine lv_aload_n hx hb dL_law_714 rfl (lv_at hl 3 rfl) ?_
                          obtain ⟨r171, u170, hc_172, hF⟩ := bi_some hF
                          refine kc_i (W1 := LW cI cR cJ ca qa ma wa (u161, u167, u.2.2)) (va_runV (As := []) (rest := []) ⟨hx, hb, hml, hown, hts⟩ (c_M_thrown l D cI cR ma H.size  u167 r171 u170 hc_172) (cwV 0 hts (gV cwc mw_372 mw_373 mw_374 mw_3 mw_375) rfl rfl rfl (by decide +kernel) ⟨(Nat.le_of_ble_eq_true rfl), (Nat.le_of_ble_eq_true rfl)⟩) (kp_V (ci := 2) (q := (RX2, TX2, 18)) (hK.sub [0, 1] rfl) hP hD (sb_tail ([(wa, .inl (cJ, 1, .inr (.inl u.2.2)))] ++ (CW cI cR ca qa u161)) (MW cI ma u167)) rfl rfl) rfl rfl hl.1 rfl (lv_room (Nat.le_of_ble_eq_true rfl)) dL_law_715 ⟨(by show _ ≤ 601024; omega), (by show _ ≤ 7293034; omega)⟩) hP hD hS hA (sb_tail ([(wa, .inl (cJ, 1, .inr (.inl u.2.2)))] ++ (CW cI cR ca qa u161)) (MW cI ma u167)) (jn_same (sb_tail ([(wa, .inl (cJ, 1, .inr (.inl u.2.2)))] ++ (CW cI cR ca qa u161)) (MW cI ma u167))) (fun H locs hP hD hS => ?_)
                          refine lv_iload hx hb dL_law_718 (lv_at hl 0 rfl) ?_
                          refine lv_icmp_eq (tgt := 725) hx hb dL_law_720 (by decide) (fun c_173 => ?_) (fun c_173 => ?_)
                          · replace hF := (if_pos c_173).symm.trans hF
                            refine lv_goto (tgt := 969) hx hb dL_law_725 (by decide) ?_
                            refine lv_iinc (v := (x4 + (5 : Int32))) (lv' := [(4, .int (x4 + (5 : Int32))), (5, .int r162), (0, .ref b), (1, .ref (ca 0)), (2, .ref (ma 0)), (3, .ref wa)]) hx hb dL_law_969 hl (k := 5) rfl rfl (by decide) rfl (fun ls hl => ?_)
                            refine lv_goto (tgt := 23) hx hb dL_law_972 (by decide) ?_
                            exact ih (x4 + (5 : Int32)) (u161, u167, u.2.2) hF _ _ (by omega) (by omega) H locs ls hP hD hS (lv_sub hl [2, 3, 4, 5, 0] rfl)
                          · replace hF := (if_neg c_173).symm.trans hF
                            refine lv_iconst (v := (0 : Int32)) hx hb dL_law_723 (by decide +kernel) ?_
                            exact absurd (Option.some.inj hF) (by decide)
                        · replace hF := (if_neg c_157).symm.trans hF
                          by_cases c_174 : ((xs x4.toNatClampNeg) &&& (15 : Int32)) = (10 : Int32)
                          · replace hF := (if_pos c_174).symm.trans hF
                            refine lv_tableIn (off := 689) (tgt := 728) hx hb dL_law_39 (by rw [c_174]; decide +kernel) (by rw [c_174]; decide +kernel) (by rw [c_174]; rfl) (by decide) ?_
                            refine lv_aload_n hx hb dL_law_728 rfl (lv_at hl 1 rfl) ?_
                            refine lv_aload_n hx hb dL_law_729 rfl (lv_at hl 0 rfl) ?_
                            refine lv_iload hx hb dL_law_730 (lv_at hl 4 rfl) ?_
                            refine lv_iconst (v := (1 : Int32)) hx hb dL_law_732 (by decide +kernel) ?_
                            refine lv_iadd hx hb dL_law_733 ?_
                            obtain ⟨h_175, hF⟩ := gd_some hF
                            refine va_sld hx hb hX hbl hbA hS (inb_in h_175) dL_law_734 ?_
                            refine lv_aload_n hx hb dL_law_735 rfl (lv_at hl 3 rfl) ?_
                            obtain ⟨r177, u176, hc_178, hF⟩ := bi_some hF
                            refine kc_i (W1 := LW cI cR cJ ca qa ma wa (u176.1, u.2.1, u176.2)) (vx_runSW (As := [.ref (ca 0), .int (xs (x4 + (1 : Int32)).toNatClampNeg), .ref wa]) (rest := []) ⟨hx, hb, hml, hown, hts⟩ (c_L_dump l hl9 D cI cR cJ sa ca qa wa H.size (xs (x4 + (1 : Int32)).toNatClampNeg) (u.1, u.2.2) r177 u176 hc_178) (vx_cwSW 3 hts (gS cwc mw_317 mw_318 mw_0 mw_319) rfl rfl rfl (by decide +kernel) ⟨(Nat.le_of_ble_eq_true rfl), (Nat.le_of_ble_eq_true rfl)⟩) (kpX_S hXK hK hP hD hS hA (sb_head (CO cI cR cJ ca qa wa (u.1, u.2.2)) (MW cI ma u.2.1))) rfl rfl hl.1 rfl (lv_room (Nat.le_of_ble_eq_true rfl)) dL_law_736 ⟨(by show _ ≤ 601024; omega), (by show _ ≤ 7293034; omega)⟩) hP hD hS hA (sb_head (CO cI cR cJ ca qa wa (u.1, u.2.2)) (MW cI ma u.2.1)) (jn_head (CO cI cR cJ ca qa wa (u.1, u.2.2)) (CO cI cR cJ ca qa wa u176) (MW cI ma u.2.1) (co_ad _ _)) (fun H locs hP hD hS => ?_)
                            refine lv_istore (lv' := [(5, .int r177), (0, .ref b), (1, .ref (ca 0)), (2, .ref (ma 0)), (3, .ref wa), (4, .int x4)]) hx hb dL_law_739 hl (by decide) rfl (fun ls hl => ?_)
                            refine lv_aload_n hx hb dL_law_741 rfl (lv_at hl 3 rfl) ?_
                            refine lv_aload_n hx hb dL_law_742 rfl (lv_at hl 1 rfl) ?_
                            refine lv_iload hx hb dL_law_743 (lv_at hl 5 rfl) ?_
                            refine lv_iconst (v := (1 : Int32)) hx hb dL_law_745 (by decide +kernel) ?_
                            refine lv_iadd hx hb dL_law_746 ?_
                            obtain ⟨h_179, hF⟩ := gd_some hF
                            refine va_sld hx hb hX hbl hbA hS (inb_in h_179) dL_law_747 ?_
                            obtain ⟨r181, u180, hc_182, hF⟩ := bi_some hF
                            refine kc_i (W1 := LW cI cR cJ ca qa ma wa (u176.1, u180, u176.2)) (va_runV (As := [.int (xs (x4 + (1 : Int32)).toNatClampNeg)]) (rest := []) ⟨hx, hb, hml, hown, hts⟩ (c_M_dump l D cI cR ma H.size (xs (x4 + (1 : Int32)).toNatClampNeg) u.2.1 r181 u180 hc_182) (cwV 1 hts (gV cwc mw_445 mw_446 mw_447 mw_3 mw_448) rfl rfl rfl (by decide +kernel) ⟨(Nat.le_of_ble_eq_true rfl), (Nat.le_of_ble_eq_true rfl)⟩) (kp_V (ci := 2) (q := (RX2, TX2, 18)) (hK.sub [0, 1] rfl) hP hD (sb_tail ([(wa, .inl (cJ, 1, .inr (.inl u176.2)))] ++ (CW cI cR ca qa u176.1)) (MW cI ma u.2.1)) rfl rfl) rfl rfl hl.1 rfl (lv_room (Nat.le_of_ble_eq_true rfl)) dL_law_748 ⟨(by show _ ≤ 601024; omega), (by show _ ≤ 7293034; omega)⟩) hP hD hS hA (sb_tail ([(wa, .inl (cJ, 1, .inr (.inl u176.2)))] ++ (CW cI cR ca qa u176.1)) (MW cI ma u.2.1)) (jn_tail ([(wa, .inl (cJ, 1, .inr (.inl u176.2)))] ++ (CW cI cR ca qa u176.1)) (MW cI ma u.2.1) (MW cI ma u180) rfl) (fun H locs hP hD hS => ?_)
                            refine lv_istore (lv' := [(6, .int r181), (5, .int r177), (0, .ref b), (1, .ref (ca 0)), (2, .ref (ma 0)), (3, .ref wa), (4, .int x4)]) hx hb dL_law_751 hl (by decide) rfl (fun ls hl => ?_)
                            refine lv_aload_n hx hb dL_law_753 rfl (lv_at hl 4 rfl) ?_
                            obtain ⟨r184, u183, hc_185, hF⟩ := bi_some hF
                            refine kc_i (W1 := LW cI cR cJ ca qa ma wa (u176.1, u180, u176.2)) (va_runV (As := []) (rest := []) ⟨hx, hb, hml, hown, hts⟩ (c_M_thrown l D cI cR ma H.size  u180 r184 u183 hc_185) (cwV 0 hts (gV cwc mw_372 mw_373 mw_374 mw_3 mw_375) rfl rfl rfl (by decide +kernel) ⟨(Nat.le_of_ble_eq_true rfl), (Nat.le_of_ble_eq_true rfl)⟩) (kp_V (ci := 2) (q := (RX2, TX2, 18)) (hK.sub [0, 1] rfl) hP hD (sb_tail ([(wa, .inl (cJ, 1, .inr (.inl u176.2)))] ++ (CW cI cR ca qa u176.1)) (MW cI ma u180)) rfl rfl) rfl rfl hl.1 rfl (lv_room (Nat.le_of_ble_eq_true rfl)) dL_law_754 ⟨(by show _ ≤ 601024; omega), (by show _ ≤ 7293034; omega)⟩) hP hD hS hA (sb_tail ([(wa, .inl (cJ, 1, .inr (.inl u176.2)))] ++ (CW cI cR ca qa u176.1)) (MW cI ma u180)) (jn_same (sb_tail ([(wa, .inl (cJ, 1, .inr (.inl u176.2)))] ++ (CW cI cR ca qa u176.1)) (MW cI ma u180))) (fun H locs hP hD hS => ?_)
                            refine lv_iload hx hb dL_law_757 (lv_at hl 1 rfl) ?_
                            refine lv_icmp_eq (tgt := 764) hx hb dL_law_759 (by decide) (fun c_186 => ?_) (fun c_186 => ?_)
                            · replace hF := (if_pos c_186).symm.trans hF
                              refine lv_iload hx hb dL_law_764 (lv_at hl 1 rfl) ?_
                              refine lv_if_ne (tgt := 781) hx hb dL_law_766 (by decide) (fun c_187 => ?_) (fun c_187 => ?_)
                              · replace hF := (if_neg c_187).symm.trans hF
                                refine lv_goto (tgt := 969) hx hb dL_law_781 (by decide) ?_
                                refine lv_iinc (v := (x4 + (5 : Int32))) (lv' := [(4, .int (x4 + (5 : Int32))), (6, .int r181), (5, .int r177), (0, .ref b), (1, .ref (ca 0)), (2, .ref (ma 0)), (3, .ref wa)]) hx hb dL_law_969 hl (k := 6) rfl rfl (by decide) rfl (fun ls hl => ?_)
                                refine lv_goto (tgt := 23) hx hb dL_law_972 (by decide) ?_
                                exact ih (x4 + (5 : Int32)) (u176.1, u180, u176.2) hF _ _ (by omega) (by omega) H locs ls hP hD hS (lv_sub hl [3, 4, 5, 6, 0] rfl)
                              · replace hF := (if_pos c_187).symm.trans hF
                                refine lv_aload_n hx hb dL_law_769 rfl (lv_at hl 5 rfl) ?_
                                refine lv_iconst (v := (0 : Int32)) hx hb dL_law_770 (by decide +kernel) ?_
                                obtain ⟨h_188, hF⟩ := gd_some hF
                                refine va_lald (f := u176.2) hx hb hK hP 0 2 rfl rfl (inb_in h_188) dL_law_771 ?_
                                refine lv_iload hx hb dL_law_772 (lv_at hl 0 rfl) ?_
                                refine lv_i2l (v := r181.toInt64) hx hb dL_law_774 rfl ?_
                                refine W.lcmp hx hb dL_law_775 ?_
                                refine lv_if_eq (tgt := 781) hx hb dL_law_776 (by decide) (fun c_189 => ?_) (fun c_189 => ?_)
                                · replace hF := (if_pos c_189).symm.trans hF
                                  refine lv_goto (tgt := 969) hx hb dL_law_781 (by decide) ?_
                                  refine lv_iinc (v := (x4 + (5 : Int32))) (lv' := [(4, .int (x4 + (5 : Int32))), (6, .int r181), (5, .int r177), (0, .ref b), (1, .ref (ca 0)), (2, .ref (ma 0)), (3, .ref wa)]) hx hb dL_law_969 hl (k := 6) rfl rfl (by decide) rfl (fun ls hl => ?_)
                                  refine lv_goto (tgt := 23) hx hb dL_law_972 (by decide) ?_
                                  exact ih (x4 + (5 : Int32)) (u176.1, u180, u176.2) hF _ _ (by omega) (by omega) H locs ls hP hD hS (lv_sub hl [3, 4, 5, 6, 0] rfl)
                                · replace hF := (if_neg c_189).symm.trans hF
                                  refine lv_iconst (v := (0 : Int32)) hx hb dL_law_779 (by decide +kernel) ?_
                                  exact absurd (Option.some.inj hF) (by decide)
                            · replace hF := (if_neg c_186).symm.trans hF
                              refine lv_iconst (v := (0 : Int32)) hx hb dL_law_762 (by decide +kernel) ?_
                              exact absurd (Option.some.inj hF) (by decide)
                          · replace hF := (if_neg c_174).symm.trans hF
                            by_cases c_190 : ((xs x4.toNatClampNeg) &&& (15 : Int32)) = (11 : Int32)
                            · replace hF := (if_pos c_190).symm.trans hF
                              refine lv_tableIn (off := 745) (tgt := 784) hx hb dL_law_39 (by rw [c_190]; decide +kernel) (by rw [c_190]; decide +kernel) (by rw [c_190]; rfl) (by decide) ?_
                              refine lv_aload_n hx hb dL_law_784 rfl (lv_at hl 1 rfl) ?_
                              refine lv_aload_n hx hb dL_law_785 rfl (lv_at hl 0 rfl) ?_
                              refine lv_iload hx hb dL_law_786 (lv_at hl 4 rfl) ?_
                              refine lv_iconst (v := (1 : Int32)) hx hb dL_law_788 (by decide +kernel) ?_
                              refine lv_iadd hx hb dL_law_789 ?_
                              obtain ⟨h_191, hF⟩ := gd_some hF
                              refine va_sld hx hb hX hbl hbA hS (inb_in h_191) dL_law_790 ?_
                              obtain ⟨r193, u192, hc_194, hF⟩ := bi_some hF
                              refine kc_i (W1 := LW cI cR cJ ca qa ma wa (u192, u.2.1, u.2.2)) (va_runV (As := [.int (xs (x4 + (1 : Int32)).toNatClampNeg)]) (rest := []) ⟨hx, hb, hml, hown, hts⟩ (c_P_spend l D cI cR ca qa H.size (xs (x4 + (1 : Int32)).toNatClampNeg) u.1 r193 u192 hc_194) (cwV 1 hts (gV cwc mw_68 mw_69 mw_70 mw_1 mw_71) rfl rfl rfl (by decide +kernel) ⟨(Nat.le_of_ble_eq_true rfl), (Nat.le_of_ble_eq_true rfl)⟩) (kp_V (ci := 1) (q := (RX1, TX1, 16)) (hK.sub [0, 1] rfl) hP hD (sb_seg [(wa, .inl (cJ, 1, .inr (.inl u.2.2)))] (CW cI cR ca qa u.1) (MW cI ma u.2.1)) rfl rfl) rfl rfl hl.1 rfl (lv_room (Nat.le_of_ble_eq_true rfl)) dL_law_791 ⟨(by show _ ≤ 601024; omega), (by show _ ≤ 7293034; omega)⟩) hP hD hS hA (sb_seg [(wa, .inl (cJ, 1, .inr (.inl u.2.2)))] (CW cI cR ca qa u.1) (MW cI ma u.2.1)) (jn_seg [(wa, .inl (cJ, 1, .inr (.inl u.2.2)))] (CW cI cR ca qa u.1) (CW cI cR ca qa u192) (MW cI ma u.2.1) (cw_ad _ _)) (fun H locs hP hD hS => ?_)
                              refine lv_aload_n hx hb dL_law_794 rfl (lv_at hl 2 rfl) ?_
                              refine lv_aload_n hx hb dL_law_795 rfl (lv_at hl 0 rfl) ?_
                              refine lv_iload hx hb dL_law_796 (lv_at hl 4 rfl) ?_
                              refine lv_iconst (v := (1 : Int32)) hx hb dL_law_798 (by decide +kernel) ?_
                              refine lv_iadd hx hb dL_law_799 ?_
                              obtain ⟨h_195, hF⟩ := gd_some hF
                              refine va_sld hx hb hX hbl hbA hS (inb_in h_195) dL_law_800 ?_
                              obtain ⟨r197, u196, hc_198, hF⟩ := bi_some hF
                              refine kc_i (W1 := LW cI cR cJ ca qa ma wa (u192, u196, u.2.2)) (va_runV (As := [.int (xs (x4 + (1 : Int32)).toNatClampNeg)]) (rest := [.int r193]) ⟨hx, hb, hml, hown, hts⟩ (c_M_spend l D cI cR ma H.size (xs (x4 + (1 : Int32)).toNatClampNeg) u.2.1 r197 u196 hc_198) (cwV 1 hts (gV cwc mw_449 mw_450 mw_451 mw_3 mw_452) rfl rfl rfl (by decide +kernel) ⟨(Nat.le_of_ble_eq_true rfl), (Nat.le_of_ble_eq_true rfl)⟩) (kp_V (ci := 2) (q := (RX2, TX2, 18)) (hK.sub [0, 1] rfl) hP hD (sb_tail ([(wa, .inl (cJ, 1, .inr (.inl u.2.2)))] ++ (CW cI cR ca qa u192)) (MW cI ma u.2.1)) rfl rfl) rfl rfl hl.1 rfl (lv_room (Nat.le_of_ble_eq_true rfl)) dL_law_801 ⟨(by show _ ≤ 601024; omega), (by show _ ≤ 7293034; omega)⟩) hP hD hS hA (sb_tail ([(wa, .inl (cJ, 1, .inr (.inl u.2.2)))] ++ (CW cI cR ca qa u192)) (MW cI ma u.2.1)) (jn_tail ([(wa, .inl (cJ, 1, .inr (.inl u.2.2)))] ++ (CW cI cR ca qa u192)) (MW cI ma u.2.1) (MW cI ma u196) rfl) (fun H locs hP hD hS => ?_)
                              refine lv_icmp_eq (tgt := 969) hx hb dL_law_804 (by decide) (fun c_199 => ?_) (fun c_199 => ?_)
                              · replace hF := (if_pos c_199).symm.trans hF
                                refine lv_iinc (v := (x4 + (5 : Int32))) (lv' := [(4, .int (x4 + (5 : Int32))), (0, .ref b), (1, .ref (ca 0)), (2, .ref (ma 0)), (3, .ref wa)]) hx hb dL_law_969 hl (k := 4) rfl rfl (by decide) rfl (fun ls hl => ?_)
                                refine lv_goto (tgt := 23) hx hb dL_law_972 (by decide) ?_
                                exact ih (x4 + (5 : Int32)) (u192, u196, u.2.2) hF _ _ (by omega) (by omega) H locs ls hP hD hS (lv_sub hl [1, 2, 3, 4, 0] rfl)
                              · replace hF := (if_neg c_199).symm.trans hF
                                refine lv_iconst (v := (0 : Int32)) hx hb dL_law_807 (by decide +kernel) ?_
                                exact absurd (Option.some.inj hF) (by decide)
                            · replace hF := (if_neg c_190).symm.trans hF
                              by_cases c_200 : ((xs x4.toNatClampNeg) &&& (15 : Int32)) = (12 : Int32)
                              · replace hF := (if_pos c_200).symm.trans hF
                                refine lv_tableIn (off := 770) (tgt := 809) hx hb dL_law_39 (by rw [c_200]; decide +kernel) (by rw [c_200]; decide +kernel) (by rw [c_200]; rfl) (by decide) ?_
                                refine lv_aload_n hx hb dL_law_809 rfl (lv_at hl 1 rfl) ?_
                                refine lv_aload_n hx hb dL_law_810 rfl (lv_at hl 0 rfl) ?_
                                refine lv_iload hx hb dL_law_811 (lv_at hl 4 rfl) ?_
                                refine lv_iconst (v := (1 : Int32)) hx hb dL_law_813 (by decide +kernel) ?_
                                refine lv_iadd hx hb dL_law_814 ?_
                                obtain ⟨h_201, hF⟩ := gd_some hF
                                refine va_sld hx hb hX hbl hbA hS (inb_in h_201) dL_law_815 ?_
                                refine lv_aload_n hx hb dL_law_816 rfl (lv_at hl 0 rfl) ?_
                                refine lv_iload hx hb dL_law_817 (lv_at hl 4 rfl) ?_
                                refine lv_iconst (v := (2 : Int32)) hx hb dL_law_819 (by decide +kernel) ?_
                                refine lv_iadd hx hb dL_law_820 ?_
                                obtain ⟨h_202, hF⟩ := gd_some hF
                                refine va_sld hx hb hX hbl hbA hS (inb_in h_202) dL_law_821 ?_
                                refine lv_aload_n hx hb dL_law_822 rfl (lv_at hl 0 rfl) ?_
                                refine lv_iload hx hb dL_law_823 (lv_at hl 4 rfl) ?_
                                refine lv_iconst (v := (3 : Int32)) hx hb dL_law_825 (by decide +kernel) ?_
                                refine lv_iadd hx hb dL_law_826 ?_
                                obtain ⟨h_203, hF⟩ := gd_some hF
                                refine va_sld hx hb hX hbl hbA hS (inb_in h_203) dL_law_827 ?_
                                refine lv_aload_n hx hb dL_law_828 rfl (lv_at hl 0 rfl) ?_
                                refine lv_iload hx hb dL_law_829 (lv_at hl 4 rfl) ?_
                                refine lv_iconst (v := (4 : Int32)) hx hb dL_law_831 (by decide +kernel) ?_
                                refine lv_iadd hx hb dL_law_832 ?_
                                obtain ⟨h_204, hF⟩ := gd_some hF
                                refine va_sld hx hb hX hbl hbA hS (inb_in h_204) dL_law_833 ?_
                                obtain ⟨r206, u205, hc_207, hF⟩ := bi_some hF
                                refine kc_i (W1 := LW cI cR cJ ca qa ma wa u) (va_runV (As := [.int (xs (x4 + (1 : Int32)).toNatClampNeg), .int (xs (x4 + (2 : Int32)).toNatClampNeg), .int (xs (x4 + (3 : Int32)).toNatClampNeg), .int (xs (x4 + (4 : Int32)).toNatClampNeg)]) (rest := []) ⟨hx, hb, hml, hown, hts⟩ (c_P_packet l D cI cR ca qa H.size (xs (x4 + (1 : Int32)).toNatClampNeg) (xs (x4 + (2 : Int32)).toNatClampNeg) (xs (x4 + (3 : Int32)).toNatClampNeg) (xs (x4 + (4 : Int32)).toNatClampNeg) u.1 r206 u205 hc_207) (cwV 4 hts (gV cwc mw_73 mw_74 mw_75 mw_1 mw_76) rfl rfl rfl (by decide +kernel) ⟨(Nat.le_of_ble_eq_true rfl), (Nat.le_of_ble_eq_true rfl)⟩) (kp_V (ci := 1) (q := (RX1, TX1, 16)) (hK.sub [0, 1] rfl) hP hD (sb_seg [(wa, .inl (cJ, 1, .inr (.inl u.2.2)))] (CW cI cR ca qa u.1) (MW cI ma u.2.1)) rfl rfl) rfl rfl hl.1 rfl (lv_room (Nat.le_of_ble_eq_true rfl)) dL_law_834 ⟨(by show _ ≤ 601024; omega), (by show _ ≤ 7293034; omega)⟩) hP hD hS hA (sb_seg [(wa, .inl (cJ, 1, .inr (.inl u.2.2)))] (CW cI cR ca qa u.1) (MW cI ma u.2.1)) (jn_same (sb_seg [(wa, .inl (cJ, 1, .inr (.inl u.2.2)))] (CW cI cR ca qa u.1) (MW cI ma u.2.1))) (fun H locs hP hD hS => ?_)
                                refine lv_aload_n hx hb dL_law_837 rfl (lv_at hl 2 rfl) ?_
                                refine lv_aload_n hx hb dL_law_838 rfl (lv_at hl 0 rfl) ?_
                                refine lv_iload hx hb dL_law_839 (lv_at hl 4 rfl) ?_
                                refine lv_iconst (v := (1 : Int32)) hx hb dL_law_841 (by decide +kernel) ?_
                                refine lv_iadd hx hb dL_law_842 ?_
                                obtain ⟨h_208, hF⟩ := gd_some hF
                                refine va_sld hx hb hX hbl hbA hS (inb_in h_208) dL_law_843 ?_
                                refine lv_aload_n hx hb dL_law_844 rfl (lv_at hl 0 rfl) ?_
                                refine lv_iload hx hb dL_law_845 (lv_at hl 4 rfl) ?_
                                refine lv_iconst (v := (2 : Int32)) hx hb dL_law_847 (by decide +kernel) ?_
                                refine lv_iadd hx hb dL_law_848 ?_
                                obtain ⟨h_209, hF⟩ := gd_some hF
                                refine va_sld hx hb hX hbl hbA hS (inb_in h_209) dL_law_849 ?_
                                refine lv_aload_n hx hb dL_law_850 rfl (lv_at hl 0 rfl) ?_
                                refine lv_iload hx hb dL_law_851 (lv_at hl 4 rfl) ?_
                                refine lv_iconst (v := (3 : Int32)) hx hb dL_law_853 (by decide +kernel) ?_
                                refine lv_iadd hx hb dL_law_854 ?_
                                obtain ⟨h_210, hF⟩ := gd_some hF
                                refine va_sld hx hb hX hbl hbA hS (inb_in h_210) dL_law_855 ?_
                                refine lv_aload_n hx hb dL_law_856 rfl (lv_at hl 0 rfl) ?_
                                refine lv_iload hx hb dL_law_857 (lv_at hl 4 rfl) ?_
                                refine lv_iconst (v := (4 : Int32)) hx hb dL_law_859 (by decide +kernel) ?_
                                refine lv_iadd hx hb dL_law_860 ?_
                                obtain ⟨h_211, hF⟩ := gd_some hF
                                refine va_sld hx hb hX hbl hbA hS (inb_in h_211) dL_law_861 ?_
                                obtain ⟨r213, u212, hc_214, hF⟩ := bi_some hF
                                refine kc_i (W1 := LW cI cR cJ ca qa ma wa (u.1, u212, u.2.2)) (va_runV (As := [.int (xs (x4 + (1 : Int32)).toNatClampNeg), .int (xs (x4 + (2 : Int32)).toNatClampNeg), .int (xs (x4 + (3 : Int32)).toNatClampNeg), .int (xs (x4 + (4 : Int32)).toNatClampNeg)]) (rest := [.int r206]) ⟨hx, hb, hml, hown, hts⟩ (c_M_packet l D cI cR ma H.size (xs (x4 + (1 : Int32)).toNatClampNeg) (xs (x4 + (2 : Int32)).toNatClampNeg) (xs (x4 + (3 : Int32)).toNatClampNeg) (xs (x4 + (4 : Int32)).toNatClampNeg) u.2.1 r213 u212 hc_214) (cwV 4 hts (gV cwc mw_453 mw_454 mw_455 mw_3 mw_456) rfl rfl rfl (by decide +kernel) ⟨(Nat.le_of_ble_eq_true rfl), (Nat.le_of_ble_eq_true rfl)⟩) (kp_V (ci := 2) (q := (RX2, TX2, 18)) (hK.sub [0, 1] rfl) hP hD (sb_tail ([(wa, .inl (cJ, 1, .inr (.inl u.2.2)))] ++ (CW cI cR ca qa u.1)) (MW cI ma u.2.1)) rfl rfl) rfl rfl hl.1 rfl (lv_room (Nat.le_of_ble_eq_true rfl)) dL_law_862 ⟨(by show _ ≤ 601024; omega), (by show _ ≤ 7293034; omega)⟩) hP hD hS hA (sb_tail ([(wa, .inl (cJ, 1, .inr (.inl u.2.2)))] ++ (CW cI cR ca qa u.1)) (MW cI ma u.2.1)) (jn_tail ([(wa, .inl (cJ, 1, .inr (.inl u.2.2)))] ++ (CW cI cR ca qa u.1)) (MW cI ma u.2.1) (MW cI ma u212) rfl) (fun H locs hP hD hS => ?_)
                                refine lv_icmp_eq (tgt := 969) hx hb dL_law_865 (by decide) (fun c_215 => ?_) (fun c_215 => ?_)
                                · replace hF := (if_pos c_215).symm.trans hF
                                  refine lv_iinc (v := (x4 + (5 : Int32))) (lv' := [(4, .int (x4 + (5 : Int32))), (0, .ref b), (1, .ref (ca 0)), (2, .ref (ma 0)), (3, .ref wa)]) hx hb dL_law_969 hl (k := 4) rfl rfl (by decide) rfl (fun ls hl => ?_)
                                  refine lv_goto (tgt := 23) hx hb dL_law_972 (by decide) ?_
                                  exact ih (x4 + (5 : Int32)) (u.1, u212, u.2.2) hF _ _ (by omega) (by omega) H locs ls hP hD hS (lv_sub hl [1, 2, 3, 4, 0] rfl)
                                · replace hF := (if_neg c_215).symm.trans hF
                                  refine lv_iconst (v := (0 : Int32)) hx hb dL_law_868 (by decide +kernel) ?_
                                  exact absurd (Option.some.inj hF) (by decide)
                              · replace hF := (if_neg c_200).symm.trans hF
                                by_cases c_216 : ((xs x4.toNatClampNeg) &&& (15 : Int32)) = (13 : Int32)
                                · replace hF := (if_pos c_216).symm.trans hF
                                  refine lv_tableIn (off := 831) (tgt := 870) hx hb dL_law_39 (by rw [c_216]; decide +kernel) (by rw [c_216]; decide +kernel) (by rw [c_216]; rfl) (by decide) ?_
                                  refine lv_aload_n hx hb dL_law_870 rfl (lv_at hl 1 rfl) ?_
                                  refine lv_aload_n hx hb dL_law_871 rfl (lv_at hl 0 rfl) ?_
                                  refine lv_iload hx hb dL_law_872 (lv_at hl 4 rfl) ?_
                                  refine lv_iconst (v := (1 : Int32)) hx hb dL_law_874 (by decide +kernel) ?_
                                  refine lv_iadd hx hb dL_law_875 ?_
                                  obtain ⟨h_217, hF⟩ := gd_some hF
                                  refine va_sld hx hb hX hbl hbA hS (inb_in h_217) dL_law_876 ?_
                                  refine lv_aload_n hx hb dL_law_877 rfl (lv_at hl 0 rfl) ?_
                                  refine lv_iload hx hb dL_law_878 (lv_at hl 4 rfl) ?_
                                  refine lv_iconst (v := (2 : Int32)) hx hb dL_law_880 (by decide +kernel) ?_
                                  refine lv_iadd hx hb dL_law_881 ?_
                                  obtain ⟨h_218, hF⟩ := gd_some hF
                                  refine va_sld hx hb hX hbl hbA hS (inb_in h_218) dL_law_882 ?_
                                  obtain ⟨r220, u219, hc_221, hF⟩ := bi_some hF
                                  refine kc_i (W1 := LW cI cR cJ ca qa ma wa u) (va_runV (As := [.int (xs (x4 + (1 : Int32)).toNatClampNeg), .int (xs (x4 + (2 : Int32)).toNatClampNeg)]) (rest := []) ⟨hx, hb, hml, hown, hts⟩ (c_P_units l D cI cR ca qa H.size (xs (x4 + (1 : Int32)).toNatClampNeg) (xs (x4 + (2 : Int32)).toNatClampNeg) u.1 r220 u219 hc_221) (cwV 2 hts (gV cwc mw_93 mw_94 mw_95 mw_1 mw_96) rfl rfl rfl (by decide +kernel) ⟨(Nat.le_of_ble_eq_true rfl), (Nat.le_of_ble_eq_true rfl)⟩) (kp_V (ci := 1) (q := (RX1, TX1, 16)) (hK.sub [0, 1] rfl) hP hD (sb_seg [(wa, .inl (cJ, 1, .inr (.inl u.2.2)))] (CW cI cR ca qa u.1) (MW cI ma u.2.1)) rfl rfl) rfl rfl hl.1 rfl (lv_room (Nat.le_of_ble_eq_true rfl)) dL_law_883 ⟨(by show _ ≤ 601024; omega), (by show _ ≤ 7293034; omega)⟩) hP hD hS hA (sb_seg [(wa, .inl (cJ, 1, .inr (.inl u.2.2)))] (CW cI cR ca qa u.1) (MW cI ma u.2.1)) (jn_same (sb_seg [(wa, .inl (cJ, 1, .inr (.inl u.2.2)))] (CW cI cR ca qa u.1) (MW cI ma u.2.1))) (fun H locs hP hD hS => ?_)
                                  refine lv_aload_n hx hb dL_law_886 rfl (lv_at hl 2 rfl) ?_
                                  refine lv_aload_n hx hb dL_law_887 rfl (lv_at hl 0 rfl) ?_
                                  refine lv_iload hx hb dL_law_888 (lv_at hl 4 rfl) ?_
                                  refine lv_iconst (v := (1 : Int32)) hx hb dL_law_890 (by decide +kernel) ?_
                                  refine lv_iadd hx hb dL_law_891 ?_
                                  obtain ⟨h_222, hF⟩ := gd_some hF
                                  refine va_sld hx hb hX hbl hbA hS (inb_in h_222) dL_law_892 ?_
                                  refine lv_aload_n hx hb dL_law_893 rfl (lv_at hl 0 rfl) ?_
                                  refine lv_iload hx hb dL_law_894 (lv_at hl 4 rfl) ?_
                                  refine lv_iconst (v := (2 : Int32)) hx hb dL_law_896 (by decide +kernel) ?_
                                  refine lv_iadd hx hb dL_law_897 ?_
                                  obtain ⟨h_223, hF⟩ := gd_some hF
                                  refine va_sld hx hb hX hbl hbA hS (inb_in h_223) dL_law_898 ?_
                                  obtain ⟨r225, u224, hc_226, hF⟩ := bi_some hF
                                  refine kc_i (W1 := LW cI cR cJ ca qa ma wa (u.1, u224, u.2.2)) (va_runV (As := [.int (xs (x4 + (1 : Int32)).toNatClampNeg), .int (xs (x4 + (2 : Int32)).toNatClampNeg)]) (rest := [.int r220]) ⟨hx, hb, hml, hown, hts⟩ (c_M_units l D cI cR ma H.size (xs (x4 + (1 : Int32)).toNatClampNeg) (xs (x4 + (2 : Int32)).toNatClampNeg) u.2.1 r225 u224 hc_226) (cwV 2 hts (gV cwc mw_460 mw_461 mw_462 mw_3 mw_463) rfl rfl rfl (by decide +kernel) ⟨(Nat.le_of_ble_eq_true rfl), (Nat.le_of_ble_eq_true rfl)⟩) (kp_V (ci := 2) (q := (RX2, TX2, 18)) (hK.sub [0, 1] rfl) hP hD (sb_tail ([(wa, .inl (cJ, 1, .inr (.inl u.2.2)))] ++ (CW cI cR ca qa u.1)) (MW cI ma u.2.1)) rfl rfl) rfl rfl hl.1 rfl (lv_room (Nat.le_of_ble_eq_true rfl)) dL_law_899 ⟨(by show _ ≤ 601024; omega), (by show _ ≤ 7293034; omega)⟩) hP hD hS hA (sb_tail ([(wa, .inl (cJ, 1, .inr (.inl u.2.2)))] ++ (CW cI cR ca qa u.1)) (MW cI ma u.2.1)) (jn_tail ([(wa, .inl (cJ, 1, .inr (.inl u.2.2)))] ++ (CW cI cR ca qa u.1)) (MW cI ma u.2.1) (MW cI ma u224) rfl) (fun H locs hP hD hS => ?_)
                                  refine lv_icmp_eq (tgt := 969) hx hb dL_law_902 (by decide) (fun c_227 => ?_) (fun c_227 => ?_)
                                  · replace hF := (if_pos c_227).symm.trans hF
                                    refine lv_iinc (v := (x4 + (5 : Int32))) (lv' := [(4, .int (x4 + (5 : Int32))), (0, .ref b), (1, .ref (ca 0)), (2, .ref (ma 0)), (3, .ref wa)]) hx hb dL_law_969 hl (k := 4) rfl rfl (by decide) rfl (fun ls hl => ?_)
                                    refine lv_goto (tgt := 23) hx hb dL_law_972 (by decide) ?_
                                    exact ih (x4 + (5 : Int32)) (u.1, u224, u.2.2) hF _ _ (by omega) (by omega) H locs ls hP hD hS (lv_sub hl [1, 2, 3, 4, 0] rfl)
                                  · replace hF := (if_neg c_227).symm.trans hF
                                    refine lv_iconst (v := (0 : Int32)) hx hb dL_law_905 (by decide +kernel) ?_
                                    exact absurd (Option.some.inj hF) (by decide)
                                · replace hF := (if_neg c_216).symm.trans hF
                                  by_cases c_228 : ((xs x4.toNatClampNeg) &&& (15 : Int32)) = (14 : Int32)
                                  · replace hF := (if_pos c_228).symm.trans hF
                                    refine lv_tableIn (off := 868) (tgt := 907) hx hb dL_law_39 (by rw [c_228]; decide +kernel) (by rw [c_228]; decide +kernel) (by rw [c_228]; rfl) (by decide) ?_
                                    refine lv_aload_n hx hb dL_law_907 rfl (lv_at hl 1 rfl) ?_
                                    refine lv_aload_n hx hb dL_law_908 rfl (lv_at hl 0 rfl) ?_
                                    refine lv_iload hx hb dL_law_909 (lv_at hl 4 rfl) ?_
                                    refine lv_iconst (v := (1 : Int32)) hx hb dL_law_911 (by decide +kernel) ?_
                                    refine lv_iadd hx hb dL_law_912 ?_
                                    obtain ⟨h_229, hF⟩ := gd_some hF
                                    refine va_sld hx hb hX hbl hbA hS (inb_in h_229) dL_law_913 ?_
                                    refine lv_aload_n hx hb dL_law_914 rfl (lv_at hl 0 rfl) ?_
                                    refine lv_iload hx hb dL_law_915 (lv_at hl 4 rfl) ?_
                                    refine lv_iconst (v := (2 : Int32)) hx hb dL_law_917 (by decide +kernel) ?_
                                    refine lv_iadd hx hb dL_law_918 ?_
                                    obtain ⟨h_230, hF⟩ := gd_some hF
                                    refine va_sld hx hb hX hbl hbA hS (inb_in h_230) dL_law_919 ?_
                                    obtain ⟨r232, u231, hc_233, hF⟩ := bi_some hF
                                    refine kc_i (W1 := LW cI cR cJ ca qa ma wa u) (va_runV (As := [.int (xs (x4 + (1 : Int32)).toNatClampNeg), .int (xs (x4 + (2 : Int32)).toNatClampNeg)]) (rest := []) ⟨hx, hb, hml, hown, hts⟩ (c_P_count l D cI cR ca qa H.size (xs (x4 + (1 : Int32)).toNatClampNeg) (xs (x4 + (2 : Int32)).toNatClampNeg) u.1 r232 u231 hc_233) (cwV 2 hts (gV cwc mw_101 mw_102 mw_103 mw_1 mw_104) rfl rfl rfl (by decide +kernel) ⟨(Nat.le_of_ble_eq_true rfl), (Nat.le_of_ble_eq_true rfl)⟩) (kp_V (ci := 1) (q := (RX1, TX1, 16)) (hK.sub [0, 1] rfl) hP hD (sb_seg [(wa, .inl (cJ, 1, .inr (.inl u.2.2)))] (CW cI cR ca qa u.1) (MW cI ma u.2.1)) rfl rfl) rfl rfl hl.1 rfl (lv_room (Nat.le_of_ble_eq_true rfl)) dL_law_920 ⟨(by show _ ≤ 601024; omega), (by show _ ≤ 7293034; omega)⟩) hP hD hS hA (sb_seg [(wa, .inl (cJ, 1, .inr (.inl u.2.2)))] (CW cI cR ca qa u.1) (MW cI ma u.2.1)) (jn_same (sb_seg [(wa, .inl (cJ, 1, .inr (.inl u.2.2)))] (CW cI cR ca qa u.1) (MW cI ma u.2.1))) (fun H locs hP hD hS => ?_)
                                    refine lv_aload_n hx hb dL_law_923 rfl (lv_at hl 2 rfl) ?_
                                    refine lv_aload_n hx hb dL_law_924 rfl (lv_at hl 0 rfl) ?_
                                    refine lv_iload hx hb dL_law_925 (lv_at hl 4 rfl) ?_
                                    refine lv_iconst (v := (1 : Int32)) hx hb dL_law_927 (by decide +kernel) ?_
                                    refine lv_iadd hx hb dL_law_928 ?_
                                    obtain ⟨h_234, hF⟩ := gd_some hF
                                    refine va_sld hx hb hX hbl hbA hS (inb_in h_234) dL_law_929 ?_
                                    refine lv_aload_n hx hb dL_law_930 rfl (lv_at hl 0 rfl) ?_
                                    refine lv_iload hx hb dL_law_931 (lv_at hl 4 rfl) ?_
                                    refine lv_iconst (v := (2 : Int32)) hx hb dL_law_933 (by decide +kernel) ?_
                                    refine lv_iadd hx hb dL_law_934 ?_
                                    obtain ⟨h_235, hF⟩ := gd_some hF
                                    refine va_sld hx hb hX hbl hbA hS (inb_in h_235) dL_law_935 ?_
                                    obtain ⟨r237, u236, hc_238, hF⟩ := bi_some hF
                                    refine kc_i (W1 := LW cI cR cJ ca qa ma wa (u.1, u236, u.2.2)) (va_runV (As := [.int (xs (x4 + (1 : Int32)).toNatClampNeg), .int (xs (x4 + (2 : Int32)).toNatClampNeg)]) (rest := [.int r232]) ⟨hx, hb, hml, hown, hts⟩ (c_M_count l D cI cR ma H.size (xs (x4 + (1 : Int32)).toNatClampNeg) (xs (x4 + (2 : Int32)).toNatClampNeg) u.2.1 r237 u236 hc_238) (cwV 2 hts (gV cwc mw_464 mw_465 mw_466 mw_3 mw_467) rfl rfl rfl (by decide +kernel) ⟨(Nat.le_of_ble_eq_true rfl), (Nat.le_of_ble_eq_true rfl)⟩) (kp_V (ci := 2) (q := (RX2, TX2, 18)) (hK.sub [0, 1] rfl) hP hD (sb_tail ([(wa, .inl (cJ, 1, .inr (.inl u.2.2)))] ++ (CW cI cR ca qa u.1)) (MW cI ma u.2.1)) rfl rfl) rfl rfl hl.1 rfl (lv_room (Nat.le_of_ble_eq_true rfl)) dL_law_936 ⟨(by show _ ≤ 601024; omega), (by show _ ≤ 7293034; omega)⟩) hP hD hS hA (sb_tail ([(wa, .inl (cJ, 1, .inr (.inl u.2.2)))] ++ (CW cI cR ca qa u.1)) (MW cI ma u.2.1)) (jn_tail ([(wa, .inl (cJ, 1, .inr (.inl u.2.2)))] ++ (CW cI cR ca qa u.1)) (MW cI ma u.2.1) (MW cI ma u236) rfl) (fun H locs hP hD hS => ?_)
                                    refine lv_icmp_eq (tgt := 969) hx hb dL_law_939 (by decide) (fun c_239 => ?_) (fun c_239 => ?_)
                                    · replace hF := (if_pos c_239).symm.trans hF
                                      refine lv_iinc (v := (x4 + (5 : Int32))) (lv' := [(4, .int (x4 + (5 : Int32))), (0, .ref b), (1, .ref (ca 0)), (2, .ref (ma 0)), (3, .ref wa)]) hx hb dL_law_969 hl (k := 4) rfl rfl (by decide) rfl (fun ls hl => ?_)
                                      refine lv_goto (tgt := 23) hx hb dL_law_972 (by decide) ?_
                                      exact ih (x4 + (5 : Int32)) (u.1, u236, u.2.2) hF _ _ (by omega) (by omega) H locs ls hP hD hS (lv_sub hl [1, 2, 3, 4, 0] rfl)
                                    · replace hF := (if_neg c_239).symm.trans hF
                                      refine lv_iconst (v := (0 : Int32)) hx hb dL_law_942 (by decide +kernel) ?_
                                      exact absurd (Option.some.inj hF) (by decide)
                                  · replace hF := (if_neg c_228).symm.trans hF
                                    by_cases c_240 : ((xs x4.toNatClampNeg) &&& (15 : Int32)) = (15 : Int32)
                                    · replace hF := (if_pos c_240).symm.trans hF
                                      refine lv_tableIn (off := 905) (tgt := 944) hx hb dL_law_39 (by rw [c_240]; decide +kernel) (by rw [c_240]; decide +kernel) (by rw [c_240]; rfl) (by decide) ?_
                                      refine lv_aload_n hx hb dL_law_944 rfl (lv_at hl 1 rfl) ?_
                                      refine lv_aload_n hx hb dL_law_945 rfl (lv_at hl 0 rfl) ?_
                                      refine lv_iload hx hb dL_law_946 (lv_at hl 4 rfl) ?_
                                      refine lv_iconst (v := (1 : Int32)) hx hb dL_law_948 (by decide +kernel) ?_
                                      refine lv_iadd hx hb dL_law_949 ?_
                                      obtain ⟨h_241, hF⟩ := gd_some hF
                                      refine va_sld hx hb hX hbl hbA hS (inb_in h_241) dL_law_950 ?_
                                      obtain ⟨r243, u242, hc_244, hF⟩ := bi_some hF
                                      refine kc_i (W1 := LW cI cR cJ ca qa ma wa u) (va_runV (As := [.int (xs (x4 + (1 : Int32)).toNatClampNeg)]) (rest := []) ⟨hx, hb, hml, hown, hts⟩ (c_P_sum l D cI cR ca qa H.size (xs (x4 + (1 : Int32)).toNatClampNeg) u.1 r243 u242 hc_244) (cwV 1 hts (gV cwc mw_111 mw_112 mw_113 mw_1 mw_114) rfl rfl rfl (by decide +kernel) ⟨(Nat.le_of_ble_eq_true rfl), (Nat.le_of_ble_eq_true rfl)⟩) (kp_V (ci := 1) (q := (RX1, TX1, 16)) (hK.sub [0, 1] rfl) hP hD (sb_seg [(wa, .inl (cJ, 1, .inr (.inl u.2.2)))] (CW cI cR ca qa u.1) (MW cI ma u.2.1)) rfl rfl) rfl rfl hl.1 rfl (lv_room (Nat.le_of_ble_eq_true rfl)) dL_law_951 ⟨(by show _ ≤ 601024; omega), (by show _ ≤ 7293034; omega)⟩) hP hD hS hA (sb_seg [(wa, .inl (cJ, 1, .inr (.inl u.2.2)))] (CW cI cR ca qa u.1) (MW cI ma u.2.1)) (jn_same (sb_seg [(wa, .inl (cJ, 1, .inr (.inl u.2.2)))] (CW cI cR ca qa u.1) (MW cI ma u.2.1))) (fun H locs hP hD hS => ?_)
                                      refine lv_aload_n hx hb dL_law_954 rfl (lv_at hl 2 rfl) ?_
                                      refine lv_aload_n hx hb dL_law_955 rfl (lv_at hl 0 rfl) ?_
                                      refine lv_iload hx hb dL_law_956 (lv_at hl 4 rfl) ?_
                                      refine lv_iconst (v := (1 : Int32)) hx hb dL_law_958 (by decide +kernel) ?_
                                      refine lv_iadd hx hb dL_law_959 ?_
                                      obtain ⟨h_245, hF⟩ := gd_some hF
                                      refine va_sld hx hb hX hbl hbA hS (inb_in h_245) dL_law_960 ?_
                                      obtain ⟨r247, u246, hc_248, hF⟩ := bi_some hF
                                      refine kc_i (W1 := LW cI cR cJ ca qa ma wa (u.1, u246, u.2.2)) (va_runV (As := [.int (xs (x4 + (1 : Int32)).toNatClampNeg)]) (rest := [.int r243]) ⟨hx, hb, hml, hown, hts⟩ (c_M_sum l D cI cR ma H.size (xs (x4 + (1 : Int32)).toNatClampNeg) u.2.1 r247 u246 hc_248) (cwV 1 hts (gV cwc mw_468 mw_469 mw_470 mw_3 mw_471) rfl rfl rfl (by decide +kernel) ⟨(Nat.le_of_ble_eq_true rfl), (Nat.le_of_ble_eq_true rfl)⟩) (kp_V (ci := 2) (q := (RX2, TX2, 18)) (hK.sub [0, 1] rfl) hP hD (sb_tail ([(wa, .inl (cJ, 1, .inr (.inl u.2.2)))] ++ (CW cI cR ca qa u.1)) (MW cI ma u.2.1)) rfl rfl) rfl rfl hl.1 rfl (lv_room (Nat.le_of_ble_eq_true rfl)) dL_law_961 ⟨(by show _ ≤ 601024; omega), (by show _ ≤ 7293034; omega)⟩) hP hD hS hA (sb_tail ([(wa, .inl (cJ, 1, .inr (.inl u.2.2)))] ++ (CW cI cR ca qa u.1)) (MW cI ma u.2.1)) (jn_tail ([(wa, .inl (cJ, 1, .inr (.inl u.2.2)))] ++ (CW cI cR ca qa u.1)) (MW cI ma u.2.1) (MW cI ma u246) rfl) (fun H locs hP hD hS => ?_)
                                      refine lv_icmp_eq (tgt := 969) hx hb dL_law_964 (by decide) (fun c_249 => ?_) (fun c_249 => ?_)
                                      · replace hF := (if_pos c_249).symm.trans hF
                                        refine lv_iinc (v := (x4 + (5 : Int32))) (lv' := [(4, .int (x4 + (5 : Int32))), (0, .ref b), (1, .ref (ca 0)), (2, .ref (ma 0)), (3, .ref wa)]) hx hb dL_law_969 hl (k := 4) rfl rfl (by decide) rfl (fun ls hl => ?_)
                                        refine lv_goto (tgt := 23) hx hb dL_law_972 (by decide) ?_
                                        exact ih (x4 + (5 : Int32)) (u.1, u246, u.2.2) hF _ _ (by omega) (by omega) H locs ls hP hD hS (lv_sub hl [1, 2, 3, 4, 0] rfl)
                                      · replace hF := (if_neg c_249).symm.trans hF
                                        refine lv_iconst (v := (0 : Int32)) hx hb dL_law_967 (by decide +kernel) ?_
                                        exact absurd (Option.some.inj hF) (by decide)
                                    · replace hF := (if_neg c_240).symm.trans hF
                                      refine lv_tableOut (tgt := 969) hx hb dL_law_39 (by have := i32nz c_3 (show (0 : Int32).toInt = 0 by decide +kernel); have := i32nz c_20 (show (1 : Int32).toInt = 1 by decide +kernel); have := i32nz c_37 (show (2 : Int32).toInt = 2 by decide +kernel); have := i32nz c_52 (show (3 : Int32).toInt = 3 by decide +kernel); have := i32nz c_69 (show (4 : Int32).toInt = 4 by decide +kernel); have := i32nz c_86 (show (5 : Int32).toInt = 5 by decide +kernel); have := i32nz c_102 (show (6 : Int32).toInt = 6 by decide +kernel); have := i32nz c_122 (show (7 : Int32).toInt = 7 by decide +kernel); have := i32nz c_142 (show (8 : Int32).toInt = 8 by decide +kernel); have := i32nz c_157 (show (9 : Int32).toInt = 9 by decide +kernel); have := i32nz c_174 (show (10 : Int32).toInt = 10 by decide +kernel); have := i32nz c_190 (show (11 : Int32).toInt = 11 by decide +kernel); have := i32nz c_200 (show (12 : Int32).toInt = 12 by decide +kernel); have := i32nz c_216 (show (13 : Int32).toInt = 13 by decide +kernel); have := i32nz c_228 (show (14 : Int32).toInt = 14 by decide +kernel); have := i32nz c_240 (show (15 : Int32).toInt = 15 by decide +kernel); omega) (by decide) ?_
                                      refine lv_iinc (v := (x4 + (5 : Int32))) (lv' := [(4, .int (x4 + (5 : Int32))), (0, .ref b), (1, .ref (ca 0)), (2, .ref (ma 0)), (3, .ref wa)]) hx hb dL_law_969 hl (k := 4) rfl rfl (by decide) rfl (fun ls hl => ?_)
                                      refine lv_goto (tgt := 23) hx hb dL_law_972 (by decide) ?_
                                      exact ih (x4 + (5 : Int32)) u hF _ _ (by omega) (by omega) H locs ls hP hD hS (lv_sub hl [1, 2, 3, 4, 0] rfl)
