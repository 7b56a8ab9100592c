def F_L_place (p1 : Int32) (p2 : Int32) (p3 : Int32) (u : CSt) : Option ((Int32) × CSt) := bi (F_P_place p1 p2 p3 u) (fun or2 u1 => ox or2 (fun e_4 => (if e_4 = 1 then some ((1 : Int32), u1) else some ((2 : Int32), u1))) (fun _ => some ((0 : Int32), u1)))
set_option maxHeartbeats 4000000 in
set_option maxRecDepth 100000 in
theorem c_L_place (l : Launch) (hl9 : l.stackTraces = false) (D : va_G) (cI cR : ClassId) (sa : Nat → Nat) (ca qa : Nat → Nat) (sz : Nat) (p1 : Int32) (p2 : Int32) (p3 : Int32) (u : CSt) (r : Int32) (u' : CSt) (hF : F_L_place p1 p2 p3 u = some (r, u')) : Met l yL_place wsL_place ({ frames := 8, cells := 3, slots := 18, locals := 126 }) (va_Pc [.ref (ca 0), .int p1, .int p2, .int p3] (PREX D (TY cI cR) (CW cI cR ca qa u) sz sa)) (QI D (TY cI cR) (va_A (CW cI cR ca qa u) sz) (fun v => CW cI cR ca qa v) r u') 3 18 (va_A (CW cI cR ca qa u) sz) := by
  refine va_MetW (cc := cL_place) (maxL := 5) (ret := (some .int)) (by decide) rfl ?_
  intro p e s m args below meth c s₁ B hml hv
  obtain ⟨rfl, ⟨hsz, hP, hK, hD0⟩, hXK⟩ := hv
  have hx := B.exec
  have hb := B.bytes
  have hr := B.returns
  have hts := atoms_spec (ws := wsL_place) B.pre
  have hown : s.vm.findClass RL = some m.cls := findClass_of_methodNamed B.named
  have hlocks := B.notSynchronized
  subst hsz
  have hD := hD0.self (sz := s.heap.size)
  generalize hAe : va_A (CW cI cR ca qa u) s.heap.size = A at hD hXK ⊢
  have hA : ∀ q : Nat, s.heap.size ≤ q → A q := fun q h => by rw [← hAe]; exact Or.inr h
  have hS : va_S A s.heap s.heap [] := va_S.rf
  replace hP : va_P D vwCl (CW cI cR ca qa u) s.heap := hP
  have hl := lv_entry ([.ref (ca 0), .int p1, .int p2, .int p3]) (n := 5) (Nat.le_of_ble_eq_true rfl)
  rw [lg_entry_eq]
  generalize (lg_sl ([.ref (ca 0), .int p1, .int p2, .int p3]) ++ List.replicate (5 - (lg_sl ([.ref (ca 0), .int p1, .int p2, .int p3])).length) Slot.unset).toArray = ls at hl ⊢
  replace hl : lv_has ls 5 [(0, .ref (ca 0)), (1, .int p1), (2, .int p2), (3, .int p3)] := hl
  obtain ⟨hXU, hXN, hXc1, hXc2, hXd1, hXd2, hXd3, hXn, -⟩ := id hXK
  have htab := vx_table (x := yL_place) B (hts (.codeWith yL_place cL_place 5 (some .int) [(0, 7, 10, 13), (0, 7, 14, 15)]) (List.mem_of_getElem? (i := 0) rfl))
  unfold F_L_place at hF
  refine (?_ : ∀ (H : Heap) (locs : List Loc), va_P D vwCl (CW cI cR ca qa u) H → va_S A s.heap H locs → W p l e _ s m _ below meth c H locs 0 0 _ (F0 m 0 ls [])) s.heap [] hP hS
  intro H locs hP hS
  refine lv_aload_n hx hb dL_place_0 rfl (lv_at hl 0 rfl) ?_
  refine lv_iload_n hx hb dL_place_1 rfl (lv_at hl 1 rfl) ?_
  refine lv_iload_n hx hb dL_place_2 rfl (lv_at hl 2 rfl) ?_
  refine lv_iload_n hx hb dL_place_3 rfl (lv_at hl 3 rfl) ?_
  obtain ⟨or2, u1, hc_3, hF⟩ := bi_some hF
  refine kx_v (W1 := CW cI cR ca qa u1) (vx_runV (As := [.int p1, .int p2, .int p3]) (rest := []) ⟨hx, hb, hml, hown, hts⟩ (c_P_place l hl9 D cI cR sa ca qa H.size p1 p2 p3 u or2 u1 hc_3) (cwV 3 hts (gV cwc mw_120 mw_121 mw_122 mw_1 mw_123) rfl rfl rfl (by decide +kernel) ⟨(Nat.le_of_ble_eq_true rfl), (Nat.le_of_ble_eq_true rfl)⟩) (kpX_V (ci := 1) (q := (RX1, TX1, 16)) hXK hK hP hD hS hA (sb_id _) rfl rfl) rfl rfl hl.1 rfl (lv_room (Nat.le_of_ble_eq_true rfl)) dL_place_4 ⟨(Nat.le_of_ble_eq_true rfl), (Nat.le_of_ble_eq_true rfl)⟩) hP hD hS hA (sb_id _) (jn_id (cw_ad _ _)) (fun e_4 ce q9 H locs ho_5 hP hD hS hce hcv hcl => ?_) (fun H locs ho_5 hP hD hS => ?_)
  · subst ho_5
    replace hF := ox_l hF
    by_cases c_6 : e_4 = 1
    · replace hF := (if_pos c_6).symm.trans hF
      rw [exN, if_pos c_6] at hcl
      refine vx_catch (own := RL) (name := "java/lang/IndexOutOfBoundsException") (E := "java/lang/IndexOutOfBoundsException") hown [] ⟨0, 7, 10, 13⟩ [⟨0, 7, 14, 15⟩] htab (fun z hz => nomatch hz) rfl (by decide) (hts _ (cwc _ mw_118)) (va_Nw.use rfl hXc1) hce hcv hcl ?_
      refine lv_astore (lv' := [(4, .ref q9), (0, .ref (ca 0)), (1, .int p1), (2, .int p2), (3, .int p3)]) hx hb dL_place_10 hl (by decide) rfl (fun ls hl => ?_)
      refine lv_iconst (v := (1 : Int32)) hx hb dL_place_12 (by decide +kernel) ?_
      cases hF
      refine W.widen (k := 3) (n := 18) (Nat.le_of_ble_eq_true rfl) (Nat.le_of_ble_eq_true rfl) ?_
      exact W.iret hx hb hr (fun t ht hW => ⟨⟨_, _, rfl, ⟨rfl, rfl⟩, by rw [ht]; exact hP, va_K.moved hW.alike hK, hD⟩, hS.F ht⟩) hS.2.2 dL_place_13
    · replace hF := (if_neg c_6).symm.trans hF
      rw [exN, if_neg c_6] at hcl
      refine vx_catch (own := RL) (name := "java/lang/IllegalArgumentException") (E := "java/lang/IllegalArgumentException") hown [⟨0, 7, 10, 13⟩] ⟨0, 7, 14, 15⟩ [] htab (fun z hz => by rw [List.mem_singleton.mp hz]; exact Or.inr ⟨by decide, _, (hts _ (cwc _ mw_118)), hXn⟩) rfl (by decide) (hts _ (cwc _ mw_119)) (va_Nw.use rfl hXc2) hce hcv hcl ?_
      refine lv_astore (lv' := [(4, .ref q9), (0, .ref (ca 0)), (1, .int p1), (2, .int p2), (3, .int p3)]) hx hb dL_place_14 hl (by decide) rfl (fun ls hl => ?_)
      refine lv_iconst (v := (2 : Int32)) hx hb dL_place_16 (by decide +kernel) ?_
      cases hF
      refine W.widen (k := 3) (n := 18) (Nat.le_of_ble_eq_true rfl) (Nat.le_of_ble_eq_true rfl) ?_
      exact W.iret hx hb hr (fun t ht hW => ⟨⟨_, _, rfl, ⟨rfl, rfl⟩, by rw [ht]; exact hP, va_K.moved hW.alike hK, hD⟩, hS.F ht⟩) hS.2.2 dL_place_17
  · subst ho_5
    replace hF := ox_r hF
    refine lv_goto (tgt := 18) hx hb dL_place_7 (by decide) ?_
    refine lv_iconst (v := (0 : Int32)) hx hb dL_place_18 (by decide +kernel) ?_
    cases hF
    refine W.widen (k := 3) (n := 18) (Nat.le_of_ble_eq_true rfl) (Nat.le_of_ble_eq_true rfl) ?_
    exact W.iret hx hb hr (fun t ht hW => ⟨⟨_, _, rfl, ⟨rfl, rfl⟩, by rw [ht]; exact hP, va_K.moved hW.alike hK, hD⟩, hS.F ht⟩) hS.2.2 dL_place_19
def F_L_rate (p1 : Int32) (p2 : Int32) (p3 : Int32) (u : CSt) : Option ((Int32) × CSt) := bi (F_P_rate p1 p2 p3 u) (fun or2 u1 => ox or2 (fun e_4 => (if e_4 = 1 then some ((1 : Int32), u1) else some ((2 : Int32), u1))) (fun _ => some ((0 : Int32), u1)))
set_option maxHeartbeats 4000000 in
set_option maxRecDepth 100000 in
theorem c_L_rate (l : Launch) (hl9 : l.stackTraces = false) (D : va_G) (cI cR : ClassId) (sa : Nat → Nat) (ca qa : Nat → Nat) (sz : Nat) (p1 : Int32) (p2 : Int32) (p3 : Int32) (u : CSt) (r : Int32) (u' : CSt) (hF : F_L_rate p1 p2 p3 u = some (r, u')) : Met l yL_rate wsL_rate ({ frames := 8, cells := 3, slots := 18, locals := 126 }) (va_Pc [.ref (ca 0), .int p1, .int p2, .int p3] (PREX D (TY cI cR) (CW cI cR ca qa u) sz sa)) (QI D (TY cI cR) (va_A (CW cI cR ca qa u) sz) (fun v => CW cI cR ca qa v) r u') 3 18 (va_A (CW cI cR ca qa u) sz) := by
  refine va_MetW (cc := cL_rate) (maxL := 5) (ret := (some .int)) (by decide) rfl ?_
  intro p e s m args below meth c s₁ B hml hv
  obtain ⟨rfl, ⟨hsz, hP, hK, hD0⟩, hXK⟩ := hv
  have hx := B.exec
  have hb := B.bytes
  have hr := B.returns
  have hts := atoms_spec (ws := wsL_rate) B.pre
  have hown : s.vm.findClass RL = some m.cls := findClass_of_methodNamed B.named
  have hlocks := B.notSynchronized
  subst hsz
  have hD := hD0.self (sz := s.heap.size)
  generalize hAe : va_A (CW cI cR ca qa u) s.heap.size = A at hD hXK ⊢
  have hA : ∀ q : Nat, s.heap.size ≤ q → A q := fun q h => by rw [← hAe]; exact Or.inr h
  have hS : va_S A s.heap s.heap [] := va_S.rf
  replace hP : va_P D vwCl (CW cI cR ca qa u) s.heap := hP
  have hl := lv_entry ([.ref (ca 0), .int p1, .int p2, .int p3]) (n := 5) (Nat.le_of_ble_eq_true rfl)
  rw [lg_entry_eq]
  generalize (lg_sl ([.ref (ca 0), .int p1, .int p2, .int p3]) ++ List.replicate (5 - (lg_sl ([.ref (ca 0), .int p1, .int p2, .int p3])).length) Slot.unset).toArray = ls at hl ⊢
  replace hl : lv_has ls 5 [(0, .ref (ca 0)), (1, .int p1), (2, .int p2), (3, .int p3)] := hl
  obtain ⟨hXU, hXN, hXc1, hXc2, hXd1, hXd2, hXd3, hXn, -⟩ := id hXK
  have htab := vx_table (x := yL_rate) B (hts (.codeWith yL_rate cL_rate 5 (some .int) [(0, 7, 10, 13), (0, 7, 14, 15)]) (List.mem_of_getElem? (i := 0) rfl))
  unfold F_L_rate at hF
  refine (?_ : ∀ (H : Heap) (locs : List Loc), va_P D vwCl (CW cI cR ca qa u) H → va_S A s.heap H locs → W p l e _ s m _ below meth c H locs 0 0 _ (F0 m 0 ls [])) s.heap [] hP hS
  intro H locs hP hS
  refine lv_aload_n hx hb dL_rate_0 rfl (lv_at hl 0 rfl) ?_
  refine lv_iload_n hx hb dL_rate_1 rfl (lv_at hl 1 rfl) ?_
  refine lv_iload_n hx hb dL_rate_2 rfl (lv_at hl 2 rfl) ?_
  refine lv_iload_n hx hb dL_rate_3 rfl (lv_at hl 3 rfl) ?_
  obtain ⟨or2, u1, hc_3, hF⟩ := bi_some hF
  refine kx_v (W1 := CW cI cR ca qa u1) (vx_runV (As := [.int p1, .int p2, .int p3]) (rest := []) ⟨hx, hb, hml, hown, hts⟩ (c_P_rate l hl9 D cI cR sa ca qa H.size p1 p2 p3 u or2 u1 hc_3) (cwV 3 hts (gV cwc mw_196 mw_197 mw_198 mw_1 mw_199) rfl rfl rfl (by decide +kernel) ⟨(Nat.le_of_ble_eq_true rfl), (Nat.le_of_ble_eq_true rfl)⟩) (kpX_V (ci := 1) (q := (RX1, TX1, 16)) hXK hK hP hD hS hA (sb_id _) rfl rfl) rfl rfl hl.1 rfl (lv_room (Nat.le_of_ble_eq_true rfl)) dL_rate_4 ⟨(Nat.le_of_ble_eq_true rfl), (Nat.le_of_ble_eq_true rfl)⟩) hP hD hS hA (sb_id _) (jn_id (cw_ad _ _)) (fun e_4 ce q9 H locs ho_5 hP hD hS hce hcv hcl => ?_) (fun H locs ho_5 hP hD hS => ?_)
  · subst ho_5
    replace hF := ox_l hF
    by_cases c_6 : e_4 = 1
    · replace hF := (if_pos c_6).symm.trans hF
      rw [exN, if_pos c_6] at hcl
      refine vx_catch (own := RL) (name := "java/lang/IndexOutOfBoundsException") (E := "java/lang/IndexOutOfBoundsException") hown [] ⟨0, 7, 10, 13⟩ [⟨0, 7, 14, 15⟩] htab (fun z hz => nomatch hz) rfl (by decide) (hts _ (cwc _ mw_118)) (va_Nw.use rfl hXc1) hce hcv hcl ?_
      refine lv_astore (lv' := [(4, .ref q9), (0, .ref (ca 0)), (1, .int p1), (2, .int p2), (3, .int p3)]) hx hb dL_rate_10 hl (by decide) rfl (fun ls hl => ?_)
      refine lv_iconst (v := (1 : Int32)) hx hb dL_rate_12 (by decide +kernel) ?_
      cases hF
      refine W.widen (k := 3) (n := 18) (Nat.le_of_ble_eq_true rfl) (Nat.le_of_ble_eq_true rfl) ?_
      exact W.iret hx hb hr (fun t ht hW => ⟨⟨_, _, rfl, ⟨rfl, rfl⟩, by rw [ht]; exact hP, va_K.moved hW.alike hK, hD⟩, hS.F ht⟩) hS.2.2 dL_rate_13
    · replace hF := (if_neg c_6).symm.trans hF
      rw [exN, if_neg c_6] at hcl
      refine vx_catch (own := RL) (name := "java/lang/IllegalArgumentException") (E := "java/lang/IllegalArgumentException") hown [⟨0, 7, 10, 13⟩] ⟨0, 7, 14, 15⟩ [] htab (fun z hz => by rw [List.mem_singleton.mp hz]; exact Or.inr ⟨by decide, _, (hts _ (cwc _ mw_118)), hXn⟩) rfl (by decide) (hts _ (cwc _ mw_119)) (va_Nw.use rfl hXc2) hce hcv hcl ?_
      refine lv_astore (lv' := [(4, .ref q9), (0, .ref (ca 0)), (1, .int p1), (2, .int p2), (3, .int p3)]) hx hb dL_rate_14 hl (by decide) rfl (fun ls hl => ?_)
      refine lv_iconst (v := (2 : Int32)) hx hb dL_rate_16 (by decide +kernel) ?_
      cases hF
      refine W.widen (k := 3) (n := 18) (Nat.le_of_ble_eq_true rfl) (Nat.le_of_ble_eq_true rfl) ?_
      exact W.iret hx hb hr (fun t ht hW => ⟨⟨_, _, rfl, ⟨rfl, rfl⟩, by rw [ht]; exact hP, va_K.moved hW.alike hK, hD⟩, hS.F ht⟩) hS.2.2 dL_rate_17
  · subst ho_5
    replace hF := ox_r hF
    refine lv_goto (tgt := 18) hx hb dL_rate_7 (by decide) ?_
    refine lv_iconst (v := (0 : Int32)) hx hb dL_rate_18 (by decide +kernel) ?_
    cases hF
    refine W.widen (k := 3) (n := 18) (Nat.le_of_ble_eq_true rfl) (Nat.le_of_ble_eq_true rfl) ?_
    exact W.iret hx hb hr (fun t ht hW => ⟨⟨_, _, rfl, ⟨rfl, rfl⟩, by rw [ht]; exact hP, va_K.moved hW.alike hK, hD⟩, hS.F ht⟩) hS.2.2 dL_rate_19
def F_L_accept (p1 : Int32) (p2 : Int32) (u : CSt) : Option ((Int32) × CSt) := bi (F_P_accept p1 p2 u) (fun or2 u1 => ox or2 (fun e_4 => (if e_4 = 1 then some ((1 : Int32), u1) else some ((2 : Int32), u1))) (fun _ => some ((0 : Int32), u1)))
set_option maxHeartbeats 4000000 in
set_option maxRecDepth 100000 in
theorem c_L_accept (l : Launch) (hl9 : l.stackTraces = false) (D : va_G) (cI cR : ClassId) (sa : Nat → Nat) (ca qa : Nat → Nat) (sz : Nat) (p1 : Int32) (p2 : Int32) (u : CSt) (r : Int32) (u' : CSt) (hF : F_L_accept p1 p2 u = some (r, u')) : Met l yL_accept wsL_accept ({ frames := 8, cells := 2, slots := 12, locals := 125 }) (va_Pc [.ref (ca 0), .int p1, .int p2] (PREX D (TY cI cR) (CW cI cR ca qa u) sz sa)) (QI D (TY cI cR) (va_A (CW cI cR ca qa u) sz) (fun v => CW cI cR ca qa v) r u') 2 12 (va_A (CW cI cR ca qa u) sz) := by
  refine va_MetW (cc := cL_accept) (maxL := 4) (ret := (some .int)) (by decide) rfl ?_
  intro p e s m args below meth c s₁ B hml hv
  obtain ⟨rfl, ⟨hsz, hP, hK, hD0⟩, hXK⟩ := hv
  have hx := B.exec
  have hb := B.bytes
  have hr := B.returns
  have hts := atoms_spec (ws := wsL_accept) B.pre
  have hown : s.vm.findClass RL = some m.cls := findClass_of_methodNamed B.named
  have hlocks := B.notSynchronized
  subst hsz
  have hD := hD0.self (sz := s.heap.size)
  generalize hAe : va_A (CW cI cR ca qa u) s.heap.size = A at hD hXK ⊢
  have hA : ∀ q : Nat, s.heap.size ≤ q → A q := fun q h => by rw [← hAe]; exact Or.inr h
  have hS : va_S A s.heap s.heap [] := va_S.rf
  replace hP : va_P D vwCl (CW cI cR ca qa u) s.heap := hP
  have hl := lv_entry ([.ref (ca 0), .int p1, .int p2]) (n := 4) (Nat.le_of_ble_eq_true rfl)
  rw [lg_entry_eq]
  generalize (lg_sl ([.ref (ca 0), .int p1, .int p2]) ++ List.replicate (4 - (lg_sl ([.ref (ca 0), .int p1, .int p2])).length) Slot.unset).toArray = ls at hl ⊢
  replace hl : lv_has ls 4 [(0, .ref (ca 0)), (1, .int p1), (2, .int p2)] := hl
  obtain ⟨hXU, hXN, hXc1, hXc2, hXd1, hXd2, hXd3, hXn, -⟩ := id hXK
  have htab := vx_table (x := yL_accept) B (hts (.codeWith yL_accept cL_accept 4 (some .int) [(0, 6, 9, 13), (0, 6, 12, 15)]) (List.mem_of_getElem? (i := 0) rfl))
  unfold F_L_accept at hF
  refine (?_ : ∀ (H : Heap) (locs : List Loc), va_P D vwCl (CW cI cR ca qa u) H → va_S A s.heap H locs → W p l e _ s m _ below meth c H locs 0 0 _ (F0 m 0 ls [])) s.heap [] hP hS
  intro H locs hP hS
  refine lv_aload_n hx hb dL_accept_0 rfl (lv_at hl 0 rfl) ?_
  refine lv_iload_n hx hb dL_accept_1 rfl (lv_at hl 1 rfl) ?_
  refine lv_iload_n hx hb dL_accept_2 rfl (lv_at hl 2 rfl) ?_
  obtain ⟨or2, u1, hc_3, hF⟩ := bi_some hF
  refine kx_v (W1 := CW cI cR ca qa u1) (vx_runV (As := [.int p1, .int p2]) (rest := []) ⟨hx, hb, hml, hown, hts⟩ (c_P_accept l hl9 D cI cR sa ca qa H.size p1 p2 u or2 u1 hc_3) (cwV 2 hts (gV cwc mw_206 mw_207 mw_208 mw_1 mw_209) rfl rfl rfl (by decide +kernel) ⟨(Nat.le_of_ble_eq_true rfl), (Nat.le_of_ble_eq_true rfl)⟩) (kpX_V (ci := 1) (q := (RX1, TX1, 16)) hXK hK hP hD hS hA (sb_id _) rfl rfl) rfl rfl hl.1 rfl (lv_room (Nat.le_of_ble_eq_true rfl)) dL_accept_3 ⟨(Nat.le_of_ble_eq_true rfl), (Nat.le_of_ble_eq_true rfl)⟩) hP hD hS hA (sb_id _) (jn_id (cw_ad _ _)) (fun e_4 ce q9 H locs ho_5 hP hD hS hce hcv hcl => ?_) (fun H locs ho_5 hP hD hS => ?_)
  · subst ho_5
    replace hF := ox_l hF
    by_cases c_6 : e_4 = 1
    · replace hF := (if_pos c_6).symm.trans hF
      rw [exN, if_pos c_6] at hcl
      refine vx_catch (own := RL) (name := "java/lang/IndexOutOfBoundsException") (E := "java/lang/IndexOutOfBoundsException") hown [] ⟨0, 6, 9, 13⟩ [⟨0, 6, 12, 15⟩] htab (fun z hz => nomatch hz) rfl (by decide) (hts _ (cwc _ mw_118)) (va_Nw.use rfl hXc1) hce hcv hcl ?_
      refine lv_astore_n (lv' := [(3, .ref q9), (0, .ref (ca 0)), (1, .int p1), (2, .int p2)]) hx hb dL_accept_9 rfl hl (by decide) rfl (fun ls hl => ?_)
      refine lv_iconst (v := (1 : Int32)) hx hb dL_accept_10 (by decide +kernel) ?_
      cases hF
      refine W.widen (k := 2) (n := 12) (Nat.le_of_ble_eq_true rfl) (Nat.le_of_ble_eq_true rfl) ?_
      exact W.iret hx hb hr (fun t ht hW => ⟨⟨_, _, rfl, ⟨rfl, rfl⟩, by rw [ht]; exact hP, va_K.moved hW.alike hK, hD⟩, hS.F ht⟩) hS.2.2 dL_accept_11
    · replace hF := (if_neg c_6).symm.trans hF
      rw [exN, if_neg c_6] at hcl
      refine vx_catch (own := RL) (name := "java/lang/IllegalArgumentException") (E := "java/lang/IllegalArgumentException") hown [⟨0, 6, 9, 13⟩] ⟨0, 6, 12, 15⟩ [] htab (fun z hz => by rw [List.mem_singleton.mp hz]; exact Or.inr ⟨by decide, _, (hts _ (cwc _ mw_118)), hXn⟩) rfl (by decide) (hts _ (cwc _ mw_119)) (va_Nw.use rfl hXc2) hce hcv hcl ?_
      refine lv_astore_n (lv' := [(3, .ref q9), (0, .ref (ca 0)), (1, .int p1), (2, .int p2)]) hx hb dL_accept_12 rfl hl (by decide) rfl (fun ls hl => ?_)
      refine lv_iconst (v := (2 : Int32)) hx hb dL_accept_13 (by decide +kernel) ?_
      cases hF
      refine W.widen (k := 2) (n := 12) (Nat.le_of_ble_eq_true rfl) (Nat.le_of_ble_eq_true rfl) ?_
      exact W.iret hx hb hr (fun t ht hW => ⟨⟨_, _, rfl, ⟨rfl, rfl⟩, by rw [ht]; exact hP, va_K.moved hW.alike hK, hD⟩, hS.F ht⟩) hS.2.2 dL_accept_14
  · subst ho_5
    replace hF := ox_r hF
    refine lv_goto (tgt := 15) hx hb dL_accept_6 (by decide) ?_
    refine lv_iconst (v := (0 : Int32)) hx hb dL_accept_15 (by decide +kernel) ?_
    cases hF
    refine W.widen (k := 2) (n := 12) (Nat.le_of_ble_eq_true rfl) (Nat.le_of_ble_eq_true rfl) ?_
    exact W.iret hx hb hr (fun t ht hW => ⟨⟨_, _, rfl, ⟨rfl, rfl⟩, by rw [ht]; exact hP, va_K.moved hW.alike hK, hD⟩, hS.F ht⟩) hS.2.2 dL_accept_16
def F_L_make (p1 : Int32) (p2 : Int32) (p3 : Int32) (u : CSt) : Option ((Int32) × CSt) := bi (F_P_make p1 p2 p3 u) (fun or2 u1 => ox or2 (fun e_4 => (if e_4 = 1 then some ((1 : Int32), u1) else some ((2 : Int32), u1))) (fun _ => some ((0 : Int32), u1)))
set_option maxHeartbeats 4000000 in
set_option maxRecDepth 100000 in
theorem c_L_make (l : Launch) (hl9 : l.stackTraces = false) (D : va_G) (cI cR : ClassId) (sa : Nat → Nat) (ca qa : Nat → Nat) (sz : Nat) (p1 : Int32) (p2 : Int32) (p3 : Int32) (u : CSt) (r : Int32) (u' : CSt) (hF : F_L_make p1 p2 p3 u = some (r, u')) : Met l yL_make wsL_make ({ frames := 8, cells := 3, slots := 18, locals := 125 }) (va_Pc [.ref (ca 0), .int p1, .int p2, .int p3] (PREX D (TY cI cR) (CW cI cR ca qa u) sz sa)) (QI D (TY cI cR) (va_A (CW cI cR ca qa u) sz) (fun v => CW cI cR ca qa v) r u') 3 18 (va_A (CW cI cR ca qa u) sz) := by
  refine va_MetW (cc := cL_make) (maxL := 5) (ret := (some .int)) (by decide) rfl ?_
  intro p e s m args below meth c s₁ B hml hv
  obtain ⟨rfl, ⟨hsz, hP, hK, hD0⟩, hXK⟩ := hv
  have hx := B.exec
  have hb := B.bytes
  have hr := B.returns
  have hts := atoms_spec (ws := wsL_make) B.pre
  have hown : s.vm.findClass RL = some m.cls := findClass_of_methodNamed B.named
  have hlocks := B.notSynchronized
  subst hsz
  have hD := hD0.self (sz := s.heap.size)
  generalize hAe : va_A (CW cI cR ca qa u) s.heap.size = A at hD hXK ⊢
  have hA : ∀ q : Nat, s.heap.size ≤ q → A q := fun q h => by rw [← hAe]; exact Or.inr h
  have hS : va_S A s.heap s.heap [] := va_S.rf
  replace hP : va_P D vwCl (CW cI cR ca qa u) s.heap := hP
  have hl := lv_entry ([.ref (ca 0), .int p1, .int p2, .int p3]) (n := 5) (Nat.le_of_ble_eq_true rfl)
  rw [lg_entry_eq]
  generalize (lg_sl ([.ref (ca 0), .int p1, .int p2, .int p3]) ++ List.replicate (5 - (lg_sl ([.ref (ca 0), .int p1, .int p2, .int p3])).length) Slot.unset).toArray = ls at hl ⊢
  replace hl : lv_has ls 5 [(0, .ref (ca 0)), (1, .int p1), (2, .int p2), (3, .int p3)] := hl
  obtain ⟨hXU, hXN, hXc1, hXc2, hXd1, hXd2, hXd3, hXn, -⟩ := id hXK
  have htab := vx_table (x := yL_make) B (hts (.codeWith yL_make cL_make 5 (some .int) [(0, 7, 10, 13), (0, 7, 14, 15)]) (List.mem_of_getElem? (i := 0) rfl))
  unfold F_L_make at hF
  refine (?_ : ∀ (H : Heap) (locs : List Loc), va_P D vwCl (CW cI cR ca qa u) H → va_S A s.heap H locs → W p l e _ s m _ below meth c H locs 0 0 _ (F0 m 0 ls [])) s.heap [] hP hS
  intro H locs hP hS
  refine lv_aload_n hx hb dL_make_0 rfl (lv_at hl 0 rfl) ?_
  refine lv_iload_n hx hb dL_make_1 rfl (lv_at hl 1 rfl) ?_
  refine lv_iload_n hx hb dL_make_2 rfl (lv_at hl 2 rfl) ?_
  refine lv_iload_n hx hb dL_make_3 rfl (lv_at hl 3 rfl) ?_
  obtain ⟨or2, u1, hc_3, hF⟩ := bi_some hF
  refine kx_v (W1 := CW cI cR ca qa u1) (vx_runV (As := [.int p1, .int p2, .int p3]) (rest := []) ⟨hx, hb, hml, hown, hts⟩ (c_P_make l hl9 D cI cR sa ca qa H.size p1 p2 p3 u or2 u1 hc_3) (cwV 3 hts (gV cwc mw_213 mw_214 mw_215 mw_1 mw_216) rfl rfl rfl (by decide +kernel) ⟨(Nat.le_of_ble_eq_true rfl), (Nat.le_of_ble_eq_true rfl)⟩) (kpX_V (ci := 1) (q := (RX1, TX1, 16)) hXK hK hP hD hS hA (sb_id _) rfl rfl) rfl rfl hl.1 rfl (lv_room (Nat.le_of_ble_eq_true rfl)) dL_make_4 ⟨(Nat.le_of_ble_eq_true rfl), (Nat.le_of_ble_eq_true rfl)⟩) hP hD hS hA (sb_id _) (jn_id (cw_ad _ _)) (fun e_4 ce q9 H locs ho_5 hP hD hS hce hcv hcl => ?_) (fun H locs ho_5 hP hD hS => ?_)
  · subst ho_5
    replace hF := ox_l hF
    by_cases c_6 : e_4 = 1
    · replace hF := (if_pos c_6).symm.trans hF
      rw [exN, if_pos c_6] at hcl
      refine vx_catch (own := RL) (name := "java/lang/IndexOutOfBoundsException") (E := "java/lang/IndexOutOfBoundsException") hown [] ⟨0, 7, 10, 13⟩ [⟨0, 7, 14, 15⟩] htab (fun z hz => nomatch hz) rfl (by decide) (hts _ (cwc _ mw_118)) (va_Nw.use rfl hXc1) hce hcv hcl ?_
      refine lv_astore (lv' := [(4, .ref q9), (0, .ref (ca 0)), (1, .int p1), (2, .int p2), (3, .int p3)]) hx hb dL_make_10 hl (by decide) rfl (fun ls hl => ?_)
      refine lv_iconst (v := (1 : Int32)) hx hb dL_make_12 (by decide +kernel) ?_
      cases hF
      refine W.widen (k := 3) (n := 18) (Nat.le_of_ble_eq_true rfl) (Nat.le_of_ble_eq_true rfl) ?_
      exact W.iret hx hb hr (fun t ht hW => ⟨⟨_, _, rfl, ⟨rfl, rfl⟩, by rw [ht]; exact hP, va_K.moved hW.alike hK, hD⟩, hS.F ht⟩) hS.2.2 dL_make_13
    · replace hF := (if_neg c_6).symm.trans hF
      rw [exN, if_neg c_6] at hcl
      refine vx_catch (own := RL) (name := "java/lang/IllegalArgumentException") (E := "java/lang/IllegalArgumentException") hown [⟨0, 7, 10, 13⟩] ⟨0, 7, 14, 15⟩ [] htab (fun z hz => by rw [List.mem_singleton.mp hz]; exact Or.inr ⟨by decide, _, (hts _ (cwc _ mw_118)), hXn⟩) rfl (by decide) (hts _ (cwc _ mw_119)) (va_Nw.use rfl hXc2) hce hcv hcl ?_
      refine lv_astore (lv' := [(4, .ref q9), (0, .ref (ca 0)), (1, .int p1), (2, .int p2), (3, .int p3)]) hx hb dL_make_14 hl (by decide) rfl (fun ls hl => ?_)
      refine lv_iconst (v := (2 : Int32)) hx hb dL_make_16 (by decide +kernel) ?_
      cases hF
      refine W.widen (k := 3) (n := 18) (Nat.le_of_ble_eq_true rfl) (Nat.le_of_ble_eq_true rfl) ?_
      exact W.iret hx hb hr (fun t ht hW => ⟨⟨_, _, rfl, ⟨rfl, rfl⟩, by rw [ht]; exact hP, va_K.moved hW.alike hK, hD⟩, hS.F ht⟩) hS.2.2 dL_make_17
  · subst ho_5
    replace hF := ox_r hF
    refine lv_goto (tgt := 18) hx hb dL_make_7 (by decide) ?_
    refine lv_iconst (v := (0 : Int32)) hx hb dL_make_18 (by decide +kernel) ?_
    cases hF
    refine W.widen (k := 3) (n := 18) (Nat.le_of_ble_eq_true rfl) (Nat.le_of_ble_eq_true rfl) ?_
    exact W.iret hx hb hr (fun t ht hW => ⟨⟨_, _, rfl, ⟨rfl, rfl⟩, by rw [ht]; exact hP, va_K.moved hW.alike hK, hD⟩, hS.F ht⟩) hS.2.2 dL_make_19
def F_L_wagon (p1 : Int32) (p2 : Int32) (p3 : Int32) (u : CSt) : Option ((Int32) × CSt) := bi (F_P_wagon p1 p2 p3 u) (fun or2 u1 => ox or2 (fun e_4 => (if e_4 = 1 then some ((1 : Int32), u1) else some ((2 : Int32), u1))) (fun _ => some ((0 : Int32), u1)))
set_option maxHeartbeats 4000000 in
set_option maxRecDepth 100000 in
theorem c_L_wagon (l : Launch) (hl9 : l.stackTraces = false) (D : va_G) (cI cR : ClassId) (sa : Nat → Nat) (ca qa : Nat → Nat) (sz : Nat) (p1 : Int32) (p2 : Int32) (p3 : Int32) (u : CSt) (r : Int32) (u' : CSt) (hF : F_L_wagon p1 p2 p3 u = some (r, u')) : Met l yL_wagon wsL_wagon ({ frames := 8, cells := 4, slots := 24, locals := 127 }) (va_Pc [.ref (ca 0), .int p1, .int p2, .int p3] (PREX D (TY cI cR) (CW cI cR ca qa u) sz sa)) (QI D (TY cI cR) (va_A (CW cI cR ca qa u) sz) (fun v => CW cI cR ca qa v) r u') 4 24 (va_A (CW cI cR ca qa u) sz) := by
  refine va_MetW (cc := cL_wagon) (maxL := 5) (ret := (some .int)) (by decide) rfl ?_
  intro p e s m args below meth c s₁ B hml hv
  obtain ⟨rfl, ⟨hsz, hP, hK, hD0⟩, hXK⟩ := hv
  have hx := B.exec
  have hb := B.bytes
  have hr := B.returns
  have hts := atoms_spec (ws := wsL_wagon) B.pre
  have hown : s.vm.findClass RL = some m.cls := findClass_of_methodNamed B.named
  have hlocks := B.notSynchronized
  subst hsz
  have hD := hD0.self (sz := s.heap.size)
  generalize hAe : va_A (CW cI cR ca qa u) s.heap.size = A at hD hXK ⊢
  have hA : ∀ q : Nat, s.heap.size ≤ q → A q := fun q h => by rw [← hAe]; exact Or.inr h
  have hS : va_S A s.heap s.heap [] := va_S.rf
  replace hP : va_P D vwCl (CW cI cR ca qa u) s.heap := hP
  have hl := lv_entry ([.ref (ca 0), .int p1, .int p2, .int p3]) (n := 5) (Nat.le_of_ble_eq_true rfl)
  rw [lg_entry_eq]
  generalize (lg_sl ([.ref (ca 0), .int p1, .int p2, .int p3]) ++ List.replicate (5 - (lg_sl ([.ref (ca 0), .int p1, .int p2, .int p3])).length) Slot.unset).toArray = ls at hl ⊢
  replace hl : lv_has ls 5 [(0, .ref (ca 0)), (1, .int p1), (2, .int p2), (3, .int p3)] := hl
  obtain ⟨hXU, hXN, hXc1, hXc2, hXd1, hXd2, hXd3, hXn, -⟩ := id hXK
  have htab := vx_table (x := yL_wagon) B (hts (.codeWith yL_wagon cL_wagon 5 (some .int) [(0, 7, 10, 13), (0, 7, 14, 15)]) (List.mem_of_getElem? (i := 0) rfl))
  unfold F_L_wagon at hF
  refine (?_ : ∀ (H : Heap) (locs : List Loc), va_P D vwCl (CW cI cR ca qa u) H → va_S A s.heap H locs → W p l e _ s m _ below meth c H locs 0 0 _ (F0 m 0 ls [])) s.heap [] hP hS
  intro H locs hP hS
  refine lv_aload_n hx hb dL_wagon_0 rfl (lv_at hl 0 rfl) ?_
  refine lv_iload_n hx hb dL_wagon_1 rfl (lv_at hl 1 rfl) ?_
  refine lv_iload_n hx hb dL_wagon_2 rfl (lv_at hl 2 rfl) ?_
  refine lv_iload_n hx hb dL_wagon_3 rfl (lv_at hl 3 rfl) ?_
  obtain ⟨or2, u1, hc_3, hF⟩ := bi_some hF
  refine kx_v (W1 := CW cI cR ca qa u1) (vx_runV (As := [.int p1, .int p2, .int p3]) (rest := []) ⟨hx, hb, hml, hown, hts⟩ (c_P_wagon l hl9 D cI cR sa ca qa H.size p1 p2 p3 u or2 u1 hc_3) (cwV 3 hts (gV cwc mw_220 mw_221 mw_222 mw_1 mw_223) rfl rfl rfl (by decide +kernel) ⟨(Nat.le_of_ble_eq_true rfl), (Nat.le_of_ble_eq_true rfl)⟩) (kpX_V (ci := 1) (q := (RX1, TX1, 16)) hXK hK hP hD hS hA (sb_id _) rfl rfl) rfl rfl hl.1 rfl (lv_room (Nat.le_of_ble_eq_true rfl)) dL_wagon_4 ⟨(Nat.le_of_ble_eq_true rfl), (Nat.le_of_ble_eq_true rfl)⟩) hP hD hS hA (sb_id _) (jn_id (cw_ad _ _)) (fun e_4 ce q9 H locs ho_5 hP hD hS hce hcv hcl => ?_) (fun H locs ho_5 hP hD hS => ?_)
  · subst ho_5
    replace hF := ox_l hF
    by_cases c_6 : e_4 = 1
    · replace hF := (if_pos c_6).symm.trans hF
      rw [exN, if_pos c_6] at hcl
      refine vx_catch (own := RL) (name := "java/lang/IndexOutOfBoundsException") (E := "java/lang/IndexOutOfBoundsException") hown [] ⟨0, 7, 10, 13⟩ [⟨0, 7, 14, 15⟩] htab (fun z hz => nomatch hz) rfl (by decide) (hts _ (cwc _ mw_118)) (va_Nw.use rfl hXc1) hce hcv hcl ?_
      refine lv_astore (lv' := [(4, .ref q9), (0, .ref (ca 0)), (1, .int p1), (2, .int p2), (3, .int p3)]) hx hb dL_wagon_10 hl (by decide) rfl (fun ls hl => ?_)
      refine lv_iconst (v := (1 : Int32)) hx hb dL_wagon_12 (by decide +kernel) ?_
      cases hF
      refine W.widen (k := 4) (n := 24) (Nat.le_of_ble_eq_true rfl) (Nat.le_of_ble_eq_true rfl) ?_
      exact W.iret hx hb hr (fun t ht hW => ⟨⟨_, _, rfl, ⟨rfl, rfl⟩, by rw [ht]; exact hP, va_K.moved hW.alike hK, hD⟩, hS.F ht⟩) hS.2.2 dL_wagon_13
    · replace hF := (if_neg c_6).symm.trans hF
      rw [exN, if_neg c_6] at hcl
      refine vx_catch (own := RL) (name := "java/lang/IllegalArgumentException") (E := "java/lang/IllegalArgumentException") hown [⟨0, 7, 10, 13⟩] ⟨0, 7, 14, 15⟩ [] htab (fun z hz => by rw [List.mem_singleton.mp hz]; exact Or.inr ⟨by decide, _, (hts _ (cwc _ mw_118)), hXn⟩) rfl (by decide) (hts _ (cwc _ mw_119)) (va_Nw.use rfl hXc2) hce hcv hcl ?_
      refine lv_astore (lv' := [(4, .ref q9), (0, .ref (ca 0)), (1, .int p1), (2, .int p2), (3, .int p3)]) hx hb dL_wagon_14 hl (by decide) rfl (fun ls hl => ?_)
      refine lv_iconst (v := (2 : Int32)) hx hb dL_wagon_16 (by decide +kernel) ?_
      cases hF
      refine W.widen (k := 4) (n := 24) (Nat.le_of_ble_eq_true rfl) (Nat.le_of_ble_eq_true rfl) ?_
      exact W.iret hx hb hr (fun t ht hW => ⟨⟨_, _, rfl, ⟨rfl, rfl⟩, by rw [ht]; exact hP, va_K.moved hW.alike hK, hD⟩, hS.F ht⟩) hS.2.2 dL_wagon_17
  · subst ho_5
    replace hF := ox_r hF
    refine lv_goto (tgt := 18) hx hb dL_wagon_7 (by decide) ?_
    refine lv_iconst (v := (0 : Int32)) hx hb dL_wagon_18 (by decide +kernel) ?_
    cases hF
    refine W.widen (k := 4) (n := 24) (Nat.le_of_ble_eq_true rfl) (Nat.le_of_ble_eq_true rfl) ?_
    exact W.iret hx hb hr (fun t ht hW => ⟨⟨_, _, rfl, ⟨rfl, rfl⟩, by rw [ht]; exact hP, va_K.moved hW.alike hK, hD⟩, hS.F ht⟩) hS.2.2 dL_wagon_19
def F_L_pour (p1 : Int32) (p2 : Int32) (u : CSt) : Option ((Int32) × CSt) := bi (F_P_pour p1 p2 u) (fun or2 u1 => ox or2 (fun e_4 => (if e_4 = 1 then some ((1 : Int32), u1) else some ((2 : Int32), u1))) (fun _ => some ((0 : Int32), u1)))
set_option maxHeartbeats 4000000 in
set_option maxRecDepth 100000 in
theorem c_L_pour (l : Launch) (hl9 : l.stackTraces = false) (D : va_G) (cI cR : ClassId) (sa : Nat → Nat) (ca qa : Nat → Nat) (sz : Nat) (p1 : Int32) (p2 : Int32) (u : CSt) (r : Int32) (u' : CSt) (hF : F_L_pour p1 p2 u = some (r, u')) : Met l yL_pour wsL_pour ({ frames := 8, cells := 4, slots := 24, locals := 127 }) (va_Pc [.ref (ca 0), .int p1, .int p2] (PREX D (TY cI cR) (CW cI cR ca qa u) sz sa)) (QI D (TY cI cR) (va_A (CW cI cR ca qa u) sz) (fun v => CW cI cR ca qa v) r u') 4 24 (va_A (CW cI cR ca qa u) sz) := by
  refine va_MetW (cc := cL_pour) (maxL := 4) (ret := (some .int)) (by decide) rfl ?_
  intro p e s m args below meth c s₁ B hml hv
  obtain ⟨rfl, ⟨hsz, hP, hK, hD0⟩, hXK⟩ := hv
  have hx := B.exec
  have hb := B.bytes
  have hr := B.returns
  have hts := atoms_spec (ws := wsL_pour) B.pre
  have hown : s.vm.findClass RL = some m.cls := findClass_of_methodNamed B.named
  have hlocks := B.notSynchronized
  subst hsz
  have hD := hD0.self (sz := s.heap.size)
  generalize hAe : va_A (CW cI cR ca qa u) s.heap.size = A at hD hXK ⊢
  have hA : ∀ q : Nat, s.heap.size ≤ q → A q := fun q h => by rw [← hAe]; exact Or.inr h
  have hS : va_S A s.heap s.heap [] := va_S.rf
  replace hP : va_P D vwCl (CW cI cR ca qa u) s.heap := hP
  have hl := lv_entry ([.ref (ca 0), .int p1, .int p2]) (n := 4) (Nat.le_of_ble_eq_true rfl)
  rw [lg_entry_eq]
  generalize (lg_sl ([.ref (ca 0), .int p1, .int p2]) ++ List.replicate (4 - (lg_sl ([.ref (ca 0), .int p1, .int p2])).length) Slot.unset).toArray = ls at hl ⊢
  replace hl : lv_has ls 4 [(0, .ref (ca 0)), (1, .int p1), (2, .int p2)] := hl
  obtain ⟨hXU, hXN, hXc1, hXc2, hXd1, hXd2, hXd3, hXn, -⟩ := id hXK
  have htab := vx_table (x := yL_pour) B (hts (.codeWith yL_pour cL_pour 4 (some .int) [(0, 6, 9, 13), (0, 6, 12, 15)]) (List.mem_of_getElem? (i := 0) rfl))
  unfold F_L_pour at hF
  refine (?_ : ∀ (H : Heap) (locs : List Loc), va_P D vwCl (CW cI cR ca qa u) H → va_S A s.heap H locs → W p l e _ s m _ below meth c H locs 0 0 _ (F0 m 0 ls [])) s.heap [] hP hS
  intro H locs hP hS
  refine lv_aload_n hx hb dL_pour_0 rfl (lv_at hl 0 rfl) ?_
  refine lv_iload_n hx hb dL_pour_1 rfl (lv_at hl 1 rfl) ?_
  refine lv_iload_n hx hb dL_pour_2 rfl (lv_at hl 2 rfl) ?_
  obtain ⟨or2, u1, hc_3, hF⟩ := bi_some hF
  refine kx_v (W1 := CW cI cR ca qa u1) (vx_runV (As := [.int p1, .int p2]) (rest := []) ⟨hx, hb, hml, hown, hts⟩ (c_P_pour l hl9 D cI cR sa ca qa H.size p1 p2 u or2 u1 hc_3) (cwV 2 hts (gV cwc mw_299 mw_300 mw_301 mw_1 mw_302) rfl rfl rfl (by decide +kernel) ⟨(Nat.le_of_ble_eq_true rfl), (Nat.le_of_ble_eq_true rfl)⟩) (kpX_V (ci := 1) (q := (RX1, TX1, 16)) hXK hK hP hD hS hA (sb_id _) rfl rfl) rfl rfl hl.1 rfl (lv_room (Nat.le_of_ble_eq_true rfl)) dL_pour_3 ⟨(Nat.le_of_ble_eq_true rfl), (Nat.le_of_ble_eq_true rfl)⟩) hP hD hS hA (sb_id _) (jn_id (cw_ad _ _)) (fun e_4 ce q9 H locs ho_5 hP hD hS hce hcv hcl => ?_) (fun H locs ho_5 hP hD hS => ?_)
  · subst ho_5
    replace hF := ox_l hF
    by_cases c_6 : e_4 = 1
    · replace hF := (if_pos c_6).symm.trans hF
      rw [exN, if_pos c_6] at hcl
      refine vx_catch (own := RL) (name := "java/lang/IndexOutOfBoundsException") (E := "java/lang/IndexOutOfBoundsException") hown [] ⟨0, 6, 9, 13⟩ [⟨0, 6, 12, 15⟩] htab (fun z hz => nomatch hz) rfl (by decide) (hts _ (cwc _ mw_118)) (va_Nw.use rfl hXc1) hce hcv hcl ?_
      refine lv_astore_n (lv' := [(3, .ref q9), (0, .ref (ca 0)), (1, .int p1), (2, .int p2)]) hx hb dL_pour_9 rfl hl (by decide) rfl (fun ls hl => ?_)
      refine lv_iconst (v := (1 : Int32)) hx hb dL_pour_10 (by decide +kernel) ?_
      cases hF
      refine W.widen (k := 4) (n := 24) (Nat.le_of_ble_eq_true rfl) (Nat.le_of_ble_eq_true rfl) ?_
      exact W.iret hx hb hr (fun t ht hW => ⟨⟨_, _, rfl, ⟨rfl, rfl⟩, by rw [ht]; exact hP, va_K.moved hW.alike hK, hD⟩, hS.F ht⟩) hS.2.2 dL_pour_11
    · replace hF := (if_neg c_6).symm.trans hF
      rw [exN, if_neg c_6] at hcl
      refine vx_catch (own := RL) (name := "java/lang/IllegalArgumentException") (E := "java/lang/IllegalArgumentException") hown [⟨0, 6, 9, 13⟩] ⟨0, 6, 12, 15⟩ [] htab (fun z hz => by rw [List.mem_singleton.mp hz]; exact Or.inr ⟨by decide, _, (hts _ (cwc _ mw_118)), hXn⟩) rfl (by decide) (hts _ (cwc _ mw_119)) (va_Nw.use rfl hXc2) hce hcv hcl ?_
      refine lv_astore_n (lv' := [(3, .ref q9), (0, .ref (ca 0)), (1, .int p1), (2, .int p2)]) hx hb dL_pour_12 rfl hl (by decide) rfl (fun ls hl => ?_)
      refine lv_iconst (v := (2 : Int32)) hx hb dL_pour_13 (by decide +kernel) ?_
      cases hF
      refine W.widen (k := 4) (n := 24) (Nat.le_of_ble_eq_true rfl) (Nat.le_of_ble_eq_true rfl) ?_
      exact W.iret hx hb hr (fun t ht hW => ⟨⟨_, _, rfl, ⟨rfl, rfl⟩, by rw [ht]; exact hP, va_K.moved hW.alike hK, hD⟩, hS.F ht⟩) hS.2.2 dL_pour_14
  · subst ho_5
    replace hF := ox_r hF
    refine lv_goto (tgt := 15) hx hb dL_pour_6 (by decide) ?_
    refine lv_iconst (v := (0 : Int32)) hx hb dL_pour_15 (by decide +kernel) ?_
    cases hF
    refine W.widen (k := 4) (n := 24) (Nat.le_of_ble_eq_true rfl) (Nat.le_of_ble_eq_true rfl) ?_
    exact W.iret hx hb hr (fun t ht hW => ⟨⟨_, _, rfl, ⟨rfl, rfl⟩, by rw [ht]; exact hP, va_K.moved hW.alike hK, hD⟩, hS.F ht⟩) hS.2.2 dL_pour_16
def F_L_part (p1 : Int32) (p2 : Int32) (p3 : Int32) (u : CSt) : Option ((Int32) × CSt) := bi (F_P_part p1 p2 p3 u) (fun or2 u1 => ox or2 (fun e_4 => (if e_4 = 1 then some ((1 : Int32), u1) else some ((2 : Int32), u1))) (fun _ => some ((0 : Int32), u1)))
set_option maxHeartbeats 4000000 in
set_option maxRecDepth 100000 in
theorem c_L_part (l : Launch) (hl9 : l.stackTraces = false) (D : va_G) (cI cR : ClassId) (sa : Nat → Nat) (ca qa : Nat → Nat) (sz : Nat) (p1 : Int32) (p2 : Int32) (p3 : Int32) (u : CSt) (r : Int32) (u' : CSt) (hF : F_L_part p1 p2 p3 u = some (r, u')) : Met l yL_part wsL_part ({ frames := 8, cells := 5, slots := 30, locals := 127 }) (va_Pc [.ref (ca 0), .int p1, .int p2, .int p3] (PREX D (TY cI cR) (CW cI cR ca qa u) sz sa)) (QI D (TY cI cR) (va_A (CW cI cR ca qa u) sz) (fun v => CW cI cR ca qa v) r u') 5 30 (va_A (CW cI cR ca qa u) sz) := by
  refine va_MetW (cc := cL_part) (maxL := 5) (ret := (some .int)) (by decide) rfl ?_
  intro p e s m args below meth c s₁ B hml hv
  obtain ⟨rfl, ⟨hsz, hP, hK, hD0⟩, hXK⟩ := hv
  have hx := B.exec
  have hb := B.bytes
  have hr := B.returns
  have hts := atoms_spec (ws := wsL_part) B.pre
  have hown : s.vm.findClass RL = some m.cls := findClass_of_methodNamed B.named
  have hlocks := B.notSynchronized
  subst hsz
  have hD := hD0.self (sz := s.heap.size)
  generalize hAe : va_A (CW cI cR ca qa u) s.heap.size = A at hD hXK ⊢
  have hA : ∀ q : Nat, s.heap.size ≤ q → A q := fun q h => by rw [← hAe]; exact Or.inr h
  have hS : va_S A s.heap s.heap [] := va_S.rf
  replace hP : va_P D vwCl (CW cI cR ca qa u) s.heap := hP
  have hl := lv_entry ([.ref (ca 0), .int p1, .int p2, .int p3]) (n := 5) (Nat.le_of_ble_eq_true rfl)
  rw [lg_entry_eq]
  generalize (lg_sl ([.ref (ca 0), .int p1, .int p2, .int p3]) ++ List.replicate (5 - (lg_sl ([.ref (ca 0), .int p1, .int p2, .int p3])).length) Slot.unset).toArray = ls at hl ⊢
  replace hl : lv_has ls 5 [(0, .ref (ca 0)), (1, .int p1), (2, .int p2), (3, .int p3)] := hl
  obtain ⟨hXU, hXN, hXc1, hXc2, hXd1, hXd2, hXd3, hXn, -⟩ := id hXK
  have htab := vx_table (x := yL_part) B (hts (.codeWith yL_part cL_part 5 (some .int) [(0, 7, 10, 13), (0, 7, 14, 15)]) (List.mem_of_getElem? (i := 0) rfl))
  unfold F_L_part at hF
  refine (?_ : ∀ (H : Heap) (locs : List Loc), va_P D vwCl (CW cI cR ca qa u) H → va_S A s.heap H locs → W p l e _ s m _ below meth c H locs 0 0 _ (F0 m 0 ls [])) s.heap [] hP hS
  intro H locs hP hS
  refine lv_aload_n hx hb dL_part_0 rfl (lv_at hl 0 rfl) ?_
  refine lv_iload_n hx hb dL_part_1 rfl (lv_at hl 1 rfl) ?_
  refine lv_iload_n hx hb dL_part_2 rfl (lv_at hl 2 rfl) ?_
  refine lv_iload_n hx hb dL_part_3 rfl (lv_at hl 3 rfl) ?_
  obtain ⟨or2, u1, hc_3, hF⟩ := bi_some hF
  refine kx_v (W1 := CW cI cR ca qa u1) (vx_runV (As := [.int p1, .int p2, .int p3]) (rest := []) ⟨hx, hb, hml, hown, hts⟩ (c_P_part l hl9 D cI cR sa ca qa H.size p1 p2 p3 u or2 u1 hc_3) (cwV 3 hts (gV cwc mw_309 mw_310 mw_311 mw_1 mw_312) rfl rfl rfl (by decide +kernel) ⟨(Nat.le_of_ble_eq_true rfl), (Nat.le_of_ble_eq_true rfl)⟩) (kpX_V (ci := 1) (q := (RX1, TX1, 16)) hXK hK hP hD hS hA (sb_id _) rfl rfl) rfl rfl hl.1 rfl (lv_room (Nat.le_of_ble_eq_true rfl)) dL_part_4 ⟨(Nat.le_of_ble_eq_true rfl), (Nat.le_of_ble_eq_true rfl)⟩) hP hD hS hA (sb_id _) (jn_id (cw_ad _ _)) (fun e_4 ce q9 H locs ho_5 hP hD hS hce hcv hcl => ?_) (fun H locs ho_5 hP hD hS => ?_)
  · subst ho_5
    replace hF := ox_l hF
    by_cases c_6 : e_4 = 1
    · replace hF := (if_pos c_6).symm.trans hF
      rw [exN, if_pos c_6] at hcl
      refine vx_catch (own := RL) (name := "java/lang/IndexOutOfBoundsException") (E := "java/lang/IndexOutOfBoundsException") hown [] ⟨0, 7, 10, 13⟩ [⟨0, 7, 14, 15⟩] htab (fun z hz => nomatch hz) rfl (by decide) (hts _ (cwc _ mw_118)) (va_Nw.use rfl hXc1) hce hcv hcl ?_
      refine lv_astore (lv' := [(4, .ref q9), (0, .ref (ca 0)), (1, .int p1), (2, .int p2), (3, .int p3)]) hx hb dL_part_10 hl (by decide) rfl (fun ls hl => ?_)
      refine lv_iconst (v := (1 : Int32)) hx hb dL_part_12 (by decide +kernel) ?_
      cases hF
      refine W.widen (k := 5) (n := 30) (Nat.le_of_ble_eq_true rfl) (Nat.le_of_ble_eq_true rfl) ?_
      exact W.iret hx hb hr (fun t ht hW => ⟨⟨_, _, rfl, ⟨rfl, rfl⟩, by rw [ht]; exact hP, va_K.moved hW.alike hK, hD⟩, hS.F ht⟩) hS.2.2 dL_part_13
    · replace hF := (if_neg c_6).symm.trans hF
      rw [exN, if_neg c_6] at hcl
      refine vx_catch (own := RL) (name := "java/lang/IllegalArgumentException") (E := "java/lang/IllegalArgumentException") hown [⟨0, 7, 10, 13⟩] ⟨0, 7, 14, 15⟩ [] htab (fun z hz => by rw [List.mem_singleton.mp hz]; exact Or.inr ⟨by decide, _, (hts _ (cwc _ mw_118)), hXn⟩) rfl (by decide) (hts _ (cwc _ mw_119)) (va_Nw.use rfl hXc2) hce hcv hcl ?_
      refine lv_astore (lv' := [(4, .ref q9), (0, .ref (ca 0)), (1, .int p1), (2, .int p2), (3, .int p3)]) hx hb dL_part_14 hl (by decide) rfl (fun ls hl => ?_)
      refine lv_iconst (v := (2 : Int32)) hx hb dL_part_16 (by decide +kernel) ?_
      cases hF
      refine W.widen (k := 5) (n := 30) (Nat.le_of_ble_eq_true rfl) (Nat.le_of_ble_eq_true rfl) ?_
      exact W.iret hx hb hr (fun t ht hW => ⟨⟨_, _, rfl, ⟨rfl, rfl⟩, by rw [ht]; exact hP, va_K.moved hW.alike hK, hD⟩, hS.F ht⟩) hS.2.2 dL_part_17
  · subst ho_5
    replace hF := ox_r hF
    refine lv_goto (tgt := 18) hx hb dL_part_7 (by decide) ?_
    refine lv_iconst (v := (0 : Int32)) hx hb dL_part_18 (by decide +kernel) ?_
    cases hF
    refine W.widen (k := 5) (n := 30) (Nat.le_of_ble_eq_true rfl) (Nat.le_of_ble_eq_true rfl) ?_
    exact W.iret hx hb hr (fun t ht hW => ⟨⟨_, _, rfl, ⟨rfl, rfl⟩, by rw [ht]; exact hP, va_K.moved hW.alike hK, hD⟩, hS.F ht⟩) hS.2.2 dL_part_19
def F_L_pass (p1 : Int32) (u : (CSt × (Nat → Int64))) : Option ((Int32) × (CSt × (Nat → Int64))) := bi (F_P_pass p1 u.1) (fun or2 u1 => ox or2 (fun e_4 => (if e_4 = 1 then none else some ((1 : Int32), (u1, u.2)))) (fun r2 => gd (inb (0 : Int32) 1) (some ((0 : Int32), (u1, (vp_updL u.2 (0 : Int32).toNatClampNeg r2.toInt64))))))
set_option maxHeartbeats 4000000 in
set_option maxRecDepth 100000 in
theorem c_L_pass (l : Launch) (hl9 : l.stackTraces = false) (D : va_G) (cI cR cJ : ClassId) (sa : Nat → Nat) (ca qa : Nat → Nat) (wa : Nat) (sz : Nat) (p1 : Int32) (u : (CSt × (Nat → Int64))) (r : Int32) (u' : (CSt × (Nat → Int64))) (hF : F_L_pass p1 u = some (r, u')) : Met l yL_pass wsL_pass ({ frames := 8, cells := 2, slots := 12, locals := 127 }) (va_Pc [.ref (ca 0), .int p1, .ref wa] (PREX D (TY3 cI cR cJ) (CO cI cR cJ ca qa wa u) sz sa)) (QI D (TY3 cI cR cJ) (va_A (CO cI cR cJ ca qa wa u) sz) (fun v => CO cI cR cJ ca qa wa v) r u') 2 12 (va_A (CO cI cR cJ ca qa wa u) sz) := by
  refine va_MetW (cc := cL_pass) (maxL := 4) (ret := (some .int)) (by decide) rfl ?_
  intro p e s m args below meth c s₁ B hml hv
  obtain ⟨rfl, ⟨hsz, hP, hK, hD0⟩, hXK⟩ := hv
  have hx := B.exec
  have hb := B.bytes
  have hr := B.returns
  have hts := atoms_spec (ws := wsL_pass) B.pre
  have hown : s.vm.findClass RL = some m.cls := findClass_of_methodNamed B.named
  have hlocks := B.notSynchronized
  subst hsz
  have hD := hD0.self (sz := s.heap.size)
  generalize hAe : va_A (CO cI cR cJ ca qa wa u) s.heap.size = A at hD hXK ⊢
  have hA : ∀ q : Nat, s.heap.size ≤ q → A q := fun q h => by rw [← hAe]; exact Or.inr h
  have hS : va_S A s.heap s.heap [] := va_S.rf
  replace hP : va_P D vwCl (CO cI cR cJ ca qa wa u) s.heap := hP
  have hl := lv_entry ([.ref (ca 0), .int p1, .ref wa]) (n := 4) (Nat.le_of_ble_eq_true rfl)
  rw [lg_entry_eq]
  generalize (lg_sl ([.ref (ca 0), .int p1, .ref wa]) ++ List.replicate (4 - (lg_sl ([.ref (ca 0), .int p1, .ref wa])).length) Slot.unset).toArray = ls at hl ⊢
  replace hl : lv_has ls 4 [(0, .ref (ca 0)), (1, .int p1), (2, .ref wa)] := hl
  obtain ⟨hXU, hXN, hXc1, hXc2, hXd1, hXd2, hXd3, hXn, -⟩ := id hXK
  have htab := vx_table (x := yL_pass) B (hts (.codeWith yL_pass cL_pass 4 (some .int) [(0, 9, 12, 15)]) (List.mem_of_getElem? (i := 0) rfl))
  unfold F_L_pass at hF
  refine (?_ : ∀ (H : Heap) (locs : List Loc), va_P D vwCl (CO cI cR cJ ca qa wa u) H → va_S A s.heap H locs → W p l e _ s m _ below meth c H locs 0 0 _ (F0 m 0 ls [])) s.heap [] hP hS
  intro H locs hP hS
  refine lv_aload_n hx hb dL_pass_0 rfl (lv_at hl 2 rfl) ?_
  refine lv_iconst (v := (0 : Int32)) hx hb dL_pass_1 (by decide +kernel) ?_
  refine lv_aload_n hx hb dL_pass_2 rfl (lv_at hl 0 rfl) ?_
  refine lv_iload_n hx hb dL_pass_3 rfl (lv_at hl 1 rfl) ?_
  obtain ⟨or2, u1, hc_3, hF⟩ := bi_some hF
  refine kx_i (W1 := CO cI cR cJ ca qa wa (u1, u.2)) (vx_runV (As := [.int p1]) (rest := [.int (0 : Int32), .ref wa]) ⟨hx, hb, hml, hown, hts⟩ (c_P_pass l hl9 D cI cR sa ca qa H.size p1 u.1 or2 u1 hc_3) (cwV 1 hts (gV cwc mw_230 mw_231 mw_232 mw_1 mw_233) rfl rfl rfl (by decide +kernel) ⟨(Nat.le_of_ble_eq_true rfl), (Nat.le_of_ble_eq_true rfl)⟩) (kpX_V (ci := 1) (q := (RX1, TX1, 16)) hXK (hK.sub [0, 1] rfl) hP hD hS hA (sb_tail [(wa, .inl (cJ, 1, .inr (.inl u.2)))] (CW cI cR ca qa u.1)) rfl rfl) rfl rfl hl.1 rfl (lv_room (Nat.le_of_ble_eq_true rfl)) dL_pass_4 ⟨(Nat.le_of_ble_eq_true rfl), (Nat.le_of_ble_eq_true rfl)⟩) hP hD hS hA (sb_tail [(wa, .inl (cJ, 1, .inr (.inl u.2)))] (CW cI cR ca qa u.1)) (jn_tail [(wa, .inl (cJ, 1, .inr (.inl u.2)))] (CW cI cR ca qa u.1) (CW cI cR ca qa u1) (cw_ad _ _)) (fun e_4 ce q9 H locs ho_5 hP hD hS hce hcv hcl => ?_) (fun r2 H locs ho_5 hP hD hS => ?_)
  · subst ho_5
    replace hF := ox_l hF
    by_cases c_7 : e_4 = 1
    · replace hF := (if_pos c_7).symm.trans hF
      rw [exN, if_pos c_7] at hcl
      exact absurd hF (by simp)
    · replace hF := (if_neg c_7).symm.trans hF
      rw [exN, if_neg c_7] at hcl
      refine vx_catch (own := RL) (name := "java/lang/IllegalArgumentException") (E := "java/lang/IllegalArgumentException") hown [] ⟨0, 9, 12, 15⟩ [] htab (fun z hz => nomatch hz) rfl (by decide) (hts _ (cwc _ mw_119)) (va_Nw.use rfl hXc2) hce hcv hcl ?_
      refine lv_astore_n (lv' := [(3, .ref q9), (0, .ref (ca 0)), (1, .int p1), (2, .ref wa)]) hx hb dL_pass_12 rfl hl (by decide) rfl (fun ls hl => ?_)
      refine lv_iconst (v := (1 : Int32)) hx hb dL_pass_13 (by decide +kernel) ?_
      cases hF
      refine W.widen (k := 2) (n := 12) (Nat.le_of_ble_eq_true rfl) (Nat.le_of_ble_eq_true rfl) ?_
      exact W.iret hx hb hr (fun t ht hW => ⟨⟨_, _, rfl, ⟨rfl, rfl⟩, by rw [ht]; exact hP, va_K.moved hW.alike hK, hD⟩, hS.F ht⟩) hS.2.2 dL_pass_14
  · subst ho_5
    replace hF := ox_r hF
    refine lv_i2l (v := r2.toInt64) hx hb dL_pass_7 rfl ?_
    obtain ⟨h_6, hF⟩ := gd_some hF
    refine va_last (f := u.2) hx hb hK hP hD hS 0 2 rfl rfl (inb_in h_6) dL_pass_8 (fun H locs hP hD hS => ?_)
    replace hP : va_P D vwCl (CO cI cR cJ ca qa wa (u1, (vp_updL u.2 (0 : Int32).toNatClampNeg r2.toInt64))) H := hP
    replace hD : va_D A (CO cI cR cJ ca qa wa (u1, (vp_updL u.2 (0 : Int32).toNatClampNeg r2.toInt64))) := hD
    refine lv_goto (tgt := 15) hx hb dL_pass_9 (by decide) ?_
    refine lv_iconst (v := (0 : Int32)) hx hb dL_pass_15 (by decide +kernel) ?_
    cases hF
    refine W.widen (k := 2) (n := 12) (Nat.le_of_ble_eq_true rfl) (Nat.le_of_ble_eq_true rfl) ?_
    exact W.iret hx hb hr (fun t ht hW => ⟨⟨_, _, rfl, ⟨rfl, rfl⟩, by rw [ht]; exact hP, va_K.moved hW.alike hK, hD⟩, hS.F ht⟩) hS.2.2 dL_pass_16
def F_L_load (p1 : Int32) (p2 : Int32) (p3 : Int32) (u : (CSt × (Nat → Int64))) : Option ((Int32) × (CSt × (Nat → Int64))) := bi (F_P_load p1 p2 p3 u.1) (fun or2 u1 => ox or2 (fun e_4 => (if e_4 = 1 then some ((1 : Int32), (u1, u.2)) else some ((2 : Int32), (u1, u.2)))) (fun r2 => gd (inb (0 : Int32) 1) (some ((0 : Int32), (u1, (vp_updL u.2 (0 : Int32).toNatClampNeg r2.toInt64))))))
set_option maxHeartbeats 4000000 in
set_option maxRecDepth 100000 in
theorem c_L_load (l : Launch) (hl9 : l.stackTraces = false) (D : va_G) (cI cR cJ : ClassId) (sa : Nat → Nat) (ca qa : Nat → Nat) (wa : Nat) (sz : Nat) (p1 : Int32) (p2 : Int32) (p3 : Int32) (u : (CSt × (Nat → Int64))) (r : Int32) (u' : (CSt × (Nat → Int64))) (hF : F_L_load p1 p2 p3 u = some (r, u')) : Met l yL_load wsL_load ({ frames := 8, cells := 3, slots := 18, locals := 126 }) (va_Pc [.ref (ca 0), .int p1, .int p2, .int p3, .ref wa] (PREX D (TY3 cI cR cJ) (CO cI cR cJ ca qa wa u) sz sa)) (QI D (TY3 cI cR cJ) (va_A (CO cI cR cJ ca qa wa u) sz) (fun v => CO cI cR cJ ca qa wa v) r u') 3 18 (va_A (CO cI cR cJ ca qa wa u) sz) := by
  refine va_MetW (cc := cL_load) (maxL := 6) (ret := (some .int)) (by decide) rfl ?_
  intro p e s m args below meth c s₁ B hml hv
  obtain ⟨rfl, ⟨hsz, hP, hK, hD0⟩, hXK⟩ := hv
  have hx := B.exec
  have hb := B.bytes
  have hr := B.returns
  have hts := atoms_spec (ws := wsL_load) B.pre
  have hown : s.vm.findClass RL = some m.cls := findClass_of_methodNamed B.named
  have hlocks := B.notSynchronized
  subst hsz
  have hD := hD0.self (sz := s.heap.size)
  generalize hAe : va_A (CO cI cR cJ ca qa wa u) s.heap.size = A at hD hXK ⊢
  have hA : ∀ q : Nat, s.heap.size ≤ q → A q := fun q h => by rw [← hAe]; exact Or.inr h
  have hS : va_S A s.heap s.heap [] := va_S.rf
  replace hP : va_P D vwCl (CO cI cR cJ ca qa wa u) s.heap := hP
  have hl := lv_entry ([.ref (ca 0), .int p1, .int p2, .int p3, .ref wa]) (n := 6) (Nat.le_of_ble_eq_true rfl)
  rw [lg_entry_eq]
  generalize (lg_sl ([.ref (ca 0), .int p1, .int p2, .int p3, .ref wa]) ++ List.replicate (6 - (lg_sl ([.ref (ca 0), .int p1, .int p2, .int p3, .ref wa])).length) Slot.unset).toArray = ls at hl ⊢
  replace hl : lv_has ls 6 [(0, .ref (ca 0)), (1, .int p1), (2, .int p2), (3, .int p3), (4, .ref wa)] := hl
  obtain ⟨hXU, hXN, hXc1, hXc2, hXd1, hXd2, hXd3, hXn, -⟩ := id hXK
  have htab := vx_table (x := yL_load) B (hts (.codeWith yL_load cL_load 6 (some .int) [(0, 12, 15, 13), (0, 12, 19, 15)]) (List.mem_of_getElem? (i := 0) rfl))
  unfold F_L_load at hF
  refine (?_ : ∀ (H : Heap) (locs : List Loc), va_P D vwCl (CO cI cR cJ ca qa wa u) H → va_S A s.heap H locs → W p l e _ s m _ below meth c H locs 0 0 _ (F0 m 0 ls [])) s.heap [] hP hS
  intro H locs hP hS
  refine lv_aload hx hb dL_load_0 (lv_at hl 4 rfl) ?_
  refine lv_iconst (v := (0 : Int32)) hx hb dL_load_2 (by decide +kernel) ?_
  refine lv_aload_n hx hb dL_load_3 rfl (lv_at hl 0 rfl) ?_
  refine lv_iload_n hx hb dL_load_4 rfl (lv_at hl 1 rfl) ?_
  refine lv_iload_n hx hb dL_load_5 rfl (lv_at hl 2 rfl) ?_
  refine lv_iload_n hx hb dL_load_6 rfl (lv_at hl 3 rfl) ?_
  obtain ⟨or2, u1, hc_3, hF⟩ := bi_some hF
  refine kx_i (W1 := CO cI cR cJ ca qa wa (u1, u.2)) (vx_runV (As := [.int p1, .int p2, .int p3]) (rest := [.int (0 : Int32), .ref wa]) ⟨hx, hb, hml, hown, hts⟩ (c_P_load l hl9 D cI cR sa ca qa H.size p1 p2 p3 u.1 or2 u1 hc_3) (cwV 3 hts (gV cwc mw_253 mw_254 mw_255 mw_1 mw_256) rfl rfl rfl (by decide +kernel) ⟨(Nat.le_of_ble_eq_true rfl), (Nat.le_of_ble_eq_true rfl)⟩) (kpX_V (ci := 1) (q := (RX1, TX1, 16)) hXK (hK.sub [0, 1] rfl) hP hD hS hA (sb_tail [(wa, .inl (cJ, 1, .inr (.inl u.2)))] (CW cI cR ca qa u.1)) rfl rfl) rfl rfl hl.1 rfl (lv_room (Nat.le_of_ble_eq_true rfl)) dL_load_7 ⟨(Nat.le_of_ble_eq_true rfl), (Nat.le_of_ble_eq_true rfl)⟩) hP hD hS hA (sb_tail [(wa, .inl (cJ, 1, .inr (.inl u.2)))] (CW cI cR ca qa u.1)) (jn_tail [(wa, .inl (cJ, 1, .inr (.inl u.2)))] (CW cI cR ca qa u.1) (CW cI cR ca qa u1) (cw_ad _ _)) (fun e_4 ce q9 H locs ho_5 hP hD hS hce hcv hcl => ?_) (fun r2 H locs ho_5 hP hD hS => ?_)
  · subst ho_5
    replace hF := ox_l hF
    by_cases c_7 : e_4 = 1
    · replace hF := (if_pos c_7).symm.trans hF
      rw [exN, if_pos c_7] at hcl
      refine vx_catch (own := RL) (name := "java/lang/IndexOutOfBoundsException") (E := "java/lang/IndexOutOfBoundsException") hown [] ⟨0, 12, 15, 13⟩ [⟨0, 12, 19, 15⟩] htab (fun z hz => nomatch hz) rfl (by decide) (hts _ (cwc _ mw_118)) (va_Nw.use rfl hXc1) hce hcv hcl ?_
      refine lv_astore (lv' := [(5, .ref q9), (0, .ref (ca 0)), (1, .int p1), (2, .int p2), (3, .int p3), (4, .ref wa)]) hx hb dL_load_15 hl (by decide) rfl (fun ls hl => ?_)
      refine lv_iconst (v := (1 : Int32)) hx hb dL_load_17 (by decide +kernel) ?_
      cases hF
      refine W.widen (k := 3) (n := 18) (Nat.le_of_ble_eq_true rfl) (Nat.le_of_ble_eq_true rfl) ?_
      exact W.iret hx hb hr (fun t ht hW => ⟨⟨_, _, rfl, ⟨rfl, rfl⟩, by rw [ht]; exact hP, va_K.moved hW.alike hK, hD⟩, hS.F ht⟩) hS.2.2 dL_load_18
    · replace hF := (if_neg c_7).symm.trans hF
      rw [exN, if_neg c_7] at hcl
      refine vx_catch (own := RL) (name := "java/lang/IllegalArgumentException") (E := "java/lang/IllegalArgumentException") hown [⟨0, 12, 15, 13⟩] ⟨0, 12, 19, 15⟩ [] htab (fun z hz => by rw [List.mem_singleton.mp hz]; exact Or.inr ⟨by decide, _, (hts _ (cwc _ mw_118)), hXn⟩) rfl (by decide) (hts _ (cwc _ mw_119)) (va_Nw.use rfl hXc2) hce hcv hcl ?_
      refine lv_astore (lv' := [(5, .ref q9), (0, .ref (ca 0)), (1, .int p1), (2, .int p2), (3, .int p3), (4, .ref wa)]) hx hb dL_load_19 hl (by decide) rfl (fun ls hl => ?_)
      refine lv_iconst (v := (2 : Int32)) hx hb dL_load_21 (by decide +kernel) ?_
      cases hF
      refine W.widen (k := 3) (n := 18) (Nat.le_of_ble_eq_true rfl) (Nat.le_of_ble_eq_true rfl) ?_
      exact W.iret hx hb hr (fun t ht hW => ⟨⟨_, _, rfl, ⟨rfl, rfl⟩, by rw [ht]; exact hP, va_K.moved hW.alike hK, hD⟩, hS.F ht⟩) hS.2.2 dL_load_22
  · subst ho_5
    replace hF := ox_r hF
    refine lv_i2l (v := r2.toInt64) hx hb dL_load_10 rfl ?_
    obtain ⟨h_6, hF⟩ := gd_some hF
    refine va_last (f := u.2) hx hb hK hP hD hS 0 2 rfl rfl (inb_in h_6) dL_load_11 (fun H locs hP hD hS => ?_)
    replace hP : va_P D vwCl (CO cI cR cJ ca qa wa (u1, (vp_updL u.2 (0 : Int32).toNatClampNeg r2.toInt64))) H := hP
    replace hD : va_D A (CO cI cR cJ ca qa wa (u1, (vp_updL u.2 (0 : Int32).toNatClampNeg r2.toInt64))) := hD
    refine lv_goto (tgt := 23) hx hb dL_load_12 (by decide) ?_
    refine lv_iconst (v := (0 : Int32)) hx hb dL_load_23 (by decide +kernel) ?_
    cases hF
    refine W.widen (k := 3) (n := 18) (Nat.le_of_ble_eq_true rfl) (Nat.le_of_ble_eq_true rfl) ?_
    exact W.iret hx hb hr (fun t ht hW => ⟨⟨_, _, rfl, ⟨rfl, rfl⟩, by rw [ht]; exact hP, va_K.moved hW.alike hK, hD⟩, hS.F ht⟩) hS.2.2 dL_load_24
def F_L_unload (p1 : Int32) (p2 : Int32) (p3 : Int32) (u : (CSt × (Nat → Int64))) : Option ((Int32) × (CSt × (Nat → Int64))) := bi (F_P_unload p1 p2 p3 u.1) (fun or2 u1 => ox or2 (fun e_4 => (if e_4 = 1 then some ((1 : Int32), (u1, u.2)) else some ((2 : Int32), (u1, u.2)))) (fun r2 => gd (inb (0 : Int32) 1) (some ((0 : Int32), (u1, (vp_updL u.2 (0 : Int32).toNatClampNeg r2.toInt64))))))
set_option maxHeartbeats 4000000 in
set_option maxRecDepth 100000 in
theorem c_L_unload (l : Launch) (hl9 : l.stackTraces = false) (D : va_G) (cI cR cJ : ClassId) (sa : Nat → Nat) (ca qa : Nat → Nat) (wa : Nat) (sz : Nat) (p1 : Int32) (p2 : Int32) (p3 : Int32) (u : (CSt × (Nat → Int64))) (r : Int32) (u' : (CSt × (Nat → Int64))) (hF : F_L_unload p1 p2 p3 u = some (r, u')) : Met l yL_unload wsL_unload ({ frames := 8, cells := 3, slots := 18, locals := 126 }) (va_Pc [.ref (ca 0), .int p1, .int p2, .int p3, .ref wa] (PREX D (TY3 cI cR cJ) (CO cI cR cJ ca qa wa u) sz sa)) (QI D (TY3 cI cR cJ) (va_A (CO cI cR cJ ca qa wa u) sz) (fun v => CO cI cR cJ ca qa wa v) r u') 3 18 (va_A (CO cI cR cJ ca qa wa u) sz) := by
  refine va_MetW (cc := cL_unload) (maxL := 6) (ret := (some .int)) (by decide) rfl ?_
  intro p e s m args below meth c s₁ B hml hv
  obtain ⟨rfl, ⟨hsz, hP, hK, hD0⟩, hXK⟩ := hv
  have hx := B.exec
  have hb := B.bytes
  have hr := B.returns
  have hts := atoms_spec (ws := wsL_unload) B.pre
  have hown : s.vm.findClass RL = some m.cls := findClass_of_methodNamed B.named
  have hlocks := B.notSynchronized
  subst hsz
  have hD := hD0.self (sz := s.heap.size)
  generalize hAe : va_A (CO cI cR cJ ca qa wa u) s.heap.size = A at hD hXK ⊢
  have hA : ∀ q : Nat, s.heap.size ≤ q → A q := fun q h => by rw [← hAe]; exact Or.inr h
  have hS : va_S A s.heap s.heap [] := va_S.rf
  replace hP : va_P D vwCl (CO cI cR cJ ca qa wa u) s.heap := hP
  have hl := lv_entry ([.ref (ca 0), .int p1, .int p2, .int p3, .ref wa]) (n := 6) (Nat.le_of_ble_eq_true rfl)
  rw [lg_entry_eq]
  generalize (lg_sl ([.ref (ca 0), .int p1, .int p2, .int p3, .ref wa]) ++ List.replicate (6 - (lg_sl ([.ref (ca 0), .int p1, .int p2, .int p3, .ref wa])).length) Slot.unset).toArray = ls at hl ⊢
  replace hl : lv_has ls 6 [(0, .ref (ca 0)), (1, .int p1), (2, .int p2), (3, .int p3), (4, .ref wa)] := hl
  obtain ⟨hXU, hXN, hXc1, hXc2, hXd1, hXd2, hXd3, hXn, -⟩ := id hXK
  have htab := vx_table (x := yL_unload) B (hts (.codeWith yL_unload cL_unload 6 (some .int) [(0, 12, 15, 13), (0, 12, 19, 15)]) (List.mem_of_getElem? (i := 0) rfl))
  unfold F_L_unload at hF
  refine (?_ : ∀ (H : Heap) (locs : List Loc), va_P D vwCl (CO cI cR cJ ca qa wa u) H → va_S A s.heap H locs → W p l e _ s m _ below meth c H locs 0 0 _ (F0 m 0 ls [])) s.heap [] hP hS
  intro H locs hP hS
  refine lv_aload hx hb dL_unload_0 (lv_at hl 4 rfl) ?_
  refine lv_iconst (v := (0 : Int32)) hx hb dL_unload_2 (by decide +kernel) ?_
  refine lv_aload_n hx hb dL_unload_3 rfl (lv_at hl 0 rfl) ?_
  refine lv_iload_n hx hb dL_unload_4 rfl (lv_at hl 1 rfl) ?_
  refine lv_iload_n hx hb dL_unload_5 rfl (lv_at hl 2 rfl) ?_
  refine lv_iload_n hx hb dL_unload_6 rfl (lv_at hl 3 rfl) ?_
  obtain ⟨or2, u1, hc_3, hF⟩ := bi_some hF
  refine kx_i (W1 := CO cI cR cJ ca qa wa (u1, u.2)) (vx_runV (As := [.int p1, .int p2, .int p3]) (rest := [.int (0 : Int32), .ref wa]) ⟨hx, hb, hml, hown, hts⟩ (c_P_unload l hl9 D cI cR sa ca qa H.size p1 p2 p3 u.1 or2 u1 hc_3) (cwV 3 hts (gV cwc mw_276 mw_277 mw_278 mw_1 mw_279) rfl rfl rfl (by decide +kernel) ⟨(Nat.le_of_ble_eq_true rfl), (Nat.le_of_ble_eq_true rfl)⟩) (kpX_V (ci := 1) (q := (RX1, TX1, 16)) hXK (hK.sub [0, 1] rfl) hP hD hS hA (sb_tail [(wa, .inl (cJ, 1, .inr (.inl u.2)))] (CW cI cR ca qa u.1)) rfl rfl) rfl rfl hl.1 rfl (lv_room (Nat.le_of_ble_eq_true rfl)) dL_unload_7 ⟨(Nat.le_of_ble_eq_true rfl), (Nat.le_of_ble_eq_true rfl)⟩) hP hD hS hA (sb_tail [(wa, .inl (cJ, 1, .inr (.inl u.2)))] (CW cI cR ca qa u.1)) (jn_tail [(wa, .inl (cJ, 1, .inr (.inl u.2)))] (CW cI cR ca qa u.1) (CW cI cR ca qa u1) (cw_ad _ _)) (fun e_4 ce q9 H locs ho_5 hP hD hS hce hcv hcl => ?_) (fun r2 H locs ho_5 hP hD hS => ?_)
  · subst ho_5
    replace hF := ox_l hF
    by_cases c_7 : e_4 = 1
    · replace hF := (if_pos c_7).symm.trans hF
      rw [exN, if_pos c_7] at hcl
      refine vx_catch (own := RL) (name := "java/lang/IndexOutOfBoundsException") (E := "java/lang/IndexOutOfBoundsException") hown [] ⟨0, 12, 15, 13⟩ [⟨0, 12, 19, 15⟩] htab (fun z hz => nomatch hz) rfl (by decide) (hts _ (cwc _ mw_118)) (va_Nw.use rfl hXc1) hce hcv hcl ?_
      refine lv_astore (lv' := [(5, .ref q9), (0, .ref (ca 0)), (1, .int p1), (2, .int p2), (3, .int p3), (4, .ref wa)]) hx hb dL_unload_15 hl (by decide) rfl (fun ls hl => ?_)
      refine lv_iconst (v := (1 : Int32)) hx hb dL_unload_17 (by decide +kernel) ?_
      cases hF
      refine W.widen (k := 3) (n := 18) (Nat.le_of_ble_eq_true rfl) (Nat.le_of_ble_eq_true rfl) ?_
      exact W.iret hx hb hr (fun t ht hW => ⟨⟨_, _, rfl, ⟨rfl, rfl⟩, by rw [ht]; exact hP, va_K.moved hW.alike hK, hD⟩, hS.F ht⟩) hS.2.2 dL_unload_18
    · replace hF := (if_neg c_7).symm.trans hF
      rw [exN, if_neg c_7] at hcl
      refine vx_catch (own := RL) (name := "java/lang/IllegalArgumentException") (E := "java/lang/IllegalArgumentException") hown [⟨0, 12, 15, 13⟩] ⟨0, 12, 19, 15⟩ [] htab (fun z hz => by rw [List.mem_singleton.mp hz]; exact Or.inr ⟨by decide, _, (hts _ (cwc _ mw_118)), hXn⟩) rfl (by decide) (hts _ (cwc _ mw_119)) (va_Nw.use rfl hXc2) hce hcv hcl ?_
      refine lv_astore (lv' := [(5, .ref q9), (0, .ref (ca 0)), (1, .int p1), (2, .int p2), (3, .int p3), (4, .ref wa)]) hx hb dL_unload_19 hl (by decide) rfl (fun ls hl => ?_)
      refine lv_iconst (v := (2 : Int32)) hx hb dL_unload_21 (by decide +kernel) ?_
      cases hF
      refine W.widen (k := 3) (n := 18) (Nat.le_of_ble_eq_true rfl) (Nat.le_of_ble_eq_true rfl) ?_
      exact W.iret hx hb hr (fun t ht hW => ⟨⟨_, _, rfl, ⟨rfl, rfl⟩, by rw [ht]; exact hP, va_K.moved hW.alike hK, hD⟩, hS.F ht⟩) hS.2.2 dL_unload_22
  · subst ho_5
    replace hF := ox_r hF
    refine lv_i2l (v := r2.toInt64) hx hb dL_unload_10 rfl ?_
    obtain ⟨h_6, hF⟩ := gd_some hF
    refine va_last (f := u.2) hx hb hK hP hD hS 0 2 rfl rfl (inb_in h_6) dL_unload_11 (fun H locs hP hD hS => ?_)
    replace hP : va_P D vwCl (CO cI cR cJ ca qa wa (u1, (vp_updL u.2 (0 : Int32).toNatClampNeg r2.toInt64))) H := hP
    replace hD : va_D A (CO cI cR cJ ca qa wa (u1, (vp_updL u.2 (0 : Int32).toNatClampNeg r2.toInt64))) := hD
    refine lv_goto (tgt := 23) hx hb dL_unload_12 (by decide) ?_
    refine lv_iconst (v := (0 : Int32)) hx hb dL_unload_23 (by decide +kernel) ?_
    cases hF
    refine W.widen (k := 3) (n := 18) (Nat.le_of_ble_eq_true rfl) (Nat.le_of_ble_eq_true rfl) ?_
    exact W.iret hx hb hr (fun t ht hW => ⟨⟨_, _, rfl, ⟨rfl, rfl⟩, by rw [ht]; exact hP, va_K.moved hW.alike hK, hD⟩, hS.F ht⟩) hS.2.2 dL_unload_24
def F_L_dump (p1 : Int32) (u : (CSt × (Nat → Int64))) : Option ((Int32) × (CSt × (Nat → Int64))) := bi (F_P_dump p1 u.1) (fun or2 u1 => ox or2 (fun e_4 => (if e_4 = 1 then some ((1 : Int32), (u1, u.2)) else none)) (fun r2 => gd (inb (0 : Int32) 1) (some ((0 : Int32), (u1, (vp_updL u.2 (0 : Int32).toNatClampNeg r2.toInt64))))))
set_option maxHeartbeats 4000000 in
set_option maxRecDepth 100000 in
theorem c_L_dump (l : Launch) (hl9 : l.stackTraces = false) (D : va_G) (cI cR cJ : ClassId) (sa : Nat → Nat) (ca qa : Nat → Nat) (wa : Nat) (sz : Nat) (p1 : Int32) (u : (CSt × (Nat → Int64))) (r : Int32) (u' : (CSt × (Nat → Int64))) (hF : F_L_dump p1 u = some (r, u')) : Met l yL_dump wsL_dump ({ frames := 8, cells := 1, slots := 6, locals := 124 }) (va_Pc [.ref (ca 0), .int p1, .ref wa] (PREX D (TY3 cI cR cJ) (CO cI cR cJ ca qa wa u) sz sa)) (QI D (TY3 cI cR cJ) (va_A (CO cI cR cJ ca qa wa u) sz) (fun v => CO cI cR cJ ca qa wa v) r u') 1 6 (va_A (CO cI cR cJ ca qa wa u) sz) := by
  refine va_MetW (cc := cL_dump) (maxL := 4) (ret := (some .int)) (by decide) rfl ?_
  intro p e s m args below meth c s₁ B hml hv
  obtain ⟨rfl, ⟨hsz, hP, hK, hD0⟩, hXK⟩ := hv
  have hx := B.exec
  have hb := B.bytes
  have hr := B.returns
  have hts := atoms_spec (ws := wsL_dump) B.pre
  have hown : s.vm.findClass RL = some m.cls := findClass_of_methodNamed B.named
  have hlocks := B.notSynchronized
  subst hsz
  have hD := hD0.self (sz := s.heap.size)
  generalize hAe : va_A (CO cI cR cJ ca qa wa u) s.heap.size = A at hD hXK ⊢
  have hA : ∀ q : Nat, s.heap.size ≤ q → A q := fun q h => by rw [← hAe]; exact Or.inr h
  have hS : va_S A s.heap s.heap [] := va_S.rf
  replace hP : va_P D vwCl (CO cI cR cJ ca qa wa u) s.heap := hP
  have hl := lv_entry ([.ref (ca 0), .int p1, .ref wa]) (n := 4) (Nat.le_of_ble_eq_true rfl)
  rw [lg_entry_eq]
  generalize (lg_sl ([.ref (ca 0), .int p1, .ref wa]) ++ List.replicate (4 - (lg_sl ([.ref (ca 0), .int p1, .ref wa])).length) Slot.unset).toArray = ls at hl ⊢
  replace hl : lv_has ls 4 [(0, .ref (ca 0)), (1, .int p1), (2, .ref wa)] := hl
  obtain ⟨hXU, hXN, hXc1, hXc2, hXd1, hXd2, hXd3, hXn, -⟩ := id hXK
  have htab := vx_table (x := yL_dump) B (hts (.codeWith yL_dump cL_dump 4 (some .int) [(0, 9, 12, 13)]) (List.mem_of_getElem? (i := 0) rfl))
  unfold F_L_dump at hF
  refine (?_ : ∀ (H : Heap) (locs : List Loc), va_P D vwCl (CO cI cR cJ ca qa wa u) H → va_S A s.heap H locs → W p l e _ s m _ below meth c H locs 0 0 _ (F0 m 0 ls [])) s.heap [] hP hS
  intro H locs hP hS
  refine lv_aload_n hx hb dL_dump_0 rfl (lv_at hl 2 rfl) ?_
  refine lv_iconst (v := (0 : Int32)) hx hb dL_dump_1 (by decide +kernel) ?_
  refine lv_aload_n hx hb dL_dump_2 rfl (lv_at hl 0 rfl) ?_
  refine lv_iload_n hx hb dL_dump_3 rfl (lv_at hl 1 rfl) ?_
  obtain ⟨or2, u1, hc_3, hF⟩ := bi_some hF
  refine kx_i (W1 := CO cI cR cJ ca qa wa (u1, u.2)) (vx_runV (As := [.int p1]) (rest := [.int (0 : Int32), .ref wa]) ⟨hx, hb, hml, hown, hts⟩ (c_P_dump l hl9 D cI cR sa ca qa H.size p1 u.1 or2 u1 hc_3) (cwV 1 hts (gV cwc mw_320 mw_321 mw_322 mw_1 mw_323) rfl rfl rfl (by decide +kernel) ⟨(Nat.le_of_ble_eq_true rfl), (Nat.le_of_ble_eq_true rfl)⟩) (kpX_V (ci := 1) (q := (RX1, TX1, 16)) hXK (hK.sub [0, 1] rfl) hP hD hS hA (sb_tail [(wa, .inl (cJ, 1, .inr (.inl u.2)))] (CW cI cR ca qa u.1)) rfl rfl) rfl rfl hl.1 rfl (lv_room (Nat.le_of_ble_eq_true rfl)) dL_dump_4 ⟨(Nat.le_of_ble_eq_true rfl), (Nat.le_of_ble_eq_true rfl)⟩) hP hD hS hA (sb_tail [(wa, .inl (cJ, 1, .inr (.inl u.2)))] (CW cI cR ca qa u.1)) (jn_tail [(wa, .inl (cJ, 1, .inr (.inl u.2)))] (CW cI cR ca qa u.1) (CW cI cR ca qa u1) (cw_ad _ _)) (fun e_4 ce q9 H locs ho_5 hP hD hS hce hcv hcl => ?_) (fun r2 H locs ho_5 hP hD hS => ?_)
  · subst ho_5
    replace hF := ox_l hF
    by_cases c_7 : e_4 = 1
    · replace hF := (if_pos c_7).symm.trans hF
      rw [exN, if_pos c_7] at hcl
      refine vx_catch (own := RL) (name := "java/lang/IndexOutOfBoundsException") (E := "java/lang/IndexOutOfBoundsException") hown [] ⟨0, 9, 12, 13⟩ [] htab (fun z hz => nomatch hz) rfl (by decide) (hts _ (cwc _ mw_118)) (va_Nw.use rfl hXc1) hce hcv hcl ?_
      refine lv_astore_n (lv' := [(3, .ref q9), (0, .ref (ca 0)), (1, .int p1), (2, .ref wa)]) hx hb dL_dump_12 rfl hl (by decide) rfl (fun ls hl => ?_)
      refine lv_iconst (v := (1 : Int32)) hx hb dL_dump_13 (by decide +kernel) ?_
      cases hF
      refine W.widen (k := 1) (n := 6) (Nat.le_of_ble_eq_true rfl) (Nat.le_of_ble_eq_true rfl) ?_
      exact W.iret hx hb hr (fun t ht hW => ⟨⟨_, _, rfl, ⟨rfl, rfl⟩, by rw [ht]; exact hP, va_K.moved hW.alike hK, hD⟩, hS.F ht⟩) hS.2.2 dL_dump_14
    · replace hF := (if_neg c_7).symm.trans hF
      rw [exN, if_neg c_7] at hcl
      exact absurd hF (by simp)
  · subst ho_5
    replace hF := ox_r hF
    refine lv_i2l (v := r2.toInt64) hx hb dL_dump_7 rfl ?_
    obtain ⟨h_6, hF⟩ := gd_some hF
    refine va_last (f := u.2) hx hb hK hP hD hS 0 2 rfl rfl (inb_in h_6) dL_dump_8 (fun H locs hP hD hS => ?_)
    replace hP : va_P D vwCl (CO cI cR cJ ca qa wa (u1, (vp_updL u.2 (0 : Int32).toNatClampNeg r2.toInt64))) H := hP
    replace hD : va_D A (CO cI cR cJ ca qa wa (u1, (vp_updL u.2 (0 : Int32).toNatClampNeg r2.toInt64))) := hD
    refine lv_goto (tgt := 15) hx hb dL_dump_9 (by decide) ?_
    refine lv_iconst (v := (0 : Int32)) hx hb dL_dump_15 (by decide +kernel) ?_
    cases hF
    refine W.widen (k := 1) (n := 6) (Nat.le_of_ble_eq_true rfl) (Nat.le_of_ble_eq_true rfl) ?_
    exact W.iret hx hb hr (fun t ht hW => ⟨⟨_, _, rfl, ⟨rfl, rfl⟩, by rw [ht]; exact hP, va_K.moved hW.alike hK, hD⟩, hS.F ht⟩) hS.2.2 dL_dump_16
