abbrev strNew (h : Nat) : va_W := [(h, .inr (1, [.null, .null, .null, .null, .null, .null, .null, .null, .null, .null, .null, .null, .int 0, .int 0, .int 0, .int 0]))]
abbrev GX (cI cR : ClassId) (ca : Nat → Nat) (f g : Nat → Option Nat) (mk : Nat → Int32) : va_W := [(ca 0, .inr (1, [.ref (ca 1), .ref (ca 2), .ref (ca 3), .ref (ca 4), .ref (ca 5), .ref (ca 6), .ref (ca 7), .ref (ca 8), .ref (ca 9), .ref (ca 10), .ref (ca 11), .ref (ca 12), .int 0, .int 10000, .int 0, .int 0])), (ca 1, .inl (cR, 32, .inr (.inr (.inr (.inr f))))), (ca 2, .inl (cI, 32, .inl (fun _ => 0))), (ca 3, .inl (cI, 32, .inl mk)), (ca 4, .inl (cI, 8, .inl (fun _ => 0))), (ca 5, .inl (cI, 8, .inl (fun _ => 0))), (ca 6, .inl (cI, 8, .inl (fun _ => 0))), (ca 7, .inl (cR, 16, .inr (.inr (.inr (.inr g))))), (ca 8, .inl (cI, 16, .inl (fun _ => 0))), (ca 9, .inl (cI, 16, .inl (fun _ => 0))), (ca 10, .inl (cI, 4, .inl (fun _ => 0))), (ca 11, .inl (cI, 4, .inl (fun _ => 0))), (ca 12, .inl (cI, 4, .inl (fun _ => 0)))]
def rowsN (cI : ClassId) (qa : Nat → Nat) (n : Nat) : va_W := (List.range (4 * n)).map (fun k => (qa k, rcell cI qa (fun _ => rz) k))
theorem rowsN_get {cI : ClassId} {qa : Nat → Nat} {n k : Nat} (h : k < 4 * n) : (rowsN cI qa n)[k]? = some (qa k, rcell cI qa (fun _ => rz) k) := by
  unfold rowsN
  rw [List.getElem?_map, List.getElem?_range h]; rfl
def qx (qa : Nat → Nat) (n q o a b k : Nat) : Nat := if k = 4 * n then q else if k = 4 * n + 1 then o else if k = 4 * n + 2 then a else if k = 4 * n + 3 then b else qa k
theorem qx_lo {qa : Nat → Nat} {n q o a b k : Nat} (h : k < 4 * n) : qx qa n q o a b k = qa k := by
  unfold qx
  rw [if_neg (by omega), if_neg (by omega), if_neg (by omega), if_neg (by omega)]
theorem qx_0 {qa : Nat → Nat} {n q o a b : Nat} : qx qa n q o a b (4 * n) = q := by unfold qx; rw [if_pos rfl]
theorem qx_1 {qa : Nat → Nat} {n q o a b : Nat} : qx qa n q o a b (4 * n + 1) = o := by unfold qx; rw [if_neg (by omega), if_pos rfl]
theorem qx_2 {qa : Nat → Nat} {n q o a b : Nat} : qx qa n q o a b (4 * n + 2) = a := by unfold qx; rw [if_neg (by omega), if_neg (by omega), if_pos rfl]
theorem qx_3 {qa : Nat → Nat} {n q o a b : Nat} : qx qa n q o a b (4 * n + 3) = b := by unfold qx; rw [if_neg (by omega), if_neg (by omega), if_neg (by omega), if_pos rfl]
theorem rowsN_s {cI : ClassId} {qa : Nat → Nat} {n q o a b : Nat} : rowsN cI qa n ++ RW cI q o a b rz = rowsN cI (qx qa n q o a b) (n + 1) := by
  unfold rowsN
  rw [show 4 * (n + 1) = 4 * n + 1 + 1 + 1 + 1 by omega, List.range_succ, List.range_succ, List.range_succ, List.range_succ, List.map_append, List.map_append, List.map_append, List.map_append, List.append_assoc, List.append_assoc, List.append_assoc]
  congr 1
  · refine List.map_congr_left (fun k hk => ?_)
    have hk' : k < 4 * n := List.mem_range.mp hk
    rw [qx_lo hk']
    unfold rcell
    by_cases h0 : k % 4 = 0
    · rw [if_pos h0, if_pos h0, qx_lo (show k + 1 < 4 * n by omega), qx_lo (show k + 2 < 4 * n by omega), qx_lo (show k + 3 < 4 * n by omega)]
    · rw [if_neg h0, if_neg h0]
  · show _ = [(qx qa n q o a b (4 * n), rcell cI (qx qa n q o a b) (fun _ => rz) (4 * n)), (qx qa n q o a b (4 * n + 1), rcell cI (qx qa n q o a b) (fun _ => rz) (4 * n + 1)), (qx qa n q o a b (4 * n + 2), rcell cI (qx qa n q o a b) (fun _ => rz) (4 * n + 2)), (qx qa n q o a b (4 * n + 3), rcell cI (qx qa n q o a b) (fun _ => rz) (4 * n + 3))]
    rw [rc0, rc1, rc2, rc3, qx_0, qx_1, qx_2, qx_3]
abbrev nestW : Cond := .methodLinkNest RX1 62 yX0_init RX1
abbrev PREP (D : va_G) (h sz : Nat) (U : State) : Prop := PRE D [] (strNew h) sz U ∧ va_AO RX0 U ∧ va_Nw nestW U
set_option maxHeartbeats 4000000 in
set_option maxRecDepth 100000 in
theorem mk_row {p : Program} {l : Launch} {e : Env} {s : State} {m : MethodId} {args : Array Value} {below : List Frame} {meth : Method} {c : Code} {A : Nat → Prop} {D : va_G} {cI cR : ClassId} {ws : va_W} {H : Heap} {locs : List Loc} {ls : Array Slot} {Q : State → Prop} {rest : List Value} {cells slots pc : Nat} {lv : List (Nat × Value)} (hx : p.tables.exec = Jvm.exec) (hb : c.code = cX1_init) (hml : c.maxLocals = 2) (hown : s.vm.findClass RX1 = some m.cls) (hts : ∀ w ∈ wsX1_init, w.before args s = true) (hNw : va_Nw nestW s) (hK : va_K D vwCl (TY cI cR) s) (hA : ∀ q : Nat, s.heap.size ≤ q → A q) (hl : lv_has ls 2 lv) (hP : va_P D vwCl ws H) (hD : va_D A ws) (hS : va_S A s.heap H locs) (hc : cells + 4 ≤ 204) (hs : slots + 29 ≤ 1572) (hroom : ∀ q : Nat, 2 * (F0 m (pc + 4) ls (Value.ref q :: Value.ref q :: rest)).monitorRoom + ((Value.ref q :: rest).map fun v => v.category).sum ≤ 8) (hd1 : decode cX1_init pc = .ok (.new 9, 3)) (hd2 : decode cX1_init (pc + 3) = .ok (.dup, 1)) (hd3 : decode cX1_init (pc + 3 + 1) = .ok (.invokespecial 62, 3))
    (kk : ∀ (q o a b : Nat) (H : Heap) (locs : List Loc), va_P D vwCl (ws ++ RW cI q o a b rz) H → va_D A (ws ++ RW cI q o a b rz) → va_S A s.heap H locs → W p l e ({ frames := 2, cells := 204, slots := 1572, locals := 32 } : Room) s m args below meth c H locs (cells + 4) (slots + 29) Q (F0 m (pc + 7) ls (.ref q :: rest))) : W p l e ({ frames := 2, cells := 204, slots := 1572, locals := 32 } : Room) s m args below meth c H locs cells slots Q (F0 m pc ls rest) := by
  refine va_new (ci := 0) (fs := [.null, .null, .null, .int 0, .int 0]) (C := RX0) (T := TX0) (N := 5) hx hb hts (fun w h => cwc w (in_X0 w h)) tyX0 tyX0_ok hown (hts _ (cwc _ mw_18)) (hts _ (cwc _ mw_19)) (hts _ (cwc _ mw_2)) hK hP hD hS hA rfl (fun j hj => by rcases (show j = 0 ∨ j = 1 ∨ j = 2 ∨ j = 3 ∨ j = 4 by omega) with rfl | rfl | rfl | rfl | rfl <;> rfl) (show cells + 1 ≤ 204 by omega) (show slots + 5 ≤ 1572 by omega) hd1 (fun q H hP hD hS => ?_)
  refine lv_dup hx hb hd2 rfl ?_
  have hF := sb_F (sb_tail ws (rowNew q)) hD hS hA
  refine va_callv (va_runIN (As := []) (rest := .ref q :: rest) ⟨hx, hb, hml, hown, hts⟩ (c_Row_init l D cI cR q H.size) ⟨va_cnB 0 hts (gAll cwc mw_21) rfl rfl rfl hNw (hts _ (cwc _ mw_2)) (by decide +kernel) ⟨(Nat.le_of_ble_eq_true rfl), (Nat.le_of_ble_eq_true rfl)⟩, rfl, (hts _ (cwc _ mw_20))⟩ (kp_S hK hP hD (sb_tail ws (rowNew q))) rfl rfl hl.1 rfl (hroom q) hd3 ⟨show cells + 1 + 3 ≤ 204 by omega, show slots + 5 + 24 ≤ 1572 by omega⟩) hS (fun q _ h => hF q h) hF (fun u9 t H1 locs1 ht hvm hw hB hz hk hS1 => ?_)
  obtain ⟨o, a, b, hP1, hK1, hD1⟩ := hB
  rw [ht] at hP1
  obtain ⟨hP, hD⟩ := jn_new hP hD hk hF hP1 hD1
  exact kk q o a b H1 locs1 hP hD hS1
set_option maxHeartbeats 4000000 in
set_option maxRecDepth 100000 in
theorem c_P_init (l : Launch) (D : va_G) (h sz : Nat) : Met l yX1_init wsX1_init ({ frames := 2, cells := 204, slots := 1572, locals := 32 } : Room) (va_Pc [.ref h] (PREP D h sz)) (va_Qv (fun _ : Unit => True) (fun _ t => ∃ (cI cR : ClassId) (ca qa : Nat → Nat) (f g : Nat → Option Nat) (mk : Nat → Int32), ca 0 = h ∧ (∀ k, k < 32 → f k = some (qa (4 * k))) ∧ (∀ k, k < 16 → g k = some (qa (4 * (32 + k)))) ∧ (∀ k, k < 32 → mk k = -1) ∧ va_P D vwCl (GX cI cR ca f g mk ++ rowsN cI qa 48) t.heap ∧ va_K D vwCl (TY cI cR) t ∧ va_D (va_A (strNew h) sz) (GX cI cR ca f g mk ++ rowsN cI qa 48)) (va_A (strNew h) sz)) 204 1572 (va_A (strNew h) sz) := by
  refine Met.ofW (cc := cX1_init) (maxL := 2) (ret := none) (by decide) rfl ?_
  intro p e s m args below meth c s₁ B hml hv
  obtain ⟨rfl, ⟨hsz, hP, hK, hD0⟩, hAO, hNw⟩ := hv
  have hx := B.exec
  have hb := B.bytes
  have hr := B.returns
  have hts := atoms_spec (ws := wsX1_init) B.pre
  have hown : s.vm.findClass RX1 = some m.cls := findClass_of_methodNamed B.named
  have hlocks := B.notSynchronized
  have hin9 : meth.name = "<init>" := (name_of_methodNamed B.named B.method).1
  subst hsz
  have hD := hD0.self (sz := s.heap.size)
  generalize hAe : va_A (strNew h) s.heap.size = A at hD ⊢
  have hA : ∀ q : Nat, s.heap.size ≤ q → A q := fun q h => by rw [← hAe]; exact Or.inr h
  have hS : va_S A s.heap s.heap [] := va_S.rf
  replace hP : va_P D vwCl (strNew h) s.heap := hP
  have hl := lv_entry ([.ref h]) (n := 2) (Nat.le_of_ble_eq_true rfl)
  rw [lg_entry_eq]
  generalize (lg_sl ([.ref h]) ++ List.replicate (2 - (lg_sl ([.ref h])).length) Slot.unset).toArray = ls at hl ⊢
  replace hl : lv_has ls 2 [(0, .ref h)] := hl
  refine (?_ : ∀ (H : Heap) (locs : List Loc), va_P D vwCl (strNew h) H → va_S A s.heap H locs → W p l e _ s m _ below meth c H locs 0 0 _ (F0 m 0 ls [])) s.heap [] hP hS
  intro H locs hP hS
  refine lv_aload_n hx hb dX1_init_0 rfl (lv_at hl 0 rfl) ?_
  refine W.objInit hx hb hown (hts _ (cwc _ mw_15)) (hts _ (cwc _ mw_16)) (hts _ (cwc _ mw_17)) rfl (by rw [hml]; exact hl.1) rfl dX1_init_1 (Nat.le_of_ble_eq_true rfl) (Nat.le_of_ble_eq_true rfl) ?_
  refine W.eq (g2 := F0 m 4 ls []) rfl ?_
  refine lv_aload_n hx hb dX1_init_4 rfl (lv_at hl 0 rfl) ?_
  refine lv_bipush (v := (32 : Int32)) hx hb dX1_init_5 (by decide +kernel) ?_
  refine va_newq (C := "PacketStores$Row") (N' := 32) (n := (32 : Int32)) hx hb hown (hts _ (cwc _ mw_18)) hAO hK hP hD hS hA (by decide +kernel) (by decide +kernel) (by decide +kernel) (Nat.le_of_ble_eq_true rfl) (Nat.le_of_ble_eq_true rfl) dX1_init_7 (fun q1 cR H hK9 hP hD hS => ?_)
  replace hK : va_K D vwCl [(cR, .object "PacketStores$Row")] s := hK9
  replace hP : va_P D vwCl [(h, .inr (1, [.null, .null, .null, .null, .null, .null, .null, .null, .null, .null, .null, .null, .int 0, .int 0, .int 0, .int 0])), (q1, .inl (cR, 32, .inr (.inr (.inr (.inr (fun _ => none))))))] H := hP
  replace hD : va_D A [(h, .inr (1, [.null, .null, .null, .null, .null, .null, .null, .null, .null, .null, .null, .null, .int 0, .int 0, .int 0, .int 0])), (q1, .inl (cR, 32, .inr (.inr (.inr (.inr (fun _ => none))))))] := hD
  refine (?_ : W p l e _ s m _ below meth c H _ 1 32 _ _)
  refine va_putF (D := D) (ci := 1) (v := .ref q1) (ty := .array (.object "PacketStores$Row")) (C := RX1) (T := TX1) (N := 16) hx hb hts (fun w h => cwc w (in_X1 w h)) tyX1 tyX1_ok nmX1 hown hK hP hD hS 0 rfl rfl 0 (by decide) (hts _ (cwc _ mw_35)) (fun _ h9 => h9) rfl hin9 rfl (by decide +kernel) rfl rfl (Nat.le_of_ble_eq_true rfl) dX1_init_10 (fun H locs hP hD hS => ?_)
  replace hP : va_P D vwCl [(h, .inr (1, [.ref q1, .null, .null, .null, .null, .null, .null, .null, .null, .null, .null, .null, .int 0, .int 0, .int 0, .int 0])), (q1, .inl (cR, 32, .inr (.inr (.inr (.inr (fun _ => none))))))] H := hP
  replace hD : va_D A [(h, .inr (1, [.ref q1, .null, .null, .null, .null, .null, .null, .null, .null, .null, .null, .null, .int 0, .int 0, .int 0, .int 0])), (q1, .inl (cR, 32, .inr (.inr (.inr (.inr (fun _ => none))))))] := hD
  refine lv_aload_n hx hb dX1_init_13 rfl (lv_at hl 0 rfl) ?_
  refine lv_bipush (v := (32 : Int32)) hx hb dX1_init_14 (by decide +kernel) ?_
  refine va_newa (atype := .int) (N' := 32) (a0 := (32, .inl (fun _ => 0))) (ty := .int) (n := (32 : Int32)) hx hb (hts _ (cwc _ mw_34)) rfl hK hP hD hS hA (fun _ => rfl) (by decide +kernel) (by decide +kernel) (by decide +kernel) (Nat.le_of_ble_eq_true rfl) (Nat.le_of_ble_eq_true rfl) dX1_init_16 (fun q2 cI H hK9 hP hD hS => ?_)
  replace hK : va_K D vwCl [(cR, .object "PacketStores$Row"), (cI, .int)] s := hK9
  replace hP : va_P D vwCl [(h, .inr (1, [.ref q1, .null, .null, .null, .null, .null, .null, .null, .null, .null, .null, .null, .int 0, .int 0, .int 0, .int 0])), (q1, .inl (cR, 32, .inr (.inr (.inr (.inr (fun _ => none)))))), (q2, .inl (cI, 32, .inl (fun _ => 0)))] H := hP
  replace hD : va_D A [(h, .inr (1, [.ref q1, .null, .null, .null, .null, .null, .null, .null, .null, .null, .null, .null, .int 0, .int 0, .int 0, .int 0])), (q1, .inl (cR, 32, .inr (.inr (.inr (.inr (fun _ => none)))))), (q2, .inl (cI, 32, .inl (fun _ => 0)))] := hD
  refine (?_ : W p l e _ s m _ below meth c H _ 2 64 _ _)
  refine va_putF (D := D) (ci := 1) (v := .ref q2) (ty := .array .int) (C := RX1) (T := TX1) (N := 16) hx hb hts (fun w h => cwc w (in_X1 w h)) tyX1 tyX1_ok nmX1 hown hK hP hD hS 0 rfl rfl 1 (by decide) (hts _ (cwc _ mw_36)) (fun _ h9 => h9) rfl hin9 rfl (by decide +kernel) rfl rfl (Nat.le_of_ble_eq_true rfl) dX1_init_18 (fun H locs hP hD hS => ?_)
  replace hP : va_P D vwCl [(h, .inr (1, [.ref q1, .ref q2, .null, .null, .null, .null, .null, .null, .null, .null, .null, .null, .int 0, .int 0, .int 0, .int 0])), (q1, .inl (cR, 32, .inr (.inr (.inr (.inr (fun _ => none)))))), (q2, .inl (cI, 32, .inl (fun _ => 0)))] H := hP
  replace hD : va_D A [(h, .inr (1, [.ref q1, .ref q2, .null, .null, .null, .null, .null, .null, .null, .null, .null, .null, .int 0, .int 0, .int 0, .int 0])), (q1, .inl (cR, 32, .inr (.inr (.inr (.inr (fun _ => none)))))), (q2, .inl (cI, 32, .inl (fun _ => 0)))] := hD
  refine lv_aload_n hx hb dX1_init_21 rfl (lv_at hl 0 rfl) ?_
  refine lv_bipush (v := (32 : Int32)) hx hb dX1_init_22 (by decide +kernel) ?_
  refine va_newa (atype := .int) (N' := 32) (a0 := (32, .inl (fun _ => 0))) (ty := .int) (n := (32 : Int32)) hx hb (hts _ (cwc _ mw_34)) rfl hK hP hD hS hA (fun _ => rfl) (by decide +kernel) (by decide +kernel) (by decide +kernel) (Nat.le_of_ble_eq_true rfl) (Nat.le_of_ble_eq_true rfl) dX1_init_24 (fun q3 cA3 H hK9 hP hD hS => ?_)
  have hcA : cA3 = cI := kuniqI hK9 (i := 2) (j := 1) rfl rfl
  rw [hcA] at hP hD
  clear hK9
  clear hcA
  replace hP : va_P D vwCl [(h, .inr (1, [.ref q1, .ref q2, .null, .null, .null, .null, .null, .null, .null, .null, .null, .null, .int 0, .int 0, .int 0, .int 0])), (q1, .inl (cR, 32, .inr (.inr (.inr (.inr (fun _ => none)))))), (q2, .inl (cI, 32, .inl (fun _ => 0))), (q3, .inl (cI, 32, .inl (fun _ => 0)))] H := hP
  replace hD : va_D A [(h, .inr (1, [.ref q1, .ref q2, .null, .null, .null, .null, .null, .null, .null, .null, .null, .null, .int 0, .int 0, .int 0, .int 0])), (q1, .inl (cR, 32, .inr (.inr (.inr (.inr (fun _ => none)))))), (q2, .inl (cI, 32, .inl (fun _ => 0))), (q3, .inl (cI, 32, .inl (fun _ => 0)))] := hD
  refine (?_ : W p l e _ s m _ below meth c H _ 3 96 _ _)
  refine va_putF (D := D) (ci := 1) (v := .ref q3) (ty := .array .int) (C := RX1) (T := TX1) (N := 16) hx hb hts (fun w h => cwc w (in_X1 w h)) tyX1 tyX1_ok nmX1 hown hK hP hD hS 0 rfl rfl 2 (by decide) (hts _ (cwc _ mw_37)) (fun _ h9 => h9) rfl hin9 rfl (by decide +kernel) rfl rfl (Nat.le_of_ble_eq_true rfl) dX1_init_26 (fun H locs hP hD hS => ?_)
  replace hP : va_P D vwCl [(h, .inr (1, [.ref q1, .ref q2, .ref q3, .null, .null, .null, .null, .null, .null, .null, .null, .null, .int 0, .int 0, .int 0, .int 0])), (q1, .inl (cR, 32, .inr (.inr (.inr (.inr (fun _ => none)))))), (q2, .inl (cI, 32, .inl (fun _ => 0))), (q3, .inl (cI, 32, .inl (fun _ => 0)))] H := hP
  replace hD : va_D A [(h, .inr (1, [.ref q1, .ref q2, .ref q3, .null, .null, .null, .null, .null, .null, .null, .null, .null, .int 0, .int 0, .int 0, .int 0])), (q1, .inl (cR, 32, .inr (.inr (.inr (.inr (fun _ => none)))))), (q2, .inl (cI, 32, .inl (fun _ => 0))), (q3, .inl (cI, 32, .inl (fun _ => 0)))] := hD
  refine lv_aload_n hx hb dX1_init_29 rfl (lv_at hl 0 rfl) ?_
  refine lv_bipush (v := (8 : Int32)) hx hb dX1_init_30 (by decide +kernel) ?_
  refine va_newa (atype := .int) (N' := 8) (a0 := (8, .inl (fun _ => 0))) (ty := .int) (n := (8 : Int32)) hx hb (hts _ (cwc _ mw_34)) rfl hK hP hD hS hA (fun _ => rfl) (by decide +kernel) (by decide +kernel) (by decide +kernel) (Nat.le_of_ble_eq_true rfl) (Nat.le_of_ble_eq_true rfl) dX1_init_32 (fun q4 cA4 H hK9 hP hD hS => ?_)
  have hcA : cA4 = cI := kuniqI hK9 (i := 2) (j := 1) rfl rfl
  rw [hcA] at hP hD
  clear hK9
  clear hcA
  replace hP : va_P D vwCl [(h, .inr (1, [.ref q1, .ref q2, .ref q3, .null, .null, .null, .null, .null, .null, .null, .null, .null, .int 0, .int 0, .int 0, .int 0])), (q1, .inl (cR, 32, .inr (.inr (.inr (.inr (fun _ => none)))))), (q2, .inl (cI, 32, .inl (fun _ => 0))), (q3, .inl (cI, 32, .inl (fun _ => 0))), (q4, .inl (cI, 8, .inl (fun _ => 0)))] H := hP
  replace hD : va_D A [(h, .inr (1, [.ref q1, .ref q2, .ref q3, .null, .null, .null, .null, .null, .null, .null, .null, .null, .int 0, .int 0, .int 0, .int 0])), (q1, .inl (cR, 32, .inr (.inr (.inr (.inr (fun _ => none)))))), (q2, .inl (cI, 32, .inl (fun _ => 0))), (q3, .inl (cI, 32, .inl (fun _ => 0))), (q4, .inl (cI, 8, .inl (fun _ => 0)))] := hD
  refine (?_ : W p l e _ s m _ below meth c H _ 4 104 _ _)
  refine va_putF (D := D) (ci := 1) (v := .ref q4) (ty := .array .int) (C := RX1) (T := TX1) (N := 16) hx hb hts (fun w h => cwc w (in_X1 w h)) tyX1 tyX1_ok nmX1 hown hK hP hD hS 0 rfl rfl 3 (by decide) (hts _ (cwc _ mw_38)) (fun _ h9 => h9) rfl hin9 rfl (by decide +kernel) rfl rfl (Nat.le_of_ble_eq_true rfl) dX1_init_34 (fun H locs hP hD hS => ?_)
  replace hP : va_P D vwCl [(h, .inr (1, [.ref q1, .ref q2, .ref q3, .ref q4, .null, .null, .null, .null, .null, .null, .null, .null, .int 0, .int 0, .int 0, .int 0])), (q1, .inl (cR, 32, .inr (.inr (.inr (.inr (fun _ => none)))))), (q2, .inl (cI, 32, .inl (fun _ => 0))), (q3, .inl (cI, 32, .inl (fun _ => 0))), (q4, .inl (cI, 8, .inl (fun _ => 0)))] H := hP
  replace hD : va_D A [(h, .inr (1, [.ref q1, .ref q2, .ref q3, .ref q4, .null, .null, .null, .null, .null, .null, .null, .null, .int 0, .int 0, .int 0, .int 0])), (q1, .inl (cR, 32, .inr (.inr (.inr (.inr (fun _ => none)))))), (q2, .inl (cI, 32, .inl (fun _ => 0))), (q3, .inl (cI, 32, .inl (fun _ => 0))), (q4, .inl (cI, 8, .inl (fun _ => 0)))] := hD
  refine lv_aload_n hx hb dX1_init_37 rfl (lv_at hl 0 rfl) ?_
  refine lv_bipush (v := (8 : Int32)) hx hb dX1_init_38 (by decide +kernel) ?_
  refine va_newa (atype := .int) (N' := 8) (a0 := (8, .inl (fun _ => 0))) (ty := .int) (n := (8 : Int32)) hx hb (hts _ (cwc _ mw_34)) rfl hK hP hD hS hA (fun _ => rfl) (by decide +kernel) (by decide +kernel) (by decide +kernel) (Nat.le_of_ble_eq_true rfl) (Nat.le_of_ble_eq_true rfl) dX1_init_40 (fun q5 cA5 H hK9 hP hD hS => ?_)
  have hcA : cA5 = cI := kuniqI hK9 (i := 2) (j := 1) rfl rfl
  rw [hcA] at hP hD
  clear hK9
  clear hcA
  replace hP : va_P D vwCl [(h, .inr (1, [.ref q1, .ref q2, .ref q3, .ref q4, .null, .null, .null, .null, .null, .null, .null, .null, .int 0, .int 0, .int 0, .int 0])), (q1, .inl (cR, 32, .inr (.inr (.inr (.inr (fun _ => none)))))), (q2, .inl (cI, 32, .inl (fun _ => 0))), (q3, .inl (cI, 32, .inl (fun _ => 0))), (q4, .inl (cI, 8, .inl (fun _ => 0))), (q5, .inl (cI, 8, .inl (fun _ => 0)))] H := hP
  replace hD : va_D A [(h, .inr (1, [.ref q1, .ref q2, .ref q3, .ref q4, .null, .null, .null, .null, .null, .null, .null, .null, .int 0, .int 0, .int 0, .int 0])), (q1, .inl (cR, 32, .inr (.inr (.inr (.inr (fun _ => none)))))), (q2, .inl (cI, 32, .inl (fun _ => 0))), (q3, .inl (cI, 32, .inl (fun _ => 0))), (q4, .inl (cI, 8, .inl (fun _ => 0))), (q5, .inl (cI, 8, .inl (fun _ => 0)))] := hD
  refine (?_ : W p l e _ s m _ below meth c H _ 5 112 _ _)
  refine va_putF (D := D) (ci := 1) (v := .ref q5) (ty := .array .int) (C := RX1) (T := TX1) (N := 16) hx hb hts (fun w h => cwc w (in_X1 w h)) tyX1 tyX1_ok nmX1 hown hK hP hD hS 0 rfl rfl 4 (by decide) (hts _ (cwc _ mw_39)) (fun _ h9 => h9) rfl hin9 rfl (by decide +kernel) rfl rfl (Nat.le_of_ble_eq_true rfl) dX1_init_42 (fun H locs hP hD hS => ?_)
  replace hP : va_P D vwCl [(h, .inr (1, [.ref q1, .ref q2, .ref q3, .ref q4, .ref q5, .null, .null, .null, .null, .null, .null, .null, .int 0, .int 0, .int 0, .int 0])), (q1, .inl (cR, 32, .inr (.inr (.inr (.inr (fun _ => none)))))), (q2, .inl (cI, 32, .inl (fun _ => 0))), (q3, .inl (cI, 32, .inl (fun _ => 0))), (q4, .inl (cI, 8, .inl (fun _ => 0))), (q5, .inl (cI, 8, .inl (fun _ => 0)))] H := hP
  replace hD : va_D A [(h, .inr (1, [.ref q1, .ref q2, .ref q3, .ref q4, .ref q5, .null, .null, .null, .null, .null, .null, .null, .int 0, .int 0, .int 0, .int 0])), (q1, .inl (cR, 32, .inr (.inr (.inr (.inr (fun _ => none)))))), (q2, .inl (cI, 32, .inl (fun _ => 0))), (q3, .inl (cI, 32, .inl (fun _ => 0))), (q4, .inl (cI, 8, .inl (fun _ => 0))), (q5, .inl (cI, 8, .inl (fun _ => 0)))] := hD
  refine lv_aload_n hx hb dX1_init_45 rfl (lv_at hl 0 rfl) ?_
  refine lv_bipush (v := (8 : Int32)) hx hb dX1_init_46 (by decide +kernel) ?_
  refine va_newa (atype := .int) (N' := 8) (a0 := (8, .inl (fun _ => 0))) (ty := .int) (n := (8 : Int32)) hx hb (hts _ (cwc _ mw_34)) rfl hK hP hD hS hA (fun _ => rfl) (by decide +kernel) (by decide +kernel) (by decide +kernel) (Nat.le_of_ble_eq_true rfl) (Nat.le_of_ble_eq_true rfl) dX1_init_48 (fun q6 cA6 H hK9 hP hD hS => ?_)
  have hcA : cA6 = cI := kuniqI hK9 (i := 2) (j := 1) rfl rfl
  rw [hcA] at hP hD
  clear hK9
  clear hcA
  replace hP : va_P D vwCl [(h, .inr (1, [.ref q1, .ref q2, .ref q3, .ref q4, .ref q5, .null, .null, .null, .null, .null, .null, .null, .int 0, .int 0, .int 0, .int 0])), (q1, .inl (cR, 32, .inr (.inr (.inr (.inr (fun _ => none)))))), (q2, .inl (cI, 32, .inl (fun _ => 0))), (q3, .inl (cI, 32, .inl (fun _ => 0))), (q4, .inl (cI, 8, .inl (fun _ => 0))), (q5, .inl (cI, 8, .inl (fun _ => 0))), (q6, .inl (cI, 8, .inl (fun _ => 0)))] H := hP
  replace hD : va_D A [(h, .inr (1, [.ref q1, .ref q2, .ref q3, .ref q4, .ref q5, .null, .null, .null, .null, .null, .null, .null, .int 0, .int 0, .int 0, .int 0])), (q1, .inl (cR, 32, .inr (.inr (.inr (.inr (fun _ => none)))))), (q2, .inl (cI, 32, .inl (fun _ => 0))), (q3, .inl (cI, 32, .inl (fun _ => 0))), (q4, .inl (cI, 8, .inl (fun _ => 0))), (q5, .inl (cI, 8, .inl (fun _ => 0))), (q6, .inl (cI, 8, .inl (fun _ => 0)))] := hD
  refine (?_ : W p l e _ s m _ below meth c H _ 6 120 _ _)
  refine va_putF (D := D) (ci := 1) (v := .ref q6) (ty := .array .int) (C := RX1) (T := TX1) (N := 16) hx hb hts (fun w h => cwc w (in_X1 w h)) tyX1 tyX1_ok nmX1 hown hK hP hD hS 0 rfl rfl 5 (by decide) (hts _ (cwc _ mw_40)) (fun _ h9 => h9) rfl hin9 rfl (by decide +kernel) rfl rfl (Nat.le_of_ble_eq_true rfl) dX1_init_50 (fun H locs hP hD hS => ?_)
  replace hP : va_P D vwCl [(h, .inr (1, [.ref q1, .ref q2, .ref q3, .ref q4, .ref q5, .ref q6, .null, .null, .null, .null, .null, .null, .int 0, .int 0, .int 0, .int 0])), (q1, .inl (cR, 32, .inr (.inr (.inr (.inr (fun _ => none)))))), (q2, .inl (cI, 32, .inl (fun _ => 0))), (q3, .inl (cI, 32, .inl (fun _ => 0))), (q4, .inl (cI, 8, .inl (fun _ => 0))), (q5, .inl (cI, 8, .inl (fun _ => 0))), (q6, .inl (cI, 8, .inl (fun _ => 0)))] H := hP
  replace hD : va_D A [(h, .inr (1, [.ref q1, .ref q2, .ref q3, .ref q4, .ref q5, .ref q6, .null, .null, .null, .null, .null, .null, .int 0, .int 0, .int 0, .int 0])), (q1, .inl (cR, 32, .inr (.inr (.inr (.inr (fun _ => none)))))), (q2, .inl (cI, 32, .inl (fun _ => 0))), (q3, .inl (cI, 32, .inl (fun _ => 0))), (q4, .inl (cI, 8, .inl (fun _ => 0))), (q5, .inl (cI, 8, .inl (fun _ => 0))), (q6, .inl (cI, 8, .inl (fun _ => 0)))] := hD
  refine lv_aload_n hx hb dX1_init_53 rfl (lv_at hl 0 rfl) ?_
  refine lv_bipush (v := (16 : Int32)) hx hb dX1_init_54 (by decide +kernel) ?_
  refine va_newq (C := "PacketStores$Row") (N' := 16) (n := (16 : Int32)) hx hb hown (hts _ (cwc _ mw_18)) hAO hK hP hD hS hA (by decide +kernel) (by decide +kernel) (by decide +kernel) (Nat.le_of_ble_eq_true rfl) (Nat.le_of_ble_eq_true rfl) dX1_init_56 (fun q7 cA7 H hK9 hP hD hS => ?_)
  have hcA : cA7 = cR := kuniqR hK9 (i := 2) (j := 0) rfl rfl
  rw [hcA] at hP hD
  clear hK9
  clear hcA
  replace hP : va_P D vwCl [(h, .inr (1, [.ref q1, .ref q2, .ref q3, .ref q4, .ref q5, .ref q6, .null, .null, .null, .null, .null, .null, .int 0, .int 0, .int 0, .int 0])), (q1, .inl (cR, 32, .inr (.inr (.inr (.inr (fun _ => none)))))), (q2, .inl (cI, 32, .inl (fun _ => 0))), (q3, .inl (cI, 32, .inl (fun _ => 0))), (q4, .inl (cI, 8, .inl (fun _ => 0))), (q5, .inl (cI, 8, .inl (fun _ => 0))), (q6, .inl (cI, 8, .inl (fun _ => 0))), (q7, .inl (cR, 16, .inr (.inr (.inr (.inr (fun _ => none))))))] H := hP
  replace hD : va_D A [(h, .inr (1, [.ref q1, .ref q2, .ref q3, .ref q4, .ref q5, .ref q6, .null, .null, .null, .null, .null, .null, .int 0, .int 0, .int 0, .int 0])), (q1, .inl (cR, 32, .inr (.inr (.inr (.inr (fun _ => none)))))), (q2, .inl (cI, 32, .inl (fun _ => 0))), (q3, .inl (cI, 32, .inl (fun _ => 0))), (q4, .inl (cI, 8, .inl (fun _ => 0))), (q5, .inl (cI, 8, .inl (fun _ => 0))), (q6, .inl (cI, 8, .inl (fun _ => 0))), (q7, .inl (cR, 16, .inr (.inr (.inr (.inr (fun _ => none))))))] := hD
  refine (?_ : W p l e _ s m _ below meth c H _ 7 136 _ _)
  refine va_putF (D := D) (ci := 1) (v := .ref q7) (ty := .array (.object "PacketStores$Row")) (C := RX1) (T := TX1) (N := 16) hx hb hts (fun w h => cwc w (in_X1 w h)) tyX1 tyX1_ok nmX1 hown hK hP hD hS 0 rfl rfl 6 (by decide) (hts _ (cwc _ mw_41)) (fun _ h9 => h9) rfl hin9 rfl (by decide +kernel) rfl rfl (Nat.le_of_ble_eq_true rfl) dX1_init_59 (fun H locs hP hD hS => ?_)
  replace hP : va_P D vwCl [(h, .inr (1, [.ref q1, .ref q2, .ref q3, .ref q4, .ref q5, .ref q6, .ref q7, .null, .null, .null, .null, .null, .int 0, .int 0, .int 0, .int 0])), (q1, .inl (cR, 32, .inr (.inr (.inr (.inr (fun _ => none)))))), (q2, .inl (cI, 32, .inl (fun _ => 0))), (q3, .inl (cI, 32, .inl (fun _ => 0))), (q4, .inl (cI, 8, .inl (fun _ => 0))), (q5, .inl (cI, 8, .inl (fun _ => 0))), (q6, .inl (cI, 8, .inl (fun _ => 0))), (q7, .inl (cR, 16, .inr (.inr (.inr (.inr (fun _ => none))))))] H := hP
  replace hD : va_D A [(h, .inr (1, [.ref q1, .ref q2, .ref q3, .ref q4, .ref q5, .ref q6, .ref q7, .null, .null, .null, .null, .null, .int 0, .int 0, .int 0, .int 0])), (q1, .inl (cR, 32, .inr (.inr (.inr (.inr (fun _ => none)))))), (q2, .inl (cI, 32, .inl (fun _ => 0))), (q3, .inl (cI, 32, .inl (fun _ => 0))), (q4, .inl (cI, 8, .inl (fun _ => 0))), (q5, .inl (cI, 8, .inl (fun _ => 0))), (q6, .inl (cI, 8, .inl (fun _ => 0))), (q7, .inl (cR, 16, .inr (.inr (.inr (.inr (fun _ => none))))))] := hD
  refine lv_aload_n hx hb dX1_init_62 rfl (lv_at hl 0 rfl) ?_
  refine lv_bipush (v := (16 : Int32)) hx hb dX1_init_63 (by decide +kernel) ?_
  refine va_newa (atype := .int) (N' := 16) (a0 := (16, .inl (fun _ => 0))) (ty := .int) (n := (16 : Int32)) hx hb (hts _ (cwc _ mw_34)) rfl hK hP hD hS hA (fun _ => rfl) (by decide +kernel) (by decide +kernel) (by decide +kernel) (Nat.le_of_ble_eq_true rfl) (Nat.le_of_ble_eq_true rfl) dX1_init_65 (fun q8 cA8 H hK9 hP hD hS => ?_)
  have hcA : cA8 = cI := kuniqI hK9 (i := 2) (j := 1) rfl rfl
  rw [hcA] at hP hD
  clear hK9
  clear hcA
  replace hP : va_P D vwCl [(h, .inr (1, [.ref q1, .ref q2, .ref q3, .ref q4, .ref q5, .ref q6, .ref q7, .null, .null, .null, .null, .null, .int 0, .int 0, .int 0, .int 0])), (q1, .inl (cR, 32, .inr (.inr (.inr (.inr (fun _ => none)))))), (q2, .inl (cI, 32, .inl (fun _ => 0))), (q3, .inl (cI, 32, .inl (fun _ => 0))), (q4, .inl (cI, 8, .inl (fun _ => 0))), (q5, .inl (cI, 8, .inl (fun _ => 0))), (q6, .inl (cI, 8, .inl (fun _ => 0))), (q7, .inl (cR, 16, .inr (.inr (.inr (.inr (fun _ => none)))))), (q8, .inl (cI, 16, .inl (fun _ => 0)))] H := hP
  replace hD : va_D A [(h, .inr (1, [.ref q1, .ref q2, .ref q3, .ref q4, .ref q5, .ref q6, .ref q7, .null, .null, .null, .null, .null, .int 0, .int 0, .int 0, .int 0])), (q1, .inl (cR, 32, .inr (.inr (.inr (.inr (fun _ => none)))))), (q2, .inl (cI, 32, .inl (fun _ => 0))), (q3, .inl (cI, 32, .inl (fun _ => 0))), (q4, .inl (cI, 8, .inl (fun _ => 0))), (q5, .inl (cI, 8, .inl (fun _ => 0))), (q6, .inl (cI, 8, .inl (fun _ => 0))), (q7, .inl (cR, 16, .inr (.inr (.inr (.inr (fun _ => none)))))), (q8, .inl (cI, 16, .inl (fun _ => 0)))] := hD
  refine (?_ : W p l e _ s m _ below meth c H _ 8 152 _ _)
  refine va_putF (D := D) (ci := 1) (v := .ref q8) (ty := .array .int) (C := RX1) (T := TX1) (N := 16) hx hb hts (fun w h => cwc w (in_X1 w h)) tyX1 tyX1_ok nmX1 hown hK hP hD hS 0 rfl rfl 7 (by decide) (hts _ (cwc _ mw_42)) (fun _ h9 => h9) rfl hin9 rfl (by decide +kernel) rfl rfl (Nat.le_of_ble_eq_true rfl) dX1_init_67 (fun H locs hP hD hS => ?_)
  replace hP : va_P D vwCl [(h, .inr (1, [.ref q1, .ref q2, .ref q3, .ref q4, .ref q5, .ref q6, .ref q7, .ref q8, .null, .null, .null, .null, .int 0, .int 0, .int 0, .int 0])), (q1, .inl (cR, 32, .inr (.inr (.inr (.inr (fun _ => none)))))), (q2, .inl (cI, 32, .inl (fun _ => 0))), (q3, .inl (cI, 32, .inl (fun _ => 0))), (q4, .inl (cI, 8, .inl (fun _ => 0))), (q5, .inl (cI, 8, .inl (fun _ => 0))), (q6, .inl (cI, 8, .inl (fun _ => 0))), (q7, .inl (cR, 16, .inr (.inr (.inr (.inr (fun _ => none)))))), (q8, .inl (cI, 16, .inl (fun _ => 0)))] H := hP
  replace hD : va_D A [(h, .inr (1, [.ref q1, .ref q2, .ref q3, .ref q4, .ref q5, .ref q6, .ref q7, .ref q8, .null, .null, .null, .null, .int 0, .int 0, .int 0, .int 0])), (q1, .inl (cR, 32, .inr (.inr (.inr (.inr (fun _ => none)))))), (q2, .inl (cI, 32, .inl (fun _ => 0))), (q3, .inl (cI, 32, .inl (fun _ => 0))), (q4, .inl (cI, 8, .inl (fun _ => 0))), (q5, .inl (cI, 8, .inl (fun _ => 0))), (q6, .inl (cI, 8, .inl (fun _ => 0))), (q7, .inl (cR, 16, .inr (.inr (.inr (.inr (fun _ => none)))))), (q8, .inl (cI, 16, .inl (fun _ => 0)))] := hD
  refine lv_aload_n hx hb dX1_init_70 rfl (lv_at hl 0 rfl) ?_
  refine lv_bipush (v := (16 : Int32)) hx hb dX1_init_71 (by decide +kernel) ?_
  refine va_newa (atype := .int) (N' := 16) (a0 := (16, .inl (fun _ => 0))) (ty := .int) (n := (16 : Int32)) hx hb (hts _ (cwc _ mw_34)) rfl hK hP hD hS hA (fun _ => rfl) (by decide +kernel) (by decide +kernel) (by decide +kernel) (Nat.le_of_ble_eq_true rfl) (Nat.le_of_ble_eq_true rfl) dX1_init_73 (fun q9 cA9 H hK9 hP hD hS => ?_)
  have hcA : cA9 = cI := kuniqI hK9 (i := 2) (j := 1) rfl rfl
  rw [hcA] at hP hD
  clear hK9
  clear hcA
  replace hP : va_P D vwCl [(h, .inr (1, [.ref q1, .ref q2, .ref q3, .ref q4, .ref q5, .ref q6, .ref q7, .ref q8, .null, .null, .null, .null, .int 0, .int 0, .int 0, .int 0])), (q1, .inl (cR, 32, .inr (.inr (.inr (.inr (fun _ => none)))))), (q2, .inl (cI, 32, .inl (fun _ => 0))), (q3, .inl (cI, 32, .inl (fun _ => 0))), (q4, .inl (cI, 8, .inl (fun _ => 0))), (q5, .inl (cI, 8, .inl (fun _ => 0))), (q6, .inl (cI, 8, .inl (fun _ => 0))), (q7, .inl (cR, 16, .inr (.inr (.inr (.inr (fun _ => none)))))), (q8, .inl (cI, 16, .inl (fun _ => 0))), (q9, .inl (cI, 16, .inl (fun _ => 0)))] H := hP
  replace hD : va_D A [(h, .inr (1, [.ref q1, .ref q2, .ref q3, .ref q4, .ref q5, .ref q6, .ref q7, .ref q8, .null, .null, .null, .null, .int 0, .int 0, .int 0, .int 0])), (q1, .inl (cR, 32, .inr (.inr (.inr (.inr (fun _ => none)))))), (q2, .inl (cI, 32, .inl (fun _ => 0))), (q3, .inl (cI, 32, .inl (fun _ => 0))), (q4, .inl (cI, 8, .inl (fun _ => 0))), (q5, .inl (cI, 8, .inl (fun _ => 0))), (q6, .inl (cI, 8, .inl (fun _ => 0))), (q7, .inl (cR, 16, .inr (.inr (.inr (.inr (fun _ => none)))))), (q8, .inl (cI, 16, .inl (fun _ => 0))), (q9, .inl (cI, 16, .inl (fun _ => 0)))] := hD
  refine (?_ : W p l e _ s m _ below meth c H _ 9 168 _ _)
  refine va_putF (D := D) (ci := 1) (v := .ref q9) (ty := .array .int) (C := RX1) (T := TX1) (N := 16) hx hb hts (fun w h => cwc w (in_X1 w h)) tyX1 tyX1_ok nmX1 hown hK hP hD hS 0 rfl rfl 8 (by decide) (hts _ (cwc _ mw_43)) (fun _ h9 => h9) rfl hin9 rfl (by decide +kernel) rfl rfl (Nat.le_of_ble_eq_true rfl) dX1_init_75 (fun H locs hP hD hS => ?_)
  replace hP : va_P D vwCl [(h, .inr (1, [.ref q1, .ref q2, .ref q3, .ref q4, .ref q5, .ref q6, .ref q7, .ref q8, .ref q9, .null, .null, .null, .int 0, .int 0, .int 0, .int 0])), (q1, .inl (cR, 32, .inr (.inr (.inr (.inr (fun _ => none)))))), (q2, .inl (cI, 32, .inl (fun _ => 0))), (q3, .inl (cI, 32, .inl (fun _ => 0))), (q4, .inl (cI, 8, .inl (fun _ => 0))), (q5, .inl (cI, 8, .inl (fun _ => 0))), (q6, .inl (cI, 8, .inl (fun _ => 0))), (q7, .inl (cR, 16, .inr (.inr (.inr (.inr (fun _ => none)))))), (q8, .inl (cI, 16, .inl (fun _ => 0))), (q9, .inl (cI, 16, .inl (fun _ => 0)))] H := hP
  replace hD : va_D A [(h, .inr (1, [.ref q1, .ref q2, .ref q3, .ref q4, .ref q5, .ref q6, .ref q7, .ref q8, .ref q9, .null, .null, .null, .int 0, .int 0, .int 0, .int 0])), (q1, .inl (cR, 32, .inr (.inr (.inr (.inr (fun _ => none)))))), (q2, .inl (cI, 32, .inl (fun _ => 0))), (q3, .inl (cI, 32, .inl (fun _ => 0))), (q4, .inl (cI, 8, .inl (fun _ => 0))), (q5, .inl (cI, 8, .inl (fun _ => 0))), (q6, .inl (cI, 8, .inl (fun _ => 0))), (q7, .inl (cR, 16, .inr (.inr (.inr (.inr (fun _ => none)))))), (q8, .inl (cI, 16, .inl (fun _ => 0))), (q9, .inl (cI, 16, .inl (fun _ => 0)))] := hD
  refine lv_aload_n hx hb dX1_init_78 rfl (lv_at hl 0 rfl) ?_
  refine lv_iconst (v := (4 : Int32)) hx hb dX1_init_79 (by decide +kernel) ?_
  refine va_newa (atype := .int) (N' := 4) (a0 := (4, .inl (fun _ => 0))) (ty := .int) (n := (4 : Int32)) hx hb (hts _ (cwc _ mw_34)) rfl hK hP hD hS hA (fun _ => rfl) (by decide +kernel) (by decide +kernel) (by decide +kernel) (Nat.le_of_ble_eq_true rfl) (Nat.le_of_ble_eq_true rfl) dX1_init_80 (fun q10 cA10 H hK9 hP hD hS => ?_)
  have hcA : cA10 = cI := kuniqI hK9 (i := 2) (j := 1) rfl rfl
  rw [hcA] at hP hD
  clear hK9
  clear hcA
  replace hP : va_P D vwCl [(h, .inr (1, [.ref q1, .ref q2, .ref q3, .ref q4, .ref q5, .ref q6, .ref q7, .ref q8, .ref q9, .null, .null, .null, .int 0, .int 0, .int 0, .int 0])), (q1, .inl (cR, 32, .inr (.inr (.inr (.inr (fun _ => none)))))), (q2, .inl (cI, 32, .inl (fun _ => 0))), (q3, .inl (cI, 32, .inl (fun _ => 0))), (q4, .inl (cI, 8, .inl (fun _ => 0))), (q5, .inl (cI, 8, .inl (fun _ => 0))), (q6, .inl (cI, 8, .inl (fun _ => 0))), (q7, .inl (cR, 16, .inr (.inr (.inr (.inr (fun _ => none)))))), (q8, .inl (cI, 16, .inl (fun _ => 0))), (q9, .inl (cI, 16, .inl (fun _ => 0))), (q10, .inl (cI, 4, .inl (fun _ => 0)))] H := hP
  replace hD : va_D A [(h, .inr (1, [.ref q1, .ref q2, .ref q3, .ref q4, .ref q5, .ref q6, .ref q7, .ref q8, .ref q9, .null, .null, .null, .int 0, .int 0, .int 0, .int 0])), (q1, .inl (cR, 32, .inr (.inr (.inr (.inr (fun _ => none)))))), (q2, .inl (cI, 32, .inl (fun _ => 0))), (q3, .inl (cI, 32, .inl (fun _ => 0))), (q4, .inl (cI, 8, .inl (fun _ => 0))), (q5, .inl (cI, 8, .inl (fun _ => 0))), (q6, .inl (cI, 8, .inl (fun _ => 0))), (q7, .inl (cR, 16, .inr (.inr (.inr (.inr (fun _ => none)))))), (q8, .inl (cI, 16, .inl (fun _ => 0))), (q9, .inl (cI, 16, .inl (fun _ => 0))), (q10, .inl (cI, 4, .inl (fun _ => 0)))] := hD
  refine (?_ : W p l e _ s m _ below meth c H _ 10 172 _ _)
  refine va_putF (D := D) (ci := 1) (v := .ref q10) (ty := .array .int) (C := RX1) (T := TX1) (N := 16) hx hb hts (fun w h => cwc w (in_X1 w h)) tyX1 tyX1_ok nmX1 hown hK hP hD hS 0 rfl rfl 9 (by decide) (hts _ (cwc _ mw_44)) (fun _ h9 => h9) rfl hin9 rfl (by decide +kernel) rfl rfl (Nat.le_of_ble_eq_true rfl) dX1_init_82 (fun H locs hP hD hS => ?_)
  replace hP : va_P D vwCl [(h, .inr (1, [.ref q1, .ref q2, .ref q3, .ref q4, .ref q5, .ref q6, .ref q7, .ref q8, .ref q9, .ref q10, .null, .null, .int 0, .int 0, .int 0, .int 0])), (q1, .inl (cR, 32, .inr (.inr (.inr (.inr (fun _ => none)))))), (q2, .inl (cI, 32, .inl (fun _ => 0))), (q3, .inl (cI, 32, .inl (fun _ => 0))), (q4, .inl (cI, 8, .inl (fun _ => 0))), (q5, .inl (cI, 8, .inl (fun _ => 0))), (q6, .inl (cI, 8, .inl (fun _ => 0))), (q7, .inl (cR, 16, .inr (.inr (.inr (.inr (fun _ => none)))))), (q8, .inl (cI, 16, .inl (fun _ => 0))), (q9, .inl (cI, 16, .inl (fun _ => 0))), (q10, .inl (cI, 4, .inl (fun _ => 0)))] H := hP
  replace hD : va_D A [(h, .inr (1, [.ref q1, .ref q2, .ref q3, .ref q4, .ref q5, .ref q6, .ref q7, .ref q8, .ref q9, .ref q10, .null, .null, .int 0, .int 0, .int 0, .int 0])), (q1, .inl (cR, 32, .inr (.inr (.inr (.inr (fun _ => none)))))), (q2, .inl (cI, 32, .inl (fun _ => 0))), (q3, .inl (cI, 32, .inl (fun _ => 0))), (q4, .inl (cI, 8, .inl (fun _ => 0))), (q5, .inl (cI, 8, .inl (fun _ => 0))), (q6, .inl (cI, 8, .inl (fun _ => 0))), (q7, .inl (cR, 16, .inr (.inr (.inr (.inr (fun _ => none)))))), (q8, .inl (cI, 16, .inl (fun _ => 0))), (q9, .inl (cI, 16, .inl (fun _ => 0))), (q10, .inl (cI, 4, .inl (fun _ => 0)))] := hD
  refine lv_aload_n hx hb dX1_init_85 rfl (lv_at hl 0 rfl) ?_
  refine lv_iconst (v := (4 : Int32)) hx hb dX1_init_86 (by decide +kernel) ?_
  refine va_newa (atype := .int) (N' := 4) (a0 := (4, .inl (fun _ => 0))) (ty := .int) (n := (4 : Int32)) hx hb (hts _ (cwc _ mw_34)) rfl hK hP hD hS hA (fun _ => rfl) (by decide +kernel) (by decide +kernel) (by decide +kernel) (Nat.le_of_ble_eq_true rfl) (Nat.le_of_ble_eq_true rfl) dX1_init_87 (fun q11 cA11 H hK9 hP hD hS => ?_)
  have hcA : cA11 = cI := kuniqI hK9 (i := 2) (j := 1) rfl rfl
  rw [hcA] at hP hD
  clear hK9
  clear hcA
  replace hP : va_P D vwCl [(h, .inr (1, [.ref q1, .ref q2, .ref q3, .ref q4, .ref q5, .ref q6, .ref q7, .ref q8, .ref q9, .ref q10, .null, .null, .int 0, .int 0, .int 0, .int 0])), (q1, .inl (cR, 32, .inr (.inr (.inr (.inr (fun _ => none)))))), (q2, .inl (cI, 32, .inl (fun _ => 0))), (q3, .inl (cI, 32, .inl (fun _ => 0))), (q4, .inl (cI, 8, .inl (fun _ => 0))), (q5, .inl (cI, 8, .inl (fun _ => 0))), (q6, .inl (cI, 8, .inl (fun _ => 0))), (q7, .inl (cR, 16, .inr (.inr (.inr (.inr (fun _ => none)))))), (q8, .inl (cI, 16, .inl (fun _ => 0))), (q9, .inl (cI, 16, .inl (fun _ => 0))), (q10, .inl (cI, 4, .inl (fun _ => 0))), (q11, .inl (cI, 4, .inl (fun _ => 0)))] H := hP
  replace hD : va_D A [(h, .inr (1, [.ref q1, .ref q2, .ref q3, .ref q4, .ref q5, .ref q6, .ref q7, .ref q8, .ref q9, .ref q10, .null, .null, .int 0, .int 0, .int 0, .int 0])), (q1, .inl (cR, 32, .inr (.inr (.inr (.inr (fun _ => none)))))), (q2, .inl (cI, 32, .inl (fun _ => 0))), (q3, .inl (cI, 32, .inl (fun _ => 0))), (q4, .inl (cI, 8, .inl (fun _ => 0))), (q5, .inl (cI, 8, .inl (fun _ => 0))), (q6, .inl (cI, 8, .inl (fun _ => 0))), (q7, .inl (cR, 16, .inr (.inr (.inr (.inr (fun _ => none)))))), (q8, .inl (cI, 16, .inl (fun _ => 0))), (q9, .inl (cI, 16, .inl (fun _ => 0))), (q10, .inl (cI, 4, .inl (fun _ => 0))), (q11, .inl (cI, 4, .inl (fun _ => 0)))] := hD
  refine (?_ : W p l e _ s m _ below meth c H _ 11 176 _ _)
  refine va_putF (D := D) (ci := 1) (v := .ref q11) (ty := .array .int) (C := RX1) (T := TX1) (N := 16) hx hb hts (fun w h => cwc w (in_X1 w h)) tyX1 tyX1_ok nmX1 hown hK hP hD hS 0 rfl rfl 10 (by decide) (hts _ (cwc _ mw_45)) (fun _ h9 => h9) rfl hin9 rfl (by decide +kernel) rfl rfl (Nat.le_of_ble_eq_true rfl) dX1_init_89 (fun H locs hP hD hS => ?_)
  replace hP : va_P D vwCl [(h, .inr (1, [.ref q1, .ref q2, .ref q3, .ref q4, .ref q5, .ref q6, .ref q7, .ref q8, .ref q9, .ref q10, .ref q11, .null, .int 0, .int 0, .int 0, .int 0])), (q1, .inl (cR, 32, .inr (.inr (.inr (.inr (fun _ => none)))))), (q2, .inl (cI, 32, .inl (fun _ => 0))), (q3, .inl (cI, 32, .inl (fun _ => 0))), (q4, .inl (cI, 8, .inl (fun _ => 0))), (q5, .inl (cI, 8, .inl (fun _ => 0))), (q6, .inl (cI, 8, .inl (fun _ => 0))), (q7, .inl (cR, 16, .inr (.inr (.inr (.inr (fun _ => none)))))), (q8, .inl (cI, 16, .inl (fun _ => 0))), (q9, .inl (cI, 16, .inl (fun _ => 0))), (q10, .inl (cI, 4, .inl (fun _ => 0))), (q11, .inl (cI, 4, .inl (fun _ => 0)))] H := hP
  replace hD : va_D A [(h, .inr (1, [.ref q1, .ref q2, .ref q3, .ref q4, .ref q5, .ref q6, .ref q7, .ref q8, .ref q9, .ref q10, .ref q11, .null, .int 0, .int 0, .int 0, .int 0])), (q1, .inl (cR, 32, .inr (.inr (.inr (.inr (fun _ => none)))))), (q2, .inl (cI, 32, .inl (fun _ => 0))), (q3, .inl (cI, 32, .inl (fun _ => 0))), (q4, .inl (cI, 8, .inl (fun _ => 0))), (q5, .inl (cI, 8, .inl (fun _ => 0))), (q6, .inl (cI, 8, .inl (fun _ => 0))), (q7, .inl (cR, 16, .inr (.inr (.inr (.inr (fun _ => none)))))), (q8, .inl (cI, 16, .inl (fun _ => 0))), (q9, .inl (cI, 16, .inl (fun _ => 0))), (q10, .inl (cI, 4, .inl (fun _ => 0))), (q11, .inl (cI, 4, .inl (fun _ => 0)))] := hD
  refine lv_aload_n hx hb dX1_init_92 rfl (lv_at hl 0 rfl) ?_
  refine lv_iconst (v := (4 : Int32)) hx hb dX1_init_93 (by decide +kernel) ?_
  refine va_newa (atype := .int) (N' := 4) (a0 := (4, .inl (fun _ => 0))) (ty := .int) (n := (4 : Int32)) hx hb (hts _ (cwc _ mw_34)) rfl hK hP hD hS hA (fun _ => rfl) (by decide +kernel) (by decide +kernel) (by decide +kernel) (Nat.le_of_ble_eq_true rfl) (Nat.le_of_ble_eq_true rfl) dX1_init_94 (fun q12 cA12 H hK9 hP hD hS => ?_)
  have hcA : cA12 = cI := kuniqI hK9 (i := 2) (j := 1) rfl rfl
  rw [hcA] at hP hD
  clear hK9
  clear hcA
  replace hP : va_P D vwCl [(h, .inr (1, [.ref q1, .ref q2, .ref q3, .ref q4, .ref q5, .ref q6, .ref q7, .ref q8, .ref q9, .ref q10, .ref q11, .null, .int 0, .int 0, .int 0, .int 0])), (q1, .inl (cR, 32, .inr (.inr (.inr (.inr (fun _ => none)))))), (q2, .inl (cI, 32, .inl (fun _ => 0))), (q3, .inl (cI, 32, .inl (fun _ => 0))), (q4, .inl (cI, 8, .inl (fun _ => 0))), (q5, .inl (cI, 8, .inl (fun _ => 0))), (q6, .inl (cI, 8, .inl (fun _ => 0))), (q7, .inl (cR, 16, .inr (.inr (.inr (.inr (fun _ => none)))))), (q8, .inl (cI, 16, .inl (fun _ => 0))), (q9, .inl (cI, 16, .inl (fun _ => 0))), (q10, .inl (cI, 4, .inl (fun _ => 0))), (q11, .inl (cI, 4, .inl (fun _ => 0))), (q12, .inl (cI, 4, .inl (fun _ => 0)))] H := hP
  replace hD : va_D A [(h, .inr (1, [.ref q1, .ref q2, .ref q3, .ref q4, .ref q5, .ref q6, .ref q7, .ref q8, .ref q9, .ref q10, .ref q11, .null, .int 0, .int 0, .int 0, .int 0])), (q1, .inl (cR, 32, .inr (.inr (.inr (.inr (fun _ => none)))))), (q2, .inl (cI, 32, .inl (fun _ => 0))), (q3, .inl (cI, 32, .inl (fun _ => 0))), (q4, .inl (cI, 8, .inl (fun _ => 0))), (q5, .inl (cI, 8, .inl (fun _ => 0))), (q6, .inl (cI, 8, .inl (fun _ => 0))), (q7, .inl (cR, 16, .inr (.inr (.inr (.inr (fun _ => none)))))), (q8, .inl (cI, 16, .inl (fun _ => 0))), (q9, .inl (cI, 16, .inl (fun _ => 0))), (q10, .inl (cI, 4, .inl (fun _ => 0))), (q11, .inl (cI, 4, .inl (fun _ => 0))), (q12, .inl (cI, 4, .inl (fun _ => 0)))] := hD
  refine (?_ : W p l e _ s m _ below meth c H _ 12 180 _ _)
  refine va_putF (D := D) (ci := 1) (v := .ref q12) (ty := .array .int) (C := RX1) (T := TX1) (N := 16) hx hb hts (fun w h => cwc w (in_X1 w h)) tyX1 tyX1_ok nmX1 hown hK hP hD hS 0 rfl rfl 11 (by decide) (hts _ (cwc _ mw_46)) (fun _ h9 => h9) rfl hin9 rfl (by decide +kernel) rfl rfl (Nat.le_of_ble_eq_true rfl) dX1_init_96 (fun H locs hP hD hS => ?_)
  replace hP : va_P D vwCl [(h, .inr (1, [.ref q1, .ref q2, .ref q3, .ref q4, .ref q5, .ref q6, .ref q7, .ref q8, .ref q9, .ref q10, .ref q11, .ref q12, .int 0, .int 0, .int 0, .int 0])), (q1, .inl (cR, 32, .inr (.inr (.inr (.inr (fun _ => none)))))), (q2, .inl (cI, 32, .inl (fun _ => 0))), (q3, .inl (cI, 32, .inl (fun _ => 0))), (q4, .inl (cI, 8, .inl (fun _ => 0))), (q5, .inl (cI, 8, .inl (fun _ => 0))), (q6, .inl (cI, 8, .inl (fun _ => 0))), (q7, .inl (cR, 16, .inr (.inr (.inr (.inr (fun _ => none)))))), (q8, .inl (cI, 16, .inl (fun _ => 0))), (q9, .inl (cI, 16, .inl (fun _ => 0))), (q10, .inl (cI, 4, .inl (fun _ => 0))), (q11, .inl (cI, 4, .inl (fun _ => 0))), (q12, .inl (cI, 4, .inl (fun _ => 0)))] H := hP
  replace hD : va_D A [(h, .inr (1, [.ref q1, .ref q2, .ref q3, .ref q4, .ref q5, .ref q6, .ref q7, .ref q8, .ref q9, .ref q10, .ref q11, .ref q12, .int 0, .int 0, .int 0, .int 0])), (q1, .inl (cR, 32, .inr (.inr (.inr (.inr (fun _ => none)))))), (q2, .inl (cI, 32, .inl (fun _ => 0))), (q3, .inl (cI, 32, .inl (fun _ => 0))), (q4, .inl (cI, 8, .inl (fun _ => 0))), (q5, .inl (cI, 8, .inl (fun _ => 0))), (q6, .inl (cI, 8, .inl (fun _ => 0))), (q7, .inl (cR, 16, .inr (.inr (.inr (.inr (fun _ => none)))))), (q8, .inl (cI, 16, .inl (fun _ => 0))), (q9, .inl (cI, 16, .inl (fun _ => 0))), (q10, .inl (cI, 4, .inl (fun _ => 0))), (q11, .inl (cI, 4, .inl (fun _ => 0))), (q12, .inl (cI, 4, .inl (fun _ => 0)))] := hD
  refine lv_aload_n hx hb dX1_init_99 rfl (lv_at hl 0 rfl) ?_
  refine lv_iconst (v := (0 : Int32)) hx hb dX1_init_100 (by decide +kernel) ?_
  refine va_put (D := D) (ci := 1) (v := .int (0 : Int32)) (ty := .int) (C := RX1) (T := TX1) (N := 16) hx hb hts (fun w h => cwc w (in_X1 w h)) tyX1 tyX1_ok nmX1 hown hK hP hD hS 0 rfl rfl 12 (by decide) (hts _ (cwc _ mw_47)) (fun _ h9 => h9) rfl (by decide +kernel) rfl rfl (Nat.le_of_ble_eq_true rfl) dX1_init_101 (fun H locs hP hD hS => ?_)
  replace hP : va_P D vwCl [(h, .inr (1, [.ref q1, .ref q2, .ref q3, .ref q4, .ref q5, .ref q6, .ref q7, .ref q8, .ref q9, .ref q10, .ref q11, .ref q12, .int (0 : Int32), .int 0, .int 0, .int 0])), (q1, .inl (cR, 32, .inr (.inr (.inr (.inr (fun _ => none)))))), (q2, .inl (cI, 32, .inl (fun _ => 0))), (q3, .inl (cI, 32, .inl (fun _ => 0))), (q4, .inl (cI, 8, .inl (fun _ => 0))), (q5, .inl (cI, 8, .inl (fun _ => 0))), (q6, .inl (cI, 8, .inl (fun _ => 0))), (q7, .inl (cR, 16, .inr (.inr (.inr (.inr (fun _ => none)))))), (q8, .inl (cI, 16, .inl (fun _ => 0))), (q9, .inl (cI, 16, .inl (fun _ => 0))), (q10, .inl (cI, 4, .inl (fun _ => 0))), (q11, .inl (cI, 4, .inl (fun _ => 0))), (q12, .inl (cI, 4, .inl (fun _ => 0)))] H := hP
  replace hD : va_D A [(h, .inr (1, [.ref q1, .ref q2, .ref q3, .ref q4, .ref q5, .ref q6, .ref q7, .ref q8, .ref q9, .ref q10, .ref q11, .ref q12, .int (0 : Int32), .int 0, .int 0, .int 0])), (q1, .inl (cR, 32, .inr (.inr (.inr (.inr (fun _ => none)))))), (q2, .inl (cI, 32, .inl (fun _ => 0))), (q3, .inl (cI, 32, .inl (fun _ => 0))), (q4, .inl (cI, 8, .inl (fun _ => 0))), (q5, .inl (cI, 8, .inl (fun _ => 0))), (q6, .inl (cI, 8, .inl (fun _ => 0))), (q7, .inl (cR, 16, .inr (.inr (.inr (.inr (fun _ => none)))))), (q8, .inl (cI, 16, .inl (fun _ => 0))), (q9, .inl (cI, 16, .inl (fun _ => 0))), (q10, .inl (cI, 4, .inl (fun _ => 0))), (q11, .inl (cI, 4, .inl (fun _ => 0))), (q12, .inl (cI, 4, .inl (fun _ => 0)))] := hD
  refine lv_aload_n hx hb dX1_init_104 rfl (lv_at hl 0 rfl) ?_
  refine lv_sipush (v := (10000 : Int32)) hx hb dX1_init_105 (by decide +kernel) ?_
  refine va_put (D := D) (ci := 1) (v := .int (10000 : Int32)) (ty := .int) (C := RX1) (T := TX1) (N := 16) hx hb hts (fun w h => cwc w (in_X1 w h)) tyX1 tyX1_ok nmX1 hown hK hP hD hS 0 rfl rfl 13 (by decide) (hts _ (cwc _ mw_48)) (fun _ h9 => h9) rfl (by decide +kernel) rfl rfl (Nat.le_of_ble_eq_true rfl) dX1_init_108 (fun H locs hP hD hS => ?_)
  replace hP : va_P D vwCl [(h, .inr (1, [.ref q1, .ref q2, .ref q3, .ref q4, .ref q5, .ref q6, .ref q7, .ref q8, .ref q9, .ref q10, .ref q11, .ref q12, .int (0 : Int32), .int (10000 : Int32), .int 0, .int 0])), (q1, .inl (cR, 32, .inr (.inr (.inr (.inr (fun _ => none)))))), (q2, .inl (cI, 32, .inl (fun _ => 0))), (q3, .inl (cI, 32, .inl (fun _ => 0))), (q4, .inl (cI, 8, .inl (fun _ => 0))), (q5, .inl (cI, 8, .inl (fun _ => 0))), (q6, .inl (cI, 8, .inl (fun _ => 0))), (q7, .inl (cR, 16, .inr (.inr (.inr (.inr (fun _ => none)))))), (q8, .inl (cI, 16, .inl (fun _ => 0))), (q9, .inl (cI, 16, .inl (fun _ => 0))), (q10, .inl (cI, 4, .inl (fun _ => 0))), (q11, .inl (cI, 4, .inl (fun _ => 0))), (q12, .inl (cI, 4, .inl (fun _ => 0)))] H := hP
  replace hD : va_D A [(h, .inr (1, [.ref q1, .ref q2, .ref q3, .ref q4, .ref q5, .ref q6, .ref q7, .ref q8, .ref q9, .ref q10, .ref q11, .ref q12, .int (0 : Int32), .int (10000 : Int32), .int 0, .int 0])), (q1, .inl (cR, 32, .inr (.inr (.inr (.inr (fun _ => none)))))), (q2, .inl (cI, 32, .inl (fun _ => 0))), (q3, .inl (cI, 32, .inl (fun _ => 0))), (q4, .inl (cI, 8, .inl (fun _ => 0))), (q5, .inl (cI, 8, .inl (fun _ => 0))), (q6, .inl (cI, 8, .inl (fun _ => 0))), (q7, .inl (cR, 16, .inr (.inr (.inr (.inr (fun _ => none)))))), (q8, .inl (cI, 16, .inl (fun _ => 0))), (q9, .inl (cI, 16, .inl (fun _ => 0))), (q10, .inl (cI, 4, .inl (fun _ => 0))), (q11, .inl (cI, 4, .inl (fun _ => 0))), (q12, .inl (cI, 4, .inl (fun _ => 0)))] := hD
  refine lv_aload_n hx hb dX1_init_111 rfl (lv_at hl 0 rfl) ?_
  refine lv_iconst (v := (0 : Int32)) hx hb dX1_init_112 (by decide +kernel) ?_
  refine va_put (D := D) (ci := 1) (v := .int (0 : Int32)) (ty := .int) (C := RX1) (T := TX1) (N := 16) hx hb hts (fun w h => cwc w (in_X1 w h)) tyX1 tyX1_ok nmX1 hown hK hP hD hS 0 rfl rfl 14 (by decide) (hts _ (cwc _ mw_49)) (fun _ h9 => h9) rfl (by decide +kernel) rfl rfl (Nat.le_of_ble_eq_true rfl) dX1_init_113 (fun H locs hP hD hS => ?_)
  replace hP : va_P D vwCl [(h, .inr (1, [.ref q1, .ref q2, .ref q3, .ref q4, .ref q5, .ref q6, .ref q7, .ref q8, .ref q9, .ref q10, .ref q11, .ref q12, .int (0 : Int32), .int (10000 : Int32), .int (0 : Int32), .int 0])), (q1, .inl (cR, 32, .inr (.inr (.inr (.inr (fun _ => none)))))), (q2, .inl (cI, 32, .inl (fun _ => 0))), (q3, .inl (cI, 32, .inl (fun _ => 0))), (q4, .inl (cI, 8, .inl (fun _ => 0))), (q5, .inl (cI, 8, .inl (fun _ => 0))), (q6, .inl (cI, 8, .inl (fun _ => 0))), (q7, .inl (cR, 16, .inr (.inr (.inr (.inr (fun _ => none)))))), (q8, .inl (cI, 16, .inl (fun _ => 0))), (q9, .inl (cI, 16, .inl (fun _ => 0))), (q10, .inl (cI, 4, .inl (fun _ => 0))), (q11, .inl (cI, 4, .inl (fun _ => 0))), (q12, .inl (cI, 4, .inl (fun _ => 0)))] H := hP
  replace hD : va_D A [(h, .inr (1, [.ref q1, .ref q2, .ref q3, .ref q4, .ref q5, .ref q6, .ref q7, .ref q8, .ref q9, .ref q10, .ref q11, .ref q12, .int (0 : Int32), .int (10000 : Int32), .int (0 : Int32), .int 0])), (q1, .inl (cR, 32, .inr (.inr (.inr (.inr (fun _ => none)))))), (q2, .inl (cI, 32, .inl (fun _ => 0))), (q3, .inl (cI, 32, .inl (fun _ => 0))), (q4, .inl (cI, 8, .inl (fun _ => 0))), (q5, .inl (cI, 8, .inl (fun _ => 0))), (q6, .inl (cI, 8, .inl (fun _ => 0))), (q7, .inl (cR, 16, .inr (.inr (.inr (.inr (fun _ => none)))))), (q8, .inl (cI, 16, .inl (fun _ => 0))), (q9, .inl (cI, 16, .inl (fun _ => 0))), (q10, .inl (cI, 4, .inl (fun _ => 0))), (q11, .inl (cI, 4, .inl (fun _ => 0))), (q12, .inl (cI, 4, .inl (fun _ => 0)))] := hD
  refine lv_aload_n hx hb dX1_init_116 rfl (lv_at hl 0 rfl) ?_
  refine lv_iconst (v := (0 : Int32)) hx hb dX1_init_117 (by decide +kernel) ?_
  refine va_put (D := D) (ci := 1) (v := .int (0 : Int32)) (ty := .int) (C := RX1) (T := TX1) (N := 16) hx hb hts (fun w h => cwc w (in_X1 w h)) tyX1 tyX1_ok nmX1 hown hK hP hD hS 0 rfl rfl 15 (by decide) (hts _ (cwc _ mw_50)) (fun _ h9 => h9) rfl (by decide +kernel) rfl rfl (Nat.le_of_ble_eq_true rfl) dX1_init_118 (fun H locs hP hD hS => ?_)
  replace hP : va_P D vwCl [(h, .inr (1, [.ref q1, .ref q2, .ref q3, .ref q4, .ref q5, .ref q6, .ref q7, .ref q8, .ref q9, .ref q10, .ref q11, .ref q12, .int (0 : Int32), .int (10000 : Int32), .int (0 : Int32), .int (0 : Int32)])), (q1, .inl (cR, 32, .inr (.inr (.inr (.inr (fun _ => none)))))), (q2, .inl (cI, 32, .inl (fun _ => 0))), (q3, .inl (cI, 32, .inl (fun _ => 0))), (q4, .inl (cI, 8, .inl (fun _ => 0))), (q5, .inl (cI, 8, .inl (fun _ => 0))), (q6, .inl (cI, 8, .inl (fun _ => 0))), (q7, .inl (cR, 16, .inr (.inr (.inr (.inr (fun _ => none)))))), (q8, .inl (cI, 16, .inl (fun _ => 0))), (q9, .inl (cI, 16, .inl (fun _ => 0))), (q10, .inl (cI, 4, .inl (fun _ => 0))), (q11, .inl (cI, 4, .inl (fun _ => 0))), (q12, .inl (cI, 4, .inl (fun _ => 0)))] H := hP
  replace hD : va_D A [(h, .inr (1, [.ref q1, .ref q2, .ref q3, .ref q4, .ref q5, .ref q6, .ref q7, .ref q8, .ref q9, .ref q10, .ref q11, .ref q12, .int (0 : Int32), .int (10000 : Int32), .int (0 : Int32), .int (0 : Int32)])), (q1, .inl (cR, 32, .inr (.inr (.inr (.inr (fun _ => none)))))), (q2, .inl (cI, 32, .inl (fun _ => 0))), (q3, .inl (cI, 32, .inl (fun _ => 0))), (q4, .inl (cI, 8, .inl (fun _ => 0))), (q5, .inl (cI, 8, .inl (fun _ => 0))), (q6, .inl (cI, 8, .inl (fun _ => 0))), (q7, .inl (cR, 16, .inr (.inr (.inr (.inr (fun _ => none)))))), (q8, .inl (cI, 16, .inl (fun _ => 0))), (q9, .inl (cI, 16, .inl (fun _ => 0))), (q10, .inl (cI, 4, .inl (fun _ => 0))), (q11, .inl (cI, 4, .inl (fun _ => 0))), (q12, .inl (cI, 4, .inl (fun _ => 0)))] := hD
  replace hK : va_K D vwCl (TY cI cR) s := hK.sub [1, 0] rfl
  replace hP : va_P D vwCl (GX cI cR (fun k => ([h, q1, q2, q3, q4, q5, q6, q7, q8, q9, q10, q11, q12] : List Nat).getD k 0) (fun _ => none) (fun _ => none) (fun _ => 0) ++ rowsN cI (fun _ => 0) 0) H := hP
  replace hD : va_D A (GX cI cR (fun k => ([h, q1, q2, q3, q4, q5, q6, q7, q8, q9, q10, q11, q12] : List Nat).getD k 0) (fun _ => none) (fun _ => none) (fun _ => 0) ++ rowsN cI (fun _ => 0) 0) := hD
  have hm0 : (fun k => ([h, q1, q2, q3, q4, q5, q6, q7, q8, q9, q10, q11, q12] : List Nat).getD k 0) 0 = h := rfl
  generalize (fun k => ([h, q1, q2, q3, q4, q5, q6, q7, q8, q9, q10, q11, q12] : List Nat).getD k 0) = ca at hP hD hm0
  rw [← hm0] at hl
  refine lv_iconst (v := (0 : Int32)) hx hb dX1_init_121 (by decide +kernel) ?_
  refine lv_istore_n (lv' := [(1, .int (nI 0)), (0, .ref (ca 0))]) hx hb dX1_init_122 rfl hl (by decide) rfl (fun ls hl => ?_)
  refine (?_ : ∀ (n i : Nat) (qa : Nat → Nat) (f : Nat → Option Nat) (mk : Nat → Int32) (H : Heap) (locs : List Loc) (ls : Array Slot), i + n = 32 → (∀ k, k < i → f k = some (qa (4 * k))) → (∀ k, k < i → mk k = -1) → lv_has ls 2 [(1, .int (nI i)), (0, .ref (ca 0))] → va_P D vwCl (GX cI cR ca f (fun _ => none) mk ++ rowsN cI qa i) H → va_D A (GX cI cR ca f (fun _ => none) mk ++ rowsN cI qa i) → va_S A s.heap H locs → W p l e ({ frames := 2, cells := 204, slots := 1572, locals := 32 } : Room) s m _ below meth c H locs (12 + 4 * i) (180 + 29 * i) _ (F0 m 123 ls [])) 32 0 (fun _ => 0) (fun _ => none) (fun _ => 0) H _ ls rfl (fun k hk => absurd hk (by omega)) (fun k hk => absurd hk (by omega)) hl hP hD hS
  clear hl hP hD hS
  intro n
  induction n with
  | zero =>
    intro i qa f mk H locs ls hi hf hmk hl hP hD hS
    have hi32 : i = 32 := by omega
    subst hi32
    refine lv_iload_n hx hb dX1_init_123 rfl (lv_at hl 0 rfl) ?_
    refine lv_bipush (v := (32 : Int32)) hx hb dX1_init_124 (by decide +kernel) ?_
    refine lv_icmp_ge (tgt := 155) hx hb dX1_init_126 (by decide) (fun c_1 => ?_) (fun c_1 => absurd (by decide +kernel) c_1)
    refine lv_iconst (v := (0 : Int32)) hx hb dX1_init_155 (by decide +kernel) ?_
    refine lv_istore_n (lv' := [(1, .int (nI 0)), (0, .ref (ca 0))]) hx hb dX1_init_156 rfl hl (by decide) rfl (fun ls hl => ?_)
    refine (?_ : ∀ (n i : Nat) (qa : Nat → Nat) (g : Nat → Option Nat) (H : Heap) (locs : List Loc) (ls : Array Slot), i + n = 16 → (∀ k, k < 32 → f k = some (qa (4 * k))) → (∀ k, k < i → g k = some (qa (4 * (32 + k)))) → lv_has ls 2 [(1, .int (nI i)), (0, .ref (ca 0))] → va_P D vwCl (GX cI cR ca f g mk ++ rowsN cI qa (32 + i)) H → va_D A (GX cI cR ca f g mk ++ rowsN cI qa (32 + i)) → va_S A s.heap H locs → W p l e ({ frames := 2, cells := 204, slots := 1572, locals := 32 } : Room) s m _ below meth c H locs (12 + 4 * (32 + i)) (180 + 29 * (32 + i)) _ (F0 m 157 ls [])) 16 0 qa (fun _ => none) H _ ls rfl hf (fun k hk => absurd hk (by omega)) hl hP hD hS
    clear hf hl hP hD hS c_1
    intro n
    induction n with
    | zero =>
      intro i qa g H locs ls hi hf hg hl hP hD hS
      have hi16 : i = 16 := by omega
      subst hi16
      refine lv_iload_n hx hb dX1_init_157 rfl (lv_at hl 0 rfl) ?_
      refine lv_bipush (v := (16 : Int32)) hx hb dX1_init_158 (by decide +kernel) ?_
      refine lv_icmp_ge (tgt := 182) hx hb dX1_init_160 (by decide) (fun c_1 => ?_) (fun c_1 => absurd (by decide +kernel) c_1)
      exact W.vret hx hb hr (fun t ht hW => ⟨⟨(), rfl, trivial, cI, cR, ca, qa, f, g, mk, hm0, hf, hg, hmk, by rw [ht]; exact hP, va_K.moved hW.alike hK, hD⟩, hS.F ht⟩) hS.2.2 dX1_init_182
    | succ n ih2 =>
      intro i qa g H locs ls hi hf hg hl hP hD hS
      refine lv_iload_n hx hb dX1_init_157 rfl (lv_at hl 0 rfl) ?_
      refine lv_bipush (v := (16 : Int32)) hx hb dX1_init_158 (by decide +kernel) ?_
      refine lv_icmp_ge (tgt := 182) hx hb dX1_init_160 (by decide) (fun c_1 => absurd c_1 (nI_ge (b := 16) (by omega) (by decide))) (fun c_1 => ?_)
      refine lv_aload_n hx hb dX1_init_163 rfl (lv_at hl 1 rfl) ?_
      refine va_get (D := D) (ci := 1) (v := .ref (ca 7)) (C := RX1) (T := TX1) (N := 16) hx hb hts (fun w h => cwc w (in_X1 w h)) hown hK hP 0 rfl rfl 6 (by decide) (hts _ (cwc _ mw_41)) (fun _ h9 => h9) rfl dX1_init_164 ?_
      refine lv_iload_n hx hb dX1_init_167 rfl (lv_at hl 0 rfl) ?_
      refine mk_row (pc := 168) (cI := cI) (cR := cR) hx hb hml hown hts hNw hK hA hl hP hD hS (by omega) (by omega) (fun q => lv_room (Nat.le_of_ble_eq_true rfl)) dX1_init_168 dX1_init_171 dX1_init_172 (fun q o a b H locs hP hD hS => ?_)
      rw [List.append_assoc, rowsN_s] at hP hD
      have hq0 : (GX cI cR ca f g mk ++ rowsN cI (qx qa (32 + i) q o a b) (32 + i + 1))[13 + 4 * (32 + i)]? = some (q, .inr (0, [.ref o, .ref a, .ref b, .int 0, .int 0])) := by
        rw [List.getElem?_append_right (show 13 ≤ 13 + 4 * (32 + i) by omega), show 13 + 4 * (32 + i) - (GX cI cR ca f g mk).length = 4 * (32 + i) from Nat.add_sub_cancel_left _ _, rowsN_get (by omega), rc0, qx_0, qx_1, qx_2, qx_3]
      refine va_astq (r := (RX0, TX0, 5)) hx hb hK hP hD hS 7 1 (13 + 4 * (32 + i)) 0 rfl rfl hq0 rfl (vp_in_nI (show i < 16 by omega) (by decide)) dX1_init_175 (fun H locs hP hD hS => ?_)
      rw [nI_clamp (show i < 2 ^ 31 by omega)] at hP hD
      replace hP : va_P D vwCl (GX cI cR ca f (va_up g i (some q)) mk ++ rowsN cI (qx qa (32 + i) q o a b) (32 + (i + 1))) H := hP
      replace hD : va_D A (GX cI cR ca f (va_up g i (some q)) mk ++ rowsN cI (qx qa (32 + i) q o a b) (32 + (i + 1))) := hD
      refine lv_iinc (v := nI (i + 1)) (lv' := [(1, .int (nI (i + 1))), (0, .ref (ca 0))]) hx hb dX1_init_176 hl (k := 0) rfl (nI_1 i) (by decide) rfl (fun ls hl => ?_)
      refine lv_goto (tgt := 157) hx hb dX1_init_179 (by decide) ?_
      refine W.widen (k := 12 + 4 * (32 + (i + 1))) (n := 180 + 29 * (32 + (i + 1))) (by omega) (by omega) ?_
      refine ih2 (i + 1) (qx qa (32 + i) q o a b) (va_up g i (some q)) H _ ls (by omega) (fun k hk => by rw [qx_lo (by omega)]; exact hf k hk) (fun k hk => ?_) hl hP hD hS
      by_cases e9 : k = i
      · rw [e9, va_up_self, qx_0]
      · rw [va_up_ne _ _ e9, qx_lo (by omega)]; exact hg k (by omega)
  | succ n ih =>
    intro i qa f mk H locs ls hi hf hmk hl hP hD hS
    refine lv_iload_n hx hb dX1_init_123 rfl (lv_at hl 0 rfl) ?_
    refine lv_bipush (v := (32 : Int32)) hx hb dX1_init_124 (by decide +kernel) ?_
    refine lv_icmp_ge (tgt := 155) hx hb dX1_init_126 (by decide) (fun c_1 => absurd c_1 (nI_ge (b := 32) (by omega) (by decide))) (fun c_1 => ?_)
    refine lv_aload_n hx hb dX1_init_129 rfl (lv_at hl 1 rfl) ?_
    refine va_get (D := D) (ci := 1) (v := .ref (ca 1)) (C := RX1) (T := TX1) (N := 16) hx hb hts (fun w h => cwc w (in_X1 w h)) hown hK hP 0 rfl rfl 0 (by decide) (hts _ (cwc _ mw_35)) (fun _ h9 => h9) rfl dX1_init_130 ?_
    refine lv_iload_n hx hb dX1_init_133 rfl (lv_at hl 0 rfl) ?_
    refine mk_row (pc := 134) (cI := cI) (cR := cR) hx hb hml hown hts hNw hK hA hl hP hD hS (by omega) (by omega) (fun q => lv_room (Nat.le_of_ble_eq_true rfl)) dX1_init_134 dX1_init_137 dX1_init_138 (fun q o a b H locs hP hD hS => ?_)
    rw [List.append_assoc, rowsN_s] at hP hD
    have hq0 : (GX cI cR ca f (fun _ => none) mk ++ rowsN cI (qx qa i q o a b) (i + 1))[13 + 4 * i]? = some (q, .inr (0, [.ref o, .ref a, .ref b, .int 0, .int 0])) := by
      rw [List.getElem?_append_right (show 13 ≤ 13 + 4 * i by omega), show 13 + 4 * i - (GX cI cR ca f (fun _ => none) mk).length = 4 * i from Nat.add_sub_cancel_left _ _, rowsN_get (by omega), rc0, qx_0, qx_1, qx_2, qx_3]
    refine va_astq (r := (RX0, TX0, 5)) hx hb hK hP hD hS 1 1 (13 + 4 * i) 0 rfl rfl hq0 rfl (vp_in_nI (show i < 32 by omega) (by decide)) dX1_init_141 (fun H locs hP hD hS => ?_)
    rw [nI_clamp (show i < 2 ^ 31 by omega)] at hP hD
    replace hP : va_P D vwCl (GX cI cR ca (va_up f i (some q)) (fun _ => none) mk ++ rowsN cI (qx qa i q o a b) (i + 1)) H := hP
    replace hD : va_D A (GX cI cR ca (va_up f i (some q)) (fun _ => none) mk ++ rowsN cI (qx qa i q o a b) (i + 1)) := hD
    refine lv_aload_n hx hb dX1_init_142 rfl (lv_at hl 1 rfl) ?_
    refine va_get (D := D) (ci := 1) (v := .ref (ca 3)) (C := RX1) (T := TX1) (N := 16) hx hb hts (fun w h => cwc w (in_X1 w h)) hown hK hP 0 rfl rfl 2 (by decide) (hts _ (cwc _ mw_37)) (fun _ h9 => h9) rfl dX1_init_143 ?_
    refine lv_iload_n hx hb dX1_init_146 rfl (lv_at hl 0 rfl) ?_
    refine lv_iconst (v := (-1 : Int32)) hx hb dX1_init_147 (by decide +kernel) ?_
    refine va_iast (f := mk) hx hb hK hP hD hS 3 0 rfl rfl (vp_in_nI (show i < 32 by omega) (by decide)) dX1_init_148 (fun H locs hP hD hS => ?_)
    rw [nI_clamp (show i < 2 ^ 31 by omega)] at hP hD
    replace hP : va_P D vwCl (GX cI cR ca (va_up f i (some q)) (fun _ => none) (upd mk i (-1)) ++ rowsN cI (qx qa i q o a b) (i + 1)) H := hP
    replace hD : va_D A (GX cI cR ca (va_up f i (some q)) (fun _ => none) (upd mk i (-1)) ++ rowsN cI (qx qa i q o a b) (i + 1)) := hD
    refine lv_iinc (v := nI (i + 1)) (lv' := [(1, .int (nI (i + 1))), (0, .ref (ca 0))]) hx hb dX1_init_149 hl (k := 0) rfl (nI_1 i) (by decide) rfl (fun ls hl => ?_)
    refine lv_goto (tgt := 123) hx hb dX1_init_152 (by decide) ?_
    refine W.widen (k := 12 + 4 * (i + 1)) (n := 180 + 29 * (i + 1)) (by omega) (by omega) ?_
    refine ih (i + 1) (qx qa i q o a b) (va_up f i (some q)) (upd mk i (-1)) H _ ls (by omega) (fun k hk => ?_) (fun k hk => ?_) hl hP hD hS
    · by_cases e9 : k = i
      · rw [e9, va_up_self, qx_0]
      · rw [va_up_ne _ _ e9, qx_lo (by omega)]; exact hf k (by omega)
    · show (if k = i then (-1 : Int32) else mk k) = -1
      by_cases e9 : k = i
      · rw [if_pos e9]
      · rw [if_neg e9]; exact hmk k (by omega)
