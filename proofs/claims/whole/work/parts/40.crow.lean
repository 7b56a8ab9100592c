theorem kuniqI {D : va_G} {cl : List vw_C} {tys : List (ClassId × FieldType)} {s : State} (hK : va_K D cl tys s) {i j : Nat} {c1 c2 : ClassId} (h1 : tys[i]? = some (c1, .int)) (h2 : tys[j]? = some (c2, .int)) : c1 = c2 := by
  have a : s.vm.findClass _ = some c1 := (hK.2 i _ h1).2
  have b : s.vm.findClass _ = some c2 := (hK.2 j _ h2).2
  exact Option.some.inj (a.symm.trans b)
theorem kuniqR {D : va_G} {cl : List vw_C} {tys : List (ClassId × FieldType)} {s : State} (hK : va_K D cl tys s) {i j : Nat} {c1 c2 : ClassId} {C : String} (h1 : tys[i]? = some (c1, .object C)) (h2 : tys[j]? = some (c2, .object C)) : c1 = c2 := by
  obtain ⟨-, -, -, -, -, a⟩ := (hK.2 i _ h1).2
  obtain ⟨-, -, -, -, -, b⟩ := (hK.2 j _ h2).2
  exact Option.some.inj (a.symm.trans b)
abbrev rz : RowS := (fun _ => 0, fun _ => 0, fun _ => 0, 0, 0)
/-- cells that a callee has made, beside the rest -/
theorem jn_new {D : va_G} {cl : List vw_C} {A : Nat → Prop} {ws wc w1 : va_W} {H H1 : Heap} (hP : va_P D cl (ws ++ wc) H) (hD : va_D A (ws ++ wc)) (hk : ∀ q : Nat, q < H.size → ¬ va_A wc H.size q → H1[q]? = H[q]?) (hF : ∀ q, va_A wc H.size q → A q) (hP1 : va_P D cl w1 H1) (hD1 : va_D (va_A wc H.size) w1) : va_P D cl (ws ++ w1) H1 ∧ va_D A (ws ++ w1) := by
  have hin : ∀ (k : Nat) (q : Nat × va_E), ws[k]? = some q → (ws ++ wc)[k]? = some q := fun k q h => by
    rw [List.getElem?_append_left (List.getElem?_eq_some_iff.mp h).1]; exact h
  have hap : ∀ (k : Nat) (q : Nat × va_E), ws[k]? = some q → ¬ va_A wc H.size q.1 := by
    intro k q h
    rintro (⟨j, e, hj⟩ | hsz)
    · have h2 : (ws ++ wc)[ws.length + j]? = some (q.1, e) := by
        rw [List.getElem?_append_right (by omega), Nat.add_sub_cancel_left]; exact hj
      have := hD.1 _ _ _ _ (hin k q h) h2 rfl
      have h3 := (List.getElem?_eq_some_iff.mp h).1
      omega
    · exact absurd (hP k q (hin k q h)).lt (Nat.not_lt.mpr hsz)
  have hsp : ∀ (k : Nat) (q : Nat × va_E), (ws ++ w1)[k]? = some q → (k < ws.length ∧ ws[k]? = some q) ∨ (ws.length ≤ k ∧ w1[k - ws.length]? = some q) := by
    intro k q h
    by_cases hl : k < ws.length
    · rw [List.getElem?_append_left hl] at h; exact Or.inl ⟨hl, h⟩
    · rw [List.getElem?_append_right (by omega)] at h; exact Or.inr ⟨by omega, h⟩
  refine ⟨fun k q h => ?_, fun i j p q hi hj e => ?_, fun k q h => ?_⟩
  · rcases hsp k q h with ⟨-, h⟩ | ⟨-, h⟩
    · have h1 := hP k q (hin k q h)
      exact h1.kept (hk q.1 h1.lt (hap k q h))
    · exact hP1 _ q h
  · rcases hsp i p hi with ⟨a1, hi⟩ | ⟨a1, hi⟩
    · rcases hsp j q hj with ⟨a2, hj⟩ | ⟨a2, hj⟩
      · exact hD.1 _ _ _ _ (hin i p hi) (hin j q hj) e
      · exact absurd (hD1.2 _ q hj) (by rw [← e]; exact hap i p hi)
    · rcases hsp j q hj with ⟨a2, hj⟩ | ⟨a2, hj⟩
      · exact absurd (hD1.2 _ p hi) (by rw [e]; exact hap j q hj)
      · have := hD1.1 _ _ _ _ hi hj e
        omega
  · rcases hsp k q h with ⟨-, h⟩ | ⟨-, h⟩
    · exact hD.2 _ _ (hin k q h)
    · exact hF _ (hD1.2 _ q h)
abbrev rowNew (h : Nat) : va_W := [(h, .inr (0, [.null, .null, .null, .int 0, .int 0]))]
set_option maxHeartbeats 4000000 in
set_option maxRecDepth 100000 in
theorem c_Row_init (l : Launch) (D : va_G) (cI cR : ClassId) (h sz : Nat) : Met l yX0_init wsX0_init ({ frames := 1, cells := 3, slots := 24, locals := 12 }) (va_Pc [.ref h] (PRE D (TY cI cR) (rowNew h) sz)) (va_Qv (fun _ : Unit => True) (fun _ t => ∃ o a b, va_P D vwCl (RW cI h o a b rz) t.heap ∧ va_K D vwCl (TY cI cR) t ∧ va_D (va_A (rowNew h) sz) (RW cI h o a b rz)) (va_A (rowNew h) sz)) 3 24 (va_A (rowNew h) sz) := by
  refine Met.ofW (cc := cX0_init) (maxL := 1) (ret := none) (by decide) rfl ?_
  intro p e s m args below meth c s₁ B hml hv
  obtain ⟨rfl, hsz, hP, hK, hD0⟩ := hv
  have hx := B.exec
  have hb := B.bytes
  have hr := B.returns
  have hts := atoms_spec (ws := wsX0_init) B.pre
  have hown : s.vm.findClass RX0 = some m.cls := findClass_of_methodNamed B.named
  have hlocks := B.notSynchronized
  have hin9 : meth.name = "<init>" := (name_of_methodNamed B.named B.method).1
  subst hsz
  have hD := hD0.self (sz := s.heap.size)
  generalize hAe : va_A (rowNew h) s.heap.size = A at hD ⊢
  have hA : ∀ q : Nat, s.heap.size ≤ q → A q := fun q h => by rw [← hAe]; exact Or.inr h
  have hS : va_S A s.heap s.heap [] := va_S.rf
  replace hP : va_P D vwCl (rowNew h) s.heap := hP
  have hl := lv_entry ([.ref h]) (n := 1) (Nat.le_of_ble_eq_true rfl)
  rw [lg_entry_eq]
  generalize (lg_sl ([.ref h]) ++ List.replicate (1 - (lg_sl ([.ref h])).length) Slot.unset).toArray = ls at hl ⊢
  replace hl : lv_has ls 1 [(0, .ref h)] := hl
  refine (?_ : ∀ (H : Heap) (locs : List Loc), va_P D vwCl (rowNew h) H → va_S A s.heap H locs → W p l e _ s m _ below meth c H locs 0 0 _ (F0 m 0 ls [])) s.heap [] hP hS
  intro H locs hP hS
  refine lv_aload_n hx hb dX0_init_0 rfl (lv_at hl 0 rfl) ?_
  refine W.objInit hx hb hown (hts _ (cwc _ mw_22)) (hts _ (cwc _ mw_16)) (hts _ (cwc _ mw_17)) rfl (by rw [hml]; exact hl.1) rfl dX0_init_1 (Nat.le_of_ble_eq_true rfl) (Nat.le_of_ble_eq_true rfl) ?_
  refine W.eq (g2 := F0 m 4 ls []) rfl ?_
  refine lv_aload_n hx hb dX0_init_4 rfl (lv_at hl 0 rfl) ?_
  refine lv_bipush (v := (8 : Int32)) hx hb dX0_init_5 (by decide +kernel) ?_
  refine va_newa (atype := .int) (N' := 8) (a0 := (8, .inl (fun _ => 0))) (ty := .int) (n := (8 : Int32)) hx hb (hts _ (cwc _ mw_34)) rfl hK hP hD hS hA (fun _ => rfl) (by decide +kernel) (by decide +kernel) (by decide +kernel) (Nat.le_of_ble_eq_true rfl) (Nat.le_of_ble_eq_true rfl) dX0_init_7 (fun q1 cA1 H hK9 hP hD hS => ?_)
  have hcA : cA1 = cI := kuniqI hK9 (i := 2) (j := 0) rfl rfl
  rw [hcA] at hP hD
  clear hK9
  clear hcA
  replace hP : va_P D vwCl [(h, .inr (0, [.null, .null, .null, .int 0, .int 0])), (q1, .inl (cI, 8, .inl (fun _ => 0)))] H := hP
  replace hD : va_D A [(h, .inr (0, [.null, .null, .null, .int 0, .int 0])), (q1, .inl (cI, 8, .inl (fun _ => 0)))] := hD
  refine (?_ : W p l e _ s m _ below meth c H _ 1 8 _ _)
  refine va_putF (D := D) (ci := 0) (v := .ref q1) (ty := .array .int) (C := RX0) (T := TX0) (N := 5) hx hb hts (fun w h => cwc w (in_X0 w h)) tyX0 tyX0_ok nmX0 hown hK hP hD hS 0 rfl rfl 0 (by decide) (hts _ (cwc _ mw_23)) (fun _ h9 => h9) rfl hin9 rfl (by decide +kernel) rfl rfl (Nat.le_of_ble_eq_true rfl) dX0_init_9 (fun H locs hP hD hS => ?_)
  replace hP : va_P D vwCl [(h, .inr (0, [.ref q1, .null, .null, .int 0, .int 0])), (q1, .inl (cI, 8, .inl (fun _ => 0)))] H := hP
  replace hD : va_D A [(h, .inr (0, [.ref q1, .null, .null, .int 0, .int 0])), (q1, .inl (cI, 8, .inl (fun _ => 0)))] := hD
  refine lv_aload_n hx hb dX0_init_12 rfl (lv_at hl 0 rfl) ?_
  refine lv_bipush (v := (8 : Int32)) hx hb dX0_init_13 (by decide +kernel) ?_
  refine va_newa (atype := .int) (N' := 8) (a0 := (8, .inl (fun _ => 0))) (ty := .int) (n := (8 : Int32)) hx hb (hts _ (cwc _ mw_34)) rfl hK hP hD hS hA (fun _ => rfl) (by decide +kernel) (by decide +kernel) (by decide +kernel) (Nat.le_of_ble_eq_true rfl) (Nat.le_of_ble_eq_true rfl) dX0_init_15 (fun q2 cA2 H hK9 hP hD hS => ?_)
  have hcA : cA2 = cI := kuniqI hK9 (i := 2) (j := 0) rfl rfl
  rw [hcA] at hP hD
  clear hK9
  clear hcA
  replace hP : va_P D vwCl [(h, .inr (0, [.ref q1, .null, .null, .int 0, .int 0])), (q1, .inl (cI, 8, .inl (fun _ => 0))), (q2, .inl (cI, 8, .inl (fun _ => 0)))] H := hP
  replace hD : va_D A [(h, .inr (0, [.ref q1, .null, .null, .int 0, .int 0])), (q1, .inl (cI, 8, .inl (fun _ => 0))), (q2, .inl (cI, 8, .inl (fun _ => 0)))] := hD
  refine (?_ : W p l e _ s m _ below meth c H _ 2 16 _ _)
  refine va_putF (D := D) (ci := 0) (v := .ref q2) (ty := .array .int) (C := RX0) (T := TX0) (N := 5) hx hb hts (fun w h => cwc w (in_X0 w h)) tyX0 tyX0_ok nmX0 hown hK hP hD hS 0 rfl rfl 1 (by decide) (hts _ (cwc _ mw_24)) (fun _ h9 => h9) rfl hin9 rfl (by decide +kernel) rfl rfl (Nat.le_of_ble_eq_true rfl) dX0_init_17 (fun H locs hP hD hS => ?_)
  replace hP : va_P D vwCl [(h, .inr (0, [.ref q1, .ref q2, .null, .int 0, .int 0])), (q1, .inl (cI, 8, .inl (fun _ => 0))), (q2, .inl (cI, 8, .inl (fun _ => 0)))] H := hP
  replace hD : va_D A [(h, .inr (0, [.ref q1, .ref q2, .null, .int 0, .int 0])), (q1, .inl (cI, 8, .inl (fun _ => 0))), (q2, .inl (cI, 8, .inl (fun _ => 0)))] := hD
  refine lv_aload_n hx hb dX0_init_20 rfl (lv_at hl 0 rfl) ?_
  refine lv_bipush (v := (8 : Int32)) hx hb dX0_init_21 (by decide +kernel) ?_
  refine va_newa (atype := .int) (N' := 8) (a0 := (8, .inl (fun _ => 0))) (ty := .int) (n := (8 : Int32)) hx hb (hts _ (cwc _ mw_34)) rfl hK hP hD hS hA (fun _ => rfl) (by decide +kernel) (by decide +kernel) (by decide +kernel) (Nat.le_of_ble_eq_true rfl) (Nat.le_of_ble_eq_true rfl) dX0_init_23 (fun q3 cA3 H hK9 hP hD hS => ?_)
  have hcA : cA3 = cI := kuniqI hK9 (i := 2) (j := 0) rfl rfl
  rw [hcA] at hP hD
  clear hK9
  clear hcA
  replace hP : va_P D vwCl [(h, .inr (0, [.ref q1, .ref q2, .null, .int 0, .int 0])), (q1, .inl (cI, 8, .inl (fun _ => 0))), (q2, .inl (cI, 8, .inl (fun _ => 0))), (q3, .inl (cI, 8, .inl (fun _ => 0)))] H := hP
  replace hD : va_D A [(h, .inr (0, [.ref q1, .ref q2, .null, .int 0, .int 0])), (q1, .inl (cI, 8, .inl (fun _ => 0))), (q2, .inl (cI, 8, .inl (fun _ => 0))), (q3, .inl (cI, 8, .inl (fun _ => 0)))] := hD
  refine (?_ : W p l e _ s m _ below meth c H _ 3 24 _ _)
  refine va_putF (D := D) (ci := 0) (v := .ref q3) (ty := .array .int) (C := RX0) (T := TX0) (N := 5) hx hb hts (fun w h => cwc w (in_X0 w h)) tyX0 tyX0_ok nmX0 hown hK hP hD hS 0 rfl rfl 2 (by decide) (hts _ (cwc _ mw_25)) (fun _ h9 => h9) rfl hin9 rfl (by decide +kernel) rfl rfl (Nat.le_of_ble_eq_true rfl) dX0_init_25 (fun H locs hP hD hS => ?_)
  replace hP : va_P D vwCl [(h, .inr (0, [.ref q1, .ref q2, .ref q3, .int 0, .int 0])), (q1, .inl (cI, 8, .inl (fun _ => 0))), (q2, .inl (cI, 8, .inl (fun _ => 0))), (q3, .inl (cI, 8, .inl (fun _ => 0)))] H := hP
  replace hD : va_D A [(h, .inr (0, [.ref q1, .ref q2, .ref q3, .int 0, .int 0])), (q1, .inl (cI, 8, .inl (fun _ => 0))), (q2, .inl (cI, 8, .inl (fun _ => 0))), (q3, .inl (cI, 8, .inl (fun _ => 0)))] := hD
  refine lv_aload_n hx hb dX0_init_28 rfl (lv_at hl 0 rfl) ?_
  refine lv_iconst (v := (0 : Int32)) hx hb dX0_init_29 (by decide +kernel) ?_
  refine va_put (D := D) (ci := 0) (v := .int (0 : Int32)) (ty := .int) (C := RX0) (T := TX0) (N := 5) hx hb hts (fun w h => cwc w (in_X0 w h)) tyX0 tyX0_ok nmX0 hown hK hP hD hS 0 rfl rfl 3 (by decide) (hts _ (cwc _ mw_26)) (fun _ h9 => h9) rfl (by decide +kernel) rfl rfl (Nat.le_of_ble_eq_true rfl) dX0_init_30 (fun H locs hP hD hS => ?_)
  replace hP : va_P D vwCl [(h, .inr (0, [.ref q1, .ref q2, .ref q3, .int (0 : Int32), .int 0])), (q1, .inl (cI, 8, .inl (fun _ => 0))), (q2, .inl (cI, 8, .inl (fun _ => 0))), (q3, .inl (cI, 8, .inl (fun _ => 0)))] H := hP
  replace hD : va_D A [(h, .inr (0, [.ref q1, .ref q2, .ref q3, .int (0 : Int32), .int 0])), (q1, .inl (cI, 8, .inl (fun _ => 0))), (q2, .inl (cI, 8, .inl (fun _ => 0))), (q3, .inl (cI, 8, .inl (fun _ => 0)))] := hD
  refine lv_aload_n hx hb dX0_init_33 rfl (lv_at hl 0 rfl) ?_
  refine lv_iconst (v := (0 : Int32)) hx hb dX0_init_34 (by decide +kernel) ?_
  refine va_put (D := D) (ci := 0) (v := .int (0 : Int32)) (ty := .int) (C := RX0) (T := TX0) (N := 5) hx hb hts (fun w h => cwc w (in_X0 w h)) tyX0 tyX0_ok nmX0 hown hK hP hD hS 0 rfl rfl 4 (by decide) (hts _ (cwc _ mw_27)) (fun _ h9 => h9) rfl (by decide +kernel) rfl rfl (Nat.le_of_ble_eq_true rfl) dX0_init_35 (fun H locs hP hD hS => ?_)
  replace hP : va_P D vwCl [(h, .inr (0, [.ref q1, .ref q2, .ref q3, .int (0 : Int32), .int (0 : Int32)])), (q1, .inl (cI, 8, .inl (fun _ => 0))), (q2, .inl (cI, 8, .inl (fun _ => 0))), (q3, .inl (cI, 8, .inl (fun _ => 0)))] H := hP
  replace hD : va_D A [(h, .inr (0, [.ref q1, .ref q2, .ref q3, .int (0 : Int32), .int (0 : Int32)])), (q1, .inl (cI, 8, .inl (fun _ => 0))), (q2, .inl (cI, 8, .inl (fun _ => 0))), (q3, .inl (cI, 8, .inl (fun _ => 0)))] := hD
  exact W.vret hx hb hr (fun t ht hW => ⟨⟨(), rfl, trivial, q1, q2, q3, by rw [ht]; exact hP, va_K.moved hW.alike hK, hD⟩, hS.F ht⟩) hS.2.2 dX0_init_38
