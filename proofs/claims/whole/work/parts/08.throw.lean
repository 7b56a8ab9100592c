def XK (sa : Nat → Nat) (A : Nat → Prop) (U : State) : Prop := vx_Zq Bundle.tN "UNASSIGNED_STACK" Bundle.steD A U U.heap ∧ vx_Zq Bundle.tN "SUPPRESSED_SENTINEL" Bundle.listD A U U.heap ∧ va_Nw (.castable "java/lang/IndexOutOfBoundsException" "java/lang/IndexOutOfBoundsException") U ∧ va_Nw (.castable "java/lang/IllegalArgumentException" "java/lang/IllegalArgumentException") U ∧ va_Nw (.declares ⟨"java/lang/RuntimeException", "<init>", "(Ljava/lang/String;)V"⟩) U ∧ va_Nw (.declares ⟨"java/lang/Exception", "<init>", "(Ljava/lang/String;)V"⟩) U ∧ va_Nw (.declares ⟨"java/lang/Throwable", "<init>", "(Ljava/lang/String;)V"⟩) U ∧ va_Nc "java/lang/IllegalArgumentException" "java/lang/IndexOutOfBoundsException" U ∧ vk_R RX1 84 "what is made is no kind" (sa 84) U ∧ vk_R RX1 96 "more units are aboard" (sa 96) U ∧ vk_R RX1 98 "units of another kind are aboard" (sa 98) U ∧ vk_R RX1 101 "time would be too great" (sa 101) U ∧ vk_R RX1 120 "there is no room for all" (sa 120) U ∧ vk_R RX1 122 "the second wagon has units" (sa 122) U ∧ vk_R RX1 176 "the wagons are the same" (sa 176) U ∧ vk_R RX1 178 "the wagons are of different kinds" (sa 178) U ∧ vk_R RX1 182 "no such station" (sa 182) U ∧ vk_R RX1 185 "no such kind" (sa 185) U ∧ vk_R RX1 187 "no such wagon" (sa 187) U ∧ vk_R RX1 189 "a number is below 0 or too great" (sa 189) U ∧ vk_R RX1 191 "n is below 0" (sa 191) U
theorem XK_s84 {sa : Nat → Nat} {A : Nat → Prop} {U : State} (h : XK sa A U) : vk_R RX1 84 "what is made is no kind" (sa 84) U := by
  obtain ⟨-, -, -, -, -, -, -, -, h, -, -, -, -, -, -, -, -, -, -, -, -⟩ := h
  exact h
theorem XK_s96 {sa : Nat → Nat} {A : Nat → Prop} {U : State} (h : XK sa A U) : vk_R RX1 96 "more units are aboard" (sa 96) U := by
  obtain ⟨-, -, -, -, -, -, -, -, -, h, -, -, -, -, -, -, -, -, -, -, -⟩ := h
  exact h
theorem XK_s98 {sa : Nat → Nat} {A : Nat → Prop} {U : State} (h : XK sa A U) : vk_R RX1 98 "units of another kind are aboard" (sa 98) U := by
  obtain ⟨-, -, -, -, -, -, -, -, -, -, h, -, -, -, -, -, -, -, -, -, -⟩ := h
  exact h
theorem XK_s101 {sa : Nat → Nat} {A : Nat → Prop} {U : State} (h : XK sa A U) : vk_R RX1 101 "time would be too great" (sa 101) U := by
  obtain ⟨-, -, -, -, -, -, -, -, -, -, -, h, -, -, -, -, -, -, -, -, -⟩ := h
  exact h
theorem XK_s120 {sa : Nat → Nat} {A : Nat → Prop} {U : State} (h : XK sa A U) : vk_R RX1 120 "there is no room for all" (sa 120) U := by
  obtain ⟨-, -, -, -, -, -, -, -, -, -, -, -, h, -, -, -, -, -, -, -, -⟩ := h
  exact h
theorem XK_s122 {sa : Nat → Nat} {A : Nat → Prop} {U : State} (h : XK sa A U) : vk_R RX1 122 "the second wagon has units" (sa 122) U := by
  obtain ⟨-, -, -, -, -, -, -, -, -, -, -, -, -, h, -, -, -, -, -, -, -⟩ := h
  exact h
theorem XK_s176 {sa : Nat → Nat} {A : Nat → Prop} {U : State} (h : XK sa A U) : vk_R RX1 176 "the wagons are the same" (sa 176) U := by
  obtain ⟨-, -, -, -, -, -, -, -, -, -, -, -, -, -, h, -, -, -, -, -, -⟩ := h
  exact h
theorem XK_s178 {sa : Nat → Nat} {A : Nat → Prop} {U : State} (h : XK sa A U) : vk_R RX1 178 "the wagons are of different kinds" (sa 178) U := by
  obtain ⟨-, -, -, -, -, -, -, -, -, -, -, -, -, -, -, h, -, -, -, -, -⟩ := h
  exact h
theorem XK_s182 {sa : Nat → Nat} {A : Nat → Prop} {U : State} (h : XK sa A U) : vk_R RX1 182 "no such station" (sa 182) U := by
  obtain ⟨-, -, -, -, -, -, -, -, -, -, -, -, -, -, -, -, h, -, -, -, -⟩ := h
  exact h
theorem XK_s185 {sa : Nat → Nat} {A : Nat → Prop} {U : State} (h : XK sa A U) : vk_R RX1 185 "no such kind" (sa 185) U := by
  obtain ⟨-, -, -, -, -, -, -, -, -, -, -, -, -, -, -, -, -, h, -, -, -⟩ := h
  exact h
theorem XK_s187 {sa : Nat → Nat} {A : Nat → Prop} {U : State} (h : XK sa A U) : vk_R RX1 187 "no such wagon" (sa 187) U := by
  obtain ⟨-, -, -, -, -, -, -, -, -, -, -, -, -, -, -, -, -, -, h, -, -⟩ := h
  exact h
theorem XK_s189 {sa : Nat → Nat} {A : Nat → Prop} {U : State} (h : XK sa A U) : vk_R RX1 189 "a number is below 0 or too great" (sa 189) U := by
  obtain ⟨-, -, -, -, -, -, -, -, -, -, -, -, -, -, -, -, -, -, -, h, -⟩ := h
  exact h
theorem XK_s191 {sa : Nat → Nat} {A : Nat → Prop} {U : State} (h : XK sa A U) : vk_R RX1 191 "n is below 0" (sa 191) U := by
  obtain ⟨-, -, -, -, -, -, -, -, -, -, -, -, -, -, -, -, -, -, -, -, h⟩ := h
  exact h
theorem XK_to {sa : Nat → Nat} {A B : Nat → Prop} {s U : State} {H : Heap} {locs : List Loc} (h : XK sa A s) (hS : va_S A s.heap H locs) (hU : U.heap = H) (hW : s.WarmedH U.vm) (hF : ∀ q, B q → A q) : XK sa B U := by
  obtain ⟨h0, h1, h2, h3, h4, h5, h6, h7, h8, h9, h10, h11, h12, h13, h14, h15, h16, h17, h18, h19, h20⟩ := h
  exact ⟨by rw [hU]; exact (vx_Zq.moved hW.alike (vx_Zq.kept h0 hS.2.1)).narrow hF, by rw [hU]; exact (vx_Zq.moved hW.alike (vx_Zq.kept h1 hS.2.1)).narrow hF, va_Nw.warmC hW h2, va_Nw.warmC hW h3, va_Nw.warmD hW h4, va_Nw.warmD hW h5, va_Nw.warmD hW h6, va_Nc.moved hW.alike h7, vk_R.warm hW h8, vk_R.warm hW h9, vk_R.warm hW h10, vk_R.warm hW h11, vk_R.warm hW h12, vk_R.warm hW h13, vk_R.warm hW h14, vk_R.warm hW h15, vk_R.warm hW h16, vk_R.warm hW h17, vk_R.warm hW h18, vk_R.warm hW h19, vk_R.warm hW h20⟩
theorem XK_blind {sa : Nat → Nat} {A : Nat → Prop} {U : State} {g : JFrame} {mk : MethodId} {a : Array Value} (h : XK sa A U) : XK sa A (U.calling g mk a) := by
  obtain ⟨h0, h1, h2, h3, h4, h5, h6, h7, h8, h9, h10, h11, h12, h13, h14, h15, h16, h17, h18, h19, h20⟩ := h
  exact ⟨vx_Zq.moved (u := U) (U := U.calling g mk a) (Vm.Alike.refl U.vm) h0, vx_Zq.moved (u := U) (U := U.calling g mk a) (Vm.Alike.refl U.vm) h1, va_Nw.same rfl rfl h2, va_Nw.same rfl rfl h3, va_Nw.same rfl rfl h4, va_Nw.same rfl rfl h5, va_Nw.same rfl rfl h6, va_Nc.moved (u := U) (U := U.calling g mk a) (Vm.Alike.refl U.vm) h7, vk_R.same rfl h8, vk_R.same rfl h9, vk_R.same rfl h10, vk_R.same rfl h11, vk_R.same rfl h12, vk_R.same rfl h13, vk_R.same rfl h14, vk_R.same rfl h15, vk_R.same rfl h16, vk_R.same rfl h17, vk_R.same rfl h18, vk_R.same rfl h19, vk_R.same rfl h20⟩
abbrev PREX (D : va_G) (tys : List (ClassId × FieldType)) (w : va_W) (sz : Nat) (sa : Nat → Nat) (U : State) : Prop := PRE D tys w sz U ∧ XK sa (va_A w sz) U
section BX
variable {s : State} {H : Heap} {locs : List Loc} {A : Nat → Prop} {D : va_G} {tys : List (ClassId × FieldType)} {W0 w0 : va_W} {g : Nat → Nat} {sa : Nat → Nat}
theorem preX_blind {av : List Value} {sz : Nat} : FrameBlind (va_Pc av (PREX D tys w0 sz sa)) := by
  intro a U g mk q
  obtain ⟨q0, q1, qX⟩ := q
  exact ⟨q0, (pre_blind (av := av) a U g mk ⟨q0, q1⟩).2, XK_blind qX⟩
theorem kpX_S {As : List Value} (hXK : XK sa A s) (hK : va_K D vwCl tys s) (hP : va_P D vwCl W0 H) (hD : va_D A W0) (hS : va_S A s.heap H locs) (hA : ∀ q, s.heap.size ≤ q → A q) (hsb : Sb W0 w0 g) : PreS s H (va_Pc As (PREX D tys w0 H.size sa)) As :=
  ⟨preX_blind, fun U hU hW => ⟨rfl, ⟨by rw [hU], by rw [hU]; exact sb_P hsb hP, va_K.moved hW.alike hK, (sb_D hsb hD).weaken (fun _ _ _ _ => trivial)⟩, XK_to hXK hS hU hW (sb_F hsb hD hS hA)⟩⟩
theorem kpX_V {As : List Value} {b ci : Nat} {fs : List Value} {q : vw_C} (hXK : XK sa A s) (hK : va_K D vwCl tys s) (hP : va_P D vwCl W0 H) (hD : va_D A W0) (hS : va_S A s.heap H locs) (hA : ∀ q, s.heap.size ≤ q → A q) (hsb : Sb W0 w0 g) (he : w0[0]? = some (b, .inr (ci, fs))) (hc : vwCl[ci]? = some q) : PreV s H q.1 b (va_Pc (.ref b :: As) (PREX D tys w0 H.size sa)) As :=
  ⟨preX_blind, va_recv hK (sb_P hsb hP) hc he, fun U hU hW => ⟨rfl, ⟨by rw [hU], by rw [hU]; exact sb_P hsb hP, va_K.moved hW.alike hK, (sb_D hsb hD).weaken (fun _ _ _ _ => trivial)⟩, XK_to hXK hS hU hW (sb_F hsb hD hS hA)⟩⟩
end BX
set_option maxRecDepth 20000 in
theorem hatA_1 : ∀ w ∈ (vx_atS RX1 184 "java/lang/IndexOutOfBoundsException" ["java/lang/RuntimeException", "java/lang/Exception"]).filter goodWord, w ∈ cwL := by decide +kernel
set_option maxRecDepth 20000 in
theorem hatB_1 : ∀ w ∈ (vx_atS RX1 184 "java/lang/IndexOutOfBoundsException" ["java/lang/RuntimeException", "java/lang/Exception"]).filter (fun w => !goodWord w), w ∈ ([.castable "java/lang/IndexOutOfBoundsException" "java/lang/IndexOutOfBoundsException", .declares ⟨"java/lang/RuntimeException", "<init>", "(Ljava/lang/String;)V"⟩, .declares ⟨"java/lang/Exception", "<init>", "(Ljava/lang/String;)V"⟩, .declares ⟨"java/lang/Throwable", "<init>", "(Ljava/lang/String;)V"⟩] : List Cond) := by decide +kernel
set_option maxRecDepth 20000 in
theorem hatC_1 : ∀ w ∈ Cond.classLink RX1 180 "java/lang/IndexOutOfBoundsException" :: Cond.initialized "java/lang/IndexOutOfBoundsException" :: vx_atS RX1 184 "java/lang/IndexOutOfBoundsException" ["java/lang/RuntimeException", "java/lang/Exception"], vx_ot w = true := by decide +kernel
set_option maxRecDepth 20000 in
theorem hatA_2 : ∀ w ∈ (vx_atS RX1 86 "java/lang/IllegalArgumentException" ["java/lang/RuntimeException", "java/lang/Exception"]).filter goodWord, w ∈ cwL := by decide +kernel
set_option maxRecDepth 20000 in
theorem hatB_2 : ∀ w ∈ (vx_atS RX1 86 "java/lang/IllegalArgumentException" ["java/lang/RuntimeException", "java/lang/Exception"]).filter (fun w => !goodWord w), w ∈ ([.castable "java/lang/IllegalArgumentException" "java/lang/IllegalArgumentException", .declares ⟨"java/lang/RuntimeException", "<init>", "(Ljava/lang/String;)V"⟩, .declares ⟨"java/lang/Exception", "<init>", "(Ljava/lang/String;)V"⟩, .declares ⟨"java/lang/Throwable", "<init>", "(Ljava/lang/String;)V"⟩] : List Cond) := by decide +kernel
set_option maxRecDepth 20000 in
theorem hatC_2 : ∀ w ∈ Cond.classLink RX1 82 "java/lang/IllegalArgumentException" :: Cond.initialized "java/lang/IllegalArgumentException" :: vx_atS RX1 86 "java/lang/IllegalArgumentException" ["java/lang/RuntimeException", "java/lang/Exception"], vx_ot w = true := by decide +kernel
