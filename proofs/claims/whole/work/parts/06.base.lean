/-! own rows: guards and binds of the compiled functions; calls with a segment of the world -/
def gd {α : Type} (c : Bool) (x : Option α) : Option α := if c = true then x else none
theorem gd_some {α : Type} {c : Bool} {x : Option α} {r : α} (h : gd c x = some r) : c = true ∧ x = some r := by
  unfold gd at h
  by_cases hc : c = true
  · rw [if_pos hc] at h; exact ⟨hc, h⟩
  · rw [if_neg hc] at h; exact absurd h (by simp)
theorem gd_t {α : Type} {c : Bool} {x : Option α} (h : c = true) : gd c x = x := if_pos h
def inb (i : Int32) (n : Nat) : Bool := decide (¬ (i < 0 ∨ n ≤ i.toNatClampNeg))
theorem inb_in {i : Int32} {n : Nat} (h : inb i n = true) : vp_in i n := show ¬ (i < 0 ∨ n ≤ i.toNatClampNeg) from of_decide_eq_true h
theorem inb_of {i : Int32} {n : Nat} (h : vp_in i n) : inb i n = true := decide_eq_true (show ¬ (i < 0 ∨ n ≤ i.toNatClampNeg) from h)
theorem inb_lt {i : Int32} {n : Nat} (h : inb i n = true) : i.toNatClampNeg < n := by
  have h1 : ¬ (i < 0 ∨ n ≤ i.toNatClampNeg) := of_decide_eq_true h
  exact Nat.lt_of_not_le (fun h2 => h1 (Or.inr h2))
def bi {α β γ : Type} (o : Option (α × β)) (k : α → β → Option γ) : Option γ := match o with
  | none => none
  | some z => k z.1 z.2
theorem bi_some {α β γ : Type} {o : Option (α × β)} {k : α → β → Option γ} {r : γ} (h : bi o k = some r) : ∃ x y, o = some (x, y) ∧ k x y = some r := by
  cases o with
  | none => exact absurd (show (none : Option γ) = some r from h) (by simp)
  | some z => exact ⟨z.1, z.2, rfl, h⟩
def ox {α ρ : Type} (o : Nat ⊕ ρ) (kx : Nat → α) (k : ρ → α) : α := match o with
  | .inl e => kx e
  | .inr r => k r
theorem ox_l {α ρ : Type} {e : Nat} {kx : Nat → α} {k : ρ → α} {z : α} (h : ox (.inl e) kx k = z) : kx e = z := h
theorem ox_r {α ρ : Type} {r : ρ} {kx : Nat → α} {k : ρ → α} {z : α} (h : ox (.inr r) kx k = z) : k r = z := h
def oq {α : Type} (o : Option Nat) (kn : α) (k : Nat → α) : α := match o with
  | none => kn
  | some j => k j
theorem oq_n {α : Type} {kn : α} {k : Nat → α} {z : α} (h : oq none kn k = z) : kn = z := h
theorem oq_s {α : Type} {j : Nat} {kn : α} {k : Nat → α} {z : α} (h : oq (some j) kn k = z) : k j = z := h
def exN (e : Nat) : String := if e = 1 then "java/lang/IndexOutOfBoundsException" else "java/lang/IllegalArgumentException"
def nm {α β : Type} (x : α) (k : α → Option β) : Option β := k x
theorem nm_some {α β : Type} {x : α} {k : α → Option β} {r : β} (h : nm x k = some r) : ∃ v, v = x ∧ k v = some r := ⟨x, rfl, h⟩
theorem i32nz {x y : Int32} {z : Int} (h : ¬ x = y) (hz : y.toInt = z) : x.toInt ≠ z := fun q => h (Int32.toInt_inj.mp (q.trans hz.symm))
theorem i32ne {x y : Int32} (h : ¬ x = y) : x.toInt ≠ y.toInt := fun q => h (Int32.toInt_inj.mp q)
/-- the small world w0 lies in W0 at the places g -/
def Sb (W0 w0 : va_W) (g : Nat → Nat) : Prop := (∀ (k : Nat) (e : Nat × va_E), w0[k]? = some e → W0[g k]? = some e) ∧ (∀ i j : Nat, i < w0.length → j < w0.length → g i = g j → i = j)
/-- W1 is W0 with w1 in w0's places -/
def Jn (W0 w0 w1 W1 : va_W) (g : Nat → Nat) : Prop := (∀ (i : Nat) (e : Nat × va_E), W1[i]? = some e → (∃ k : Nat, w1[k]? = some e) ∨ (W0[i]? = some e ∧ ∀ k : Nat, k < w0.length → g k ≠ i)) ∧ (∀ (i : Nat) (e : Nat × va_E), W1[i]? = some e → ∃ e0 : Nat × va_E, W0[i]? = some e0 ∧ e0.1 = e.1)
section BB1
variable {D : va_G} {cl : List vw_C} {A : Nat → Prop} {W0 w0 w1 W1 : va_W} {g : Nat → Nat} {H0 H H1 : Heap} {locs : List Loc}
theorem sb_P (h : Sb W0 w0 g) (hP : va_P D cl W0 H) : va_P D cl w0 H := hP.by g h.1
theorem sb_D (h : Sb W0 w0 g) (hD : va_D A W0) : va_D A w0 := hD.by g h.1 h.2
theorem sb_F (h : Sb W0 w0 g) (hD : va_D A W0) (hS : va_S A H0 H locs) (hA : ∀ q, H0.size ≤ q → A q) : ∀ q, va_A w0 H.size q → A q := by
  intro q hq
  rcases hq with ⟨k, e, hk⟩ | hq
  · exact hD.2 _ _ (h.1 _ _ hk)
  · exact hA q (Nat.le_trans hS.1 hq)
theorem jn_P (h : Sb W0 w0 g) (j : Jn W0 w0 w1 W1 g) (hP : va_P D cl W0 H) (hD : va_D A W0) (hk : ∀ q : Nat, q < H.size → ¬ va_A w0 H.size q → H1[q]? = H[q]?) (hP1 : va_P D cl w1 H1) : va_P D cl W1 H1 := by
  intro i e hi
  rcases j.1 i e hi with ⟨k, hk1⟩ | ⟨h0, hne⟩
  · exact hP1 k e hk1
  · have h1 := hP i e h0
    refine h1.kept (hk e.1 h1.lt ?_)
    rintro (⟨k, e', hk'⟩ | hsz)
    · exact hne k (List.getElem?_eq_some_iff.mp hk').1 (hD.1 _ _ _ _ (h.1 k _ hk') h0 rfl)
    · exact absurd h1.lt (Nat.not_lt.mpr hsz)
theorem jn_D (j : Jn W0 w0 w1 W1 g) (hD : va_D A W0) : va_D A W1 := by
  refine ⟨fun i i' p q hi hi' e => ?_, fun k q hk => ?_⟩
  · obtain ⟨e0, h0, a0⟩ := j.2 i p hi
    obtain ⟨e1, h1, a1⟩ := j.2 i' q hi'
    exact hD.1 _ _ _ _ h0 h1 (by rw [a0, a1]; exact e)
  · obtain ⟨e0, h0, a0⟩ := j.2 k q hk
    rw [← a0]; exact hD.2 _ _ h0
/-- the whole world -/
theorem sb_id (W0 : va_W) : Sb W0 W0 (fun k => k) := ⟨fun _ _ h => h, fun _ _ _ _ h => h⟩
theorem jn_id {W0 w1 : va_W} (ha : w1.map (·.1) = W0.map (·.1)) : Jn W0 W0 w1 w1 (fun k => k) := by
  refine ⟨fun i e h => Or.inl ⟨i, h⟩, fun i e h => ?_⟩
  have h1 : (w1.map (·.1))[i]? = some e.1 := by rw [List.getElem?_map, h, Option.map_some]
  rw [ha, List.getElem?_map] at h1
  cases h2 : W0[i]? with
  | none => rw [h2] at h1; exact absurd h1 (by simp)
  | some e0 => rw [h2] at h1; exact ⟨e0, rfl, Option.some.inj h1⟩
/-- the small world as it was -/
theorem jn_same (h : Sb W0 w0 g) : Jn W0 w0 w0 W0 g := by
  refine ⟨fun i e hi => ?_, fun i e hi => ⟨e, hi, rfl⟩⟩
  by_cases hk : ∃ k, k < w0.length ∧ g k = i
  · obtain ⟨k, hk, rfl⟩ := hk
    refine Or.inl ⟨k, ?_⟩
    have h1 := h.1 k w0[k] (List.getElem?_eq_getElem hk)
    rw [List.getElem?_eq_getElem hk, ← h1, hi]
  · exact Or.inr ⟨hi, fun k hl hg => hk ⟨k, hl, hg⟩⟩
/-- no world -/
theorem sb_nil (W0 : va_W) : Sb W0 [] (fun k => k) := ⟨fun k e h => by simp at h, fun i j h => by simp at h⟩
theorem jn_nil (W0 : va_W) : Jn W0 [] [] W0 (fun k => k) := ⟨fun i e h => Or.inr ⟨h, fun k hk => by simp at hk⟩, fun i e h => ⟨e, h, rfl⟩⟩
/-- a segment at its place -/
theorem sb_seg (a w b : va_W) : Sb (a ++ (w ++ b)) w (fun k => a.length + k) := by
  refine ⟨fun k e h => ?_, fun i j _ _ h => Nat.add_left_cancel h⟩
  have hk := (List.getElem?_eq_some_iff.mp h).1
  show (a ++ (w ++ b))[a.length + k]? = some e
  rw [List.getElem?_append_right (by omega), Nat.add_sub_cancel_left, List.getElem?_append_left hk]
  exact h
theorem jn_seg (a w w' b : va_W) (ha : w'.map (·.1) = w.map (·.1)) : Jn (a ++ (w ++ b)) w w' (a ++ (w' ++ b)) (fun k => a.length + k) := by
  have hl : w'.length = w.length := by have := congrArg List.length ha; simpa using this
  refine ⟨fun i e h => ?_, fun i e h => ?_⟩
  · by_cases h1 : i < a.length
    · rw [List.getElem?_append_left h1] at h
      exact Or.inr ⟨by rw [List.getElem?_append_left h1]; exact h, fun k _ => by show a.length + k ≠ i; omega⟩
    · rw [List.getElem?_append_right (by omega)] at h
      by_cases h2 : i - a.length < w'.length
      · rw [List.getElem?_append_left h2] at h
        exact Or.inl ⟨_, h⟩
      · rw [List.getElem?_append_right (by omega), hl] at h
        refine Or.inr ⟨?_, fun k hk => by show a.length + k ≠ i; omega⟩
        rw [List.getElem?_append_right (by omega), List.getElem?_append_right (by omega)]
        exact h
  · by_cases h1 : i < a.length
    · rw [List.getElem?_append_left h1] at h
      exact ⟨e, by rw [List.getElem?_append_left h1]; exact h, rfl⟩
    · rw [List.getElem?_append_right (by omega)] at h
      by_cases h2 : i - a.length < w'.length
      · rw [List.getElem?_append_left h2] at h
        have h3 : (w'.map (·.1))[i - a.length]? = some e.1 := by rw [List.getElem?_map, h, Option.map_some]
        rw [ha, List.getElem?_map] at h3
        cases h4 : w[i - a.length]? with
        | none => rw [h4] at h3; exact absurd h3 (by simp)
        | some e0 =>
          rw [h4] at h3
          exact ⟨e0, by rw [List.getElem?_append_right (by omega), List.getElem?_append_left (by omega)]; exact h4, Option.some.inj h3⟩
      · rw [List.getElem?_append_right (by omega), hl] at h
        refine ⟨e, ?_, rfl⟩
        rw [List.getElem?_append_right (by omega), List.getElem?_append_right (by omega)]
        exact h
/-- a segment at the end -/
theorem sb_tail (a w : va_W) : Sb (a ++ w) w (fun k => a.length + k) := by
  have h := sb_seg a w []
  rw [List.append_nil] at h; exact h
theorem jn_tail (a w w' : va_W) (ha : w'.map (·.1) = w.map (·.1)) : Jn (a ++ w) w w' (a ++ w') (fun k => a.length + k) := by
  have h := jn_seg a w w' [] ha
  rw [List.append_nil, List.append_nil] at h; exact h
/-- .. at the beginning -/
theorem sb_head (w b : va_W) : Sb (w ++ b) w (fun k => 0 + k) := sb_seg [] w b
theorem jn_head (w w' b : va_W) (ha : w'.map (·.1) = w.map (·.1)) : Jn (w ++ b) w w' (w' ++ b) (fun k => 0 + k) := jn_seg [] w w' b ha
end BB1
/-- what a contract asks of the heap, and what it leaves -/
abbrev PRE (D : va_G) (tys : List (ClassId × FieldType)) (w : va_W) (sz : Nat) (U : State) : Prop := U.heap.size = sz ∧ va_P D vwCl w U.heap ∧ va_K D vwCl tys U ∧ va_D (fun _ => True) w
abbrev BQ {S : Type} (D : va_G) (tys : List (ClassId × FieldType)) (A : Nat → Prop) (w : S → va_W) (u : S) (t : State) : Prop := va_P D vwCl (w u) t.heap ∧ va_K D vwCl tys t ∧ va_D A (w u)
abbrev QI {S : Type} (D : va_G) (tys : List (ClassId × FieldType)) (A : Nat → Prop) (w : S → va_W) (r : Int32) (u : S) : Array Value → State → Outcome → State → Prop := va_Qi (fun (r9 : Int32) (u9 : S) => r9 = r ∧ u9 = u) (BQ D tys A w) A
abbrev QV {S : Type} (D : va_G) (tys : List (ClassId × FieldType)) (A : Nat → Prop) (w : S → va_W) (u : S) : Array Value → State → Outcome → State → Prop := va_Qv (fun (u9 : S) => u9 = u) (BQ D tys A w) A
abbrev QQ {S : Type} (D : va_G) (tys : List (ClassId × FieldType)) (A : Nat → Prop) (w : S → va_W) (r : Option Nat) (u : S) : Array Value → State → Outcome → State → Prop := va_Qq (fun (r9 : Option Nat) (u9 : S) => r9 = r ∧ u9 = u) (BQ D tys A w) A
/-- .. of one that may throw: o says which -/
abbrev XI {S : Type} (D : va_G) (tys : List (ClassId × FieldType)) (A : Nat → Prop) (w : S → va_W) (o : Nat ⊕ Int32) (u : S) : Array Value → State → Outcome → State → Prop := va_Qi (fun (r9 : Int32) (u9 : S) => o = .inr r9 ∧ u9 = u) (BQ D tys A w) A
abbrev XV {S : Type} (D : va_G) (tys : List (ClassId × FieldType)) (A : Nat → Prop) (w : S → va_W) (o : Nat ⊕ Unit) (u : S) : Array Value → State → Outcome → State → Prop := va_Qv (fun (u9 : S) => o = .inr () ∧ u9 = u) (BQ D tys A w) A
abbrev XX {S ρ : Type} (D : va_G) (tys : List (ClassId × FieldType)) (A : Nat → Prop) (w : S → va_W) (o : Nat ⊕ ρ) (u : S) : String → State → State → Prop := vx_X (fun z : Nat => o = .inl z) (fun E z t => E = exN z ∧ BQ D tys A w u t) A
section BB2
variable {p : Program} {l : Launch} {e : Env} {R : Room} {s : State} {m : MethodId} {args : Array Value} {below : List Frame} {meth : Method} {c : Code} {H : Heap} {locs : List Loc} {cells slots : Nat} {Q : State → Prop}
variable {mc ms : Nat} {A : Nat → Prop} {H0 : Heap} {a : Array Value} {pc : Nat} {ls : Array Slot} {st0 rest : List Value}
variable {D : va_G} {tys : List (ClassId × FieldType)} {W0 w0 W1 : va_W} {g : Nat → Nat} {S : Type} {w : S → va_W} {u' : S}
theorem pre_blind {av : List Value} {sz : Nat} : FrameBlind (va_Pc av (PRE D tys w0 sz)) := by
  intro a U g mk q
  obtain ⟨q0, q1, qP, qK, qD⟩ := q
  exact ⟨q0, q1, qP, va_K.moved (u := U) (U := U.calling g mk a) (Vm.Alike.refl U.vm) qK, qD⟩
theorem kp_S {As : List Value} (hK : va_K D vwCl tys s) (hP : va_P D vwCl W0 H) (hD : va_D A W0) (hsb : Sb W0 w0 g) : PreS s H (va_Pc As (PRE D tys w0 H.size)) As :=
  ⟨pre_blind, fun U hU hW => ⟨rfl, by rw [hU], by rw [hU]; exact sb_P hsb hP, va_K.moved hW.alike hK, (sb_D hsb hD).weaken (fun _ _ _ _ => trivial)⟩⟩
theorem kp_V {As : List Value} {b ci : Nat} {fs : List Value} {q : vw_C} (hK : va_K D vwCl tys s) (hP : va_P D vwCl W0 H) (hD : va_D A W0) (hsb : Sb W0 w0 g) (he : w0[0]? = some (b, .inr (ci, fs))) (hc : vwCl[ci]? = some q) : PreV s H q.1 b (va_Pc (.ref b :: As) (PRE D tys w0 H.size)) As :=
  ⟨pre_blind, va_recv hK (sb_P hsb hP) hc he, fun U hU hW => ⟨rfl, by rw [hU], by rw [hU]; exact sb_P hsb hP, va_K.moved hW.alike hK, (sb_D hsb hD).weaken (fun _ _ _ _ => trivial)⟩⟩
theorem kc_i {r : Int32} (hr : va_Run p l e R s m args below meth c H locs cells slots mc ms (F0 m pc ls st0) rest (QI D tys (va_A w0 H.size) w r u' a) (va_A w0 H.size)) (hP : va_P D vwCl W0 H) (hD : va_D A W0) (hS : va_S A H0 H locs) (hA : ∀ q, H0.size ≤ q → A q) (hsb : Sb W0 w0 g) (hjn : Jn W0 w0 (w u') W1 g)
    (kk : ∀ (H1 : Heap) (locs1 : List Loc), va_P D vwCl W1 H1 → va_D A W1 → va_S A H0 H1 locs1 → W p l e R s m args below meth c H1 locs1 (cells + mc) (slots + ms) Q (F0 m (pc + 3) ls (.int r :: rest))) : W p l e R s m args below meth c H locs cells slots Q (F0 m pc ls st0) := by
  have hF := sb_F hsb hD hS hA
  refine va_calli hr hS (fun q _ h => hF q h) hF (fun r9 u9 t H1 locs1 ht hvm hw hB hz hk hS1 => ?_)
  obtain ⟨rfl, rfl⟩ := hw
  obtain ⟨hP1, hK1, hD1⟩ := hB
  rw [ht] at hP1
  exact kk H1 locs1 (jn_P hsb hjn hP hD hk hP1) (jn_D hjn hD) hS1
theorem kc_v (hr : va_Run p l e R s m args below meth c H locs cells slots mc ms (F0 m pc ls st0) rest (QV D tys (va_A w0 H.size) w u' a) (va_A w0 H.size)) (hP : va_P D vwCl W0 H) (hD : va_D A W0) (hS : va_S A H0 H locs) (hA : ∀ q, H0.size ≤ q → A q) (hsb : Sb W0 w0 g) (hjn : Jn W0 w0 (w u') W1 g)
    (kk : ∀ (H1 : Heap) (locs1 : List Loc), va_P D vwCl W1 H1 → va_D A W1 → va_S A H0 H1 locs1 → W p l e R s m args below meth c H1 locs1 (cells + mc) (slots + ms) Q (F0 m (pc + 3) ls rest)) : W p l e R s m args below meth c H locs cells slots Q (F0 m pc ls st0) := by
  have hF := sb_F hsb hD hS hA
  refine va_callv hr hS (fun q _ h => hF q h) hF (fun u9 t H1 locs1 ht hvm hw hB hz hk hS1 => ?_)
  subst hw
  obtain ⟨hP1, hK1, hD1⟩ := hB
  rw [ht] at hP1
  exact kk H1 locs1 (jn_P hsb hjn hP hD hk hP1) (jn_D hjn hD) hS1
theorem kc_q {r : Option Nat} (hr : va_Run p l e R s m args below meth c H locs cells slots mc ms (F0 m pc ls st0) rest (QQ D tys (va_A w0 H.size) w r u' a) (va_A w0 H.size)) (hP : va_P D vwCl W0 H) (hD : va_D A W0) (hS : va_S A H0 H locs) (hA : ∀ q, H0.size ≤ q → A q) (hsb : Sb W0 w0 g) (hjn : Jn W0 w0 (w u') W1 g)
    (kk : ∀ (H1 : Heap) (locs1 : List Loc), va_P D vwCl W1 H1 → va_D A W1 → va_S A H0 H1 locs1 → W p l e R s m args below meth c H1 locs1 (cells + mc) (slots + ms) Q (F0 m (pc + 3) ls (va_rf r :: rest))) : W p l e R s m args below meth c H locs cells slots Q (F0 m pc ls st0) := by
  have hF := sb_F hsb hD hS hA
  refine va_callq hr hS (fun q _ h => hF q h) hF (fun r9 u9 t H1 locs1 ht hvm hw hB hz hk hS1 => ?_)
  obtain ⟨rfl, rfl⟩ := hw
  obtain ⟨hP1, hK1, hD1⟩ := hB
  rw [ht] at hP1
  exact kk H1 locs1 (jn_P hsb hjn hP hD hk hP1) (jn_D hjn hD) hS1
theorem kx_i {o : Nat ⊕ Int32} (hr : vx_Run p l e R s m args below meth c H locs cells slots mc ms (F0 m pc ls st0) rest (XI D tys (va_A w0 H.size) w o u' a) (XX D tys (va_A w0 H.size) w o u') (va_A w0 H.size)) (hP : va_P D vwCl W0 H) (hD : va_D A W0) (hS : va_S A H0 H locs) (hA : ∀ q, H0.size ≤ q → A q) (hsb : Sb W0 w0 g) (hjn : Jn W0 w0 (w u') W1 g)
    (kx : ∀ (e9 : Nat) (ce : Cell) (q9 : Addr) (H1 : Heap) (locs1 : List Loc), o = .inl e9 → va_P D vwCl W1 H1 → va_D A W1 → va_S A H0 H1 locs1 → H1[q9]? = some ce → ce.vm = .none → s.vm.findClass (exN e9) = some ce.cls → vx_W p l e R s m args below meth c H1 locs1 (cells + mc) (slots + ms) Q (F0 m pc ls rest) q9)
    (kk : ∀ (r : Int32) (H1 : Heap) (locs1 : List Loc), o = .inr r → va_P D vwCl W1 H1 → va_D A W1 → va_S A H0 H1 locs1 → W p l e R s m args below meth c H1 locs1 (cells + mc) (slots + ms) Q (F0 m (pc + 3) ls (.int r :: rest))) : W p l e R s m args below meth c H locs cells slots Q (F0 m pc ls st0) := by
  have hF := sb_F hsb hD hS hA
  refine vx_calli hr hS (fun q _ h => hF q h) hF (fun q _ h => hF q h) (fun E ce q9 z t H1 locs1 ht hvm hw hB hz hk hS1 hce hcv hcl => ?_) (fun r9 u9 t H1 locs1 ht hvm hw hB hz hk hS1 => ?_)
  · obtain ⟨rfl, hP1, hK1, hD1⟩ := hB
    rw [ht] at hP1
    exact kx z ce q9 H1 locs1 hw (jn_P hsb hjn hP hD hk hP1) (jn_D hjn hD) hS1 hce hcv hcl
  · obtain ⟨ho, rfl⟩ := hw
    obtain ⟨hP1, hK1, hD1⟩ := hB
    rw [ht] at hP1
    exact kk r9 H1 locs1 ho (jn_P hsb hjn hP hD hk hP1) (jn_D hjn hD) hS1
theorem kx_v {o : Nat ⊕ Unit} (hr : vx_Run p l e R s m args below meth c H locs cells slots mc ms (F0 m pc ls st0) rest (XV D tys (va_A w0 H.size) w o u' a) (XX D tys (va_A w0 H.size) w o u') (va_A w0 H.size)) (hP : va_P D vwCl W0 H) (hD : va_D A W0) (hS : va_S A H0 H locs) (hA : ∀ q, H0.size ≤ q → A q) (hsb : Sb W0 w0 g) (hjn : Jn W0 w0 (w u') W1 g)
    (kx : ∀ (e9 : Nat) (ce : Cell) (q9 : Addr) (H1 : Heap) (locs1 : List Loc), o = .inl e9 → va_P D vwCl W1 H1 → va_D A W1 → va_S A H0 H1 locs1 → H1[q9]? = some ce → ce.vm = .none → s.vm.findClass (exN e9) = some ce.cls → vx_W p l e R s m args below meth c H1 locs1 (cells + mc) (slots + ms) Q (F0 m pc ls rest) q9)
    (kk : ∀ (H1 : Heap) (locs1 : List Loc), o = .inr () → va_P D vwCl W1 H1 → va_D A W1 → va_S A H0 H1 locs1 → W p l e R s m args below meth c H1 locs1 (cells + mc) (slots + ms) Q (F0 m (pc + 3) ls rest)) : W p l e R s m args below meth c H locs cells slots Q (F0 m pc ls st0) := by
  have hF := sb_F hsb hD hS hA
  refine vx_callv hr hS (fun q _ h => hF q h) hF (fun q _ h => hF q h) (fun E ce q9 z t H1 locs1 ht hvm hw hB hz hk hS1 hce hcv hcl => ?_) (fun u9 t H1 locs1 ht hvm hw hB hz hk hS1 => ?_)
  · obtain ⟨rfl, hP1, hK1, hD1⟩ := hB
    rw [ht] at hP1
    exact kx z ce q9 H1 locs1 hw (jn_P hsb hjn hP hD hk hP1) (jn_D hjn hD) hS1 hce hcv hcl
  · obtain ⟨ho, rfl⟩ := hw
    obtain ⟨hP1, hK1, hD1⟩ := hB
    rw [ht] at hP1
    exact kk H1 locs1 ho (jn_P hsb hjn hP hD hk hP1) (jn_D hjn hD) hS1
/-- past this method: the throw goes on to the caller, the world as it is -/
theorem kx_out {ρ : Type} {Qc : Array Value → State → Outcome → State → Prop} {o : Nat ⊕ ρ} {e9 : Nat} {ce : Cell} {q9 : Addr} {mc' ms' : Nat} (hnx : ∀ x ∈ c.exceptionTable.toList, False) (hlocks : meth.locks = false) (hK : va_K D vwCl tys s) (hP : va_P D vwCl (w u') H) (hD : va_D A (w u')) (hS : va_S A s.heap H locs) (hce : H[q9]? = some ce) (hcv : ce.vm = .none) (hcl : s.vm.findClass (exN e9) = some ce.cls) (ho : o = .inl e9) (h1 : cells ≤ mc') (h2 : slots ≤ ms') :
    vx_W p l e R s m args below meth c H locs cells slots (vx_MQ below Qc (XX D tys A w o u') args s mc' ms' A) (F0 m pc ls rest) q9 :=
  vx_out (fun x hx => (hnx x hx).elim) hlocks hce hcv hcl (fun t ht hvm => ⟨e9, ho, ⟨rfl, by rw [ht]; exact hP, va_K.moved hvm hK, hD⟩, hS.F ht⟩) hS.2.2 h1 h2
end BB2
