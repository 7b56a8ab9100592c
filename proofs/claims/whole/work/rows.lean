section
-- ===== PART A: goes FIRST, ahead of the names: the tables' words, and 'selects' of the private methods out of them =====
/-- a private method of a class that the tables say can be made, by its rows of tables_1 -/
def lw_okq (q : MethodName × Nat) : Prop := (q.1.cls ≠ "java/lang/invoke/MethodHandle" ∧ q.1.cls ≠ "java/lang/invoke/VarHandle") ∧ Cond.instantiable q.1.cls q.2 ∈ tables_1 ∧ Cond.privateMethod q.1 ∈ tables_1 ∧ Cond.instanceMethod q.1 ∈ tables_1
theorem lw_p0 : lw_okq (⟨"PacketStores", "rowAt", "(II)LPacketStores$Row;"⟩, 16) := ⟨⟨by decide +kernel, by decide +kernel⟩, List.mem_of_getElem? (i := 11) (by decide +kernel), List.mem_of_getElem? (i := 101) (by decide +kernel), List.mem_of_getElem? (i := 102) (by decide +kernel)⟩
theorem lw_p1 : lw_okq (⟨"PacketStores", "unitsInStocks", "(I)I"⟩, 16) := ⟨⟨by decide +kernel, by decide +kernel⟩, List.mem_of_getElem? (i := 11) (by decide +kernel), List.mem_of_getElem? (i := 130) (by decide +kernel), List.mem_of_getElem? (i := 131) (by decide +kernel)⟩
theorem lw_p2 : lw_okq (⟨"PacketStores", "unitsInWagons", "(I)I"⟩, 16) := ⟨⟨by decide +kernel, by decide +kernel⟩, List.mem_of_getElem? (i := 11) (by decide +kernel), List.mem_of_getElem? (i := 134) (by decide +kernel), List.mem_of_getElem? (i := 135) (by decide +kernel)⟩
theorem lw_p3 : lw_okq (⟨"java/lang/Throwable", "fillInStackTrace", "(I)Ljava/lang/Throwable;"⟩, 6) := ⟨⟨by decide +kernel, by decide +kernel⟩, List.mem_of_getElem? (i := 191) (by decide +kernel), List.mem_of_getElem? (i := 189) (by decide +kernel), List.mem_of_getElem? (i := 190) (by decide +kernel)⟩
theorem lw_p4 : lw_okq (⟨"PacketStores", "produceEverywhere", "()V"⟩, 16) := ⟨⟨by decide +kernel, by decide +kernel⟩, List.mem_of_getElem? (i := 11) (by decide +kernel), List.mem_of_getElem? (i := 287) (by decide +kernel), List.mem_of_getElem? (i := 288) (by decide +kernel)⟩
theorem lw_p5 : lw_okq (⟨"PacketStores", "produce", "(III)V"⟩, 16) := ⟨⟨by decide +kernel, by decide +kernel⟩, List.mem_of_getElem? (i := 11) (by decide +kernel), List.mem_of_getElem? (i := 291) (by decide +kernel), List.mem_of_getElem? (i := 292) (by decide +kernel)⟩
theorem lw_p6 : lw_okq (⟨"PacketStores$Row", "lastIs", "(II)Z"⟩, 5) := ⟨⟨by decide +kernel, by decide +kernel⟩, List.mem_of_getElem? (i := 20) (by decide +kernel), List.mem_of_getElem? (i := 302) (by decide +kernel), List.mem_of_getElem? (i := 303) (by decide +kernel)⟩
theorem lw_p7 : lw_okq (⟨"PacketStores$Row", "dropFirst", "()V"⟩, 5) := ⟨⟨by decide +kernel, by decide +kernel⟩, List.mem_of_getElem? (i := 20) (by decide +kernel), List.mem_of_getElem? (i := 327) (by decide +kernel), List.mem_of_getElem? (i := 328) (by decide +kernel)⟩
theorem lw_p8 : lw_okq (⟨"PacketStores", "deliverFrom", "(LPacketStores$Row;III)I"⟩, 16) := ⟨⟨by decide +kernel, by decide +kernel⟩, List.mem_of_getElem? (i := 11) (by decide +kernel), List.mem_of_getElem? (i := 338) (by decide +kernel), List.mem_of_getElem? (i := 339) (by decide +kernel)⟩
theorem lw_p9 : lw_okq (⟨"PacketStores", "payOfOne", "(III)I"⟩, 16) := ⟨⟨by decide +kernel, by decide +kernel⟩, List.mem_of_getElem? (i := 11) (by decide +kernel), List.mem_of_getElem? (i := 342) (by decide +kernel), List.mem_of_getElem? (i := 343) (by decide +kernel)⟩
theorem lw_p10 : lw_okq (⟨"PacketStores", "earn", "(I)V"⟩, 16) := ⟨⟨by decide +kernel, by decide +kernel⟩, List.mem_of_getElem? (i := 11) (by decide +kernel), List.mem_of_getElem? (i := 352) (by decide +kernel), List.mem_of_getElem? (i := 353) (by decide +kernel)⟩
theorem lw_p11 : lw_okq (⟨"PacketStores", "checkFellows", "(II)V"⟩, 16) := ⟨⟨by decide +kernel, by decide +kernel⟩, List.mem_of_getElem? (i := 11) (by decide +kernel), List.mem_of_getElem? (i := 364) (by decide +kernel), List.mem_of_getElem? (i := 365) (by decide +kernel)⟩
theorem lw_p12 : lw_okq (⟨"PacketStoresModel", "produce", "(II)V"⟩, 18) := ⟨⟨by decide +kernel, by decide +kernel⟩, List.mem_of_getElem? (i := 394) (by decide +kernel), List.mem_of_getElem? (i := 488) (by decide +kernel), List.mem_of_getElem? (i := 489) (by decide +kernel)⟩
theorem lw_p13 : lw_okq (⟨"PacketStoresModel", "put", "(III)V"⟩, 18) := ⟨⟨by decide +kernel, by decide +kernel⟩, List.mem_of_getElem? (i := 394) (by decide +kernel), List.mem_of_getElem? (i := 492) (by decide +kernel), List.mem_of_getElem? (i := 493) (by decide +kernel)⟩
theorem lw_p14 : lw_okq (⟨"PacketStoresModel", "packets", "(I)I"⟩, 18) := ⟨⟨by decide +kernel, by decide +kernel⟩, List.mem_of_getElem? (i := 394) (by decide +kernel), List.mem_of_getElem? (i := 496) (by decide +kernel), List.mem_of_getElem? (i := 497) (by decide +kernel)⟩
theorem lw_p15 : lw_okq (⟨"PacketStoresModel", "isFirst", "(II)Z"⟩, 18) := ⟨⟨by decide +kernel, by decide +kernel⟩, List.mem_of_getElem? (i := 394) (by decide +kernel), List.mem_of_getElem? (i := 500) (by decide +kernel), List.mem_of_getElem? (i := 501) (by decide +kernel)⟩
def lw_privs_1 : List (MethodName × Nat) := [(⟨"PacketStores", "rowAt", "(II)LPacketStores$Row;"⟩, 16), (⟨"PacketStores", "unitsInStocks", "(I)I"⟩, 16), (⟨"PacketStores", "unitsInWagons", "(I)I"⟩, 16), (⟨"java/lang/Throwable", "fillInStackTrace", "(I)Ljava/lang/Throwable;"⟩, 6), (⟨"PacketStores", "produceEverywhere", "()V"⟩, 16), (⟨"PacketStores", "produce", "(III)V"⟩, 16), (⟨"PacketStores$Row", "lastIs", "(II)Z"⟩, 5), (⟨"PacketStores$Row", "dropFirst", "()V"⟩, 5), (⟨"PacketStores", "deliverFrom", "(LPacketStores$Row;III)I"⟩, 16), (⟨"PacketStores", "payOfOne", "(III)I"⟩, 16), (⟨"PacketStores", "earn", "(I)V"⟩, 16), (⟨"PacketStores", "checkFellows", "(II)V"⟩, 16), (⟨"PacketStoresModel", "produce", "(II)V"⟩, 18), (⟨"PacketStoresModel", "put", "(III)V"⟩, 18), (⟨"PacketStoresModel", "packets", "(I)I"⟩, 18), (⟨"PacketStoresModel", "isFirst", "(II)Z"⟩, 18)]
theorem lw_r1 : ∀ q ∈ lw_privs_1, lw_okq q := List.forall_mem_cons.mpr ⟨lw_p0, List.forall_mem_cons.mpr ⟨lw_p1, List.forall_mem_cons.mpr ⟨lw_p2, List.forall_mem_cons.mpr ⟨lw_p3, List.forall_mem_cons.mpr ⟨lw_p4, List.forall_mem_cons.mpr ⟨lw_p5, List.forall_mem_cons.mpr ⟨lw_p6, List.forall_mem_cons.mpr ⟨lw_p7, List.forall_mem_cons.mpr ⟨lw_p8, List.forall_mem_cons.mpr ⟨lw_p9, List.forall_mem_cons.mpr ⟨lw_p10, List.forall_mem_cons.mpr ⟨lw_p11, List.forall_mem_cons.mpr ⟨lw_p12, List.forall_mem_cons.mpr ⟨lw_p13, List.forall_mem_cons.mpr ⟨lw_p14, List.forall_mem_cons.mpr ⟨lw_p15, fun _ h => absurd h List.not_mem_nil⟩⟩⟩⟩⟩⟩⟩⟩⟩⟩⟩⟩⟩⟩⟩⟩
theorem lw_p16 : lw_okq (⟨"PacketStoresModel", "move", "(II)V"⟩, 18) := ⟨⟨by decide +kernel, by decide +kernel⟩, List.mem_of_getElem? (i := 394) (by decide +kernel), List.mem_of_getElem? (i := 508) (by decide +kernel), List.mem_of_getElem? (i := 509) (by decide +kernel)⟩
theorem lw_p17 : lw_okq (⟨"PacketStoresModel", "drop", "(I)V"⟩, 18) := ⟨⟨by decide +kernel, by decide +kernel⟩, List.mem_of_getElem? (i := 394) (by decide +kernel), List.mem_of_getElem? (i := 512) (by decide +kernel), List.mem_of_getElem? (i := 513) (by decide +kernel)⟩
theorem lw_p18 : lw_okq (⟨"PacketStoresModel", "pay", "(III)V"⟩, 18) := ⟨⟨by decide +kernel, by decide +kernel⟩, List.mem_of_getElem? (i := 394) (by decide +kernel), List.mem_of_getElem? (i := 520) (by decide +kernel), List.mem_of_getElem? (i := 521) (by decide +kernel)⟩
theorem lw_p19 : lw_okq (⟨"PacketStoresModel", "rowOf", "(II)I"⟩, 18) := ⟨⟨by decide +kernel, by decide +kernel⟩, List.mem_of_getElem? (i := 394) (by decide +kernel), List.mem_of_getElem? (i := 548) (by decide +kernel), List.mem_of_getElem? (i := 549) (by decide +kernel)⟩
def lw_privs_2 : List (MethodName × Nat) := [(⟨"PacketStoresModel", "move", "(II)V"⟩, 18), (⟨"PacketStoresModel", "drop", "(I)V"⟩, 18), (⟨"PacketStoresModel", "pay", "(III)V"⟩, 18), (⟨"PacketStoresModel", "rowOf", "(II)I"⟩, 18)]
theorem lw_r2 : ∀ q ∈ lw_privs_2, lw_okq q := List.forall_mem_cons.mpr ⟨lw_p16, List.forall_mem_cons.mpr ⟨lw_p17, List.forall_mem_cons.mpr ⟨lw_p18, List.forall_mem_cons.mpr ⟨lw_p19, fun _ h => absurd h List.not_mem_nil⟩⟩⟩⟩
def lw_privs : List (MethodName × Nat) := lw_privs_1 ++ (lw_privs_2)
def lw_tbl : List Cond := k2_sels lw_privs ++ tables_1
theorem lw_privs_ok : ∀ q ∈ lw_privs, lw_okq q := by
  show ∀ q ∈ lw_privs_1 ++ (lw_privs_2), lw_okq q
  exact List.forall_mem_append.mpr ⟨lw_r1, lw_r2⟩
end
section
/-! ===== BEGIN words of one list among another's, by their places ===== -/
theorem goodIn_r {big : List Cond} (ws : List Cond) (ps : List Nat) (hp : ws = ps.filterMap (fun i => big[i]?)) (h : ws.all goodWord = true) : GoodIn big ws := by
  intro w hw
  have h1 := List.all_eq_true.mp h w hw
  rw [hp] at hw
  obtain ⟨i, -, hi⟩ := List.mem_filterMap.mp hw
  have hm : w ∈ big := by first | exact List.mem_of_getElem? hi | exact List.getElem?_mem hi
  exact ⟨hm, good_of_word h1⟩
theorem goodIn_app {big a b : List Cond} (ha : GoodIn big a) (hb : GoodIn big b) : GoodIn big (a ++ b) := fun w h => (List.mem_append.mp h).elim (ha w) (hb w)
theorem goodIn_ca {big a b : List Cond} {c : Cond} (ha : GoodIn big (c :: a)) (hb : GoodIn big b) : GoodIn big (c :: (a ++ b)) := fun w h => (List.mem_cons.mp h).elim (fun e => ha w (List.mem_cons.mpr (Or.inl e))) (fun h => (List.mem_append.mp h).elim (fun h => ha w (List.mem_cons.mpr (Or.inr h))) (hb w))
theorem goodIn_sub {big ws : List Cond} (hm : ∀ w ∈ ws, w ∈ big) (h : ws.all goodWord = true) : GoodIn big ws := fun w hw => ⟨hm w hw, good_of_word (List.all_eq_true.mp h w hw)⟩
/-! ===== END ===== -/

/-! ===== BEGIN exceptions that leave a method, and their catching by the caller (launches without stack traces) ===== -/
section VXA
/-! The laws vx_back, vx_callV, vx_callS, vx_callSW, vx_throw0, vx_throwS follow proofs of the library, with one case more: JvmDerived/Free/Laws.lean (Back.of_free), Shelf42/LK1.lean (callV, callS), Shelf/KitTraced.lean (throwNew0V, throwNewS). -/
/-- where a method has thrown q: the class by its name, the cell, what was written, the world -/
def vx_T (XC : String → State → State → Prop) (st : State) (q : Addr) (t : State) (mc ms : Nat) (free : Addr → Prop) : Prop :=
  ∃ (E : String) (ce : Cell) (L : List Loc), XC E st t ∧ t.heap[q]? = some ce ∧ ce.vm = .none ∧ st.vm.findClass E = some ce.cls ∧ st.WarmedH t.vm ∧ st.sameButNew ({ t with vm := st.vm } : State) L mc ms ∧ ∀ z ∈ L, free z.base
def vx_Q (Qc : Array Value → State → Outcome → State → Prop) (XC : String → State → State → Prop) (mc ms : Nat) (free : Addr → Prop) : Array Value → State → Outcome → State → Prop := fun a st o t =>
  (Qc a st o t ∧ ∃ L, FrameEnd st o t L mc ms ∧ ∀ q ∈ L, free q.base) ∨ ∃ q, o = .threw q ∧ vx_T XC st q t mc ms free
/-- a callee that returns or throws -/
def vx_Met (l : Launch) (y : MethodName) (ws : List Cond) (rm : Room) (Pc : Array Value → State → Prop) (Qc : Array Value → State → Outcome → State → Prop) (XC : String → State → State → Prop) (mc ms : Nat) (free : Addr → Prop) : Prop :=
  MetFree l y (headSpec ws rm) Pc (fun _ _ _ _ _ => True) (vx_Q Qc XC mc ms free)
def vx_Post (XC : String → State → State → Prop) (mc ms : Nat) (free : Addr → Prop) : Pt → Array Value → Addr → Pt → Prop := fun A a q B =>
  ∃ (g : JFrame) (mk : MethodId) (t : State) (L : List Loc) (E : String) (ce : Cell), B.U.heap = t.heap ∧ B.U.vm = t.vm ∧ XC E (A.U.calling g mk a) t ∧ t.heap[q]? = some ce ∧ ce.vm = .none ∧ A.U.vm.findClass E = some ce.cls ∧ B.locs = A.locs ++ L ∧ (∀ z ∈ L, free z.base) ∧ B.cells = A.cells + mc ∧ B.slots = A.slots + ms
def vx_Back (l : Launch) (R : Room) (p : Program) (e : Env) (below : List Frame) (s : State) (sargs : Array Value) (y : MethodName) (len W9 : Nat)
    (Pre : Pt → Array Value → Prop) (Post : Pt → Array Value → Option Value → Pt → Prop) (PostX : Pt → Array Value → Addr → Pt → Prop) : Prop :=
  ∀ (m : MethodId) (meth : Method) (c : Code) (A : Pt) (g : JFrame) (ig : Instr) (mk : MethodId) (a : Array Value),
    Stand p l e R s m sargs below meth c A.U A.locs A.cells A.slots → g.method = m → g.locals.size = c.maxLocals → decode c.code g.pc = .ok (ig, len) →
    2 * g.monitorRoom + (g.stack.map fun v => v.category).sum ≤ W9 → A.U.methodNamed? y = some mk → Pre A a →
    (∃ (v : Option Value) (B : Pt), Stand p l e R s m sargs below meth c B.U B.locs B.cells B.slots ∧ Post A a v B ∧
      Steps p.tables e below (doInvoke e (A.U.setTop g) [] mk a).1 (B.U.setTop { g with pc := g.pc + len, stack := v.toList ++ g.stack })) ∨
    (∃ (q : Addr) (B : Pt), Stand p l e R s m sargs below meth c B.U B.locs B.cells B.slots ∧ PostX A a q B ∧
      Steps p.tables e below (doInvoke e (A.U.setTop g) [] mk a).1 ((B.U.setTop g).pushFrame (.throwing q)))
section Payer
variable {l : Launch} {R : Room} {p : Program} {e : Env} {below : List Frame} {s : State} {sargs : Array Value} {y : MethodName} {len W9 : Nat}
theorem vx_back {ws : List Cond} {rm : Room} {Pc : Array Value → State → Prop} {Qc : Array Value → State → Outcome → State → Prop} {XC : String → State → State → Prop} {mc ms : Nat} {free : Addr → Prop} {bytes : ByteArray} {maxL : Nat} {ret : Option FieldType}
    (hM : vx_Met l y ws rm Pc Qc XC mc ms free) (hblind : FrameBlind Pc) (hrc : rm.cells = mc) (hrs : rm.slots = ms)
    (hframes : rm.frames + 1 ≤ R.frames) (hlocals : W9 + (maxL + 11) + rm.locals ≤ R.locals)
    (hws : ∀ w ∈ ws, ∀ a' U, s.WarmedH U.vm → w.before a' U = true) (hcode : Cond.code y bytes maxL ret ∈ ws) (hinit : ∀ a' U, s.WarmedH U.vm → (Cond.initialized y.cls).before a' U = true) :
    vx_Back l R p e below s sargs y len W9 (PreOf R mc ms Pc) (PostOf Qc mc ms free) (vx_Post XC mc ms free) := by
  intro m meth c A g ig mk a X hg hsize hdg hW hn hp
  have h1 : (headSpec ws rm).pre.before a A.U = true := atoms_intro fun w hw => hws w hw _ _ X.warmed
  have h2 : (Cond.code y bytes maxL ret).before a A.U = true := hws _ hcode _ _ X.warmed
  have h3 : (Cond.initialized y.cls).before a A.U = true := hinit _ _ X.warmed
  have h4 : A.cells + (headSpec ws rm).room.cells ≤ R.cells := by rw [show (headSpec ws rm).room.cells = mc from hrc]; exact hp.1
  have h5 : A.slots + (headSpec ws rm).room.slots ≤ R.slots := by rw [show (headSpec ws rm).room.slots = ms from hrs]; exact hp.2.1
  have hPc : Pc a (A.U.calling g mk a) := hblind _ _ _ _ hp.2.2
  obtain ⟨U, Ls, c0, s0⟩ := A
  dsimp only [Pt.U, Pt.locs, Pt.cells, Pt.slots] at h1 h2 h3 h4 h5 X hn hPc ⊢
  obtain ⟨methY, cY, hmY, hcY, -, hlY, -, -, -, -⟩ := Cond.code_spec hn h2
  obtain ⟨kY, hkY, -⟩ := className_of_methodNamed hn
  have hinitY : kY.init = .initialized := Cond.initialized_spec (findClass_of_methodNamed hn) hkY h3
  have h : At U g.method c below := by rw [hg]; exact X.here
  have hlocals9 : W9 + (maxL + 11) + (headSpec ws rm).room.locals ≤ R.locals := hlocals
  have happ : (headSpec ws rm).appliesLoose y e.platform (U.calling g mk a) = true :=
    Spec.appliesLoose_calling (g := g) h hdg hn hkY hinitY
      (X.room_calling (g := g) (R' := (headSpec ws rm).room) hsize hmY hcY hframes (by rw [hlY]; omega) h4 h5) h1
  obtain ⟨mid, hmid⟩ := h.above
  have hfr : (U.setTop g).frames = (.java g :: mid) ++ below := by rw [State.frames_setTop' g h.top, hmid]; rfl
  obtain ⟨o, s₂, hsteps, -, hend, hq⟩ := Steps.callFree hM p X.admits X.cas X.clock (acts := []) hfr happ hPc trivial
  have hq' : vx_Q Qc XC mc ms free a (U.calling g mk a) o s₂ := hq
  rw [State.frames_setTop' g h.top] at hend
  obtain ⟨g₀, hg0⟩ := Option.isSome_iff_exists.mp h.top
  obtain ⟨r, hr⟩ := State.topJava?_eq_some.mp hg0
  have hr' : (({ U with heap := s₂.heap, slotsUsed := s₂.slotsUsed } : State).setVm s₂.vm).frames = .java g₀ :: r := hr
  rcases hq' with ⟨hqc, L, hfe, hL⟩ | ⟨q, rfl, E, ce, L, hx, hce, hcv, hcl, hW₂, hsm, hL⟩
  · obtain ⟨⟨v, rfl⟩, hW₂, e2, q2, q3, q4, q5, q6⟩ := id hfe
    have e3 : s₂ = ({ (U.calling g mk a).setFrames s₂.frames with heap := s₂.heap, slotsUsed := s₂.slotsUsed } : State).setVm s₂.vm := by
      have : s₂ = ({ s₂ with vm := (U.calling g mk a).vm } : State).setVm s₂.vm := rfl
      rw [e2] at this
      exact this
    obtain ⟨c₂, i₂, len₂, hc₂, hd₂, hf₂⟩ := hend
    have hW' : U.WarmedH s₂.vm := hW₂
    have hcc : c₂ = c := by
      have h1 : s₂.code? g.method = U.code? g.method := by
        rw [State.code?_eq, State.code?_eq, hW'.alike.method?]
      exact Option.some.inj (hc₂.symm.trans (h1.trans h.code))
    subst hcc
    have hlen : len₂ = len := by rw [hdg] at hd₂; cases hd₂; rfl
    subst hlen
    have hs₂ : s₂ = (({ U with heap := s₂.heap, slotsUsed := s₂.slotsUsed } : State).setVm s₂.vm).setTop { g with pc := g.pc + len₂, stack := v.toList ++ g.stack } := by
      refine e3.trans ?_
      rw [hf₂, State.calling_eq h.top, State.setFrames_setFrames, State.setTop_of_frames _ hr', hr]
      rfl
    have hsame : U.sameButNew ({ U with heap := s₂.heap, slotsUsed := s₂.slotsUsed } : State) L mc ms := by
      refine ⟨?_, q2, q3, q4, q5, q6⟩
      obtain ⟨t, ht, -⟩ := State.frames_cons hr
      show ({ U with heap := s₂.heap, slotsUsed := s₂.slotsUsed } : State) = { U.setFrames U.frames with heap := s₂.heap, slotsUsed := s₂.slotsUsed }
      rw [State.setFrames_self ht]
    subst hg
    refine Or.inl ⟨v, ⟨(({ U with heap := s₂.heap, slotsUsed := s₂.slotsUsed } : State).setVm s₂.vm), Ls ++ L, c0 + mc, s0 + ms⟩,
      ⟨X.admits, X.cas, X.clock, X.frames, X.room, X.hears, X.method, X.code, (X.here.setHeapUsed s₂.heap s₂.slotsUsed).setVm hW'.alike, X.tail, State.WarmedH.trans X.warmed hW', X.limits, X.bytes, X.same.trans (hsame.setVm s.vm)⟩,
      ⟨g, mk, s₂, L, rfl, rfl, hqc, rfl, hL, rfl, rfl⟩, ?_⟩
    show Steps p.tables e below _ ((({ U with heap := s₂.heap, slotsUsed := s₂.slotsUsed } : State).setVm s₂.vm).setTop { g with pc := g.pc + len₂, stack := v.toList ++ g.stack })
    rw [← hs₂]
    exact hsteps
  · obtain ⟨e2, q2, q3, q4, q5, q6⟩ := id hsm
    have e3 : s₂ = ({ (U.calling g mk a).setFrames s₂.frames with heap := s₂.heap, slotsUsed := s₂.slotsUsed } : State).setVm s₂.vm := by
      have : s₂ = ({ s₂ with vm := (U.calling g mk a).vm } : State).setVm s₂.vm := rfl
      rw [e2] at this
      exact this
    have hf₂ : s₂.frames = .throwing q :: .java g :: U.frames.tail := hend
    have hW' : U.WarmedH s₂.vm := hW₂
    have hs₂ : s₂ = ((({ U with heap := s₂.heap, slotsUsed := s₂.slotsUsed } : State).setVm s₂.vm).setTop g).pushFrame (.throwing q) := by
      refine e3.trans ?_
      rw [hf₂, State.calling_eq h.top, State.setFrames_setFrames, State.pushFrame, State.frames_setTop _ hr', State.setTop_of_frames _ hr', State.setFrames_setFrames, hr]
      rfl
    have hsame : U.sameButNew ({ U with heap := s₂.heap, slotsUsed := s₂.slotsUsed } : State) L mc ms := by
      refine ⟨?_, q2, q3, q4, q5, q6⟩
      obtain ⟨t, ht, -⟩ := State.frames_cons hr
      show ({ U with heap := s₂.heap, slotsUsed := s₂.slotsUsed } : State) = { U.setFrames U.frames with heap := s₂.heap, slotsUsed := s₂.slotsUsed }
      rw [State.setFrames_self ht]
    subst hg
    refine Or.inr ⟨q, ⟨(({ U with heap := s₂.heap, slotsUsed := s₂.slotsUsed } : State).setVm s₂.vm), Ls ++ L, c0 + mc, s0 + ms⟩,
      ⟨X.admits, X.cas, X.clock, X.frames, X.room, X.hears, X.method, X.code, (X.here.setHeapUsed s₂.heap s₂.slotsUsed).setVm hW'.alike, X.tail, State.WarmedH.trans X.warmed hW', X.limits, X.bytes, X.same.trans (hsame.setVm s.vm)⟩,
      ⟨g, mk, s₂, L, E, ce, rfl, rfl, hx, hce, hcv, hcl, rfl, hL, rfl, rfl⟩, ?_⟩
    show Steps p.tables e below _ (((({ U with heap := s₂.heap, slotsUsed := s₂.slotsUsed } : State).setVm s₂.vm).setTop g).pushFrame (.throwing q))
    rw [← hs₂]
    exact hsteps
end Payer
section Calls
variable {p : Program} {l : Launch} {e : Env} {R : Room} {s : State} {m : MethodId} {args : Array Value} {below : List Frame} {meth : Method} {c : Code} {T : State} {locs : List Loc} {cells slots : Nat}
theorem vx_callV (X : Stand p l e R s m args below meth c T locs cells slots) (hexec : p.tables.exec = Jvm.exec) {own C : String} {index : Nat} {y : MethodName} {bytes : ByteArray} {maxL : Nat} {ret : Option FieldType}
    (hown : s.vm.findClass own = some m.cls) (hlink : (Cond.methodLink own index y).before args s = true) (hinst : (Cond.instanceMethod y).before args s = true) (hsel : (Cond.selects C y y).before args s = true)
    (hcode : (Cond.code y bytes maxL ret).before args s = true) (hy : y.cls ≠ "java/lang/invoke/MethodHandle" ∧ y.cls ≠ "java/lang/invoke/VarHandle")
    {W9 : Nat} {Pre : Pt → Array Value → Prop} {Post : Pt → Array Value → Option Value → Pt → Prop} {PostX : Pt → Array Value → Addr → Pt → Prop} (hK : vx_Back l R p e below s args y 3 W9 Pre Post PostX)
    {b : Addr} {cellB : Cell} (hcell : T.heap[b]? = some cellB) (hobj : cellB.vm.isStatics = false) (hcls : s.vm.findClass C = some cellB.cls)
    {g : JFrame} (hg : g.method = m) (hsize : g.locals.size = c.maxLocals) {argsL rest : List Value} (hlen : ∀ sig, parseMethodDescriptor y.desc = some sig → argsL.length = sig.parameters.length)
    (hstack : g.stack = argsL.reverse ++ .ref b :: rest) (hW : 2 * g.monitorRoom + (rest.map fun v => v.category).sum ≤ W9) (hdg : decode c.code g.pc = .ok (.invokevirtual index, 3))
    (hpre : ∀ vm₁, s.WarmedH vm₁ → Pre ⟨T.setVm vm₁, locs, cells, slots⟩ (Value.ref b :: argsL).toArray) :
    (∃ (v : Option Value) (vm₁ : Vm) (B : Pt), s.WarmedH vm₁ ∧ Stand p l e R s m args below meth c B.U B.locs B.cells B.slots ∧ Post ⟨T.setVm vm₁, locs, cells, slots⟩ (Value.ref b :: argsL).toArray v B ∧
      ∀ target, Steps p.tables e below (B.U.setTop { g with pc := g.pc + 3, stack := v.toList ++ rest }) target → Steps p.tables e below (T.setTop g) target) ∨
    (∃ (q : Addr) (vm₁ : Vm) (B : Pt), s.WarmedH vm₁ ∧ Stand p l e R s m args below meth c B.U B.locs B.cells B.slots ∧ PostX ⟨T.setVm vm₁, locs, cells, slots⟩ (Value.ref b :: argsL).toArray q B ∧
      Steps p.tables e below (T.setTop g) ((B.U.setTop { g with stack := rest }).pushFrame (.throwing q))) := by
  obtain ⟨mk, methM, hnamed, hmethM, hstM, habM⟩ := Cond.instanceMethod_spec hinst
  obtain ⟨methM', cM, hmethM', -, -, -, -, -, -, hsigM⟩ := Cond.code_spec hnamed hcode
  cases hmethM.symm.trans hmethM'
  obtain ⟨c2, r2, m2, q1, q2, q3, q4, kP, hkP, hkPi⟩ := Cond.selects_spec hsel
  cases hcls.symm.trans q1
  cases (State.methodFound?_of_named hnamed hy).symm.trans q2
  cases hnamed.symm.trans q3
  have hselP : selectMethod e.platform s.vm cellB.cls mk = .method mk := by rw [Launch.admits_selectMethod X.admits]; exact q4
  obtain ⟨vm₁, X₁, hstep₁⟩ := X.invokevirtual hexec hown hlink hnamed hmethM hstM hkP hkPi hy (a := b) (cell := cellB) hcell
    (fun z h => by rw [h] at hobj; cases hobj) hselP hmethM habM hkP hkPi (g := g) hg (argsL := argsL) (rest := rest) (hlen _ hsigM) hstack hdg
  rcases hK m meth c ⟨T.setVm vm₁, locs, cells, slots⟩ { g with stack := rest } (.invokevirtual index) mk (Value.ref b :: argsL).toArray X₁ hg hsize hdg hW (X₁.named hnamed) (hpre vm₁ X₁.warmed) with ⟨v, B, X', hpost, hsteps⟩ | ⟨q, B, X', hpost, hsteps⟩
  · exact Or.inl ⟨v, vm₁, B, X₁.warmed, X', hpost, fun target h => hstep₁ _ fun acts => by rw [doInvoke_state]; exact hsteps.trans h⟩
  · exact Or.inr ⟨q, vm₁, B, X₁.warmed, X', hpost, hstep₁ _ fun acts => by rw [doInvoke_state]; exact hsteps⟩
theorem vx_callS (X : Stand p l e R s m args below meth c T locs cells slots) (hexec : p.tables.exec = Jvm.exec) {own : String} {index : Nat} {y : MethodName} {bytes : ByteArray} {maxL : Nat} {ret : Option FieldType}
    (hown : s.vm.findClass own = some m.cls) (hlink : (Cond.methodLink own index y).before args s = true) (hstat : (Cond.static y).before args s = true) (hinit : (Cond.initialized y.cls).before args s = true)
    (hcode : (Cond.code y bytes maxL ret).before args s = true) (hy : y.cls ≠ "java/lang/invoke/MethodHandle" ∧ y.cls ≠ "java/lang/invoke/VarHandle")
    {W9 : Nat} {Pre : Pt → Array Value → Prop} {Post : Pt → Array Value → Option Value → Pt → Prop} {PostX : Pt → Array Value → Addr → Pt → Prop} (hK : vx_Back l R p e below s args y 3 W9 Pre Post PostX)
    {g : JFrame} (hg : g.method = m) (hsize : g.locals.size = c.maxLocals) {argsL rest : List Value} (hlen : ∀ sig, parseMethodDescriptor y.desc = some sig → argsL.length = sig.parameters.length)
    (hstack : g.stack = argsL.reverse ++ rest) (hW : 2 * g.monitorRoom + (rest.map fun v => v.category).sum ≤ W9) (hdg : decode c.code g.pc = .ok (.invokestatic index, 3))
    (hpre : ∀ vm₁, s.WarmedH vm₁ → Pre ⟨T.setVm vm₁, locs, cells, slots⟩ argsL.toArray) :
    (∃ (v : Option Value) (vm₁ : Vm) (B : Pt), s.WarmedH vm₁ ∧ Stand p l e R s m args below meth c B.U B.locs B.cells B.slots ∧ Post ⟨T.setVm vm₁, locs, cells, slots⟩ argsL.toArray v B ∧
      ∀ target, Steps p.tables e below (B.U.setTop { g with pc := g.pc + 3, stack := v.toList ++ rest }) target → Steps p.tables e below (T.setTop g) target) ∨
    (∃ (q : Addr) (vm₁ : Vm) (B : Pt), s.WarmedH vm₁ ∧ Stand p l e R s m args below meth c B.U B.locs B.cells B.slots ∧ PostX ⟨T.setVm vm₁, locs, cells, slots⟩ argsL.toArray q B ∧
      Steps p.tables e below (T.setTop g) ((B.U.setTop { g with stack := rest }).pushFrame (.throwing q))) := by
  obtain ⟨mk, hnamed⟩ := Cond.code_named hcode
  obtain ⟨methM, cM, hmethM, -, -, -, -, -, -, hsigM⟩ := Cond.code_spec hnamed hcode
  have hstatic : methM.isStatic = true := Cond.static_spec hnamed hmethM hstat
  obtain ⟨kP, hkP, -⟩ := className_of_methodNamed hnamed
  have hinitP : kP.init = .initialized := Cond.initialized_spec (findClass_of_methodNamed hnamed) hkP hinit
  obtain ⟨vm₁, X₁, hstep₁⟩ := X.invokestatic hexec hown hlink hnamed hmethM hstatic hkP hinitP hy (g := g) hg (argsL := argsL) (rest := rest) (hlen _ hsigM) hstack hdg
  rcases hK m meth c ⟨T.setVm vm₁, locs, cells, slots⟩ { g with stack := rest } (.invokestatic index) mk argsL.toArray X₁ hg hsize hdg hW (X₁.named hnamed) (hpre vm₁ X₁.warmed) with ⟨v, B, X', hpost, hsteps⟩ | ⟨q, B, X', hpost, hsteps⟩
  · exact Or.inl ⟨v, vm₁, B, X₁.warmed, X', hpost, fun target h => hstep₁ _ fun acts => by rw [doInvoke_state]; exact hsteps.trans h⟩
  · exact Or.inr ⟨q, vm₁, B, X₁.warmed, X', hpost, hstep₁ _ fun acts => by rw [doInvoke_state]; exact hsteps⟩
end Calls
theorem vx_cls {s : State} {T : State} {vm₁ : Vm} {E : String} {k : ClassId} (hW : s.WarmedH vm₁) (h : (T.setVm vm₁).vm.findClass E = some k) : s.vm.findClass E = some k := by
  have h1 : vm₁.findClass E = some k := h
  rw [hW.alike.findClass] at h1
  exact h1
/-- the method's frame g, with q thrown over it -/
def vx_W (p : Program) (l : Launch) (e : Env) (R : Room) (s : State) (m : MethodId) (args : Array Value) (below : List Frame) (meth : Method) (c : Code) (H : Heap) (locs : List Loc) (cells slots : Nat) (Q : State → Prop) (g : JFrame) (q : Addr) : Prop :=
  ∀ T : State, T.heap = H → Stand p l e R s m args below meth c T locs cells slots → ∃ t, Steps p.tables e below ((T.setTop g).pushFrame (.throwing q)) t ∧ Q t
def vx_Run (p : Program) (l : Launch) (e : Env) (R : Room) (s : State) (m : MethodId) (args : Array Value) (below : List Frame) (meth : Method) (c : Code) (H : Heap) (locs : List Loc) (cells slots mc ms : Nat) (g : JFrame) (rest : List Value) (Qa : State → Outcome → State → Prop) (XC : String → State → State → Prop) (free : Addr → Prop) : Prop :=
  ∀ T : State, T.heap = H → Stand p l e R s m args below meth c T locs cells slots →
    (∃ (v : Option Value) (st₀ t T' : State) (L : List Loc), st₀.heap = H ∧ Stand p l e R s m args below meth c T' (locs ++ L) (cells + mc) (slots + ms) ∧ (∀ q ∈ L, free q.base) ∧ T'.heap = t.heap ∧ T'.vm = t.vm ∧ Qa st₀ (.returned v) t ∧
      Goes p e below T g T' { g with pc := g.pc + 3, stack := v.toList ++ rest }) ∨
    (∃ (q : Addr) (st₀ t T' : State) (L : List Loc) (E : String) (ce : Cell), st₀.heap = H ∧ Stand p l e R s m args below meth c T' (locs ++ L) (cells + mc) (slots + ms) ∧ (∀ z ∈ L, free z.base) ∧ T'.heap = t.heap ∧ T'.vm = t.vm ∧ XC E st₀ t ∧ t.heap[q]? = some ce ∧ ce.vm = .none ∧ s.vm.findClass E = some ce.cls ∧
      Steps p.tables e below (T.setTop g) ((T'.setTop { g with stack := rest }).pushFrame (.throwing q)))
def vx_X {S : Type} (px : S → Prop) (B : String → S → State → Prop) (A : Nat → Prop) : String → State → State → Prop := fun E st t => ∃ u : S, px u ∧ B E u t ∧ va_F A st t
section Runs
variable {p : Program} {l : Launch} {e : Env} {R : Room} {s : State} {m : MethodId} {args : Array Value} {below : List Frame} {meth : Method} {c : Code} {H : Heap} {locs : List Loc} {cells slots : Nat}
variable {y : MethodName} {bytes cc : ByteArray} {maxL nL mc ms n index : Nat} {ret : Option FieldType} {ws : List Cond} {rm : Room} {Pc : Array Value → State → Prop} {Qc : Array Value → State → Outcome → State → Prop} {XC : String → State → State → Prop} {free : Addr → Prop} {Ts : List Cond} {own C : String} {b : Addr} {As rest : List Value} {g : JFrame}
theorem vx_callBack (cb : CallB R s args own index y bytes maxL ret ws rm mc ms n) (hM : vx_Met l y ws rm Pc Qc XC mc ms free) (hbl : FrameBlind Pc) : vx_Back l R p e below s args y 3 8 (PreOf R mc ms Pc) (PostOf Qc mc ms free) (vx_Post XC mc ms free) := by
  obtain ⟨hrc, hrs, hfr, hlo, hws, hcw, -, hini, -⟩ := cb
  exact vx_back (bytes := bytes) (maxL := maxL) (ret := ret) hM hbl hrc hrs hfr hlo hws hcw (fun a' U hW => word_at hW (Or.inl (by first | rfl | simp [Cond.onTables, Cond.keeps, Cond.steady])) hini)
theorem vx_runV (S : CallFix p m c cc nL s args Ts own) (hM : vx_Met l y ws rm Pc Qc XC mc ms free) (cw : CallW R s args own C index y bytes maxL ret ws rm mc ms n) (hp : PreV s H C b Pc As)
    (hg : g.method = m) (hn : As.length = n) (hsize : g.locals.size = nL) (hstack : g.stack = As.reverse ++ .ref b :: rest) (hW : 2 * g.monitorRoom + (rest.map fun v => v.category).sum ≤ 8) (hdg : decode cc g.pc = .ok (.invokevirtual index, 3)) (hf : cells + mc ≤ R.cells ∧ slots + ms ≤ R.slots) :
    vx_Run p l e R s m args below meth c H locs cells slots mc ms g rest (Qc (Value.ref b :: As).toArray) XC free := by
  have hK : vx_Back l R p e below s args y 3 8 (PreOf R mc ms Pc) (PostOf Qc mc ms free) (vx_Post XC mc ms free) := vx_callBack cw.1 hM hp.1
  obtain ⟨⟨-, -, -, -, -, -, hcode, -, hy, hlen, hl⟩, hin, hse⟩ := cw
  obtain ⟨hx, hb, hml, ho, -⟩ := S
  obtain ⟨-, ⟨cellB, hcB, hoB, hclB⟩, hPc⟩ := hp
  intro T hT X
  rcases vx_callV X hx (C := C) (bytes := bytes) (maxL := maxL) (ret := ret) ho hl hin hse hcode hy hK (by rw [hT]; exact hcB) hoB hclB hg (hsize.trans hml.symm) (argsL := As) (rest := rest) (fun sig h => hn.trans (hlen sig h)) hstack hW (by rw [hb]; exact hdg)
    (fun vm₁ hW₁ => ⟨hf.1, hf.2, hPc (T.setVm vm₁) hT hW₁⟩) with ⟨v, vm₁, ⟨U', l2, c2, s2⟩, hW₁, X', ⟨g', mk, t, L, e1, e2, hq, h1, hL, h2, h3⟩, st⟩ | ⟨q, vm₁, ⟨U', l2, c2, s2⟩, hW₁, X', ⟨g', mk, t, L, E, ce, e1, e2, hq, hce, hcv, hcl, h1, hL, h2, h3⟩, st⟩
  · dsimp only [Pt.U, Pt.locs, Pt.cells, Pt.slots] at X' e1 e2 h1 h2 h3 st
    subst h1; subst h2; subst h3
    exact Or.inl ⟨v, (T.setVm vm₁).calling g' mk (Value.ref b :: As).toArray, t, U', L, hT, X', hL, e1, e2, hq, st⟩
  · dsimp only [Pt.U, Pt.locs, Pt.cells, Pt.slots] at X' e1 e2 h1 h2 h3 st hcl
    subst h1; subst h2; subst h3
    exact Or.inr ⟨q, (T.setVm vm₁).calling g' mk (Value.ref b :: As).toArray, t, U', L, E, ce, hT, X', hL, e1, e2, hq, hce, hcv, vx_cls hW₁ hcl, st⟩
theorem vx_runS (S : CallFix p m c cc nL s args Ts own) (hM : vx_Met l y ws rm Pc Qc XC mc ms free) (cw : CallB R s args own index y bytes maxL ret ws rm mc ms n ∧ (Cond.static y).before args s = true) (hp : PreS s H Pc As)
    (hg : g.method = m) (hn : As.length = n) (hsize : g.locals.size = nL) (hstack : g.stack = As.reverse ++ rest) (hW : 2 * g.monitorRoom + (rest.map fun v => v.category).sum ≤ 8) (hdg : decode cc g.pc = .ok (.invokestatic index, 3)) (hf : cells + mc ≤ R.cells ∧ slots + ms ≤ R.slots) :
    vx_Run p l e R s m args below meth c H locs cells slots mc ms g rest (Qc As.toArray) XC free := by
  have hK : vx_Back l R p e below s args y 3 8 (PreOf R mc ms Pc) (PostOf Qc mc ms free) (vx_Post XC mc ms free) := vx_callBack cw.1 hM hp.1
  obtain ⟨⟨-, -, -, -, -, -, hcode, hini, hy, hlen, hl⟩, hstt⟩ := cw
  obtain ⟨hx, hb, hml, ho, -⟩ := S
  intro T hT X
  rcases vx_callS X hx (bytes := bytes) (maxL := maxL) (ret := ret) ho hl hstt hini hcode hy hK hg (hsize.trans hml.symm) (argsL := As) (rest := rest) (fun sig h => hn.trans (hlen sig h)) hstack hW (by rw [hb]; exact hdg)
    (fun vm₁ hW₁ => ⟨hf.1, hf.2, hp.2 (T.setVm vm₁) hT hW₁⟩) with ⟨v, vm₁, ⟨U', l2, c2, s2⟩, hW₁, X', ⟨g', mk, t, L, e1, e2, hq, h1, hL, h2, h3⟩, st⟩ | ⟨q, vm₁, ⟨U', l2, c2, s2⟩, hW₁, X', ⟨g', mk, t, L, E, ce, e1, e2, hq, hce, hcv, hcl, h1, hL, h2, h3⟩, st⟩
  · dsimp only [Pt.U, Pt.locs, Pt.cells, Pt.slots] at X' e1 e2 h1 h2 h3 st
    subst h1; subst h2; subst h3
    exact Or.inl ⟨v, (T.setVm vm₁).calling g' mk As.toArray, t, U', L, hT, X', hL, e1, e2, hq, st⟩
  · dsimp only [Pt.U, Pt.locs, Pt.cells, Pt.slots] at X' e1 e2 h1 h2 h3 st hcl
    subst h1; subst h2; subst h3
    exact Or.inr ⟨q, (T.setVm vm₁).calling g' mk As.toArray, t, U', L, E, ce, hT, X', hL, e1, e2, hq, hce, hcv, vx_cls hW₁ hcl, st⟩
end Runs
section Rows
variable {p : Program} {l : Launch} {e : Env} {R : Room} {s : State} {m : MethodId} {args : Array Value} {below : List Frame} {meth : Method} {c : Code} {H : Heap} {locs : List Loc} {cells slots : Nat} {Q : State → Prop}
variable {mc ms : Nat} {free : Addr → Prop} {A0 A1 : Nat → Prop} {H0 : Heap} {a : Array Value} {pc : Nat} {ls : Array Slot} {st0 rest : List Value}
theorem vx_keep {st₀ t T' : State} {L : List Loc} (h0 : st₀.heap = H) (e1 : T'.heap = t.heap) (hS : va_S A0 H0 H locs) (hA : ∀ q, q < H.size → A1 q → A0 q) (hf : ∀ q, free q → A0 q) (hL : ∀ q ∈ L, free q.base) (hF : va_F A1 st₀ t) :
    H.size ≤ T'.heap.size ∧ (∀ q : Nat, q < H.size → ¬ A1 q → T'.heap[q]? = H[q]?) ∧ va_S A0 H0 T'.heap (locs ++ L) := by
  obtain ⟨hz, hk⟩ := hF
  rw [h0] at hz hk
  exact ⟨by rw [e1]; exact hz, fun q h1 h2 => by rw [e1]; exact hk q h1 h2,
    ⟨Nat.le_trans hS.1 (by rw [e1]; exact hz), fun q h1 h2 => by rw [e1, hk q (Nat.lt_of_lt_of_le h1 hS.1) (fun z => h2 (hA q (Nat.lt_of_lt_of_le h1 hS.1) z))]; exact hS.2.1 q h1 h2, fun q hq => by
      rcases List.mem_append.mp hq with h | h
      · exact hS.2.2 q h
      · exact hf _ (hL q h)⟩⟩
theorem vx_calli {S SX : Type} {post : Int32 → S → Prop} {px : SX → Prop} {B : S → State → Prop} {BX : String → SX → State → Prop} {AX : Nat → Prop} (hr : vx_Run p l e R s m args below meth c H locs cells slots mc ms (F0 m pc ls st0) rest (va_Qi post B A1 a) (vx_X px BX AX) free) (hS : va_S A0 H0 H locs) (hA : ∀ q, q < H.size → A1 q → A0 q) (hf : ∀ q, free q → A0 q) (hAX : ∀ q, q < H.size → AX q → A0 q)
    (kx : ∀ (E : String) (ce : Cell) (q9 : Addr) (u : SX) (t : State) (H1 : Heap) (locs1 : List Loc), t.heap = H1 → s.vm.Alike t.vm → px u → BX E u t → H.size ≤ H1.size → (∀ q : Nat, q < H.size → ¬ AX q → H1[q]? = H[q]?) → va_S A0 H0 H1 locs1 → H1[q9]? = some ce → ce.vm = .none → s.vm.findClass E = some ce.cls → vx_W p l e R s m args below meth c H1 locs1 (cells + mc) (slots + ms) Q (F0 m pc ls rest) q9)
    (kk : ∀ (r : Int32) (u : S) (t : State) (H1 : Heap) (locs1 : List Loc), t.heap = H1 → s.vm.Alike t.vm → post r u → B u t → H.size ≤ H1.size → (∀ q : Nat, q < H.size → ¬ A1 q → H1[q]? = H[q]?) → va_S A0 H0 H1 locs1 → W p l e R s m args below meth c H1 locs1 (cells + mc) (slots + ms) Q (F0 m (pc + 3) ls (.int r :: rest))) : W p l e R s m args below meth c H locs cells slots Q (F0 m pc ls st0) := by
  intro T hT X
  rcases hr T hT X with ⟨v, st₀, t, T', L, h0, X', hL, e1, e2, ⟨⟨r, u, hv, hp, hb⟩, hF⟩, st⟩ | ⟨q, st₀, t, T', L, E, ce, h0, X', hL, e1, e2, ⟨u, hp, hb, hF⟩, hce, hcv, hcl, st⟩
  · cases hv
    obtain ⟨k1, k2, k3⟩ := vx_keep h0 e1 hS hA hf hL hF
    obtain ⟨t2, a1, b1⟩ := kk r u t T'.heap (locs ++ L) e1.symm (by rw [← e2]; exact X'.warmed.alike) hp hb k1 k2 k3 T' rfl X'
    exact ⟨t2, st t2 a1, b1⟩
  · obtain ⟨k1, k2, k3⟩ := vx_keep h0 e1 hS hAX hf hL hF
    obtain ⟨t2, a1, b1⟩ := kx E ce q u t T'.heap (locs ++ L) e1.symm (by rw [← e2]; exact X'.warmed.alike) hp hb k1 k2 k3 (by rw [e1]; exact hce) hcv hcl T' rfl X'
    exact ⟨t2, st.trans a1, b1⟩
theorem vx_calll {S SX : Type} {post : Int64 → S → Prop} {px : SX → Prop} {B : S → State → Prop} {BX : String → SX → State → Prop} {AX : Nat → Prop} (hr : vx_Run p l e R s m args below meth c H locs cells slots mc ms (F0 m pc ls st0) rest (va_Ql post B A1 a) (vx_X px BX AX) free) (hS : va_S A0 H0 H locs) (hA : ∀ q, q < H.size → A1 q → A0 q) (hf : ∀ q, free q → A0 q) (hAX : ∀ q, q < H.size → AX q → A0 q)
    (kx : ∀ (E : String) (ce : Cell) (q9 : Addr) (u : SX) (t : State) (H1 : Heap) (locs1 : List Loc), t.heap = H1 → s.vm.Alike t.vm → px u → BX E u t → H.size ≤ H1.size → (∀ q : Nat, q < H.size → ¬ AX q → H1[q]? = H[q]?) → va_S A0 H0 H1 locs1 → H1[q9]? = some ce → ce.vm = .none → s.vm.findClass E = some ce.cls → vx_W p l e R s m args below meth c H1 locs1 (cells + mc) (slots + ms) Q (F0 m pc ls rest) q9)
    (kk : ∀ (r : Int64) (u : S) (t : State) (H1 : Heap) (locs1 : List Loc), t.heap = H1 → s.vm.Alike t.vm → post r u → B u t → H.size ≤ H1.size → (∀ q : Nat, q < H.size → ¬ A1 q → H1[q]? = H[q]?) → va_S A0 H0 H1 locs1 → W p l e R s m args below meth c H1 locs1 (cells + mc) (slots + ms) Q (F0 m (pc + 3) ls (.long r :: rest))) : W p l e R s m args below meth c H locs cells slots Q (F0 m pc ls st0) := by
  intro T hT X
  rcases hr T hT X with ⟨v, st₀, t, T', L, h0, X', hL, e1, e2, ⟨⟨r, u, hv, hp, hb⟩, hF⟩, st⟩ | ⟨q, st₀, t, T', L, E, ce, h0, X', hL, e1, e2, ⟨u, hp, hb, hF⟩, hce, hcv, hcl, st⟩
  · cases hv
    obtain ⟨k1, k2, k3⟩ := vx_keep h0 e1 hS hA hf hL hF
    obtain ⟨t2, a1, b1⟩ := kk r u t T'.heap (locs ++ L) e1.symm (by rw [← e2]; exact X'.warmed.alike) hp hb k1 k2 k3 T' rfl X'
    exact ⟨t2, st t2 a1, b1⟩
  · obtain ⟨k1, k2, k3⟩ := vx_keep h0 e1 hS hAX hf hL hF
    obtain ⟨t2, a1, b1⟩ := kx E ce q u t T'.heap (locs ++ L) e1.symm (by rw [← e2]; exact X'.warmed.alike) hp hb k1 k2 k3 (by rw [e1]; exact hce) hcv hcl T' rfl X'
    exact ⟨t2, st.trans a1, b1⟩
theorem vx_callf {S SX : Type} {post : UInt32 → S → Prop} {px : SX → Prop} {B : S → State → Prop} {BX : String → SX → State → Prop} {AX : Nat → Prop} (hr : vx_Run p l e R s m args below meth c H locs cells slots mc ms (F0 m pc ls st0) rest (va_Qf post B A1 a) (vx_X px BX AX) free) (hS : va_S A0 H0 H locs) (hA : ∀ q, q < H.size → A1 q → A0 q) (hf : ∀ q, free q → A0 q) (hAX : ∀ q, q < H.size → AX q → A0 q)
    (kx : ∀ (E : String) (ce : Cell) (q9 : Addr) (u : SX) (t : State) (H1 : Heap) (locs1 : List Loc), t.heap = H1 → s.vm.Alike t.vm → px u → BX E u t → H.size ≤ H1.size → (∀ q : Nat, q < H.size → ¬ AX q → H1[q]? = H[q]?) → va_S A0 H0 H1 locs1 → H1[q9]? = some ce → ce.vm = .none → s.vm.findClass E = some ce.cls → vx_W p l e R s m args below meth c H1 locs1 (cells + mc) (slots + ms) Q (F0 m pc ls rest) q9)
    (kk : ∀ (r : UInt32) (u : S) (t : State) (H1 : Heap) (locs1 : List Loc), t.heap = H1 → s.vm.Alike t.vm → post r u → B u t → H.size ≤ H1.size → (∀ q : Nat, q < H.size → ¬ A1 q → H1[q]? = H[q]?) → va_S A0 H0 H1 locs1 → W p l e R s m args below meth c H1 locs1 (cells + mc) (slots + ms) Q (F0 m (pc + 3) ls (.float r :: rest))) : W p l e R s m args below meth c H locs cells slots Q (F0 m pc ls st0) := by
  intro T hT X
  rcases hr T hT X with ⟨v, st₀, t, T', L, h0, X', hL, e1, e2, ⟨⟨r, u, hv, hp, hb⟩, hF⟩, st⟩ | ⟨q, st₀, t, T', L, E, ce, h0, X', hL, e1, e2, ⟨u, hp, hb, hF⟩, hce, hcv, hcl, st⟩
  · cases hv
    obtain ⟨k1, k2, k3⟩ := vx_keep h0 e1 hS hA hf hL hF
    obtain ⟨t2, a1, b1⟩ := kk r u t T'.heap (locs ++ L) e1.symm (by rw [← e2]; exact X'.warmed.alike) hp hb k1 k2 k3 T' rfl X'
    exact ⟨t2, st t2 a1, b1⟩
  · obtain ⟨k1, k2, k3⟩ := vx_keep h0 e1 hS hAX hf hL hF
    obtain ⟨t2, a1, b1⟩ := kx E ce q u t T'.heap (locs ++ L) e1.symm (by rw [← e2]; exact X'.warmed.alike) hp hb k1 k2 k3 (by rw [e1]; exact hce) hcv hcl T' rfl X'
    exact ⟨t2, st.trans a1, b1⟩
theorem vx_calld {S SX : Type} {post : UInt64 → S → Prop} {px : SX → Prop} {B : S → State → Prop} {BX : String → SX → State → Prop} {AX : Nat → Prop} (hr : vx_Run p l e R s m args below meth c H locs cells slots mc ms (F0 m pc ls st0) rest (va_Qd post B A1 a) (vx_X px BX AX) free) (hS : va_S A0 H0 H locs) (hA : ∀ q, q < H.size → A1 q → A0 q) (hf : ∀ q, free q → A0 q) (hAX : ∀ q, q < H.size → AX q → A0 q)
    (kx : ∀ (E : String) (ce : Cell) (q9 : Addr) (u : SX) (t : State) (H1 : Heap) (locs1 : List Loc), t.heap = H1 → s.vm.Alike t.vm → px u → BX E u t → H.size ≤ H1.size → (∀ q : Nat, q < H.size → ¬ AX q → H1[q]? = H[q]?) → va_S A0 H0 H1 locs1 → H1[q9]? = some ce → ce.vm = .none → s.vm.findClass E = some ce.cls → vx_W p l e R s m args below meth c H1 locs1 (cells + mc) (slots + ms) Q (F0 m pc ls rest) q9)
    (kk : ∀ (r : UInt64) (u : S) (t : State) (H1 : Heap) (locs1 : List Loc), t.heap = H1 → s.vm.Alike t.vm → post r u → B u t → H.size ≤ H1.size → (∀ q : Nat, q < H.size → ¬ A1 q → H1[q]? = H[q]?) → va_S A0 H0 H1 locs1 → W p l e R s m args below meth c H1 locs1 (cells + mc) (slots + ms) Q (F0 m (pc + 3) ls (.double r :: rest))) : W p l e R s m args below meth c H locs cells slots Q (F0 m pc ls st0) := by
  intro T hT X
  rcases hr T hT X with ⟨v, st₀, t, T', L, h0, X', hL, e1, e2, ⟨⟨r, u, hv, hp, hb⟩, hF⟩, st⟩ | ⟨q, st₀, t, T', L, E, ce, h0, X', hL, e1, e2, ⟨u, hp, hb, hF⟩, hce, hcv, hcl, st⟩
  · cases hv
    obtain ⟨k1, k2, k3⟩ := vx_keep h0 e1 hS hA hf hL hF
    obtain ⟨t2, a1, b1⟩ := kk r u t T'.heap (locs ++ L) e1.symm (by rw [← e2]; exact X'.warmed.alike) hp hb k1 k2 k3 T' rfl X'
    exact ⟨t2, st t2 a1, b1⟩
  · obtain ⟨k1, k2, k3⟩ := vx_keep h0 e1 hS hAX hf hL hF
    obtain ⟨t2, a1, b1⟩ := kx E ce q u t T'.heap (locs ++ L) e1.symm (by rw [← e2]; exact X'.warmed.alike) hp hb k1 k2 k3 (by rw [e1]; exact hce) hcv hcl T' rfl X'
    exact ⟨t2, st.trans a1, b1⟩
theorem vx_callv {S SX : Type} {post : S → Prop} {px : SX → Prop} {B : S → State → Prop} {BX : String → SX → State → Prop} {AX : Nat → Prop} (hr : vx_Run p l e R s m args below meth c H locs cells slots mc ms (F0 m pc ls st0) rest (va_Qv post B A1 a) (vx_X px BX AX) free) (hS : va_S A0 H0 H locs) (hA : ∀ q, q < H.size → A1 q → A0 q) (hf : ∀ q, free q → A0 q) (hAX : ∀ q, q < H.size → AX q → A0 q)
    (kx : ∀ (E : String) (ce : Cell) (q9 : Addr) (u : SX) (t : State) (H1 : Heap) (locs1 : List Loc), t.heap = H1 → s.vm.Alike t.vm → px u → BX E u t → H.size ≤ H1.size → (∀ q : Nat, q < H.size → ¬ AX q → H1[q]? = H[q]?) → va_S A0 H0 H1 locs1 → H1[q9]? = some ce → ce.vm = .none → s.vm.findClass E = some ce.cls → vx_W p l e R s m args below meth c H1 locs1 (cells + mc) (slots + ms) Q (F0 m pc ls rest) q9)
    (kk : ∀ (u : S) (t : State) (H1 : Heap) (locs1 : List Loc), t.heap = H1 → s.vm.Alike t.vm → post u → B u t → H.size ≤ H1.size → (∀ q : Nat, q < H.size → ¬ A1 q → H1[q]? = H[q]?) → va_S A0 H0 H1 locs1 → W p l e R s m args below meth c H1 locs1 (cells + mc) (slots + ms) Q (F0 m (pc + 3) ls (rest))) : W p l e R s m args below meth c H locs cells slots Q (F0 m pc ls st0) := by
  intro T hT X
  rcases hr T hT X with ⟨v, st₀, t, T', L, h0, X', hL, e1, e2, ⟨⟨u, hv, hp, hb⟩, hF⟩, st⟩ | ⟨q, st₀, t, T', L, E, ce, h0, X', hL, e1, e2, ⟨u, hp, hb, hF⟩, hce, hcv, hcl, st⟩
  · cases hv
    obtain ⟨k1, k2, k3⟩ := vx_keep h0 e1 hS hA hf hL hF
    obtain ⟨t2, a1, b1⟩ := kk u t T'.heap (locs ++ L) e1.symm (by rw [← e2]; exact X'.warmed.alike) hp hb k1 k2 k3 T' rfl X'
    exact ⟨t2, st t2 a1, b1⟩
  · obtain ⟨k1, k2, k3⟩ := vx_keep h0 e1 hS hAX hf hL hF
    obtain ⟨t2, a1, b1⟩ := kx E ce q u t T'.heap (locs ++ L) e1.symm (by rw [← e2]; exact X'.warmed.alike) hp hb k1 k2 k3 (by rw [e1]; exact hce) hcv hcl T' rfl X'
    exact ⟨t2, st.trans a1, b1⟩
/-- caught by the row x of this method's table; the rows ahead don't take it -/
theorem vx_catch {own name : String} {E : String} {ce : Cell} {q : Addr} (hown : s.vm.findClass own = some m.cls) (pre : List ExceptionTableEntry) (x : ExceptionTableEntry) (suf : List ExceptionTableEntry) (hsplit : c.exceptionTable.toList = pre ++ x :: suf)
    (hpass : ∀ z ∈ pre, covers z pc = false ∨ (z.catchType ≠ 0 ∧ ∃ nm : String, (Cond.classLink own z.catchType nm).before args s = true ∧ va_Nc E nm s)) (hx : covers x pc = true) (h0 : x.catchType ≠ 0)
    (hlink : (Cond.classLink own x.catchType name).before args s = true) (hcast : (Cond.castable E name).before args s = true) (hcell : H[q]? = some ce) (hv : ce.vm = .none) (hcl : s.vm.findClass E = some ce.cls)
    (kk : W p l e R s m args below meth c H locs cells slots Q (F0 m x.handlerPc ls [.ref q])) : vx_W p l e R s m args below meth c H locs cells slots Q (F0 m pc ls rest) q := by
  intro T hT X
  have hpl : e.platform.magicAccessors = ({} : Platform).magicAccessors := by rw [X.admits.platform]
  obtain ⟨c3, c4, hc3, hc4, hasg⟩ := Cond.castable_spec hcast
  cases Option.some.inj (hc3.symm.trans hcl)
  obtain ⟨c5, hc5, hcl5⟩ := Cond.classLink_spec hown hlink e.platform hpl
  cases Option.some.inj (hc4.symm.trans hc5)
  obtain ⟨vm', X', st⟩ := X.thenCaughtThrough q (g := F0 m pc ls rest) rfl (Steps.refl _) (by rw [hT]; exact hcell) (by rw [hv]; rfl) (by obtain ⟨k9, h9, -⟩ := Vm.findClass_spec hcl; exact ⟨k9, h9⟩) pre x suf hsplit
    (fun z hz => by
      rcases hpass z hz with h | ⟨hz0, nm, hl1, hn1⟩
      · exact Or.inl h
      · obtain ⟨c6, hc6, hcl6⟩ := Cond.classLink_spec hown hl1 e.platform hpl
        obtain ⟨a8, b8, h1, h2, h3⟩ := hn1
        cases Option.some.inj (h1.symm.trans hcl)
        cases Option.some.inj (h2.symm.trans hc6)
        exact Or.inr ⟨hz0, _, hcl6, h3⟩) hx (Or.inr ⟨h0, c4, hcl5, hasg⟩)
  obtain ⟨t, a1, b1⟩ := kk (T.setVm vm') hT X'
  exact ⟨t, st.trans a1, b1⟩
end Rows
section Ends
variable {p : Program} {l : Launch} {e : Env} {R : Room} {s : State} {m : MethodId} {args : Array Value} {below : List Frame} {meth : Method} {c : Code} {H : Heap} {locs : List Loc} {cells slots : Nat} {Q : State → Prop}
variable {mc ms : Nat} {free : Addr → Prop} {A0 A1 : Nat → Prop} {H0 : Heap} {a : Array Value} {ls : Array Slot} {st0 rest : List Value}
variable {Qc : Array Value → State → Outcome → State → Prop} {XC : String → State → State → Prop}
/-- what a body that may throw owes at its end -/
def vx_MQ (below : List Frame) (Qc : Array Value → State → Outcome → State → Prop) (XC : String → State → State → Prop) (a : Array Value) (s : State) (mc ms : Nat) (free : Addr → Prop) : State → Prop := fun t =>
  ∃ o, t.status = .running ∧ Ended t below o ∧ vx_Q Qc XC mc ms free a s o t
theorem vx_ret {g : JFrame} {mc ms : Nat} (k : W p l e R s m args below meth c H locs cells slots (MQ below Qc args s mc ms free) g) : W p l e R s m args below meth c H locs cells slots (vx_MQ below Qc XC args s mc ms free) g := by
  intro T hT X
  obtain ⟨t, a1, o, b1, b2, b3, b4⟩ := k T hT X
  exact ⟨t, a1, o, b1, b2, Or.inl ⟨b3, b4⟩⟩
/-- not caught here: it goes on to the caller -/
theorem vx_widen {g : JFrame} {q : Addr} {k n : Nat} (h1 : cells ≤ k) (h2 : slots ≤ n) (kk : vx_W p l e R s m args below meth c H locs k n Q g q) : vx_W p l e R s m args below meth c H locs cells slots Q g q := fun T hT X => kk T hT (stand_widen X h1 h2)
theorem vx_out {pc : Nat} {E : String} {ce : Cell} {q : Addr} {mc ms : Nat} (hout : ∀ x ∈ c.exceptionTable.toList, covers x pc = false) (hlocks : meth.locks = false) (hcell : H[q]? = some ce) (hv : ce.vm = .none) (hcl : s.vm.findClass E = some ce.cls)
    (hx : ∀ t : State, t.heap = H → s.vm.Alike t.vm → XC E s t) (hf : ∀ z ∈ locs, free z.base) (hc : cells ≤ mc) (hs : slots ≤ ms) :
    vx_W p l e R s m args below meth c H locs cells slots (vx_MQ below Qc XC args s mc ms free) (F0 m pc ls rest) q := by
  intro T hT X
  obtain ⟨st1, hrun, hend, hW, hsm⟩ := X.leaveThrown q (g := F0 m pc ls rest) rfl rfl rfl hout hlocks
  have hcell9 : (T.setFrames (.throwing q :: below)).heap[q]? = some ce := by
    show T.heap[q]? = some ce
    rw [hT]; exact hcell
  exact ⟨_, st1, .threw q, hrun, hend, Or.inr ⟨q, rfl, E, ce, locs, hx _ hT hW.alike, hcell9, hv, hcl, hW, hsm.mono hc hs, hf⟩⟩
theorem vx_frame {U : State} {k n : Nat} (h : s.sameButNew ({ U with vm := s.vm } : State) locs k n) : s.heap.size ≤ U.heap.size ∧ ∀ q : Nat, q < s.heap.size → (∀ z ∈ locs, z.base ≠ q) → U.heap[q]? = s.heap[q]? := by
  obtain ⟨-, h2, -, -, -, h6⟩ := h
  refine ⟨h2, fun q hq hz => ?_⟩
  obtain ⟨c9, e1, e2, e3, e4⟩ := h6 q _ (Array.getElem?_eq_getElem hq)
  have hs : c9.slots = (s.heap[q]).slots := Array.ext_getElem? fun i => e4 i fun hm => hz _ hm rfl
  have h9 : c9 = s.heap[q] := by
    rw [hs] at e2
    exact e2
  have e5 : U.heap[q]? = some c9 := e1
  rw [e5, h9, Array.getElem?_eq_getElem hq]
/-- the words of a throw but the four that speak of the heap -/
def vx_no (w : Cond) : Bool := decide (w ≠ .isRef (.static Bundle.tN "UNASSIGNED_STACK" Bundle.steD)) && decide (w ≠ .isRef (.static Bundle.tN "SUPPRESSED_SENTINEL" Bundle.listD)) && decide (w ≠ .laysStatic Bundle.tN "UNASSIGNED_STACK" Bundle.steD) && decide (w ≠ .laysStatic Bundle.tN "SUPPRESSED_SENTINEL" Bundle.listD)
def vx_at0 (own : String) (ic : Nat) (X : String) (names : List String) : List Cond := (Bundle.ownAtoms0 own ic X names).filter vx_no
def vx_atS (own : String) (ic : Nat) (X : String) (names : List String) : List Cond := (Bundle.ownAtoms own ic X names).filter vx_no
/-- a word that the tables alone decide, or a good one -/
def vx_ot (w : Cond) : Bool := w.onTables || goodWord w
theorem vx_ot_at {args a' : Array Value} {s U : State} {w : Cond} (hW : s.WarmedH U.vm) (hvm : s.vm = U.vm) (hg : vx_ot w = true) (h : w.before args s = true) : w.before a' U = true := by
  simp only [vx_ot, Bool.or_eq_true] at hg
  rcases hg with hg | hg
  · exact va_tabs hg hvm h
  · exact word_at hW (good_of_word hg) h
/-- a list's words: the good ones out of the method's own list, the others by premises of their own -/
theorem vx_hat {args : Array Value} {s : State} {L B : List Cond} (h1 : ∀ w ∈ L.filter goodWord, w.before args s = true) (h2 : ∀ w ∈ L.filter (fun w => !goodWord w), w ∈ B) (h3 : ∀ w ∈ B, w.before args s = true) : ∀ w ∈ L, w.before args s = true := by
  intro w hw
  by_cases g : goodWord w = true
  · exact h1 w (List.mem_filter.mpr ⟨hw, g⟩)
  · refine h3 w (h2 w (List.mem_filter.mpr ⟨hw, ?_⟩))
    show (!goodWord w) = true
    cases hgw : goodWord w
    · rfl
    · exact absurd hgw g
theorem vx_c {args : Array Value} {s : State} {w : Cond} {B : List Cond} (h : w.before args s = true) (t : ∀ w ∈ B, w.before args s = true) : ∀ w' ∈ w :: B, w'.before args s = true := fun w' h' => (List.mem_cons.mp h').elim (fun e => by rw [e]; exact h) (t w')
theorem vx_n {args : Array Value} {s : State} : ∀ w ∈ ([] : List Cond), w.before args s = true := fun _ h => nomatch h
theorem vx_own {args : Array Value} {s : State} {L : List Cond} (h1 : ∀ w ∈ L.filter vx_no, w.before args s = true)
    (hU : (Cond.isRef (.static Bundle.tN "UNASSIGNED_STACK" Bundle.steD)).before args s = true) (hN : (Cond.isRef (.static Bundle.tN "SUPPRESSED_SENTINEL" Bundle.listD)).before args s = true)
    (lU : (Cond.laysStatic Bundle.tN "UNASSIGNED_STACK" Bundle.steD).before args s = true) (lN : (Cond.laysStatic Bundle.tN "SUPPRESSED_SENTINEL" Bundle.listD).before args s = true) : ∀ w ∈ L, w.before args s = true := by
  intro w hw
  by_cases e1 : w = .isRef (.static Bundle.tN "UNASSIGNED_STACK" Bundle.steD)
  · rw [e1]; exact hU
  · by_cases e2 : w = .isRef (.static Bundle.tN "SUPPRESSED_SENTINEL" Bundle.listD)
    · rw [e2]; exact hN
    · by_cases e3 : w = .laysStatic Bundle.tN "UNASSIGNED_STACK" Bundle.steD
      · rw [e3]; exact lU
      · by_cases e4 : w = .laysStatic Bundle.tN "SUPPRESSED_SENTINEL" Bundle.listD
        · rw [e4]; exact lN
        · exact h1 w (List.mem_filter.mpr ⟨hw, by unfold vx_no; rw [decide_eq_true e1, decide_eq_true e2, decide_eq_true e3, decide_eq_true e4]; rfl⟩)
/-- where a static field lies, its class's statics cell in H -/
def vx_L (C n d : String) (A : Nat → Prop) (U : State) (H : Heap) : Prop := ∃ (c : ClassId) (k : Class) (i : Nat) (f : Field) (a : Nat) (cell : Cell), U.vm.findClass C = some c ∧ U.fieldFound? C n d = some (c, k, i, f) ∧ f.isStatic = true ∧ k.statics = some a ∧ H[a]? = some cell ∧ cell.vm.isStatics = true ∧ cell.cls = c ∧ f.slot < cell.slots.size ∧ k.staticTypes[f.slot]? = some f.type ∧ ¬ A a
theorem vx_L.moved {C n d : String} {A : Nat → Prop} {u U : State} {H : Heap} (hvm : u.vm.Alike U.vm) (h : vx_L C n d A u H) : vx_L C n d A U H := by
  obtain ⟨c, k, i, f, a, cell, h1, h2, h3, h4, h5, h6, h7, h8, h9, h10⟩ := h
  obtain ⟨k', hi', he⟩ := State.fieldFound?_setVm hvm h2
  exact ⟨c, k', i, f, a, cell, by rw [hvm.findClass]; exact h1, hi', h3, by rw [he]; exact h4, h5, h6, h7, h8, by rw [he]; exact h9, h10⟩
theorem vx_L.kept {C n d : String} {A : Nat → Prop} {U : State} {H H1 : Heap} (h : vx_L C n d A U H) (hq : ∀ a : Nat, a < H.size → ¬ A a → H1[a]? = H[a]?) : vx_L C n d A U H1 := by
  obtain ⟨c, k, i, f, a, cell, h1, h2, h3, h4, h5, h6, h7, h8, h9, h10⟩ := h
  exact ⟨c, k, i, f, a, cell, h1, h2, h3, h4, by rw [hq a (Array.getElem?_eq_some_iff.mp h5).1 h10]; exact h5, h6, h7, h8, h9, h10⟩
theorem vx_L.narrow {C n d : String} {A B : Nat → Prop} {U : State} {H : Heap} (h : vx_L C n d A U H) (hAB : ∀ q, B q → A q) : vx_L C n d B U H := by
  obtain ⟨c, k, i, f, a, cell, h1, h2, h3, h4, h5, h6, h7, h8, h9, h10⟩ := h
  exact ⟨c, k, i, f, a, cell, h1, h2, h3, h4, h5, h6, h7, h8, h9, fun z => h10 (hAB _ z)⟩
theorem vx_L.word {C n d : String} {A : Nat → Prop} {s : State} {args : Array Value} (h : vx_L C n d A s s.heap) : (Cond.laysStatic C n d).before args s = true := by
  obtain ⟨c, k, i, f, a, cell, h1, h2, h3, h4, h5, h6, h7, h8, h9, -⟩ := h
  show (Cond.laysStatic C n d).holds args s none s [] = true
  exact Cond.laysStatic_of h1 h2 h3 h4 h5 h6 h7 h8 h9
/-- .. and what it holds: null or some reference -/
def vx_Zq (C n d : String) (A : Nat → Prop) (U : State) (H : Heap) : Prop := va_Zq C n d A U H ∧ vx_L C n d A U H
theorem vx_Zq.moved {C n d : String} {A : Nat → Prop} {u U : State} {H : Heap} (hvm : u.vm.Alike U.vm) (h : vx_Zq C n d A u H) : vx_Zq C n d A U H := ⟨va_Zq.moved hvm h.1, vx_L.moved hvm h.2⟩
theorem vx_Zq.kept {C n d : String} {A : Nat → Prop} {U : State} {H H1 : Heap} (h : vx_Zq C n d A U H) (hq : ∀ a : Nat, a < H.size → ¬ A a → H1[a]? = H[a]?) : vx_Zq C n d A U H1 := ⟨va_Zq.kept h.1 hq, vx_L.kept h.2 hq⟩
theorem vx_Zq.narrow {C n d : String} {A B : Nat → Prop} {U : State} {H : Heap} (h : vx_Zq C n d A U H) (hAB : ∀ q, B q → A q) : vx_Zq C n d B U H := ⟨va_Zq.narrow h.1 hAB, vx_L.narrow h.2 hAB⟩
theorem vx_Zqof {args : Array Value} {s : State} {C n d : String} {A : Nat → Prop} (hl : (Cond.laysStatic C n d).before args s = true) (hini : (Cond.initialized C).before args s = true) (h : (Cond.isRef (.static C n d)).before args s = true) (hA : ∀ a : Nat, a < s.heap.size → ¬ A a) : vx_Zq C n d A s s.heap := by
  refine ⟨va_Zqof hl hini h hA, ?_⟩
  obtain ⟨c, k, i, f, a, cell, h1, h2, h3, h4, h5, h6, h7, h8, h9⟩ := Cond.laysStatic_spec hl
  exact ⟨c, k, i, f, a, cell, h1, h2, h3, h4, h5, h6, h7, h8, h9, hA a (Array.getElem?_eq_some_iff.mp h5).1⟩
theorem vx_isRef {C n d : String} {v : Value} {A : Nat → Prop} {s : State} {args : Array Value} (h : va_Z C n d v A s s.heap) (hv : v.isRef = true) : (Cond.isRef (.static C n d)).before args s = true := by
  obtain ⟨cf, kf, fi, f, a, cell, h1, h2, h3, h4, h5, h6, h7, -⟩ := h
  have he : (Term.static C n d).eval args s none [] s = some v := by
    simp [Term.eval, State.fieldNamed?, h1, h2, h4, h5, h6, h7]
  simp only [Cond.before, Cond.holds, Cond.value, he]
  cases v <;> simp_all [Value.isRef]
theorem vx_isRefq {C n d : String} {A : Nat → Prop} {s : State} {args : Array Value} (h : va_Zq C n d A s s.heap) : (Cond.isRef (.static C n d)).before args s = true := by
  rcases h with h | ⟨t, h⟩
  · exact vx_isRef h rfl
  · exact vx_isRef h rfl
/-- the same frame, seen from here: as if the method were called anew in this heap -/
theorem vx_rebase {T : State} (X : Stand p l e R s m args below meth c T locs cells slots) {R' : Room} (hf : R'.frames ≤ R.frames) (hl : R'.locals ≤ R.locals) (hc : cells + R'.cells ≤ R.cells) (hs : slots + R'.slots ≤ R.slots) :
    Stand p l e R' ((T.setVm s.vm).setFrames (.invoking m args :: below)) m args below meth c T [] 0 0 := by
  have htop : (T.setVm s.vm).topJava?.isSome := X.here.top
  have hF : ((T.setVm s.vm).setFrames (.invoking m args :: below)).frames = .invoking m args :: below := State.frames_setFrames _ (State.cur_lt_of_top htop)
  obtain ⟨g₀, hg0⟩ := Option.isSome_iff_exists.mp htop
  obtain ⟨r, hr⟩ := State.topJava?_eq_some.mp hg0
  have hl9 : e.platform.stackLimits (T.setVm s.vm).me = e.platform.stackLimits s.me := X.limits
  have hb9 : (T.setVm s.vm).me.stackBytes = s.me.stackBytes := X.bytes
  refine ⟨X.admits, X.cas, X.clock, hF, ?_, X.hears, X.method, X.code, X.here, X.tail, X.warmed, ?_, ?_, ?_⟩
  · have h := X.room
    have hU : ((T.setVm s.vm).setFrames (.invoking m args :: below)).localsInUse = s.localsInUse := by
      rw [State.localsInUse_invoking hF (meth := meth) (c := c) X.method X.code, State.localsInUse_invoking X.frames X.method X.code]
    simp only [State.hasRoom, Bool.and_eq_true, decide_eq_true_eq] at h ⊢
    obtain ⟨⟨⟨⟨h1, h2, h3, h4, h5, h6⟩, h7⟩, h8⟩, h9⟩ := h
    rw [X.frames, List.length_cons] at h2 h3
    have q1 := X.heapSize
    have q2 := X.used
    simp only [hF, hU, List.length_cons, State.stackLimits_setFrames, State.stackBytes_setFrames, hl9, hb9]
    refine ⟨⟨⟨⟨by omega, by omega, by omega, by omega, by omega, h6⟩, ?_⟩, ?_⟩, X.book⟩
    · show T.heap.size + R'.cells ≤ e.platform.maxCells
      omega
    · show T.slotsUsed + R'.slots ≤ e.platform.maxSlots
      omega
  · rw [State.stackLimits_setFrames]; rfl
  · rw [State.stackBytes_setFrames]; rfl
  · refine ⟨?_, Nat.le_refl _, Nat.le_refl _, ?_, ?_, fun a c9 h9 => ⟨c9, h9, rfl, rfl, fun _ _ => rfl⟩⟩
    · obtain ⟨t, ht, -⟩ := State.frames_cons hr
      show T.setVm s.vm = { ((T.setVm s.vm).setFrames (.invoking m args :: below)).setFrames (T.setVm s.vm).frames with heap := T.heap, slotsUsed := T.slotsUsed }
      rw [State.setFrames_setFrames, State.setFrames_self ht]
      rfl
    · show T.slotsUsed = T.slotsUsed + ((T.heap.toList.drop T.heap.size).map (·.slots.size)).sum
      rw [List.drop_eq_nil_of_le (Nat.le_of_eq Array.length_toList)]
      rfl
    · show ((T.heap.toList.drop T.heap.size).map (·.slots.size)).sum ≤ 0
      rw [List.drop_eq_nil_of_le (Nat.le_of_eq Array.length_toList)]
      exact Nat.le_refl _
/-- 'throw new E()': new; dup; invokespecial; athrow -/
theorem vx_throw0 {cc : ByteArray} {pc : Nat} (hexec : p.tables.exec = Jvm.exec) (hb : c.code = cc) (hl : l.stackTraces = false) {own cls : String} {names : List String} {ik ic mc ms : Nat} {A : Nat → Prop}
    (hown : s.vm.findClass own = some m.cls) (hcls : Bundle.fit cls = true) (hnames : ∀ n ∈ names, Bundle.fit n = true)
    (hk : (Cond.classLink own ik cls).before args s = true) (hini : (Cond.initialized cls).before args s = true) (hat : ∀ w ∈ vx_at0 own ic cls names, w.before args s = true)
    (hgood : ∀ w ∈ Cond.classLink own ik cls :: Cond.initialized cls :: vx_at0 own ic cls names, vx_ot w = true)
    (hU : vx_Zq Bundle.tN "UNASSIGNED_STACK" Bundle.steD A s s.heap) (hN : vx_Zq Bundle.tN "SUPPRESSED_SENTINEL" Bundle.listD A s s.heap) (hS : va_S A s.heap H locs) (hsize : ls.size = c.maxLocals)
    (d0 : decode cc pc = .ok (.new ik, 3)) (d3 : decode cc (pc + 3) = .ok (.dup, 1)) (d4 : decode cc (pc + 4) = .ok (.invokespecial ic, 3)) (d7 : decode cc (pc + 7) = .ok (.athrow, 1))
    (hout : ∀ x ∈ c.exceptionTable.toList, covers x (pc + 7) = false)
    (hRframes : names.length + 3 < R.frames) (hRlocals : (rest.map fun v => v.category).sum + (13 * (names.length + 1) + 42) ≤ R.locals) (hRcells : cells + 1 ≤ R.cells) (hRslots : slots + 6 ≤ R.slots) (hlocks : meth.locks = false)
    (hx : ∀ t : State, s.vm.Alike t.vm → H.size ≤ t.heap.size → (∀ q : Nat, q < H.size → t.heap[q]? = H[q]?) → XC cls s t)
    (hf : ∀ z ∈ locs, free z.base) (hc : cells + 1 ≤ mc) (hs : slots + 6 ≤ ms) :
    W p l e R s m args below meth c H locs cells slots (vx_MQ below Qc XC args s mc ms free) (F0 m pc ls rest) := by
  intro T hT X
  have htr : e.platform.stackTraces = false := (show e.platform.stackTraces = l.stackTraces by rw [X.admits.platform]).trans hl
  have Y := vx_rebase X (R' := { frames := R.frames, locals := R.locals, cells := 1, slots := 6 }) (Nat.le_refl _) (Nat.le_refl _) hRcells hRslots
  obtain ⟨s', hA⟩ : ∃ z, z = (T.setVm s.vm).setFrames (.invoking m args :: below) := ⟨_, rfl⟩
  rw [← hA] at Y
  have hvm : s'.vm = s.vm := by rw [hA]; rfl
  have hhp : s'.heap = H := by rw [hA]; exact hT
  have hW0 : s.WarmedH s'.vm := by rw [hvm]; exact State.WarmedH.refl s
  have hat' : ∀ w ∈ vx_at0 own ic cls names, w.before args s' = true := fun w hw => vx_ot_at hW0 hvm.symm (hgood w (List.mem_cons_of_mem _ (List.mem_cons_of_mem _ hw))) (hat w hw)
  have hk' : (Cond.classLink own ik cls).before args s' = true := vx_ot_at hW0 hvm.symm (hgood _ List.mem_cons_self) hk
  have hini' : (Cond.initialized cls).before args s' = true := vx_ot_at hW0 hvm.symm (hgood _ (List.mem_cons_of_mem _ List.mem_cons_self)) hini
  have hU' : vx_Zq Bundle.tN "UNASSIGNED_STACK" Bundle.steD A s' s'.heap := by rw [hhp]; exact vx_Zq.moved hW0.alike (hU.kept hS.2.1)
  have hN' : vx_Zq Bundle.tN "SUPPRESSED_SENTINEL" Bundle.listD A s' s'.heap := by rw [hhp]; exact vx_Zq.moved hW0.alike (hN.kept hS.2.1)
  have h : ∀ w ∈ Bundle.ownAtoms0 own ic cls names, w.before args s' = true := vx_own hat' (vx_isRefq hU'.1) (vx_isRefq hN'.1) hU'.2.word hN'.2.word
  have hown' : s'.vm.findClass own = some m.cls := by rw [hvm]; exact hown
  have hins : (Cond.instantiable cls 6).before args s' = true := h _ (by simp [Bundle.ownAtoms0])
  obtain ⟨vm₁, cX, kX, hfX, hkX, -, -, X₁, st1⟩ := Y.newCold hexec (own := own) (C := cls) (index := ik) (n := 6) hown' hk' hins hini'
    (g := F0 m pc ls rest) rfl (by rw [hb]; exact d0) (Nat.le_refl _) (Nat.le_refl _)
  generalize hT1 : (T.setVm vm₁).pushCell { cls := cX, slots := kX.instanceTypes.map defaultValue, vm := .none } = T1 at X₁ st1
  have hcat : (Value.ref T.heap.size).category = 1 := rfl
  have hcellA : T1.heap[T.heap.size]? = some (freshCell cX kX) := by rw [← hT1]; exact State.heap_pushCell_size _ _
  have d3' : decode c.code (pc + 3) = .ok (.dup, 1) := by rw [hb]; exact d3
  obtain ⟨U, hsteps, hrun, hend, hW, hsame, ce, hce, hO⟩ := X₁.ctorThrow0 hexec htr (own := own) (cls := cls) (names := names) (ic := ic) hown' hcls hnames h (fun x hx => nomatch hx) hfX hkX hcellA (by rw [hhp, hT]; exact Nat.le_refl _)
    (g := { method := m, pc := pc + 4, locals := ls, stack := .ref T.heap.size :: .ref T.heap.size :: rest, locked := none }) rfl hsize rfl rfl (rest := rest) rfl
    (by rw [hb]; exact d4) (by rw [hb]; exact d7) hout hRframes (by simp only [List.map_cons, List.sum_cons, hcat]; omega) hlocks
  obtain ⟨f1, f2⟩ := vx_frame hsame
  rw [hhp] at f1 f2
  have hWs : s.WarmedH U.vm := State.WarmedH.trans hW0 hW
  have hcl : s.vm.findClass cls = some ce.cls := by
    have h9 := hO.cls
    rw [hvm] at h9
    exact h9
  have hall : s.sameButNew ({ U with vm := s.vm } : State) locs mc ms := by
    subst hA
    obtain ⟨e1, e2⟩ := hsame
    rw [State.setFrames_setFrames] at e1
    have h2 : (T.setVm s.vm).sameButNew ({ U with vm := s.vm } : State) [] (0 + 1) (0 + 6) := ⟨e1, e2⟩
    have h3 := X.same.trans h2
    rw [List.append_nil] at h3
    exact h3.mono hc hs
  refine ⟨U, ?_, .threw T.heap.size, hrun, hend, Or.inr ⟨T.heap.size, rfl, cls, ce, locs, hx U hWs.alike f1 (fun q hq => f2 q hq (fun z hz => nomatch hz)), hce, hO.vm, hcl, hWs, hall, hf⟩⟩
  refine st1 _ ?_
  show Steps p.tables e below (T1.setTop { method := m, pc := pc + 3, locals := ls, stack := .ref T.heap.size :: rest, locked := none }) _
  jvm_step X₁.here [X₁.here.top, hexec, d3', Value.category]
  exact hsteps
/-- 'throw new E("text")': new; dup; ldc; invokespecial; athrow -/
theorem vx_throwS {cc : ByteArray} {pc : Nat} (hexec : p.tables.exec = Jvm.exec) (hb : c.code = cc) (hl : l.stackTraces = false) {own cls text : String} {names : List String} {ik is ic mc ms sa : Nat} {A : Nat → Prop}
    (hown : s.vm.findClass own = some m.cls) (hcls : Bundle.fit cls = true) (hnames : ∀ n ∈ names, Bundle.fit n = true)
    (hk : (Cond.classLink own ik cls).before args s = true) (hini : (Cond.initialized cls).before args s = true) (hstr : vk_R own is text sa s) (hat : ∀ w ∈ vx_atS own ic cls names, w.before args s = true)
    (hgood : ∀ w ∈ Cond.classLink own ik cls :: Cond.initialized cls :: vx_atS own ic cls names, vx_ot w = true)
    (hU : vx_Zq Bundle.tN "UNASSIGNED_STACK" Bundle.steD A s s.heap) (hN : vx_Zq Bundle.tN "SUPPRESSED_SENTINEL" Bundle.listD A s s.heap) (hS : va_S A s.heap H locs) (hsize : ls.size = c.maxLocals)
    (d0 : decode cc pc = .ok (.new ik, 3)) (d3 : decode cc (pc + 3) = .ok (.dup, 1)) (d4 : decode cc (pc + 4) = .ok (.ldc is, 2)) (d6 : decode cc (pc + 6) = .ok (.invokespecial ic, 3)) (d9 : decode cc (pc + 9) = .ok (.athrow, 1))
    (hout : ∀ x ∈ c.exceptionTable.toList, covers x (pc + 9) = false)
    (hRframes : names.length + 3 < R.frames) (hRlocals : (rest.map fun v => v.category).sum + (13 * (names.length + 1) + 43) ≤ R.locals) (hRcells : cells + 1 ≤ R.cells) (hRslots : slots + 6 ≤ R.slots) (hlocks : meth.locks = false)
    (hx : ∀ t : State, s.vm.Alike t.vm → H.size ≤ t.heap.size → (∀ q : Nat, q < H.size → t.heap[q]? = H[q]?) → XC cls s t)
    (hf : ∀ z ∈ locs, free z.base) (hc : cells + 1 ≤ mc) (hs : slots + 6 ≤ ms) :
    W p l e R s m args below meth c H locs cells slots (vx_MQ below Qc XC args s mc ms free) (F0 m pc ls rest) := by
  intro T hT X
  have htr : e.platform.stackTraces = false := (show e.platform.stackTraces = l.stackTraces by rw [X.admits.platform]).trans hl
  have Y := vx_rebase X (R' := { frames := R.frames, locals := R.locals, cells := 1, slots := 6 }) (Nat.le_refl _) (Nat.le_refl _) hRcells hRslots
  obtain ⟨s', hA⟩ : ∃ z, z = (T.setVm s.vm).setFrames (.invoking m args :: below) := ⟨_, rfl⟩
  rw [← hA] at Y
  have hvm : s'.vm = s.vm := by rw [hA]; rfl
  have hhp : s'.heap = H := by rw [hA]; exact hT
  have hW0 : s.WarmedH s'.vm := by rw [hvm]; exact State.WarmedH.refl s
  have hat' : ∀ w ∈ vx_atS own ic cls names, w.before args s' = true := fun w hw => vx_ot_at hW0 hvm.symm (hgood w (List.mem_cons_of_mem _ (List.mem_cons_of_mem _ hw))) (hat w hw)
  have hk' : (Cond.classLink own ik cls).before args s' = true := vx_ot_at hW0 hvm.symm (hgood _ List.mem_cons_self) hk
  have hini' : (Cond.initialized cls).before args s' = true := vx_ot_at hW0 hvm.symm (hgood _ (List.mem_cons_of_mem _ List.mem_cons_self)) hini
  have hU' : vx_Zq Bundle.tN "UNASSIGNED_STACK" Bundle.steD A s' s'.heap := by rw [hhp]; exact vx_Zq.moved hW0.alike (hU.kept hS.2.1)
  have hN' : vx_Zq Bundle.tN "SUPPRESSED_SENTINEL" Bundle.listD A s' s'.heap := by rw [hhp]; exact vx_Zq.moved hW0.alike (hN.kept hS.2.1)
  have h : ∀ w ∈ Bundle.ownAtoms own ic cls names, w.before args s' = true := vx_own hat' (vx_isRefq hU'.1) (vx_isRefq hN'.1) hU'.2.word hN'.2.word
  have hown' : s'.vm.findClass own = some m.cls := by rw [hvm]; exact hown
  have hins : (Cond.instantiable cls 6).before args s' = true := h _ (by simp [Bundle.ownAtoms])
  obtain ⟨vm₁, cX, kX, hfX, hkX, -, -, X₁, st1⟩ := Y.newCold hexec (own := own) (C := cls) (index := ik) (n := 6) hown' hk' hins hini'
    (g := F0 m pc ls rest) rfl (by rw [hb]; exact d0) (Nat.le_refl _) (Nat.le_refl _)
  generalize hT1 : (T.setVm vm₁).pushCell { cls := cX, slots := kX.instanceTypes.map defaultValue, vm := .none } = T1 at X₁ st1
  have hcat : (Value.ref T.heap.size).category = 1 := rfl
  have hcellA : T1.heap[T.heap.size]? = some (freshCell cX kX) := by rw [← hT1]; exact State.heap_pushCell_size _ _
  have d3' : decode c.code (pc + 3) = .ok (.dup, 1) := by rw [hb]; exact d3
  have d4' : decode c.code (pc + 4) = .ok (.ldc is, 2) := by rw [hb]; exact d4
  have hstr' : vk_R own is text sa s' := vk_R.warm hW0 hstr
  obtain ⟨U, hsteps, hrun, hend, hW, hsame, ce, hce, hO⟩ := X₁.ctorThrowS hexec htr (own := own) (cls := cls) (names := names) (ic := ic) hown' hcls hnames h (fun x hx => nomatch hx) hfX hkX hcellA (by rw [hhp, hT]; exact Nat.le_refl _) (msg := .ref sa) rfl
    (g := { method := m, pc := pc + 6, locals := ls, stack := .ref sa :: .ref T.heap.size :: .ref T.heap.size :: rest, locked := none }) rfl hsize rfl rfl (rest := rest) rfl
    (by rw [hb]; exact d6) (by rw [hb]; exact d9) hout hRframes (by simp only [List.map_cons, List.sum_cons, hcat]; omega) hlocks
  obtain ⟨f1, f2⟩ := vx_frame hsame
  rw [hhp] at f1 f2
  have hWs : s.WarmedH U.vm := State.WarmedH.trans hW0 hW
  have hcl : s.vm.findClass cls = some ce.cls := by
    have h9 := hO.cls
    rw [hvm] at h9
    exact h9
  have hall : s.sameButNew ({ U with vm := s.vm } : State) locs mc ms := by
    subst hA
    obtain ⟨e1, e2⟩ := hsame
    rw [State.setFrames_setFrames] at e1
    have h2 : (T.setVm s.vm).sameButNew ({ U with vm := s.vm } : State) [] (0 + 1) (0 + 6) := ⟨e1, e2⟩
    have h3 := X.same.trans h2
    rw [List.append_nil] at h3
    exact h3.mono hc hs
  refine ⟨U, ?_, .threw T.heap.size, hrun, hend, Or.inr ⟨T.heap.size, rfl, cls, ce, locs, hx U hWs.alike f1 (fun q hq => f2 q hq (fun z hz => nomatch hz)), hce, hO.vm, hcl, hWs, hall, hf⟩⟩
  refine st1 _ ?_
  show Steps p.tables e below (T1.setTop { method := m, pc := pc + 3, locals := ls, stack := .ref T.heap.size :: rest, locked := none }) _
  jvm_step X₁.here [X₁.here.top, hexec, d3', Value.category]
  exact X₁.ldcString hexec (own := own) (text := text) (index := is) (a := sa) hown' hstr'.1 hstr'.2
    (g := { method := m, pc := pc + 4, locals := ls, stack := .ref T.heap.size :: .ref T.heap.size :: rest, locked := none }) rfl d4' _ hsteps
/-- 'throw new E("text")', the text by a wide index -/
theorem vx_throwSW {cc : ByteArray} {pc : Nat} (hexec : p.tables.exec = Jvm.exec) (hb : c.code = cc) (hl : l.stackTraces = false) {own cls text : String} {names : List String} {ik is ic mc ms sa : Nat} {A : Nat → Prop}
    (hown : s.vm.findClass own = some m.cls) (hcls : Bundle.fit cls = true) (hnames : ∀ n ∈ names, Bundle.fit n = true)
    (hk : (Cond.classLink own ik cls).before args s = true) (hini : (Cond.initialized cls).before args s = true) (hstr : vk_R own is text sa s) (hat : ∀ w ∈ vx_atS own ic cls names, w.before args s = true)
    (hgood : ∀ w ∈ Cond.classLink own ik cls :: Cond.initialized cls :: vx_atS own ic cls names, vx_ot w = true)
    (hU : vx_Zq Bundle.tN "UNASSIGNED_STACK" Bundle.steD A s s.heap) (hN : vx_Zq Bundle.tN "SUPPRESSED_SENTINEL" Bundle.listD A s s.heap) (hS : va_S A s.heap H locs) (hsize : ls.size = c.maxLocals)
    (d0 : decode cc pc = .ok (.new ik, 3)) (d3 : decode cc (pc + 3) = .ok (.dup, 1)) (d4 : decode cc (pc + 4) = .ok (.ldc_w is, 3)) (d7 : decode cc (pc + 7) = .ok (.invokespecial ic, 3)) (d10 : decode cc (pc + 10) = .ok (.athrow, 1))
    (hout : ∀ x ∈ c.exceptionTable.toList, covers x (pc + 10) = false)
    (hRframes : names.length + 3 < R.frames) (hRlocals : (rest.map fun v => v.category).sum + (13 * (names.length + 1) + 43) ≤ R.locals) (hRcells : cells + 1 ≤ R.cells) (hRslots : slots + 6 ≤ R.slots) (hlocks : meth.locks = false)
    (hx : ∀ t : State, s.vm.Alike t.vm → H.size ≤ t.heap.size → (∀ q : Nat, q < H.size → t.heap[q]? = H[q]?) → XC cls s t)
    (hf : ∀ z ∈ locs, free z.base) (hc : cells + 1 ≤ mc) (hs : slots + 6 ≤ ms) :
    W p l e R s m args below meth c H locs cells slots (vx_MQ below Qc XC args s mc ms free) (F0 m pc ls rest) := by
  intro T hT X
  have htr : e.platform.stackTraces = false := (show e.platform.stackTraces = l.stackTraces by rw [X.admits.platform]).trans hl
  have Y := vx_rebase X (R' := { frames := R.frames, locals := R.locals, cells := 1, slots := 6 }) (Nat.le_refl _) (Nat.le_refl _) hRcells hRslots
  obtain ⟨s', hA⟩ : ∃ z, z = (T.setVm s.vm).setFrames (.invoking m args :: below) := ⟨_, rfl⟩
  rw [← hA] at Y
  have hvm : s'.vm = s.vm := by rw [hA]; rfl
  have hhp : s'.heap = H := by rw [hA]; exact hT
  have hW0 : s.WarmedH s'.vm := by rw [hvm]; exact State.WarmedH.refl s
  have hat' : ∀ w ∈ vx_atS own ic cls names, w.before args s' = true := fun w hw => vx_ot_at hW0 hvm.symm (hgood w (List.mem_cons_of_mem _ (List.mem_cons_of_mem _ hw))) (hat w hw)
  have hk' : (Cond.classLink own ik cls).before args s' = true := vx_ot_at hW0 hvm.symm (hgood _ List.mem_cons_self) hk
  have hini' : (Cond.initialized cls).before args s' = true := vx_ot_at hW0 hvm.symm (hgood _ (List.mem_cons_of_mem _ List.mem_cons_self)) hini
  have hU' : vx_Zq Bundle.tN "UNASSIGNED_STACK" Bundle.steD A s' s'.heap := by rw [hhp]; exact vx_Zq.moved hW0.alike (hU.kept hS.2.1)
  have hN' : vx_Zq Bundle.tN "SUPPRESSED_SENTINEL" Bundle.listD A s' s'.heap := by rw [hhp]; exact vx_Zq.moved hW0.alike (hN.kept hS.2.1)
  have h : ∀ w ∈ Bundle.ownAtoms own ic cls names, w.before args s' = true := vx_own hat' (vx_isRefq hU'.1) (vx_isRefq hN'.1) hU'.2.word hN'.2.word
  have hown' : s'.vm.findClass own = some m.cls := by rw [hvm]; exact hown
  have hins : (Cond.instantiable cls 6).before args s' = true := h _ (by simp [Bundle.ownAtoms])
  obtain ⟨vm₁, cX, kX, hfX, hkX, -, -, X₁, st1⟩ := Y.newCold hexec (own := own) (C := cls) (index := ik) (n := 6) hown' hk' hins hini'
    (g := F0 m pc ls rest) rfl (by rw [hb]; exact d0) (Nat.le_refl _) (Nat.le_refl _)
  generalize hT1 : (T.setVm vm₁).pushCell { cls := cX, slots := kX.instanceTypes.map defaultValue, vm := .none } = T1 at X₁ st1
  have hcat : (Value.ref T.heap.size).category = 1 := rfl
  have hcellA : T1.heap[T.heap.size]? = some (freshCell cX kX) := by rw [← hT1]; exact State.heap_pushCell_size _ _
  have d3' : decode c.code (pc + 3) = .ok (.dup, 1) := by rw [hb]; exact d3
  have d4' : decode c.code (pc + 4) = .ok (.ldc_w is, 3) := by rw [hb]; exact d4
  have hstr' : vk_R own is text sa s' := vk_R.warm hW0 hstr
  obtain ⟨U, hsteps, hrun, hend, hW, hsame, ce, hce, hO⟩ := X₁.ctorThrowS hexec htr (own := own) (cls := cls) (names := names) (ic := ic) hown' hcls hnames h (fun x hx => nomatch hx) hfX hkX hcellA (by rw [hhp, hT]; exact Nat.le_refl _) (msg := .ref sa) rfl
    (g := { method := m, pc := pc + 7, locals := ls, stack := .ref sa :: .ref T.heap.size :: .ref T.heap.size :: rest, locked := none }) rfl hsize rfl rfl (rest := rest) rfl
    (by rw [hb]; exact d7) (by rw [hb]; exact d10) hout hRframes (by simp only [List.map_cons, List.sum_cons, hcat]; omega) hlocks
  obtain ⟨f1, f2⟩ := vx_frame hsame
  rw [hhp] at f1 f2
  have hWs : s.WarmedH U.vm := State.WarmedH.trans hW0 hW
  have hcl : s.vm.findClass cls = some ce.cls := by
    have h9 := hO.cls
    rw [hvm] at h9
    exact h9
  have hall : s.sameButNew ({ U with vm := s.vm } : State) locs mc ms := by
    subst hA
    obtain ⟨e1, e2⟩ := hsame
    rw [State.setFrames_setFrames] at e1
    have h2 : (T.setVm s.vm).sameButNew ({ U with vm := s.vm } : State) [] (0 + 1) (0 + 6) := ⟨e1, e2⟩
    have h3 := X.same.trans h2
    rw [List.append_nil] at h3
    exact h3.mono hc hs
  refine ⟨U, ?_, .threw T.heap.size, hrun, hend, Or.inr ⟨T.heap.size, rfl, cls, ce, locs, hx U hWs.alike f1 (fun q hq => f2 q hq (fun z hz => nomatch hz)), hce, hO.vm, hcl, hWs, hall, hf⟩⟩
  refine st1 _ ?_
  show Steps p.tables e below (T1.setTop { method := m, pc := pc + 3, locals := ls, stack := .ref T.heap.size :: rest, locked := none }) _
  jvm_step X₁.here [X₁.here.top, hexec, d3', Value.category]
  exact X₁.ldcStringW hexec (own := own) (text := text) (index := is) (a := sa) hown' hstr'.1 hstr'.2
    (g := { method := m, pc := pc + 4, locals := ls, stack := .ref T.heap.size :: .ref T.heap.size :: rest, locked := none }) rfl d4' _ hsteps
end Ends
section Bodies
variable {l : Launch}
theorem vx_ofW {y : MethodName} {ws ws' : List Cond} {rm : Room} {Pc : Array Value → State → Prop} {Qc : Array Value → State → Outcome → State → Prop} {XC : String → State → State → Prop} {mc ms : Nat} {free : Addr → Prop} {cc : ByteArray} {maxL : Nat} {ret : Option FieldType}
    (hy : plainName y.cls = true) (hw : ws = Cond.code y cc maxL ret :: ws')
    (body : ∀ p e s m args below meth c s₁, BodyLoose p l y (headSpec ws rm) cc maxL ret e s m args below meth c s₁ → c.maxLocals = maxL → (∀ x ∈ c.exceptionTable.toList, False) → Pc args s →
      W p l e (headSpec ws rm).room s m args below meth c s.heap [] 0 0 (vx_MQ below Qc XC args s mc ms free) (entryFrame m args maxL)) : vx_Met l y ws rm Pc Qc XC mc ms free := by
  refine MetFree.of_bodyS (code := cc) (maxLocals := maxL) (ret := ret) hy ?_ ?_
  · intro args s m h hn
    obtain ⟨meth, c, h1, h2, h3, h4, h5, h6, -, -⟩ := Cond.code_spec hn (atoms_spec (ws := ws) h _ (by rw [hw]; exact List.mem_cons_self))
    exact ⟨meth, c, h1, h2, h3, h4, h5, h6⟩
  · intro p e s m args below meth c s₁ B hml hP _
    have hh0 : s₁.heap = s.heap := by rw [B.state]; rfl
    have ht : ∀ x ∈ c.exceptionTable.toList, False := by
      obtain ⟨meth9, c9, h1, h2, -, -, -, -, h7, -⟩ := Cond.code_spec B.named (atoms_spec (ws := ws) B.pre _ (by rw [hw]; exact List.mem_cons_self))
      cases Option.some.inj (h1.symm.trans B.method)
      cases Option.some.inj (h2.symm.trans (Stand.of_body B).code)
      intro x hx
      rw [Array.isEmpty_iff.mp h7] at hx
      cases hx
    obtain ⟨t, a1, o, b1, b2, b3⟩ := body p e s m args below meth c s₁ B hml ht hP s₁ hh0 (Stand.of_body B)
    exact ⟨t, o, a1, b1, b2, b3⟩
/-- the table of a body with handlers -/
theorem vx_table {p : Program} {x y : MethodName} {S : Spec} {cc bytes : ByteArray} {maxL maxL' : Nat} {ret ret' : Option FieldType} {e : Env} {s s₁ : State} {m : MethodId} {args : Array Value} {below : List Frame} {meth : Method} {c : Code} {hh : List (Nat × Nat × Nat × Nat)}
    (B : BodyLoose p l y S cc maxL ret e s m args below meth c s₁) (h : (Cond.codeWith y bytes maxL' ret' hh).before args s = true) : c.exceptionTable.toList = tableOf hh := by
  obtain ⟨m9, meth9, c9, hn9, h1, h2, -, -, h6, -⟩ := Cond.codeWith_spec h
  cases Option.some.inj (hn9.symm.trans B.named)
  cases Option.some.inj (h1.symm.trans B.method)
  cases Option.some.inj (h2.symm.trans (Stand.of_body B).code)
  rw [← h6, table_eq]
end Bodies
end VXA
/-! ===== END ===== -/
/-! ===== BEGIN a static call of a method with an exception table ===== -/
section VXS
variable {p : Program} {l : Launch} {e : Env} {R : Room} {s : State} {m : MethodId} {args : Array Value} {below : List Frame} {meth : Method} {c : Code} {T : State} {H : Heap} {locs : List Loc} {cells slots : Nat}
abbrev vx_CSW (R : Room) (s : State) (args : Array Value) (own : String) (index : Nat) (y : MethodName) (bytes : ByteArray) (maxL : Nat) (ret : Option FieldType) (hh : List (Nat × Nat × Nat × Nat)) (ws : List Cond) (rm : Room) (mc ms n : Nat) : Prop :=
  (rm.cells = mc ∧ rm.slots = ms ∧ rm.frames + 1 ≤ R.frames ∧ 8 + (maxL + 11) + rm.locals ≤ R.locals ∧ (∀ w ∈ ws, ∀ (a' : Array Value) (U : State), s.WarmedH U.vm → w.before a' U = true) ∧ Cond.codeWith y bytes maxL ret hh ∈ ws) ∧
  (Cond.codeWith y bytes maxL ret hh).before args s = true ∧ (Cond.initialized y.cls).before args s = true ∧ (y.cls ≠ "java/lang/invoke/MethodHandle" ∧ y.cls ≠ "java/lang/invoke/VarHandle") ∧
  (∀ sig, parseMethodDescriptor y.desc = some sig → n = sig.parameters.length) ∧ (Cond.methodLink own index y).before args s = true ∧ (Cond.static y).before args s = true
theorem vx_cwSW {own : String} {index maxL mc ms : Nat} {y : MethodName} {bytes : ByteArray} {ret : Option FieldType} {hh : List (Nat × Nat × Nat × Nat)} {Ts ws ws' : List Cond} {rm : Room} (n : Nat) (ht : ∀ w ∈ Ts, w.before args s = true) (hT : GoodIn Ts (va_wsS own index y ws)) (hw : ws = Cond.codeWith y bytes maxL ret hh :: ws') (hrc : rm.cells = mc) (hrs : rm.slots = ms)
    (hd : y.cls ≠ "java/lang/invoke/MethodHandle" ∧ y.cls ≠ "java/lang/invoke/VarHandle" ∧ (parseMethodDescriptor y.desc).map (fun d => d.parameters.length) = some n) (hR : rm.frames + 1 ≤ R.frames ∧ 8 + (maxL + 11) + rm.locals ≤ R.locals) :
    vx_CSW R s args own index y bytes maxL ret hh ws rm mc ms n := by
  have ok : ∀ w ∈ va_wsS own index y ws, w.before args s = true := fun w h => ht w (hT w h).1
  have hG : GoodIn Ts ws := fun w h => hT w (by unfold va_wsS; exact List.mem_append_right _ h)
  have hc : Cond.codeWith y bytes maxL ret hh ∈ ws := by rw [hw]; exact List.mem_cons_self
  refine ⟨⟨hrc, hrs, hR.1, hR.2, pay_in ht hG, hc⟩, ht _ (hG _ hc).1, ok _ (by simp [va_wsS]), ⟨hd.1, hd.2.1⟩, fun sig h => ?_, ok _ (by simp [va_wsS]), ok _ (by simp [va_wsS])⟩
  have h2 := hd.2.2
  rw [h] at h2
  exact (Option.some.inj h2).symm
theorem vx_callSW (X : Stand p l e R s m args below meth c T locs cells slots) (hexec : p.tables.exec = Jvm.exec) {own : String} {index : Nat} {y : MethodName} {bytes : ByteArray} {maxL : Nat} {ret : Option FieldType} {hh : List (Nat × Nat × Nat × Nat)}
    (hown : s.vm.findClass own = some m.cls) (hlink : (Cond.methodLink own index y).before args s = true) (hstat : (Cond.static y).before args s = true) (hinit : (Cond.initialized y.cls).before args s = true)
    (hcode : (Cond.codeWith y bytes maxL ret hh).before args s = true) (hy : y.cls ≠ "java/lang/invoke/MethodHandle" ∧ y.cls ≠ "java/lang/invoke/VarHandle")
    {W9 : Nat} {Pre : Pt → Array Value → Prop} {Post : Pt → Array Value → Option Value → Pt → Prop} (hK : Back l R p e below s args y 3 W9 Pre Post)
    {g : JFrame} (hg : g.method = m) (hsize : g.locals.size = c.maxLocals) {argsL rest : List Value} (hlen : ∀ sig, parseMethodDescriptor y.desc = some sig → argsL.length = sig.parameters.length)
    (hstack : g.stack = argsL.reverse ++ rest) (hW : 2 * g.monitorRoom + (rest.map fun v => v.category).sum ≤ W9) (hdg : decode c.code g.pc = .ok (.invokestatic index, 3))
    (hpre : ∀ vm₁, s.WarmedH vm₁ → Pre ⟨T.setVm vm₁, locs, cells, slots⟩ argsL.toArray) :
    ∃ (v : Option Value) (vm₁ : Vm) (B : Pt), s.WarmedH vm₁ ∧ Stand p l e R s m args below meth c B.U B.locs B.cells B.slots ∧ Post ⟨T.setVm vm₁, locs, cells, slots⟩ argsL.toArray v B ∧
      ∀ target, Steps p.tables e below (B.U.setTop { g with pc := g.pc + 3, stack := v.toList ++ rest }) target → Steps p.tables e below (T.setTop g) target := by
  obtain ⟨mk, methM, cM, hnamed, hmethM, -, -, -, -, -, -, hsigM⟩ := Cond.codeWith_spec hcode
  have hstatic : methM.isStatic = true := Cond.static_spec hnamed hmethM hstat
  obtain ⟨kP, hkP, -⟩ := className_of_methodNamed hnamed
  have hinitP : kP.init = .initialized := Cond.initialized_spec (findClass_of_methodNamed hnamed) hkP hinit
  obtain ⟨vm₁, X₁, hstep₁⟩ := X.invokestatic hexec hown hlink hnamed hmethM hstatic hkP hinitP hy (g := g) hg (argsL := argsL) (rest := rest) (hlen _ hsigM) hstack hdg
  obtain ⟨v, B, X', hpost, hsteps⟩ := hK m meth c ⟨T.setVm vm₁, locs, cells, slots⟩ { g with stack := rest } (.invokestatic index) mk argsL.toArray X₁ hg hsize hdg hW (X₁.named hnamed) (hpre vm₁ X₁.warmed)
  exact ⟨v, vm₁, B, X₁.warmed, X', hpost, fun target h => hstep₁ _ fun acts => by rw [doInvoke_state]; exact hsteps.trans h⟩
theorem vx_runSW {y : MethodName} {bytes cc : ByteArray} {maxL nL mc ms n index : Nat} {ret : Option FieldType} {hh : List (Nat × Nat × Nat × Nat)} {ws : List Cond} {rm : Room} {Pc : Array Value → State → Prop} {Qc : Array Value → State → Outcome → State → Prop} {free : Addr → Prop} {Ts : List Cond} {own : String} {As rest : List Value} {g : JFrame}
    (S : CallFix p m c cc nL s args Ts own) (hM : Met l y ws rm Pc Qc mc ms free) (cw : vx_CSW R s args own index y bytes maxL ret hh ws rm mc ms n) (hp : PreS s H Pc As)
    (hg : g.method = m) (hn : As.length = n) (hsize : g.locals.size = nL) (hstack : g.stack = As.reverse ++ rest) (hW : 2 * g.monitorRoom + (rest.map fun v => v.category).sum ≤ 8) (hdg : decode cc g.pc = .ok (.invokestatic index, 3)) (hf : cells + mc ≤ R.cells ∧ slots + ms ≤ R.slots) :
    va_Run p l e R s m args below meth c H locs cells slots mc ms g rest (Qc As.toArray) (free) := by
  obtain ⟨⟨hrc, hrs, hfr, hlo, hws, hcw⟩, hcode, hini, hy, hlen, hl, hstt⟩ := cw
  have hK : Back l R p e below s args y 3 8 (PreOf R mc ms Pc) (PostOf Qc mc ms free) := va_backW (hh := hh) (bytes := bytes) (maxL := maxL) (ret := ret) hM hp.1 hrc hrs hfr hlo hws hcw (fun a' U hW => word_at hW (Or.inl (by first | rfl | simp [Cond.onTables, Cond.keeps, Cond.steady])) hini)
  obtain ⟨hx, hb, hml, ho, -⟩ := S
  intro T hT X
  obtain ⟨v, vm₁, ⟨U', l2, c2, s2⟩, hW₁, X', ⟨g', mk, t, L, e1, e2, hq, h1, hL, h2, h3⟩, st⟩ := vx_callSW X hx (hh := hh) (bytes := bytes) (maxL := maxL) (ret := ret) ho hl hstt hini hcode hy hK hg (hsize.trans hml.symm) (argsL := As) (rest := rest) (fun sig h => hn.trans (hlen sig h)) hstack hW (by rw [hb]; exact hdg)
    (fun vm₁ hW₁ => ⟨hf.1, hf.2, hp.2 (T.setVm vm₁) hT hW₁⟩)
  dsimp only [Pt.U, Pt.locs, Pt.cells, Pt.slots] at X' e1 e2 h1 h2 h3 st
  subst h1; subst h2; subst h3
  exact ⟨v, (T.setVm vm₁).calling g' mk As.toArray, t, U', L, hT, X', hL, e1, e2, hq, st⟩
/-- not caught here, past rows that name other classes: it goes on to the caller -/
theorem vx_outP {p : Program} {l : Launch} {e : Env} {R : Room} {s : State} {m : MethodId} {args : Array Value} {below : List Frame} {meth : Method} {c : Code} {H : Heap} {locs : List Loc} {cells slots : Nat} {free : Addr → Prop} {ls : Array Slot} {rest : List Value} {Qc : Array Value → State → Outcome → State → Prop} {XC : String → State → State → Prop}
    {pc : Nat} {own E : String} {ce : Cell} {q : Addr} {mc ms : Nat} (hown : s.vm.findClass own = some m.cls) (hlocks : meth.locks = false)
    (hpass : ∀ z ∈ c.exceptionTable.toList, covers z pc = false ∨ (z.catchType ≠ 0 ∧ ∃ nm : String, (Cond.classLink own z.catchType nm).before args s = true ∧ va_Nc E nm s)) (hcell : H[q]? = some ce) (hv : ce.vm = .none) (hcl : s.vm.findClass E = some ce.cls)
    (hx : ∀ t : State, t.heap = H → s.vm.Alike t.vm → XC E s t) (hf : ∀ z ∈ locs, free z.base) (hc : cells ≤ mc) (hs : slots ≤ ms) :
    vx_W p l e R s m args below meth c H locs cells slots (vx_MQ below Qc XC args s mc ms free) (F0 m pc ls rest) q := by
  intro T hT X
  have hpl : e.platform.magicAccessors = ({} : Platform).magicAccessors := by rw [X.admits.platform]
  obtain ⟨vm', hW', X', st⟩ := X.outThrough hlocks q (g := F0 m pc ls rest) rfl rfl rfl (cell := ce) (by rw [hT]; exact hcell) (by rw [hv]; rfl)
    (by obtain ⟨k9, h9, -⟩ := Vm.findClass_spec hcl; exact ⟨k9, h9⟩) (fun z hz => by
      rcases hpass z hz with h | ⟨hz0, nm, hl1, hn1⟩
      · exact Or.inl h
      · obtain ⟨c6, hc6, hcl6⟩ := Cond.classLink_spec hown hl1 e.platform hpl
        obtain ⟨a8, b8, h1, h2, h3⟩ := hn1
        cases Option.some.inj (h1.symm.trans hcl)
        cases Option.some.inj (h2.symm.trans hc6)
        exact Or.inr ⟨hz0, _, hcl6, h3⟩)
  obtain ⟨g₀, hfr⟩ := X'.frames_eq
  have hcell9 : ((T.setVm vm').setFrames (.throwing q :: below)).heap[q]? = some ce := by
    show T.heap[q]? = some ce
    rw [hT]; exact hcell
  have hend : Ended ((T.setVm vm').setFrames (.throwing q :: below)) below (.threw q) := State.frames_setFrames _ (State.cur_lt_of_frames hfr)
  refine ⟨(T.setVm vm').setFrames (.throwing q :: below), ?_, .threw q, X'.here.running, hend, Or.inr ⟨q, rfl, E, ce, locs, hx _ hT (X'.ends _).1.alike, hcell9, hv, hcl, (X'.ends _).1, (X'.ends _).2.mono hc hs, hf⟩⟩
  rw [X.pushThrowing_eq]
  exact st
/-- a thing of a world lies in the heap -/
theorem vx_lt {D : va_G} {cl : List vw_C} {ws : va_W} {H1 : Heap} (h : va_P D cl ws H1) {k : Nat} {q : Nat × va_E} (hk : ws[k]? = some q) : q.1 < H1.size := (h k q hk).lt
end VXS
/-! ===== END ===== -/
/-! ===== BEGIN methods with a table of their own: called by a name, returning or throwing ===== -/
section VXH
/-! vx_backW, vx_callVX, vx_callSX, vx_callVW, vx_runVW, vx_runVX, vx_runSX, vx_ofWH follow the same proofs as their sisters above (Free/Laws.lean, Shelf42/LK1.lean); vx_outP calls Shelf42/NT130.lean (outThrough). -/
section
variable {l : Launch} {R : Room} {p : Program} {e : Env} {below : List Frame} {s : State} {sargs : Array Value} {y : MethodName} {len W9 : Nat}
theorem vx_backW {ws : List Cond} {rm : Room} {Pc : Array Value → State → Prop} {Qc : Array Value → State → Outcome → State → Prop} {XC : String → State → State → Prop} {mc ms : Nat} {free : Addr → Prop} {bytes : ByteArray} {maxL : Nat} {ret : Option FieldType} {hh : List (Nat × Nat × Nat × Nat)}
    (hM : vx_Met l y ws rm Pc Qc XC mc ms free) (hblind : FrameBlind Pc) (hrc : rm.cells = mc) (hrs : rm.slots = ms)
    (hframes : rm.frames + 1 ≤ R.frames) (hlocals : W9 + (maxL + 11) + rm.locals ≤ R.locals)
    (hws : ∀ w ∈ ws, ∀ a' U, s.WarmedH U.vm → w.before a' U = true) (hcode : Cond.codeWith y bytes maxL ret hh ∈ ws) (hinit : ∀ a' U, s.WarmedH U.vm → (Cond.initialized y.cls).before a' U = true) :
    vx_Back l R p e below s sargs y len W9 (PreOf R mc ms Pc) (PostOf Qc mc ms free) (vx_Post XC mc ms free) := by
  intro m meth c A g ig mk a X hg hsize hdg hW hn hp
  have h1 : (headSpec ws rm).pre.before a A.U = true := atoms_intro fun w hw => hws w hw _ _ X.warmed
  have h2 : (Cond.codeWith y bytes maxL ret hh).before a A.U = true := hws _ hcode _ _ X.warmed
  have h3 : (Cond.initialized y.cls).before a A.U = true := hinit _ _ X.warmed
  have h4 : A.cells + (headSpec ws rm).room.cells ≤ R.cells := by rw [show (headSpec ws rm).room.cells = mc from hrc]; exact hp.1
  have h5 : A.slots + (headSpec ws rm).room.slots ≤ R.slots := by rw [show (headSpec ws rm).room.slots = ms from hrs]; exact hp.2.1
  have hPc : Pc a (A.U.calling g mk a) := hblind _ _ _ _ hp.2.2
  obtain ⟨U, Ls, c0, s0⟩ := A
  dsimp only [Pt.U, Pt.locs, Pt.cells, Pt.slots] at h1 h2 h3 h4 h5 X hn hPc ⊢
  obtain ⟨m9, methY, cY, hn9, hmY, hcY, -, hlY, -⟩ := Cond.codeWith_spec h2
  cases Option.some.inj (hn9.symm.trans hn)
  obtain ⟨kY, hkY, -⟩ := className_of_methodNamed hn
  have hinitY : kY.init = .initialized := Cond.initialized_spec (findClass_of_methodNamed hn) hkY h3
  have h : At U g.method c below := by rw [hg]; exact X.here
  have hlocals9 : W9 + (maxL + 11) + (headSpec ws rm).room.locals ≤ R.locals := hlocals
  have happ : (headSpec ws rm).appliesLoose y e.platform (U.calling g mk a) = true :=
    Spec.appliesLoose_calling (g := g) h hdg hn hkY hinitY
      (X.room_calling (g := g) (R' := (headSpec ws rm).room) hsize hmY hcY hframes (by rw [hlY]; omega) h4 h5) h1
  obtain ⟨mid, hmid⟩ := h.above
  have hfr : (U.setTop g).frames = (.java g :: mid) ++ below := by rw [State.frames_setTop' g h.top, hmid]; rfl
  obtain ⟨o, s₂, hsteps, -, hend, hq⟩ := Steps.callFree hM p X.admits X.cas X.clock (acts := []) hfr happ hPc trivial
  have hq' : vx_Q Qc XC mc ms free a (U.calling g mk a) o s₂ := hq
  rw [State.frames_setTop' g h.top] at hend
  obtain ⟨g₀, hg0⟩ := Option.isSome_iff_exists.mp h.top
  obtain ⟨r, hr⟩ := State.topJava?_eq_some.mp hg0
  have hr' : (({ U with heap := s₂.heap, slotsUsed := s₂.slotsUsed } : State).setVm s₂.vm).frames = .java g₀ :: r := hr
  rcases hq' with ⟨hqc, L, hfe, hL⟩ | ⟨q, rfl, E, ce, L, hx, hce, hcv, hcl, hW₂, hsm, hL⟩
  · obtain ⟨⟨v, rfl⟩, hW₂, e2, q2, q3, q4, q5, q6⟩ := id hfe
    have e3 : s₂ = ({ (U.calling g mk a).setFrames s₂.frames with heap := s₂.heap, slotsUsed := s₂.slotsUsed } : State).setVm s₂.vm := by
      have : s₂ = ({ s₂ with vm := (U.calling g mk a).vm } : State).setVm s₂.vm := rfl
      rw [e2] at this
      exact this
    obtain ⟨c₂, i₂, len₂, hc₂, hd₂, hf₂⟩ := hend
    have hW' : U.WarmedH s₂.vm := hW₂
    have hcc : c₂ = c := by
      have h1 : s₂.code? g.method = U.code? g.method := by
        rw [State.code?_eq, State.code?_eq, hW'.alike.method?]
      exact Option.some.inj (hc₂.symm.trans (h1.trans h.code))
    subst hcc
    have hlen : len₂ = len := by rw [hdg] at hd₂; cases hd₂; rfl
    subst hlen
    have hs₂ : s₂ = (({ U with heap := s₂.heap, slotsUsed := s₂.slotsUsed } : State).setVm s₂.vm).setTop { g with pc := g.pc + len₂, stack := v.toList ++ g.stack } := by
      refine e3.trans ?_
      rw [hf₂, State.calling_eq h.top, State.setFrames_setFrames, State.setTop_of_frames _ hr', hr]
      rfl
    have hsame : U.sameButNew ({ U with heap := s₂.heap, slotsUsed := s₂.slotsUsed } : State) L mc ms := by
      refine ⟨?_, q2, q3, q4, q5, q6⟩
      obtain ⟨t, ht, -⟩ := State.frames_cons hr
      show ({ U with heap := s₂.heap, slotsUsed := s₂.slotsUsed } : State) = { U.setFrames U.frames with heap := s₂.heap, slotsUsed := s₂.slotsUsed }
      rw [State.setFrames_self ht]
    subst hg
    refine Or.inl ⟨v, ⟨(({ U with heap := s₂.heap, slotsUsed := s₂.slotsUsed } : State).setVm s₂.vm), Ls ++ L, c0 + mc, s0 + ms⟩,
      ⟨X.admits, X.cas, X.clock, X.frames, X.room, X.hears, X.method, X.code, (X.here.setHeapUsed s₂.heap s₂.slotsUsed).setVm hW'.alike, X.tail, State.WarmedH.trans X.warmed hW', X.limits, X.bytes, X.same.trans (hsame.setVm s.vm)⟩,
      ⟨g, mk, s₂, L, rfl, rfl, hqc, rfl, hL, rfl, rfl⟩, ?_⟩
    show Steps p.tables e below _ ((({ U with heap := s₂.heap, slotsUsed := s₂.slotsUsed } : State).setVm s₂.vm).setTop { g with pc := g.pc + len₂, stack := v.toList ++ g.stack })
    rw [← hs₂]
    exact hsteps
  · obtain ⟨e2, q2, q3, q4, q5, q6⟩ := id hsm
    have e3 : s₂ = ({ (U.calling g mk a).setFrames s₂.frames with heap := s₂.heap, slotsUsed := s₂.slotsUsed } : State).setVm s₂.vm := by
      have : s₂ = ({ s₂ with vm := (U.calling g mk a).vm } : State).setVm s₂.vm := rfl
      rw [e2] at this
      exact this
    have hf₂ : s₂.frames = .throwing q :: .java g :: U.frames.tail := hend
    have hW' : U.WarmedH s₂.vm := hW₂
    have hs₂ : s₂ = ((({ U with heap := s₂.heap, slotsUsed := s₂.slotsUsed } : State).setVm s₂.vm).setTop g).pushFrame (.throwing q) := by
      refine e3.trans ?_
      rw [hf₂, State.calling_eq h.top, State.setFrames_setFrames, State.pushFrame, State.frames_setTop _ hr', State.setTop_of_frames _ hr', State.setFrames_setFrames, hr]
      rfl
    have hsame : U.sameButNew ({ U with heap := s₂.heap, slotsUsed := s₂.slotsUsed } : State) L mc ms := by
      refine ⟨?_, q2, q3, q4, q5, q6⟩
      obtain ⟨t, ht, -⟩ := State.frames_cons hr
      show ({ U with heap := s₂.heap, slotsUsed := s₂.slotsUsed } : State) = { U.setFrames U.frames with heap := s₂.heap, slotsUsed := s₂.slotsUsed }
      rw [State.setFrames_self ht]
    subst hg
    refine Or.inr ⟨q, ⟨(({ U with heap := s₂.heap, slotsUsed := s₂.slotsUsed } : State).setVm s₂.vm), Ls ++ L, c0 + mc, s0 + ms⟩,
      ⟨X.admits, X.cas, X.clock, X.frames, X.room, X.hears, X.method, X.code, (X.here.setHeapUsed s₂.heap s₂.slotsUsed).setVm hW'.alike, X.tail, State.WarmedH.trans X.warmed hW', X.limits, X.bytes, X.same.trans (hsame.setVm s.vm)⟩,
      ⟨g, mk, s₂, L, E, ce, rfl, rfl, hx, hce, hcv, hcl, rfl, hL, rfl, rfl⟩, ?_⟩
    show Steps p.tables e below _ (((({ U with heap := s₂.heap, slotsUsed := s₂.slotsUsed } : State).setVm s₂.vm).setTop g).pushFrame (.throwing q))
    rw [← hs₂]
    exact hsteps
end
variable {p : Program} {l : Launch} {e : Env} {R : Room} {s : State} {m : MethodId} {args : Array Value} {below : List Frame} {meth : Method} {c : Code} {T : State} {H : Heap} {locs : List Loc} {cells slots : Nat}
theorem vx_callVX (X : Stand p l e R s m args below meth c T locs cells slots) (hexec : p.tables.exec = Jvm.exec) {own C : String} {index : Nat} {y : MethodName} {bytes : ByteArray} {maxL : Nat} {ret : Option FieldType} {hh : List (Nat × Nat × Nat × Nat)}
    (hown : s.vm.findClass own = some m.cls) (hlink : (Cond.methodLink own index y).before args s = true) (hinst : (Cond.instanceMethod y).before args s = true) (hsel : (Cond.selects C y y).before args s = true)
    (hcode : (Cond.codeWith y bytes maxL ret hh).before args s = true) (hy : y.cls ≠ "java/lang/invoke/MethodHandle" ∧ y.cls ≠ "java/lang/invoke/VarHandle")
    {W9 : Nat} {Pre : Pt → Array Value → Prop} {Post : Pt → Array Value → Option Value → Pt → Prop} {PostX : Pt → Array Value → Addr → Pt → Prop} (hK : vx_Back l R p e below s args y 3 W9 Pre Post PostX)
    {b : Addr} {cellB : Cell} (hcell : T.heap[b]? = some cellB) (hobj : cellB.vm.isStatics = false) (hcls : s.vm.findClass C = some cellB.cls)
    {g : JFrame} (hg : g.method = m) (hsize : g.locals.size = c.maxLocals) {argsL rest : List Value} (hlen : ∀ sig, parseMethodDescriptor y.desc = some sig → argsL.length = sig.parameters.length)
    (hstack : g.stack = argsL.reverse ++ .ref b :: rest) (hW : 2 * g.monitorRoom + (rest.map fun v => v.category).sum ≤ W9) (hdg : decode c.code g.pc = .ok (.invokevirtual index, 3))
    (hpre : ∀ vm₁, s.WarmedH vm₁ → Pre ⟨T.setVm vm₁, locs, cells, slots⟩ (Value.ref b :: argsL).toArray) :
    (∃ (v : Option Value) (vm₁ : Vm) (B : Pt), s.WarmedH vm₁ ∧ Stand p l e R s m args below meth c B.U B.locs B.cells B.slots ∧ Post ⟨T.setVm vm₁, locs, cells, slots⟩ (Value.ref b :: argsL).toArray v B ∧
      ∀ target, Steps p.tables e below (B.U.setTop { g with pc := g.pc + 3, stack := v.toList ++ rest }) target → Steps p.tables e below (T.setTop g) target) ∨
    (∃ (q : Addr) (vm₁ : Vm) (B : Pt), s.WarmedH vm₁ ∧ Stand p l e R s m args below meth c B.U B.locs B.cells B.slots ∧ PostX ⟨T.setVm vm₁, locs, cells, slots⟩ (Value.ref b :: argsL).toArray q B ∧
      Steps p.tables e below (T.setTop g) ((B.U.setTop { g with stack := rest }).pushFrame (.throwing q))) := by
  obtain ⟨mk, methM, hnamed, hmethM, hstM, habM⟩ := Cond.instanceMethod_spec hinst
  obtain ⟨m8, methM', cM, hn8, hmethM', -, -, -, -, -, -, hsigM⟩ := Cond.codeWith_spec hcode
  cases Option.some.inj (hn8.symm.trans hnamed)
  cases hmethM.symm.trans hmethM'
  obtain ⟨c2, r2, m2, q1, q2, q3, q4, kP, hkP, hkPi⟩ := Cond.selects_spec hsel
  cases hcls.symm.trans q1
  cases (State.methodFound?_of_named hnamed hy).symm.trans q2
  cases hnamed.symm.trans q3
  have hselP : selectMethod e.platform s.vm cellB.cls mk = .method mk := by rw [Launch.admits_selectMethod X.admits]; exact q4
  obtain ⟨vm₁, X₁, hstep₁⟩ := X.invokevirtual hexec hown hlink hnamed hmethM hstM hkP hkPi hy (a := b) (cell := cellB) hcell
    (fun z h => by rw [h] at hobj; cases hobj) hselP hmethM habM hkP hkPi (g := g) hg (argsL := argsL) (rest := rest) (hlen _ hsigM) hstack hdg
  rcases hK m meth c ⟨T.setVm vm₁, locs, cells, slots⟩ { g with stack := rest } (.invokevirtual index) mk (Value.ref b :: argsL).toArray X₁ hg hsize hdg hW (X₁.named hnamed) (hpre vm₁ X₁.warmed) with ⟨v, B, X', hpost, hsteps⟩ | ⟨q, B, X', hpost, hsteps⟩
  · exact Or.inl ⟨v, vm₁, B, X₁.warmed, X', hpost, fun target h => hstep₁ _ fun acts => by rw [doInvoke_state]; exact hsteps.trans h⟩
  · exact Or.inr ⟨q, vm₁, B, X₁.warmed, X', hpost, hstep₁ _ fun acts => by rw [doInvoke_state]; exact hsteps⟩
theorem vx_callSX (X : Stand p l e R s m args below meth c T locs cells slots) (hexec : p.tables.exec = Jvm.exec) {own : String} {index : Nat} {y : MethodName} {bytes : ByteArray} {maxL : Nat} {ret : Option FieldType} {hh : List (Nat × Nat × Nat × Nat)}
    (hown : s.vm.findClass own = some m.cls) (hlink : (Cond.methodLink own index y).before args s = true) (hstat : (Cond.static y).before args s = true) (hinit : (Cond.initialized y.cls).before args s = true)
    (hcode : (Cond.codeWith y bytes maxL ret hh).before args s = true) (hy : y.cls ≠ "java/lang/invoke/MethodHandle" ∧ y.cls ≠ "java/lang/invoke/VarHandle")
    {W9 : Nat} {Pre : Pt → Array Value → Prop} {Post : Pt → Array Value → Option Value → Pt → Prop} {PostX : Pt → Array Value → Addr → Pt → Prop} (hK : vx_Back l R p e below s args y 3 W9 Pre Post PostX)
    {g : JFrame} (hg : g.method = m) (hsize : g.locals.size = c.maxLocals) {argsL rest : List Value} (hlen : ∀ sig, parseMethodDescriptor y.desc = some sig → argsL.length = sig.parameters.length)
    (hstack : g.stack = argsL.reverse ++ rest) (hW : 2 * g.monitorRoom + (rest.map fun v => v.category).sum ≤ W9) (hdg : decode c.code g.pc = .ok (.invokestatic index, 3))
    (hpre : ∀ vm₁, s.WarmedH vm₁ → Pre ⟨T.setVm vm₁, locs, cells, slots⟩ argsL.toArray) :
    (∃ (v : Option Value) (vm₁ : Vm) (B : Pt), s.WarmedH vm₁ ∧ Stand p l e R s m args below meth c B.U B.locs B.cells B.slots ∧ Post ⟨T.setVm vm₁, locs, cells, slots⟩ argsL.toArray v B ∧
      ∀ target, Steps p.tables e below (B.U.setTop { g with pc := g.pc + 3, stack := v.toList ++ rest }) target → Steps p.tables e below (T.setTop g) target) ∨
    (∃ (q : Addr) (vm₁ : Vm) (B : Pt), s.WarmedH vm₁ ∧ Stand p l e R s m args below meth c B.U B.locs B.cells B.slots ∧ PostX ⟨T.setVm vm₁, locs, cells, slots⟩ argsL.toArray q B ∧
      Steps p.tables e below (T.setTop g) ((B.U.setTop { g with stack := rest }).pushFrame (.throwing q))) := by
  obtain ⟨mk, methM, cM, hnamed, hmethM, -, -, -, -, -, -, hsigM⟩ := Cond.codeWith_spec hcode
  have hstatic : methM.isStatic = true := Cond.static_spec hnamed hmethM hstat
  obtain ⟨kP, hkP, -⟩ := className_of_methodNamed hnamed
  have hinitP : kP.init = .initialized := Cond.initialized_spec (findClass_of_methodNamed hnamed) hkP hinit
  obtain ⟨vm₁, X₁, hstep₁⟩ := X.invokestatic hexec hown hlink hnamed hmethM hstatic hkP hinitP hy (g := g) hg (argsL := argsL) (rest := rest) (hlen _ hsigM) hstack hdg
  rcases hK m meth c ⟨T.setVm vm₁, locs, cells, slots⟩ { g with stack := rest } (.invokestatic index) mk argsL.toArray X₁ hg hsize hdg hW (X₁.named hnamed) (hpre vm₁ X₁.warmed) with ⟨v, B, X', hpost, hsteps⟩ | ⟨q, B, X', hpost, hsteps⟩
  · exact Or.inl ⟨v, vm₁, B, X₁.warmed, X', hpost, fun target h => hstep₁ _ fun acts => by rw [doInvoke_state]; exact hsteps.trans h⟩
  · exact Or.inr ⟨q, vm₁, B, X₁.warmed, X', hpost, hstep₁ _ fun acts => by rw [doInvoke_state]; exact hsteps⟩
theorem vx_callVW (X : Stand p l e R s m args below meth c T locs cells slots) (hexec : p.tables.exec = Jvm.exec) {own C : String} {index : Nat} {y : MethodName} {bytes : ByteArray} {maxL : Nat} {ret : Option FieldType} {hh : List (Nat × Nat × Nat × Nat)}
    (hown : s.vm.findClass own = some m.cls) (hlink : (Cond.methodLink own index y).before args s = true) (hinst : (Cond.instanceMethod y).before args s = true) (hsel : (Cond.selects C y y).before args s = true)
    (hcode : (Cond.codeWith y bytes maxL ret hh).before args s = true) (hy : y.cls ≠ "java/lang/invoke/MethodHandle" ∧ y.cls ≠ "java/lang/invoke/VarHandle")
    {W9 : Nat} {Pre : Pt → Array Value → Prop} {Post : Pt → Array Value → Option Value → Pt → Prop} (hK : Back l R p e below s args y 3 W9 Pre Post)
    {b : Addr} {cellB : Cell} (hcell : T.heap[b]? = some cellB) (hobj : cellB.vm.isStatics = false) (hcls : s.vm.findClass C = some cellB.cls)
    {g : JFrame} (hg : g.method = m) (hsize : g.locals.size = c.maxLocals) {argsL rest : List Value} (hlen : ∀ sig, parseMethodDescriptor y.desc = some sig → argsL.length = sig.parameters.length)
    (hstack : g.stack = argsL.reverse ++ .ref b :: rest) (hW : 2 * g.monitorRoom + (rest.map fun v => v.category).sum ≤ W9) (hdg : decode c.code g.pc = .ok (.invokevirtual index, 3))
    (hpre : ∀ vm₁, s.WarmedH vm₁ → Pre ⟨T.setVm vm₁, locs, cells, slots⟩ (Value.ref b :: argsL).toArray) :
    ∃ (v : Option Value) (vm₁ : Vm) (B : Pt), s.WarmedH vm₁ ∧ Stand p l e R s m args below meth c B.U B.locs B.cells B.slots ∧ Post ⟨T.setVm vm₁, locs, cells, slots⟩ (Value.ref b :: argsL).toArray v B ∧
      ∀ target, Steps p.tables e below (B.U.setTop { g with pc := g.pc + 3, stack := v.toList ++ rest }) target → Steps p.tables e below (T.setTop g) target := by
  obtain ⟨mk, methM, hnamed, hmethM, hstM, habM⟩ := Cond.instanceMethod_spec hinst
  obtain ⟨m8, methM', cM, hn8, hmethM', -, -, -, -, -, -, hsigM⟩ := Cond.codeWith_spec hcode
  cases Option.some.inj (hn8.symm.trans hnamed)
  cases hmethM.symm.trans hmethM'
  obtain ⟨c2, r2, m2, q1, q2, q3, q4, kP, hkP, hkPi⟩ := Cond.selects_spec hsel
  cases hcls.symm.trans q1
  cases (State.methodFound?_of_named hnamed hy).symm.trans q2
  cases hnamed.symm.trans q3
  have hselP : selectMethod e.platform s.vm cellB.cls mk = .method mk := by rw [Launch.admits_selectMethod X.admits]; exact q4
  obtain ⟨vm₁, X₁, hstep₁⟩ := X.invokevirtual hexec hown hlink hnamed hmethM hstM hkP hkPi hy (a := b) (cell := cellB) hcell
    (fun z h => by rw [h] at hobj; cases hobj) hselP hmethM habM hkP hkPi (g := g) hg (argsL := argsL) (rest := rest) (hlen _ hsigM) hstack hdg
  obtain ⟨v, B, X', hpost, hsteps⟩ := hK m meth c ⟨T.setVm vm₁, locs, cells, slots⟩ { g with stack := rest } (.invokevirtual index) mk (Value.ref b :: argsL).toArray X₁ hg hsize hdg hW (X₁.named hnamed) (hpre vm₁ X₁.warmed)
  exact ⟨v, vm₁, B, X₁.warmed, X', hpost, fun target h => hstep₁ _ fun acts => by rw [doInvoke_state]; exact hsteps.trans h⟩
abbrev vx_CVW (R : Room) (s : State) (args : Array Value) (own C : String) (index : Nat) (y : MethodName) (bytes : ByteArray) (maxL : Nat) (ret : Option FieldType) (hh : List (Nat × Nat × Nat × Nat)) (ws : List Cond) (rm : Room) (mc ms n : Nat) : Prop :=
  (rm.cells = mc ∧ rm.slots = ms ∧ rm.frames + 1 ≤ R.frames ∧ 8 + (maxL + 11) + rm.locals ≤ R.locals ∧ (∀ w ∈ ws, ∀ (a' : Array Value) (U : State), s.WarmedH U.vm → w.before a' U = true) ∧ Cond.codeWith y bytes maxL ret hh ∈ ws) ∧
  (Cond.codeWith y bytes maxL ret hh).before args s = true ∧ (Cond.initialized y.cls).before args s = true ∧ (y.cls ≠ "java/lang/invoke/MethodHandle" ∧ y.cls ≠ "java/lang/invoke/VarHandle") ∧
  (∀ sig, parseMethodDescriptor y.desc = some sig → n = sig.parameters.length) ∧ (Cond.methodLink own index y).before args s = true ∧ (Cond.instanceMethod y).before args s = true ∧ (Cond.selects C y y).before args s = true
theorem vx_cwVW {own C : String} {index maxL mc ms : Nat} {y : MethodName} {bytes : ByteArray} {ret : Option FieldType} {hh : List (Nat × Nat × Nat × Nat)} {Ts ws ws' : List Cond} {rm : Room} (n : Nat) (ht : ∀ w ∈ Ts, w.before args s = true) (hT : GoodIn Ts (wsV own index C y ws)) (hw : ws = Cond.codeWith y bytes maxL ret hh :: ws') (hrc : rm.cells = mc) (hrs : rm.slots = ms)
    (hd : y.cls = C ∧ y.cls ≠ "java/lang/invoke/MethodHandle" ∧ y.cls ≠ "java/lang/invoke/VarHandle" ∧ (parseMethodDescriptor y.desc).map (fun d => d.parameters.length) = some n) (hR : rm.frames + 1 ≤ R.frames ∧ 8 + (maxL + 11) + rm.locals ≤ R.locals) :
    vx_CVW R s args own C index y bytes maxL ret hh ws rm mc ms n := by
  obtain ⟨hC, hd⟩ := hd
  subst hC
  have ok : ∀ w ∈ wsV own index y.cls y ws, w.before args s = true := fun w h => ht w (hT w h).1
  have hG : GoodIn Ts ws := fun w h => hT w (by unfold wsV; exact List.mem_append_right _ h)
  have hc : Cond.codeWith y bytes maxL ret hh ∈ ws := by rw [hw]; exact List.mem_cons_self
  refine ⟨⟨hrc, hrs, hR.1, hR.2, pay_in ht hG, hc⟩, ht _ (hG _ hc).1, ok _ (by simp [wsV]), ⟨hd.1, hd.2.1⟩, fun sig h => ?_, ok _ (by simp [wsV]), ok _ (by simp [wsV]), ok _ (by simp [wsV])⟩
  have h2 := hd.2.2
  rw [h] at h2
  exact (Option.some.inj h2).symm
theorem vx_runVW {y : MethodName} {bytes cc : ByteArray} {maxL nL mc ms n index : Nat} {ret : Option FieldType} {hh : List (Nat × Nat × Nat × Nat)} {ws : List Cond} {rm : Room} {Pc : Array Value → State → Prop} {Qc : Array Value → State → Outcome → State → Prop} {free : Addr → Prop} {Ts : List Cond} {own C : String} {b : Addr} {As rest : List Value} {g : JFrame}
    (S : CallFix p m c cc nL s args Ts own) (hM : Met l y ws rm Pc Qc mc ms free) (cw : vx_CVW R s args own C index y bytes maxL ret hh ws rm mc ms n) (hp : PreV s H C b Pc As)
    (hg : g.method = m) (hn : As.length = n) (hsize : g.locals.size = nL) (hstack : g.stack = As.reverse ++ .ref b :: rest) (hW : 2 * g.monitorRoom + (rest.map fun v => v.category).sum ≤ 8) (hdg : decode cc g.pc = .ok (.invokevirtual index, 3)) (hf : cells + mc ≤ R.cells ∧ slots + ms ≤ R.slots) :
    va_Run p l e R s m args below meth c H locs cells slots mc ms g rest (Qc (Value.ref b :: As).toArray) free := by
  obtain ⟨⟨hrc, hrs, hfr, hlo, hws, hcw⟩, hcode, hini, hy, hlen, hl, hin, hse⟩ := cw
  have hK : Back l R p e below s args y 3 8 (PreOf R mc ms Pc) (PostOf Qc mc ms free) := va_backW (hh := hh) (bytes := bytes) (maxL := maxL) (ret := ret) hM hp.1 hrc hrs hfr hlo hws hcw (fun a' U hW => word_at hW (Or.inl (by first | rfl | simp [Cond.onTables, Cond.keeps, Cond.steady])) hini)
  obtain ⟨hx, hb, hml, ho, -⟩ := S
  obtain ⟨-, ⟨cellB, hcB, hoB, hclB⟩, hPc⟩ := hp
  intro T hT X
  obtain ⟨v, vm₁, ⟨U', l2, c2, s2⟩, hW₁, X', ⟨g', mk, t, L, e1, e2, hq, h1, hL, h2, h3⟩, st⟩ := vx_callVW X hx (C := C) (hh := hh) (bytes := bytes) (maxL := maxL) (ret := ret) ho hl hin hse hcode hy hK (by rw [hT]; exact hcB) hoB hclB hg (hsize.trans hml.symm) (argsL := As) (rest := rest) (fun sig h => hn.trans (hlen sig h)) hstack hW (by rw [hb]; exact hdg)
    (fun vm₁ hW₁ => ⟨hf.1, hf.2, hPc (T.setVm vm₁) hT hW₁⟩)
  dsimp only [Pt.U, Pt.locs, Pt.cells, Pt.slots] at X' e1 e2 h1 h2 h3 st
  subst h1; subst h2; subst h3
  exact ⟨v, (T.setVm vm₁).calling g' mk (Value.ref b :: As).toArray, t, U', L, hT, X', hL, e1, e2, hq, st⟩
section
variable {y : MethodName} {bytes cc : ByteArray} {maxL nL mc ms n index : Nat} {ret : Option FieldType} {ws : List Cond} {rm : Room} {Pc : Array Value → State → Prop} {Qc : Array Value → State → Outcome → State → Prop} {XC : String → State → State → Prop} {free : Addr → Prop} {Ts : List Cond} {own C : String} {b : Addr} {As rest : List Value} {g : JFrame}
theorem vx_runVX {hh : List (Nat × Nat × Nat × Nat)} (S : CallFix p m c cc nL s args Ts own) (hM : vx_Met l y ws rm Pc Qc XC mc ms free) (cw : vx_CVW R s args own C index y bytes maxL ret hh ws rm mc ms n) (hp : PreV s H C b Pc As)
    (hg : g.method = m) (hn : As.length = n) (hsize : g.locals.size = nL) (hstack : g.stack = As.reverse ++ .ref b :: rest) (hW : 2 * g.monitorRoom + (rest.map fun v => v.category).sum ≤ 8) (hdg : decode cc g.pc = .ok (.invokevirtual index, 3)) (hf : cells + mc ≤ R.cells ∧ slots + ms ≤ R.slots) :
    vx_Run p l e R s m args below meth c H locs cells slots mc ms g rest (Qc (Value.ref b :: As).toArray) XC free := by
  obtain ⟨⟨hrc, hrs, hfr, hlo, hws, hcw⟩, hcode, hini, hy, hlen, hl, hin, hse⟩ := cw
  have hK : vx_Back l R p e below s args y 3 8 (PreOf R mc ms Pc) (PostOf Qc mc ms free) (vx_Post XC mc ms free) := vx_backW (hh := hh) (bytes := bytes) (maxL := maxL) (ret := ret) hM hp.1 hrc hrs hfr hlo hws hcw (fun a' U hW => word_at hW (Or.inl (by first | rfl | simp [Cond.onTables, Cond.keeps, Cond.steady])) hini)
  obtain ⟨hx, hb, hml, ho, -⟩ := S
  obtain ⟨-, ⟨cellB, hcB, hoB, hclB⟩, hPc⟩ := hp
  intro T hT X
  rcases vx_callVX X hx (C := C) (hh := hh) (bytes := bytes) (maxL := maxL) (ret := ret) ho hl hin hse hcode hy hK (by rw [hT]; exact hcB) hoB hclB hg (hsize.trans hml.symm) (argsL := As) (rest := rest) (fun sig h => hn.trans (hlen sig h)) hstack hW (by rw [hb]; exact hdg)
    (fun vm₁ hW₁ => ⟨hf.1, hf.2, hPc (T.setVm vm₁) hT hW₁⟩) with ⟨v, vm₁, ⟨U', l2, c2, s2⟩, hW₁, X', ⟨g', mk, t, L, e1, e2, hq, h1, hL, h2, h3⟩, st⟩ | ⟨q, vm₁, ⟨U', l2, c2, s2⟩, hW₁, X', ⟨g', mk, t, L, E, ce, e1, e2, hq, hce, hcv, hcl, h1, hL, h2, h3⟩, st⟩
  · dsimp only [Pt.U, Pt.locs, Pt.cells, Pt.slots] at X' e1 e2 h1 h2 h3 st
    subst h1; subst h2; subst h3
    exact Or.inl ⟨v, (T.setVm vm₁).calling g' mk (Value.ref b :: As).toArray, t, U', L, hT, X', hL, e1, e2, hq, st⟩
  · dsimp only [Pt.U, Pt.locs, Pt.cells, Pt.slots] at X' e1 e2 h1 h2 h3 st hcl
    subst h1; subst h2; subst h3
    exact Or.inr ⟨q, (T.setVm vm₁).calling g' mk (Value.ref b :: As).toArray, t, U', L, E, ce, hT, X', hL, e1, e2, hq, hce, hcv, vx_cls hW₁ hcl, st⟩
theorem vx_runSX {hh : List (Nat × Nat × Nat × Nat)} (S : CallFix p m c cc nL s args Ts own) (hM : vx_Met l y ws rm Pc Qc XC mc ms free) (cw : vx_CSW R s args own index y bytes maxL ret hh ws rm mc ms n) (hp : PreS s H Pc As)
    (hg : g.method = m) (hn : As.length = n) (hsize : g.locals.size = nL) (hstack : g.stack = As.reverse ++ rest) (hW : 2 * g.monitorRoom + (rest.map fun v => v.category).sum ≤ 8) (hdg : decode cc g.pc = .ok (.invokestatic index, 3)) (hf : cells + mc ≤ R.cells ∧ slots + ms ≤ R.slots) :
    vx_Run p l e R s m args below meth c H locs cells slots mc ms g rest (Qc As.toArray) XC free := by
  obtain ⟨⟨hrc, hrs, hfr, hlo, hws, hcw⟩, hcode, hini, hy, hlen, hl, hstt⟩ := cw
  have hK : vx_Back l R p e below s args y 3 8 (PreOf R mc ms Pc) (PostOf Qc mc ms free) (vx_Post XC mc ms free) := vx_backW (hh := hh) (bytes := bytes) (maxL := maxL) (ret := ret) hM hp.1 hrc hrs hfr hlo hws hcw (fun a' U hW => word_at hW (Or.inl (by first | rfl | simp [Cond.onTables, Cond.keeps, Cond.steady])) hini)
  obtain ⟨hx, hb, hml, ho, -⟩ := S
  intro T hT X
  rcases vx_callSX X hx (hh := hh) (bytes := bytes) (maxL := maxL) (ret := ret) ho hl hstt hini hcode hy hK hg (hsize.trans hml.symm) (argsL := As) (rest := rest) (fun sig h => hn.trans (hlen sig h)) hstack hW (by rw [hb]; exact hdg)
    (fun vm₁ hW₁ => ⟨hf.1, hf.2, hp.2 (T.setVm vm₁) hT hW₁⟩) with ⟨v, vm₁, ⟨U', l2, c2, s2⟩, hW₁, X', ⟨g', mk, t, L, e1, e2, hq, h1, hL, h2, h3⟩, st⟩ | ⟨q, vm₁, ⟨U', l2, c2, s2⟩, hW₁, X', ⟨g', mk, t, L, E, ce, e1, e2, hq, hce, hcv, hcl, h1, hL, h2, h3⟩, st⟩
  · dsimp only [Pt.U, Pt.locs, Pt.cells, Pt.slots] at X' e1 e2 h1 h2 h3 st
    subst h1; subst h2; subst h3
    exact Or.inl ⟨v, (T.setVm vm₁).calling g' mk As.toArray, t, U', L, hT, X', hL, e1, e2, hq, st⟩
  · dsimp only [Pt.U, Pt.locs, Pt.cells, Pt.slots] at X' e1 e2 h1 h2 h3 st hcl
    subst h1; subst h2; subst h3
    exact Or.inr ⟨q, (T.setVm vm₁).calling g' mk As.toArray, t, U', L, E, ce, hT, X', hL, e1, e2, hq, hce, hcv, vx_cls hW₁ hcl, st⟩
end
end VXH
theorem vx_ofWH {l : Launch} {y : MethodName} {ws ws' : List Cond} {rm : Room} {Pc : Array Value → State → Prop} {Qc : Array Value → State → Outcome → State → Prop} {XC : String → State → State → Prop} {mc ms : Nat} {free : Addr → Prop} {cc : ByteArray} {maxL : Nat} {ret : Option FieldType} {hh : List (Nat × Nat × Nat × Nat)}
    (hy : plainName y.cls = true) (hw : ws = Cond.codeWith y cc maxL ret hh :: ws')
    (body : ∀ p e s m args below meth c s₁, BodyLoose p l y (headSpec ws rm) cc maxL ret e s m args below meth c s₁ → c.maxLocals = maxL → Pc args s →
      W p l e (headSpec ws rm).room s m args below meth c s.heap [] 0 0 (vx_MQ below Qc XC args s mc ms free) (entryFrame m args maxL)) : vx_Met l y ws rm Pc Qc XC mc ms free := by
  refine MetFree.of_bodyS (code := cc) (maxLocals := maxL) (ret := ret) hy ?_ ?_
  · intro args s m h hn
    obtain ⟨m9, meth, c, hn9, h1, h2, h3, h4, -, h5, h6, -⟩ := Cond.codeWith_spec (atoms_spec (ws := ws) h _ (by rw [hw]; exact List.mem_cons_self))
    cases hn.symm.trans hn9
    exact ⟨meth, c, h1, h2, h3, h4, h5, h6⟩
  · intro p e s m args below meth c s₁ B hml hP _
    have hh0 : s₁.heap = s.heap := by rw [B.state]; rfl
    obtain ⟨t, a1, o, b1, b2, b3⟩ := body p e s m args below meth c s₁ B hml hP s₁ hh0 (Stand.of_body B)
    exact ⟨t, o, a1, b1, b2, b3⟩
/-! ===== END ===== -/
end
section
def RX0 : String := "PacketStores$Row"
def TX0 : u_T := fun k => match k with
  | 0 => ("PacketStores$Row", "origins", "[I", true)
  | 1 => ("PacketStores$Row", "amounts", "[I", true)
  | 2 => ("PacketStores$Row", "births", "[I", true)
  | 3 => ("PacketStores$Row", "packets", "I", false)
  | _ => ("PacketStores$Row", "total", "I", false)
def tyX0 : Nat → FieldType := fun k => match k with
  | 0 => .array .int
  | 1 => .array .int
  | 2 => .array .int
  | 3 => .int
  | _ => .int
theorem nmX0 : ∀ a, a < 5 → ∀ b, b < 5 → a ≠ b → (TX0 a).2.1 ≠ (TX0 b).2.1 := by decide +kernel
theorem tyX0_ok : ∀ k, k < 5 → parseFieldDescriptor (TX0 k).2.2.1 = some (tyX0 k) := by decide +kernel
def RX1 : String := "PacketStores"
def TX1 : u_T := fun k => match k with
  | 0 => ("PacketStores", "stocks", "[LPacketStores$Row;", true)
  | 1 => ("PacketStores", "rates", "[I", true)
  | 2 => ("PacketStores", "madeKinds", "[I", true)
  | 3 => ("PacketStores", "placeColumns", "[I", true)
  | 4 => ("PacketStores", "placeRows", "[I", true)
  | 5 => ("PacketStores", "acceptedKinds", "[I", true)
  | 6 => ("PacketStores", "aboard", "[LPacketStores$Row;", true)
  | 7 => ("PacketStores", "wagonKinds", "[I", true)
  | 8 => ("PacketStores", "wagonRooms", "[I", true)
  | 9 => ("PacketStores", "produced", "[I", true)
  | 10 => ("PacketStores", "delivered", "[I", true)
  | 11 => ("PacketStores", "dumped", "[I", true)
  | 12 => ("PacketStores", "time", "I", false)
  | 13 => ("PacketStores", "money", "I", false)
  | 14 => ("PacketStores", "earned", "I", false)
  | _ => ("PacketStores", "spent", "I", false)
def tyX1 : Nat → FieldType := fun k => match k with
  | 0 => .array (.object "PacketStores$Row")
  | 1 => .array .int
  | 2 => .array .int
  | 3 => .array .int
  | 4 => .array .int
  | 5 => .array .int
  | 6 => .array (.object "PacketStores$Row")
  | 7 => .array .int
  | 8 => .array .int
  | 9 => .array .int
  | 10 => .array .int
  | 11 => .array .int
  | 12 => .int
  | 13 => .int
  | 14 => .int
  | _ => .int
theorem nmX1 : ∀ a, a < 16 → ∀ b, b < 16 → a ≠ b → (TX1 a).2.1 ≠ (TX1 b).2.1 := by decide +kernel
theorem tyX1_ok : ∀ k, k < 16 → parseFieldDescriptor (TX1 k).2.2.1 = some (tyX1 k) := by decide +kernel
def RX2 : String := "PacketStoresModel"
def TX2 : u_T := fun k => match k with
  | 0 => ("PacketStoresModel", "thrown", "I", false)
  | 1 => ("PacketStoresModel", "time", "I", false)
  | 2 => ("PacketStoresModel", "money", "I", false)
  | 3 => ("PacketStoresModel", "earned", "I", false)
  | 4 => ("PacketStoresModel", "spent", "I", false)
  | 5 => ("PacketStoresModel", "columns", "[I", true)
  | 6 => ("PacketStoresModel", "lines", "[I", true)
  | 7 => ("PacketStoresModel", "accepts", "[I", true)
  | 8 => ("PacketStoresModel", "rates", "[I", true)
  | 9 => ("PacketStoresModel", "made", "[I", true)
  | 10 => ("PacketStoresModel", "wagonKind", "[I", true)
  | 11 => ("PacketStoresModel", "wagonRoom", "[I", true)
  | 12 => ("PacketStoresModel", "size", "[I", true)
  | 13 => ("PacketStoresModel", "origins", "[I", true)
  | 14 => ("PacketStoresModel", "born", "[I", true)
  | 15 => ("PacketStoresModel", "produced", "[I", true)
  | 16 => ("PacketStoresModel", "delivered", "[I", true)
  | _ => ("PacketStoresModel", "dumped", "[I", true)
def tyX2 : Nat → FieldType := fun k => match k with
  | 0 => .int
  | 1 => .int
  | 2 => .int
  | 3 => .int
  | 4 => .int
  | 5 => .array .int
  | 6 => .array .int
  | 7 => .array .int
  | 8 => .array .int
  | 9 => .array .int
  | 10 => .array .int
  | 11 => .array .int
  | 12 => .array .int
  | 13 => .array .int
  | 14 => .array .int
  | 15 => .array .int
  | 16 => .array .int
  | _ => .array .int
theorem nmX2 : ∀ a, a < 18 → ∀ b, b < 18 → a ≠ b → (TX2 a).2.1 ≠ (TX2 b).2.1 := by decide +kernel
theorem tyX2_ok : ∀ k, k < 18 → parseFieldDescriptor (TX2 k).2.2.1 = some (tyX2 k) := by decide +kernel
def RL : String := "PacketStoresLaw"
def yX1_init : MethodName := ⟨RX1, "<init>", "()V"⟩
def yX0_init : MethodName := ⟨RX0, "<init>", "()V"⟩
def yX1_spend : MethodName := ⟨RX1, "spend", "(I)Z"⟩
def yX1_packet : MethodName := ⟨RX1, "packet", "(IIII)I"⟩
def yX1_rowAt : MethodName := ⟨RX1, "rowAt", "(II)LPacketStores$Row;"⟩
def yX1_isStation : MethodName := ⟨RX1, "isStation", "(I)Z"⟩
def yX1_isKind : MethodName := ⟨RX1, "isKind", "(I)Z"⟩
def yX1_stockIndex : MethodName := ⟨RX1, "stockIndex", "(II)I"⟩
def yX0_look : MethodName := ⟨RX0, "look", "(II)I"⟩
def yX1_units : MethodName := ⟨RX1, "units", "(II)I"⟩
def yX0_total : MethodName := ⟨RX0, "total", "()I"⟩
def yX1_count : MethodName := ⟨RX1, "count", "(II)I"⟩
def yX1_unitsInStocks : MethodName := ⟨RX1, "unitsInStocks", "(I)I"⟩
def yX1_unitsInWagons : MethodName := ⟨RX1, "unitsInWagons", "(I)I"⟩
def yX1_sum : MethodName := ⟨RX1, "sum", "(I)I"⟩
def yL_place : MethodName := ⟨RL, "place", "(LPacketStores;III)I"⟩
def yX1_place : MethodName := ⟨RX1, "place", "(III)V"⟩
def yX1_checkStation : MethodName := ⟨RX1, "checkStation", "(I)V"⟩
def yX1_checkRange : MethodName := ⟨RX1, "checkRange", "(II)V"⟩
def yL_rate : MethodName := ⟨RL, "rate", "(LPacketStores;III)I"⟩
def yX1_rate : MethodName := ⟨RX1, "rate", "(III)V"⟩
def yX1_checkKind : MethodName := ⟨RX1, "checkKind", "(I)V"⟩
def yL_accept : MethodName := ⟨RL, "accept", "(LPacketStores;II)I"⟩
def yX1_accept : MethodName := ⟨RX1, "accept", "(II)V"⟩
def yL_make : MethodName := ⟨RL, "make", "(LPacketStores;III)I"⟩
def yX1_make : MethodName := ⟨RX1, "make", "(III)V"⟩
def yL_wagon : MethodName := ⟨RL, "wagon", "(LPacketStores;III)I"⟩
def yX1_wagon : MethodName := ⟨RX1, "wagon", "(III)V"⟩
def yX1_checkWagon : MethodName := ⟨RX1, "checkWagon", "(I)V"⟩
def yL_pass : MethodName := ⟨RL, "pass", "(LPacketStores;I[J)I"⟩
def yX1_pass : MethodName := ⟨RX1, "pass", "(I)I"⟩
def yX1_produceEverywhere : MethodName := ⟨RX1, "produceEverywhere", "()V"⟩
def yX1_produce : MethodName := ⟨RX1, "produce", "(III)V"⟩
def yX0_putBehind : MethodName := ⟨RX0, "putBehind", "(III)V"⟩
def yX0_lastIs : MethodName := ⟨RX0, "lastIs", "(II)Z"⟩
def yL_load : MethodName := ⟨RL, "load", "(LPacketStores;III[J)I"⟩
def yX1_load : MethodName := ⟨RX1, "load", "(III)I"⟩
def yX1_checkNotBelowZero : MethodName := ⟨RX1, "checkNotBelowZero", "(I)V"⟩
def yX0_moveTo : MethodName := ⟨RX0, "moveTo", "(LPacketStores$Row;II)I"⟩
def yX0_takeFromFirst : MethodName := ⟨RX0, "takeFromFirst", "(I)V"⟩
def yX0_dropFirst : MethodName := ⟨RX0, "dropFirst", "()V"⟩
def yL_unload : MethodName := ⟨RL, "unload", "(LPacketStores;III[J)I"⟩
def yX1_unload : MethodName := ⟨RX1, "unload", "(III)I"⟩
def yX1_deliverFrom : MethodName := ⟨RX1, "deliverFrom", "(LPacketStores$Row;III)I"⟩
def yX1_payOfOne : MethodName := ⟨RX1, "payOfOne", "(III)I"⟩
def yX1_earn : MethodName := ⟨RX1, "earn", "(I)V"⟩
def yL_pour : MethodName := ⟨RL, "pour", "(LPacketStores;II)I"⟩
def yX1_pour : MethodName := ⟨RX1, "pour", "(II)V"⟩
def yX1_checkFellows : MethodName := ⟨RX1, "checkFellows", "(II)V"⟩
def yL_part : MethodName := ⟨RL, "part", "(LPacketStores;III)I"⟩
def yX1_part : MethodName := ⟨RX1, "part", "(III)V"⟩
def yX0_moveAllBehind : MethodName := ⟨RX0, "moveAllBehind", "(ILPacketStores$Row;)V"⟩
def yL_dump : MethodName := ⟨RL, "dump", "(LPacketStores;I[J)I"⟩
def yX1_dump : MethodName := ⟨RX1, "dump", "(I)I"⟩
def yX0_clear : MethodName := ⟨RX0, "clear", "()V"⟩
def yX2_init : MethodName := ⟨RX2, "<init>", "()V"⟩
def yX2_thrown : MethodName := ⟨RX2, "thrown", "()I"⟩
def yX2_place : MethodName := ⟨RX2, "place", "(III)V"⟩
def yX2_in : MethodName := ⟨RX2, "in", "(II)Z"⟩
def yX2_rate : MethodName := ⟨RX2, "rate", "(III)V"⟩
def yX2_accept : MethodName := ⟨RX2, "accept", "(II)V"⟩
def yX2_make : MethodName := ⟨RX2, "make", "(III)V"⟩
def yX2_wagon : MethodName := ⟨RX2, "wagon", "(III)V"⟩
def yX2_pass : MethodName := ⟨RX2, "pass", "(I)I"⟩
def yX2_produce : MethodName := ⟨RX2, "produce", "(II)V"⟩
def yX2_put : MethodName := ⟨RX2, "put", "(III)V"⟩
def yX2_packets : MethodName := ⟨RX2, "packets", "(I)I"⟩
def yX2_isFirst : MethodName := ⟨RX2, "isFirst", "(II)Z"⟩
def yX2_load : MethodName := ⟨RX2, "load", "(III)I"⟩
def yX2_move : MethodName := ⟨RX2, "move", "(II)V"⟩
def yX2_drop : MethodName := ⟨RX2, "drop", "(I)V"⟩
def yX2_unload : MethodName := ⟨RX2, "unload", "(III)I"⟩
def yX2_pay : MethodName := ⟨RX2, "pay", "(III)V"⟩
def yX2_apart : MethodName := ⟨RX2, "apart", "(II)I"⟩
def yX2_pour : MethodName := ⟨RX2, "pour", "(II)V"⟩
def yX2_part : MethodName := ⟨RX2, "part", "(III)V"⟩
def yX2_dump : MethodName := ⟨RX2, "dump", "(I)I"⟩
def yX2_spend : MethodName := ⟨RX2, "spend", "(I)Z"⟩
def yX2_packet : MethodName := ⟨RX2, "packet", "(IIII)I"⟩
def yX2_rowOf : MethodName := ⟨RX2, "rowOf", "(II)I"⟩
def yX2_units : MethodName := ⟨RX2, "units", "(II)I"⟩
def yX2_count : MethodName := ⟨RX2, "count", "(II)I"⟩
def yX2_sum : MethodName := ⟨RX2, "sum", "(I)I"⟩
def yL_law : MethodName := ⟨RL, "law", "([I)Z"⟩
abbrev cX1_init : ByteArray := prog_1_method_1_code
abbrev cX0_init : ByteArray := prog_2_method_1_code
abbrev cX1_spend : ByteArray := prog_1_method_13_code
abbrev cX1_packet : ByteArray := prog_1_method_14_code
abbrev cX1_rowAt : ByteArray := prog_1_method_25_code
abbrev cX1_isStation : ByteArray := prog_1_method_28_code
abbrev cX1_isKind : ByteArray := prog_1_method_29_code
abbrev cX1_stockIndex : ByteArray := prog_1_method_27_code
abbrev cX0_look : ByteArray := prog_2_method_3_code
abbrev cX1_units : ByteArray := prog_1_method_15_code
abbrev cX0_total : ByteArray := prog_2_method_2_code
abbrev cX1_count : ByteArray := prog_1_method_16_code
abbrev cX1_unitsInStocks : ByteArray := prog_1_method_23_code
abbrev cX1_unitsInWagons : ByteArray := prog_1_method_24_code
abbrev cX1_sum : ByteArray := prog_1_method_17_code
abbrev cL_place : ByteArray := method_3_code
abbrev cX1_place : ByteArray := prog_1_method_2_code
abbrev cX1_checkStation : ByteArray := prog_1_method_30_code
abbrev cX1_checkRange : ByteArray := prog_1_method_33_code
abbrev cL_rate : ByteArray := method_4_code
abbrev cX1_rate : ByteArray := prog_1_method_3_code
abbrev cX1_checkKind : ByteArray := prog_1_method_31_code
abbrev cL_accept : ByteArray := method_5_code
abbrev cX1_accept : ByteArray := prog_1_method_4_code
abbrev cL_make : ByteArray := method_6_code
abbrev cX1_make : ByteArray := prog_1_method_5_code
abbrev cL_wagon : ByteArray := method_7_code
abbrev cX1_wagon : ByteArray := prog_1_method_6_code
abbrev cX1_checkWagon : ByteArray := prog_1_method_32_code
abbrev cL_pass : ByteArray := method_8_code
abbrev cX1_pass : ByteArray := prog_1_method_7_code
abbrev cX1_produceEverywhere : ByteArray := prog_1_method_18_code
abbrev cX1_produce : ByteArray := prog_1_method_19_code
abbrev cX0_putBehind : ByteArray := prog_2_method_5_code
abbrev cX0_lastIs : ByteArray := prog_2_method_6_code
abbrev cL_load : ByteArray := method_9_code
abbrev cX1_load : ByteArray := prog_1_method_8_code
abbrev cX1_checkNotBelowZero : ByteArray := prog_1_method_34_code
abbrev cX0_moveTo : ByteArray := prog_2_method_9_code
abbrev cX0_takeFromFirst : ByteArray := prog_2_method_7_code
abbrev cX0_dropFirst : ByteArray := prog_2_method_8_code
abbrev cL_unload : ByteArray := method_10_code
abbrev cX1_unload : ByteArray := prog_1_method_9_code
abbrev cX1_deliverFrom : ByteArray := prog_1_method_20_code
abbrev cX1_payOfOne : ByteArray := prog_1_method_21_code
abbrev cX1_earn : ByteArray := prog_1_method_22_code
abbrev cL_pour : ByteArray := method_11_code
abbrev cX1_pour : ByteArray := prog_1_method_10_code
abbrev cX1_checkFellows : ByteArray := prog_1_method_26_code
abbrev cL_part : ByteArray := method_12_code
abbrev cX1_part : ByteArray := prog_1_method_11_code
abbrev cX0_moveAllBehind : ByteArray := prog_2_method_10_code
abbrev cL_dump : ByteArray := method_13_code
abbrev cX1_dump : ByteArray := prog_1_method_12_code
abbrev cX0_clear : ByteArray := prog_2_method_4_code
abbrev cX2_init : ByteArray := prog_4_method_1_code
abbrev cX2_thrown : ByteArray := prog_4_method_2_code
abbrev cX2_place : ByteArray := prog_4_method_10_code
abbrev cX2_in : ByteArray := prog_4_method_3_code
abbrev cX2_rate : ByteArray := prog_4_method_11_code
abbrev cX2_accept : ByteArray := prog_4_method_12_code
abbrev cX2_make : ByteArray := prog_4_method_13_code
abbrev cX2_wagon : ByteArray := prog_4_method_14_code
abbrev cX2_pass : ByteArray := prog_4_method_15_code
abbrev cX2_produce : ByteArray := prog_4_method_9_code
abbrev cX2_put : ByteArray := prog_4_method_6_code
abbrev cX2_packets : ByteArray := prog_4_method_4_code
abbrev cX2_isFirst : ByteArray := prog_4_method_5_code
abbrev cX2_load : ByteArray := prog_4_method_16_code
abbrev cX2_move : ByteArray := prog_4_method_7_code
abbrev cX2_drop : ByteArray := prog_4_method_8_code
abbrev cX2_unload : ByteArray := prog_4_method_19_code
abbrev cX2_pay : ByteArray := prog_4_method_18_code
abbrev cX2_apart : ByteArray := prog_4_method_17_code
abbrev cX2_pour : ByteArray := prog_4_method_20_code
abbrev cX2_part : ByteArray := prog_4_method_21_code
abbrev cX2_dump : ByteArray := prog_4_method_22_code
abbrev cX2_spend : ByteArray := prog_4_method_23_code
abbrev cX2_packet : ByteArray := prog_4_method_25_code
abbrev cX2_rowOf : ByteArray := prog_4_method_24_code
abbrev cX2_units : ByteArray := prog_4_method_26_code
abbrev cX2_count : ByteArray := prog_4_method_27_code
abbrev cX2_sum : ByteArray := prog_4_method_28_code
abbrev cL_law : ByteArray := code
abbrev vwCl : List vw_C := [(RX0, TX0, 5), (RX1, TX1, 16), (RX2, TX2, 18)]
def cw0 : List Cond := [Cond.initialized RL, Cond.initialized RX1, Cond.initialized RX0, Cond.initialized RX2, Cond.initialized "java/lang/Throwable", Cond.initialized "java/lang/Exception", Cond.initialized "java/lang/RuntimeException", Cond.initialized "java/lang/IndexOutOfBoundsException", Cond.initialized "java/lang/IllegalArgumentException", Cond.initialized "java/lang/Math", Cond.classLink RL 8 RX1, Cond.instantiable RX1 16, Cond.methodLink RL 50 yX1_init, Cond.instanceMethod yX1_init, Cond.code yX1_init cX1_init 2 none, Cond.methodLink RX1 3 objectInit, Cond.instanceMethod objectInit, Cond.code objectInit ⟨#[0xb1]⟩ 1 none, Cond.classLink RX1 9 RX0, Cond.instantiable RX0 5, Cond.instanceMethod yX0_init, Cond.code yX0_init cX0_init 1 none, Cond.methodLink RX0 3 objectInit, Cond.fieldLink RX0 9 RX0 "origins" "[I", Cond.fieldLink RX0 15 RX0 "amounts" "[I", Cond.fieldLink RX0 18 RX0 "births" "[I", Cond.fieldLink RX0 21 RX0 "packets" "I", Cond.fieldLink RX0 25 RX0 "total" "I", Cond.laysFinal RX0 RX0 "origins" "[I", Cond.laysFinal RX0 RX0 "amounts" "[I", Cond.laysFinal RX0 RX0 "births" "[I", Cond.lays RX0 RX0 "packets" "I", Cond.lays RX0 RX0 "total" "I", Cond.superclass RX0 "java/lang/Object", Cond.arrayClass .int, Cond.fieldLink RX1 11 RX1 "stocks" "[LPacketStores$Row;", Cond.fieldLink RX1 15 RX1 "rates" "[I", Cond.fieldLink RX1 19 RX1 "madeKinds" "[I", Cond.fieldLink RX1 22 RX1 "placeColumns" "[I", Cond.fieldLink RX1 25 RX1 "placeRows" "[I", Cond.fieldLink RX1 28 RX1 "acceptedKinds" "[I", Cond.fieldLink RX1 31 RX1 "aboard" "[LPacketStores$Row;", Cond.fieldLink RX1 34 RX1 "wagonKinds" "[I", Cond.fieldLink RX1 37 RX1 "wagonRooms" "[I", Cond.fieldLink RX1 40 RX1 "produced" "[I", Cond.fieldLink RX1 43 RX1 "delivered" "[I", Cond.fieldLink RX1 46 RX1 "dumped" "[I", Cond.fieldLink RX1 49 RX1 "time" "I", Cond.fieldLink RX1 53 RX1 "money" "I", Cond.fieldLink RX1 56 RX1 "earned" "I", Cond.fieldLink RX1 59 RX1 "spent" "I", Cond.laysFinal RX1 RX1 "stocks" "[LPacketStores$Row;", Cond.laysFinal RX1 RX1 "rates" "[I", Cond.laysFinal RX1 RX1 "madeKinds" "[I", Cond.laysFinal RX1 RX1 "placeColumns" "[I", Cond.laysFinal RX1 RX1 "placeRows" "[I", Cond.laysFinal RX1 RX1 "acceptedKinds" "[I", Cond.laysFinal RX1 RX1 "aboard" "[LPacketStores$Row;", Cond.laysFinal RX1 RX1 "wagonKinds" "[I", Cond.laysFinal RX1 RX1 "wagonRooms" "[I"]
def cw1 : List Cond := [Cond.laysFinal RX1 RX1 "produced" "[I", Cond.laysFinal RX1 RX1 "delivered" "[I", Cond.laysFinal RX1 RX1 "dumped" "[I", Cond.lays RX1 RX1 "time" "I", Cond.lays RX1 RX1 "money" "I", Cond.lays RX1 RX1 "earned" "I", Cond.lays RX1 RX1 "spent" "I", Cond.superclass RX1 "java/lang/Object", Cond.methodLink RL 97 yX1_spend, Cond.instanceMethod yX1_spend, Cond.selects RX1 yX1_spend yX1_spend, Cond.code yX1_spend cX1_spend 2 (some .boolean), Cond.constant RX1 100 (2000000000), Cond.methodLink RL 102 yX1_packet, Cond.instanceMethod yX1_packet, Cond.selects RX1 yX1_packet yX1_packet, Cond.code yX1_packet cX1_packet 6 (some .int), Cond.methodLink RX1 131 yX1_rowAt, Cond.instanceMethod yX1_rowAt, Cond.code yX1_rowAt cX1_rowAt 3 (some (.object "PacketStores$Row")), Cond.methodLink RX1 173 yX1_isStation, Cond.static yX1_isStation, Cond.code yX1_isStation cX1_isStation 1 (some .boolean), Cond.methodLink RX1 78 yX1_isKind, Cond.static yX1_isKind, Cond.code yX1_isKind cX1_isKind 1 (some .boolean), Cond.methodLink RX1 74 yX1_stockIndex, Cond.static yX1_stockIndex, Cond.code yX1_stockIndex cX1_stockIndex 2 (some .int), Cond.methodLink RX1 135 yX0_look, Cond.instanceMethod yX0_look, Cond.selects RX0 yX0_look yX0_look, Cond.code yX0_look cX0_look 3 (some .int), Cond.methodLink RL 107 yX1_units, Cond.instanceMethod yX1_units, Cond.selects RX1 yX1_units yX1_units, Cond.code yX1_units cX1_units 4 (some .int), Cond.methodLink RX1 92 yX0_total, Cond.instanceMethod yX0_total, Cond.selects RX0 yX0_total yX0_total, Cond.code yX0_total cX0_total 1 (some .int), Cond.methodLink RL 112 yX1_count, Cond.instanceMethod yX1_count, Cond.selects RX1 yX1_count yX1_count, Cond.code yX1_count cX1_count 3 (some .int), Cond.methodLink RX1 138 yX1_unitsInStocks, Cond.instanceMethod yX1_unitsInStocks, Cond.code yX1_unitsInStocks cX1_unitsInStocks 4 (some .int), Cond.methodLink RX1 142 yX1_unitsInWagons, Cond.instanceMethod yX1_unitsInWagons, Cond.code yX1_unitsInWagons cX1_unitsInWagons 4 (some .int), Cond.methodLink RL 116 yX1_sum, Cond.instanceMethod yX1_sum, Cond.selects RX1 yX1_sum yX1_sum, Cond.code yX1_sum cX1_sum 2 (some .int), Cond.methodLink RL 54 yL_place, Cond.static yL_place, Cond.codeWith yL_place cL_place 5 (some .int) [(0, 7, 10, 13), (0, 7, 14, 15)], Cond.classLink RL 13 "java/lang/IndexOutOfBoundsException", Cond.classLink RL 15 "java/lang/IllegalArgumentException"]
def cw2 : List Cond := [Cond.methodLink RL 7 yX1_place, Cond.instanceMethod yX1_place, Cond.selects RX1 yX1_place yX1_place, Cond.code yX1_place cX1_place 4 none, Cond.methodLink RX1 63 yX1_checkStation, Cond.static yX1_checkStation, Cond.code yX1_checkStation cX1_checkStation 1 none, Cond.classLink RX1 180 "java/lang/IndexOutOfBoundsException", Cond.instantiable "java/lang/IndexOutOfBoundsException" 6, Cond.selects "java/lang/IndexOutOfBoundsException" ⟨"java/lang/Throwable", "fillInStackTrace", "(I)Ljava/lang/Throwable;"⟩ ⟨"java/lang/Throwable", "fillInStackTrace", "(I)Ljava/lang/Throwable;"⟩, Cond.selects "java/lang/IndexOutOfBoundsException" ⟨"java/lang/Throwable", "fillInStackTrace", "()Ljava/lang/Throwable;"⟩ ⟨"java/lang/Throwable", "fillInStackTrace", "()Ljava/lang/Throwable;"⟩, Cond.lays "java/lang/IndexOutOfBoundsException" "java/lang/Throwable" "cause" "Ljava/lang/Throwable;", Cond.lays "java/lang/Throwable" "java/lang/Throwable" "cause" "Ljava/lang/Throwable;", Cond.lays "java/lang/IndexOutOfBoundsException" "java/lang/Throwable" "stackTrace" "[Ljava/lang/StackTraceElement;", Cond.lays "java/lang/Throwable" "java/lang/Throwable" "stackTrace" "[Ljava/lang/StackTraceElement;", Cond.lays "java/lang/IndexOutOfBoundsException" "java/lang/Throwable" "suppressedExceptions" "Ljava/util/List;", Cond.lays "java/lang/Throwable" "java/lang/Throwable" "suppressedExceptions" "Ljava/util/List;", Cond.lays "java/lang/IndexOutOfBoundsException" "java/lang/Throwable" "detailMessage" "Ljava/lang/String;", Cond.lays "java/lang/Throwable" "java/lang/Throwable" "detailMessage" "Ljava/lang/String;", Cond.lays "java/lang/IndexOutOfBoundsException" "java/lang/Throwable" "backtrace" "Ljava/lang/Object;", Cond.lays "java/lang/Throwable" "java/lang/Throwable" "backtrace" "Ljava/lang/Object;", Cond.fieldLink "java/lang/Throwable" 198 "java/lang/Throwable" "backtrace" "Ljava/lang/Object;", Cond.superclass "java/lang/Throwable" "java/lang/Object", Cond.instanceMethod ⟨"java/lang/Throwable", "<init>", "()V"⟩, Cond.code ⟨"java/lang/Throwable", "<init>", "()V"⟩ prog_11_method_1_code 1 none, Cond.methodLink "java/lang/Throwable" 1 objectInit, Cond.fieldLink "java/lang/Throwable" 13 "java/lang/Throwable" "UNASSIGNED_STACK" "[Ljava/lang/StackTraceElement;", Cond.fieldLink "java/lang/Throwable" 20 "java/lang/Throwable" "SUPPRESSED_SENTINEL" "Ljava/util/List;", Cond.methodLink "java/lang/Throwable" 27 ⟨"java/lang/Throwable", "fillInStackTrace", "()Ljava/lang/Throwable;"⟩, Cond.instanceMethod ⟨"java/lang/Throwable", "fillInStackTrace", "()Ljava/lang/Throwable;"⟩, Cond.sameMethod "java/lang/Throwable" "java/lang/Throwable" "fillInStackTrace" "()Ljava/lang/Throwable;", Cond.selects "java/lang/IllegalArgumentException" ⟨"java/lang/Throwable", "fillInStackTrace", "()Ljava/lang/Throwable;"⟩ ⟨"java/lang/Throwable", "fillInStackTrace", "()Ljava/lang/Throwable;"⟩, Cond.codeSync ⟨"java/lang/Throwable", "fillInStackTrace", "()Ljava/lang/Throwable;"⟩ prog_11_method_18_code 1 (some (.object "java/lang/Throwable")), Cond.methodLink "java/lang/Throwable" 202 ⟨"java/lang/Throwable", "fillInStackTrace", "(I)Ljava/lang/Throwable;"⟩, Cond.instanceMethod ⟨"java/lang/Throwable", "fillInStackTrace", "(I)Ljava/lang/Throwable;"⟩, Cond.instantiable "java/lang/Throwable" 6, Cond.native ⟨"java/lang/Throwable", "fillInStackTrace", "(I)Ljava/lang/Throwable;"⟩, Cond.methodLink RX1 184 ⟨"java/lang/IndexOutOfBoundsException", "<init>", "(Ljava/lang/String;)V"⟩, Cond.instanceMethod ⟨"java/lang/IndexOutOfBoundsException", "<init>", "(Ljava/lang/String;)V"⟩, Cond.code ⟨"java/lang/IndexOutOfBoundsException", "<init>", "(Ljava/lang/String;)V"⟩ prog_7_method_2_code 2 none, Cond.methodLink "java/lang/IndexOutOfBoundsException" 7 ⟨"java/lang/RuntimeException", "<init>", "(Ljava/lang/String;)V"⟩, Cond.instanceMethod ⟨"java/lang/RuntimeException", "<init>", "(Ljava/lang/String;)V"⟩, Cond.code ⟨"java/lang/RuntimeException", "<init>", "(Ljava/lang/String;)V"⟩ prog_9_method_2_code 2 none, Cond.methodLink "java/lang/RuntimeException" 7 ⟨"java/lang/Exception", "<init>", "(Ljava/lang/String;)V"⟩, Cond.instanceMethod ⟨"java/lang/Exception", "<init>", "(Ljava/lang/String;)V"⟩, Cond.code ⟨"java/lang/Exception", "<init>", "(Ljava/lang/String;)V"⟩ prog_5_method_2_code 2 none, Cond.methodLink "java/lang/Exception" 7 ⟨"java/lang/Throwable", "<init>", "(Ljava/lang/String;)V"⟩, Cond.instanceMethod ⟨"java/lang/Throwable", "<init>", "(Ljava/lang/String;)V"⟩, Cond.code ⟨"java/lang/Throwable", "<init>", "(Ljava/lang/String;)V"⟩ prog_11_method_2_code 2 none, Cond.fieldLink "java/lang/Throwable" 31 "java/lang/Throwable" "detailMessage" "Ljava/lang/String;", Cond.fieldLink "java/lang/Throwable" 7 "java/lang/Throwable" "cause" "Ljava/lang/Throwable;", Cond.fieldLink "java/lang/Throwable" 17 "java/lang/Throwable" "stackTrace" "[Ljava/lang/StackTraceElement;", Cond.fieldLink "java/lang/Throwable" 24 "java/lang/Throwable" "suppressedExceptions" "Ljava/util/List;", Cond.lays "java/lang/IndexOutOfBoundsException" "java/lang/Throwable" "depth" "I", Cond.superclass "java/lang/IndexOutOfBoundsException" "java/lang/RuntimeException", Cond.arrayClass .byte, Cond.methodLink RX1 67 yX1_checkRange, Cond.static yX1_checkRange, Cond.code yX1_checkRange cX1_checkRange 2 none, Cond.classLink RX1 82 "java/lang/IllegalArgumentException"]
def cw3 : List Cond := [Cond.instantiable "java/lang/IllegalArgumentException" 6, Cond.selects "java/lang/IllegalArgumentException" ⟨"java/lang/Throwable", "fillInStackTrace", "(I)Ljava/lang/Throwable;"⟩ ⟨"java/lang/Throwable", "fillInStackTrace", "(I)Ljava/lang/Throwable;"⟩, Cond.lays "java/lang/IllegalArgumentException" "java/lang/Throwable" "cause" "Ljava/lang/Throwable;", Cond.lays "java/lang/IllegalArgumentException" "java/lang/Throwable" "stackTrace" "[Ljava/lang/StackTraceElement;", Cond.lays "java/lang/IllegalArgumentException" "java/lang/Throwable" "suppressedExceptions" "Ljava/util/List;", Cond.lays "java/lang/IllegalArgumentException" "java/lang/Throwable" "detailMessage" "Ljava/lang/String;", Cond.lays "java/lang/IllegalArgumentException" "java/lang/Throwable" "backtrace" "Ljava/lang/Object;", Cond.methodLink RX1 86 ⟨"java/lang/IllegalArgumentException", "<init>", "(Ljava/lang/String;)V"⟩, Cond.instanceMethod ⟨"java/lang/IllegalArgumentException", "<init>", "(Ljava/lang/String;)V"⟩, Cond.code ⟨"java/lang/IllegalArgumentException", "<init>", "(Ljava/lang/String;)V"⟩ prog_6_method_2_code 2 none, Cond.methodLink "java/lang/IllegalArgumentException" 7 ⟨"java/lang/RuntimeException", "<init>", "(Ljava/lang/String;)V"⟩, Cond.lays "java/lang/IllegalArgumentException" "java/lang/Throwable" "depth" "I", Cond.superclass "java/lang/IllegalArgumentException" "java/lang/RuntimeException", Cond.methodLink RL 64 yL_rate, Cond.static yL_rate, Cond.codeWith yL_rate cL_rate 5 (some .int) [(0, 7, 10, 13), (0, 7, 14, 15)], Cond.methodLink RL 17 yX1_rate, Cond.instanceMethod yX1_rate, Cond.selects RX1 yX1_rate yX1_rate, Cond.code yX1_rate cX1_rate 4 none, Cond.methodLink RX1 71 yX1_checkKind, Cond.static yX1_checkKind, Cond.code yX1_checkKind cX1_checkKind 1 none, Cond.methodLink RL 67 yL_accept, Cond.static yL_accept, Cond.codeWith yL_accept cL_accept 4 (some .int) [(0, 6, 9, 13), (0, 6, 12, 15)], Cond.methodLink RL 20 yX1_accept, Cond.instanceMethod yX1_accept, Cond.selects RX1 yX1_accept yX1_accept, Cond.code yX1_accept cX1_accept 3 none, Cond.methodLink RL 71 yL_make, Cond.static yL_make, Cond.codeWith yL_make cL_make 5 (some .int) [(0, 7, 10, 13), (0, 7, 14, 15)], Cond.methodLink RL 24 yX1_make, Cond.instanceMethod yX1_make, Cond.selects RX1 yX1_make yX1_make, Cond.code yX1_make cX1_make 4 none, Cond.methodLink RL 74 yL_wagon, Cond.static yL_wagon, Cond.codeWith yL_wagon cL_wagon 5 (some .int) [(0, 7, 10, 13), (0, 7, 14, 15)], Cond.methodLink RL 27 yX1_wagon, Cond.instanceMethod yX1_wagon, Cond.selects RX1 yX1_wagon yX1_wagon, Cond.code yX1_wagon cX1_wagon 5 none, Cond.methodLink RX1 89 yX1_checkWagon, Cond.static yX1_checkWagon, Cond.code yX1_checkWagon cX1_checkWagon 1 none, Cond.methodLink RL 77 yL_pass, Cond.static yL_pass, Cond.codeWith yL_pass cL_pass 4 (some .int) [(0, 9, 12, 15)], Cond.methodLink RL 30 yX1_pass, Cond.instanceMethod yX1_pass, Cond.selects RX1 yX1_pass yX1_pass, Cond.code yX1_pass cX1_pass 5 (some .int), Cond.methodLink RX1 103 yX1_produceEverywhere, Cond.instanceMethod yX1_produceEverywhere, Cond.code yX1_produceEverywhere cX1_produceEverywhere 3 none, Cond.methodLink RX1 145 yX1_produce, Cond.instanceMethod yX1_produce, Cond.code yX1_produce cX1_produce 7 none]
def cw4 : List Cond := [Cond.methodLink RX1 149 Lib.Math.min.name, Cond.static Lib.Math.min.name, Cond.code Lib.Math.min.name Lib.Math.min.code 2 (some .int), Cond.methodLink RX1 154 yX0_putBehind, Cond.instanceMethod yX0_putBehind, Cond.selects RX0 yX0_putBehind yX0_putBehind, Cond.code yX0_putBehind cX0_putBehind 4 none, Cond.methodLink RX0 28 yX0_lastIs, Cond.instanceMethod yX0_lastIs, Cond.code yX0_lastIs cX0_lastIs 4 (some .boolean), Cond.methodLink RL 81 yL_load, Cond.static yL_load, Cond.codeWith yL_load cL_load 6 (some .int) [(0, 12, 15, 13), (0, 12, 19, 15)], Cond.methodLink RL 34 yX1_load, Cond.instanceMethod yX1_load, Cond.selects RX1 yX1_load yX1_load, Cond.code yX1_load cX1_load 5 (some .int), Cond.methodLink RX1 106 yX1_checkNotBelowZero, Cond.static yX1_checkNotBelowZero, Cond.code yX1_checkNotBelowZero cX1_checkNotBelowZero 1 none, Cond.methodLink RX1 109 yX0_moveTo, Cond.instanceMethod yX0_moveTo, Cond.selects RX0 yX0_moveTo yX0_moveTo, Cond.code yX0_moveTo cX0_moveTo 8 (some .int), Cond.methodLink RX0 35 Lib.Math.min.name, Cond.methodLink RX0 41 yX0_putBehind, Cond.methodLink RX0 45 yX0_takeFromFirst, Cond.instanceMethod yX0_takeFromFirst, Cond.selects RX0 yX0_takeFromFirst yX0_takeFromFirst, Cond.code yX0_takeFromFirst cX0_takeFromFirst 2 none, Cond.methodLink RX0 32 yX0_dropFirst, Cond.instanceMethod yX0_dropFirst, Cond.code yX0_dropFirst cX0_dropFirst 2 none, Cond.methodLink RL 85 yL_unload, Cond.static yL_unload, Cond.codeWith yL_unload cL_unload 6 (some .int) [(0, 12, 15, 13), (0, 12, 19, 15)], Cond.methodLink RL 38 yX1_unload, Cond.instanceMethod yX1_unload, Cond.selects RX1 yX1_unload yX1_unload, Cond.code yX1_unload cX1_unload 5 (some .int), Cond.methodLink RX1 113 yX1_deliverFrom, Cond.instanceMethod yX1_deliverFrom, Cond.code yX1_deliverFrom cX1_deliverFrom 9 (some .int), Cond.methodLink RX1 157 yX1_payOfOne, Cond.instanceMethod yX1_payOfOne, Cond.code yX1_payOfOne cX1_payOfOne 7 (some .int), Cond.methodLink RX1 167 Lib.Math.abs.name, Cond.static Lib.Math.abs.name, Cond.code Lib.Math.abs.name Lib.Math.abs.code 1 (some .int), Cond.methodLink RX1 170 Lib.Math.max.name, Cond.static Lib.Math.max.name, Cond.code Lib.Math.max.name Lib.Math.max.code 2 (some .int), Cond.methodLink RX1 161 yX1_earn, Cond.instanceMethod yX1_earn, Cond.code yX1_earn cX1_earn 4 none, Cond.methodLink RX1 164 yX0_takeFromFirst, Cond.methodLink RL 88 yL_pour, Cond.static yL_pour, Cond.codeWith yL_pour cL_pour 4 (some .int) [(0, 6, 9, 13), (0, 6, 12, 15)], Cond.methodLink RL 41 yX1_pour]
def cw5 : List Cond := [Cond.instanceMethod yX1_pour, Cond.selects RX1 yX1_pour yX1_pour, Cond.code yX1_pour cX1_pour 4 none, Cond.methodLink RX1 117 yX1_checkFellows, Cond.instanceMethod yX1_checkFellows, Cond.code yX1_checkFellows cX1_checkFellows 3 none, Cond.methodLink RL 91 yL_part, Cond.static yL_part, Cond.codeWith yL_part cL_part 5 (some .int) [(0, 7, 10, 13), (0, 7, 14, 15)], Cond.methodLink RL 44 yX1_part, Cond.instanceMethod yX1_part, Cond.selects RX1 yX1_part yX1_part, Cond.code yX1_part cX1_part 4 none, Cond.methodLink RX1 124 yX0_moveAllBehind, Cond.instanceMethod yX0_moveAllBehind, Cond.selects RX0 yX0_moveAllBehind yX0_moveAllBehind, Cond.code yX0_moveAllBehind cX0_moveAllBehind 8 none, Cond.methodLink RL 94 yL_dump, Cond.static yL_dump, Cond.codeWith yL_dump cL_dump 4 (some .int) [(0, 9, 12, 13)], Cond.methodLink RL 47 yX1_dump, Cond.instanceMethod yX1_dump, Cond.selects RX1 yX1_dump yX1_dump, Cond.code yX1_dump cX1_dump 3 (some .int), Cond.methodLink RX1 128 yX0_clear, Cond.instanceMethod yX0_clear, Cond.selects RX0 yX0_clear yX0_clear, Cond.code yX0_clear cX0_clear 1 none, Cond.classLink RL 51 RX2, Cond.instantiable RX2 18, Cond.methodLink RL 53 yX2_init, Cond.instanceMethod yX2_init, Cond.code yX2_init cX2_init 2 none, Cond.methodLink RX2 1 objectInit, Cond.constant RX2 38 (49000), Cond.fieldLink RX2 54 RX2 "thrown" "I", Cond.fieldLink RX2 74 RX2 "time" "I", Cond.fieldLink RX2 7 RX2 "money" "I", Cond.fieldLink RX2 91 RX2 "earned" "I", Cond.fieldLink RX2 98 RX2 "spent" "I", Cond.fieldLink RX2 13 RX2 "columns" "[I", Cond.fieldLink RX2 17 RX2 "lines" "[I", Cond.fieldLink RX2 20 RX2 "accepts" "[I", Cond.fieldLink RX2 23 RX2 "rates" "[I", Cond.fieldLink RX2 26 RX2 "made" "[I", Cond.fieldLink RX2 29 RX2 "wagonKind" "[I", Cond.fieldLink RX2 32 RX2 "wagonRoom" "[I", Cond.fieldLink RX2 35 RX2 "size" "[I", Cond.fieldLink RX2 39 RX2 "origins" "[I", Cond.fieldLink RX2 42 RX2 "born" "[I", Cond.fieldLink RX2 45 RX2 "produced" "[I", Cond.fieldLink RX2 48 RX2 "delivered" "[I", Cond.fieldLink RX2 51 RX2 "dumped" "[I", Cond.lays RX2 RX2 "thrown" "I", Cond.lays RX2 RX2 "time" "I", Cond.lays RX2 RX2 "money" "I", Cond.lays RX2 RX2 "earned" "I", Cond.lays RX2 RX2 "spent" "I", Cond.laysFinal RX2 RX2 "columns" "[I", Cond.laysFinal RX2 RX2 "lines" "[I"]
def cw6 : List Cond := [Cond.laysFinal RX2 RX2 "accepts" "[I", Cond.laysFinal RX2 RX2 "rates" "[I", Cond.laysFinal RX2 RX2 "made" "[I", Cond.laysFinal RX2 RX2 "wagonKind" "[I", Cond.laysFinal RX2 RX2 "wagonRoom" "[I", Cond.laysFinal RX2 RX2 "size" "[I", Cond.laysFinal RX2 RX2 "origins" "[I", Cond.laysFinal RX2 RX2 "born" "[I", Cond.laysFinal RX2 RX2 "produced" "[I", Cond.laysFinal RX2 RX2 "delivered" "[I", Cond.laysFinal RX2 RX2 "dumped" "[I", Cond.superclass RX2 "java/lang/Object", Cond.methodLink RL 60 yX2_thrown, Cond.instanceMethod yX2_thrown, Cond.selects RX2 yX2_thrown yX2_thrown, Cond.code yX2_thrown cX2_thrown 1 (some .int), Cond.methodLink RL 59 yX2_place, Cond.instanceMethod yX2_place, Cond.selects RX2 yX2_place yX2_place, Cond.code yX2_place cX2_place 4 none, Cond.methodLink RX2 77 yX2_in, Cond.static yX2_in, Cond.code yX2_in cX2_in 2 (some .boolean), Cond.methodLink RL 66 yX2_rate, Cond.instanceMethod yX2_rate, Cond.selects RX2 yX2_rate yX2_rate, Cond.code yX2_rate cX2_rate 4 none, Cond.methodLink RL 70 yX2_accept, Cond.instanceMethod yX2_accept, Cond.selects RX2 yX2_accept yX2_accept, Cond.code yX2_accept cX2_accept 3 none, Cond.methodLink RL 73 yX2_make, Cond.instanceMethod yX2_make, Cond.selects RX2 yX2_make yX2_make, Cond.code yX2_make cX2_make 4 none, Cond.methodLink RL 76 yX2_wagon, Cond.instanceMethod yX2_wagon, Cond.selects RX2 yX2_wagon yX2_wagon, Cond.code yX2_wagon cX2_wagon 4 none, Cond.methodLink RL 80 yX2_pass, Cond.instanceMethod yX2_pass, Cond.selects RX2 yX2_pass yX2_pass, Cond.code yX2_pass cX2_pass 5 (some .int), Cond.constant RX2 73 (2000000000), Cond.methodLink RX2 80 yX2_produce, Cond.instanceMethod yX2_produce, Cond.code yX2_produce cX2_produce 3 none, Cond.methodLink RX2 69 yX2_put, Cond.instanceMethod yX2_put, Cond.code yX2_put cX2_put 6 none, Cond.methodLink RX2 61 yX2_packets, Cond.instanceMethod yX2_packets, Cond.code yX2_packets cX2_packets 4 (some .int), Cond.methodLink RX2 57 yX2_isFirst, Cond.instanceMethod yX2_isFirst, Cond.code yX2_isFirst cX2_isFirst 3 (some .boolean), Cond.methodLink RL 84 yX2_load, Cond.instanceMethod yX2_load, Cond.selects RX2 yX2_load yX2_load, Cond.code yX2_load cX2_load 6 (some .int)]
def cw7 : List Cond := [Cond.methodLink RX2 84 yX2_move, Cond.instanceMethod yX2_move, Cond.code yX2_move cX2_move 5 none, Cond.methodLink RX2 65 yX2_drop, Cond.instanceMethod yX2_drop, Cond.code yX2_drop cX2_drop 3 none, Cond.methodLink RL 87 yX2_unload, Cond.instanceMethod yX2_unload, Cond.selects RX2 yX2_unload yX2_unload, Cond.code yX2_unload cX2_unload 9 (some .int), Cond.methodLink RX2 94 yX2_pay, Cond.instanceMethod yX2_pay, Cond.code yX2_pay cX2_pay 6 none, Cond.methodLink RX2 87 yX2_apart, Cond.static yX2_apart, Cond.code yX2_apart cX2_apart 2 (some .int), Cond.methodLink RL 90 yX2_pour, Cond.instanceMethod yX2_pour, Cond.selects RX2 yX2_pour yX2_pour, Cond.code yX2_pour cX2_pour 4 none, Cond.methodLink RL 93 yX2_part, Cond.instanceMethod yX2_part, Cond.selects RX2 yX2_part yX2_part, Cond.code yX2_part cX2_part 7 none, Cond.constant RX2 97 (48000), Cond.methodLink RL 96 yX2_dump, Cond.instanceMethod yX2_dump, Cond.selects RX2 yX2_dump yX2_dump, Cond.code yX2_dump cX2_dump 3 (some .int), Cond.methodLink RL 101 yX2_spend, Cond.instanceMethod yX2_spend, Cond.selects RX2 yX2_spend yX2_spend, Cond.code yX2_spend cX2_spend 2 (some .boolean), Cond.methodLink RL 106 yX2_packet, Cond.instanceMethod yX2_packet, Cond.selects RX2 yX2_packet yX2_packet, Cond.code yX2_packet cX2_packet 9 (some .int), Cond.methodLink RX2 101 yX2_rowOf, Cond.instanceMethod yX2_rowOf, Cond.code yX2_rowOf cX2_rowOf 3 (some .int), Cond.methodLink RL 111 yX2_units, Cond.instanceMethod yX2_units, Cond.selects RX2 yX2_units yX2_units, Cond.code yX2_units cX2_units 4 (some .int), Cond.methodLink RL 115 yX2_count, Cond.instanceMethod yX2_count, Cond.selects RX2 yX2_count yX2_count, Cond.code yX2_count cX2_count 5 (some .int), Cond.methodLink RL 119 yX2_sum, Cond.instanceMethod yX2_sum, Cond.selects RX2 yX2_sum yX2_sum, Cond.code yX2_sum cX2_sum 2 (some .int), Cond.arrayClass .long, Cond.sameMethod "java/lang/Throwable" "java/lang/Throwable" "fillInStackTrace" "(I)Ljava/lang/Throwable;", Cond.selects RX1 yX1_rowAt yX1_rowAt, Cond.selects RX1 yX1_unitsInStocks yX1_unitsInStocks, Cond.selects RX1 yX1_unitsInWagons yX1_unitsInWagons, Cond.selects RX1 yX1_produceEverywhere yX1_produceEverywhere, Cond.selects RX1 yX1_produce yX1_produce, Cond.selects RX0 yX0_lastIs yX0_lastIs]
def cw8 : List Cond := [Cond.selects RX0 yX0_dropFirst yX0_dropFirst, Cond.selects RX1 yX1_deliverFrom yX1_deliverFrom, Cond.selects RX1 yX1_payOfOne yX1_payOfOne, Cond.selects RX1 yX1_earn yX1_earn, Cond.selects RX1 yX1_checkFellows yX1_checkFellows, Cond.selects RX2 yX2_produce yX2_produce, Cond.selects RX2 yX2_put yX2_put, Cond.selects RX2 yX2_packets yX2_packets, Cond.selects RX2 yX2_isFirst yX2_isFirst, Cond.selects RX2 yX2_move yX2_move, Cond.selects RX2 yX2_drop yX2_drop, Cond.selects RX2 yX2_pay yX2_pay, Cond.selects RX2 yX2_rowOf yX2_rowOf]
def cwL : List Cond := cw0 ++ (cw1 ++ (cw2 ++ (cw3 ++ (cw4 ++ (cw5 ++ (cw6 ++ (cw7 ++ (cw8))))))))
theorem cwi0 {w : Cond} (h : w ∈ cw0) : w ∈ cwL := List.mem_append_left _ h
theorem cwg0 : cw0.all goodWord = true := by decide +kernel
theorem cwu0_0 : (Cond.initialized RL) ∈ lw_tbl := List.mem_append_right _ (List.mem_append_left _ (List.mem_of_getElem? (i := 0) (by decide +kernel)))
theorem cwu0_1 : (Cond.initialized RX1) ∈ lw_tbl := List.mem_append_right _ (List.mem_append_left _ (List.mem_of_getElem? (i := 1) (by decide +kernel)))
theorem cwu0_2 : (Cond.initialized RX0) ∈ lw_tbl := List.mem_append_right _ (List.mem_append_left _ (List.mem_of_getElem? (i := 2) (by decide +kernel)))
theorem cwu0_3 : (Cond.initialized RX2) ∈ lw_tbl := List.mem_append_right _ (List.mem_append_left _ (List.mem_of_getElem? (i := 3) (by decide +kernel)))
theorem cwu0_4 : (Cond.initialized "java/lang/Throwable") ∈ lw_tbl := List.mem_append_right _ (List.mem_append_left _ (List.mem_of_getElem? (i := 4) (by decide +kernel)))
theorem cwu0_5 : (Cond.initialized "java/lang/Exception") ∈ lw_tbl := List.mem_append_right _ (List.mem_append_left _ (List.mem_of_getElem? (i := 5) (by decide +kernel)))
theorem cwu0_6 : (Cond.initialized "java/lang/RuntimeException") ∈ lw_tbl := List.mem_append_right _ (List.mem_append_left _ (List.mem_of_getElem? (i := 6) (by decide +kernel)))
theorem cwu0_7 : (Cond.initialized "java/lang/IndexOutOfBoundsException") ∈ lw_tbl := List.mem_append_right _ (List.mem_append_left _ (List.mem_of_getElem? (i := 7) (by decide +kernel)))
theorem cwu0_8 : (Cond.initialized "java/lang/IllegalArgumentException") ∈ lw_tbl := List.mem_append_right _ (List.mem_append_left _ (List.mem_of_getElem? (i := 8) (by decide +kernel)))
theorem cwu0_9 : (Cond.initialized "java/lang/Math") ∈ lw_tbl := List.mem_append_right _ (List.mem_append_left _ (List.mem_of_getElem? (i := 9) (by decide +kernel)))
theorem cwu0_10 : (Cond.classLink RL 8 RX1) ∈ lw_tbl := List.mem_append_right _ (List.mem_append_left _ (List.mem_of_getElem? (i := 10) (by decide +kernel)))
theorem cwu0_11 : (Cond.instantiable RX1 16) ∈ lw_tbl := List.mem_append_right _ (List.mem_append_left _ (List.mem_of_getElem? (i := 11) (by decide +kernel)))
theorem cwu0_12 : (Cond.methodLink RL 50 yX1_init) ∈ lw_tbl := List.mem_append_right _ (List.mem_append_left _ (List.mem_of_getElem? (i := 12) (by decide +kernel)))
theorem cwu0_13 : (Cond.instanceMethod yX1_init) ∈ lw_tbl := List.mem_append_right _ (List.mem_append_left _ (List.mem_of_getElem? (i := 13) (by decide +kernel)))
theorem cwu0_14 : (Cond.code yX1_init cX1_init 2 none) ∈ lw_tbl := List.mem_append_right _ (List.mem_append_left _ (List.mem_of_getElem? (i := 14) (by decide +kernel)))
theorem cwu0_15 : (Cond.methodLink RX1 3 objectInit) ∈ lw_tbl := List.mem_append_right _ (List.mem_append_left _ (List.mem_of_getElem? (i := 15) (by decide +kernel)))
theorem cwu0_16 : (Cond.instanceMethod objectInit) ∈ lw_tbl := List.mem_append_right _ (List.mem_append_left _ (List.mem_of_getElem? (i := 16) (by decide +kernel)))
theorem cwu0_17 : (Cond.code objectInit ⟨#[0xb1]⟩ 1 none) ∈ lw_tbl := List.mem_append_right _ (List.mem_append_left _ (List.mem_of_getElem? (i := 17) (by decide +kernel)))
theorem cwu0_18 : (Cond.classLink RX1 9 RX0) ∈ lw_tbl := List.mem_append_right _ (List.mem_append_left _ (List.mem_of_getElem? (i := 18) (by decide +kernel)))
theorem cwu0_19 : (Cond.instantiable RX0 5) ∈ lw_tbl := List.mem_append_right _ (List.mem_append_left _ (List.mem_of_getElem? (i := 20) (by decide +kernel)))
theorem cwu0_20 : (Cond.instanceMethod yX0_init) ∈ lw_tbl := List.mem_append_right _ (List.mem_append_left _ (List.mem_of_getElem? (i := 22) (by decide +kernel)))
theorem cwu0_21 : (Cond.code yX0_init cX0_init 1 none) ∈ lw_tbl := List.mem_append_right _ (List.mem_append_left _ (List.mem_of_getElem? (i := 23) (by decide +kernel)))
theorem cwu0_22 : (Cond.methodLink RX0 3 objectInit) ∈ lw_tbl := List.mem_append_right _ (List.mem_append_left _ (List.mem_of_getElem? (i := 24) (by decide +kernel)))
theorem cwu0_23 : (Cond.fieldLink RX0 9 RX0 "origins" "[I") ∈ lw_tbl := List.mem_append_right _ (List.mem_append_left _ (List.mem_of_getElem? (i := 25) (by decide +kernel)))
theorem cwu0_24 : (Cond.fieldLink RX0 15 RX0 "amounts" "[I") ∈ lw_tbl := List.mem_append_right _ (List.mem_append_left _ (List.mem_of_getElem? (i := 26) (by decide +kernel)))
theorem cwu0_25 : (Cond.fieldLink RX0 18 RX0 "births" "[I") ∈ lw_tbl := List.mem_append_right _ (List.mem_append_left _ (List.mem_of_getElem? (i := 27) (by decide +kernel)))
theorem cwu0_26 : (Cond.fieldLink RX0 21 RX0 "packets" "I") ∈ lw_tbl := List.mem_append_right _ (List.mem_append_left _ (List.mem_of_getElem? (i := 28) (by decide +kernel)))
theorem cwu0_27 : (Cond.fieldLink RX0 25 RX0 "total" "I") ∈ lw_tbl := List.mem_append_right _ (List.mem_append_left _ (List.mem_of_getElem? (i := 29) (by decide +kernel)))
theorem cwu0_28 : (Cond.laysFinal RX0 RX0 "origins" "[I") ∈ lw_tbl := List.mem_append_right _ (List.mem_append_left _ (List.mem_of_getElem? (i := 30) (by decide +kernel)))
theorem cwu0_29 : (Cond.laysFinal RX0 RX0 "amounts" "[I") ∈ lw_tbl := List.mem_append_right _ (List.mem_append_left _ (List.mem_of_getElem? (i := 32) (by decide +kernel)))
theorem cwu0_30 : (Cond.laysFinal RX0 RX0 "births" "[I") ∈ lw_tbl := List.mem_append_right _ (List.mem_append_left _ (List.mem_of_getElem? (i := 34) (by decide +kernel)))
theorem cwu0_31 : (Cond.lays RX0 RX0 "packets" "I") ∈ lw_tbl := List.mem_append_right _ (List.mem_append_left _ (List.mem_of_getElem? (i := 36) (by decide +kernel)))
theorem cwu0_32 : (Cond.lays RX0 RX0 "total" "I") ∈ lw_tbl := List.mem_append_right _ (List.mem_append_left _ (List.mem_of_getElem? (i := 38) (by decide +kernel)))
theorem cwu0_33 : (Cond.superclass RX0 "java/lang/Object") ∈ lw_tbl := List.mem_append_right _ (List.mem_append_left _ (List.mem_of_getElem? (i := 40) (by decide +kernel)))
theorem cwu0_34 : (Cond.arrayClass .int) ∈ lw_tbl := List.mem_append_right _ (List.mem_append_left _ (List.mem_of_getElem? (i := 41) (by decide +kernel)))
theorem cwu0_35 : (Cond.fieldLink RX1 11 RX1 "stocks" "[LPacketStores$Row;") ∈ lw_tbl := List.mem_append_right _ (List.mem_append_left _ (List.mem_of_getElem? (i := 42) (by decide +kernel)))
theorem cwu0_36 : (Cond.fieldLink RX1 15 RX1 "rates" "[I") ∈ lw_tbl := List.mem_append_right _ (List.mem_append_left _ (List.mem_of_getElem? (i := 43) (by decide +kernel)))
theorem cwu0_37 : (Cond.fieldLink RX1 19 RX1 "madeKinds" "[I") ∈ lw_tbl := List.mem_append_right _ (List.mem_append_left _ (List.mem_of_getElem? (i := 44) (by decide +kernel)))
theorem cwu0_38 : (Cond.fieldLink RX1 22 RX1 "placeColumns" "[I") ∈ lw_tbl := List.mem_append_right _ (List.mem_append_left _ (List.mem_of_getElem? (i := 45) (by decide +kernel)))
theorem cwu0_39 : (Cond.fieldLink RX1 25 RX1 "placeRows" "[I") ∈ lw_tbl := List.mem_append_right _ (List.mem_append_left _ (List.mem_of_getElem? (i := 46) (by decide +kernel)))
theorem cwu0_40 : (Cond.fieldLink RX1 28 RX1 "acceptedKinds" "[I") ∈ lw_tbl := List.mem_append_right _ (List.mem_append_left _ (List.mem_of_getElem? (i := 47) (by decide +kernel)))
theorem cwu0_41 : (Cond.fieldLink RX1 31 RX1 "aboard" "[LPacketStores$Row;") ∈ lw_tbl := List.mem_append_right _ (List.mem_append_left _ (List.mem_of_getElem? (i := 48) (by decide +kernel)))
theorem cwu0_42 : (Cond.fieldLink RX1 34 RX1 "wagonKinds" "[I") ∈ lw_tbl := List.mem_append_right _ (List.mem_append_left _ (List.mem_of_getElem? (i := 49) (by decide +kernel)))
theorem cwu0_43 : (Cond.fieldLink RX1 37 RX1 "wagonRooms" "[I") ∈ lw_tbl := List.mem_append_right _ (List.mem_append_left _ (List.mem_of_getElem? (i := 50) (by decide +kernel)))
theorem cwu0_44 : (Cond.fieldLink RX1 40 RX1 "produced" "[I") ∈ lw_tbl := List.mem_append_right _ (List.mem_append_left _ (List.mem_of_getElem? (i := 51) (by decide +kernel)))
theorem cwu0_45 : (Cond.fieldLink RX1 43 RX1 "delivered" "[I") ∈ lw_tbl := List.mem_append_right _ (List.mem_append_left _ (List.mem_of_getElem? (i := 52) (by decide +kernel)))
theorem cwu0_46 : (Cond.fieldLink RX1 46 RX1 "dumped" "[I") ∈ lw_tbl := List.mem_append_right _ (List.mem_append_left _ (List.mem_of_getElem? (i := 53) (by decide +kernel)))
theorem cwu0_47 : (Cond.fieldLink RX1 49 RX1 "time" "I") ∈ lw_tbl := List.mem_append_right _ (List.mem_append_left _ (List.mem_of_getElem? (i := 54) (by decide +kernel)))
theorem cwu0_48 : (Cond.fieldLink RX1 53 RX1 "money" "I") ∈ lw_tbl := List.mem_append_right _ (List.mem_append_left _ (List.mem_of_getElem? (i := 55) (by decide +kernel)))
theorem cwu0_49 : (Cond.fieldLink RX1 56 RX1 "earned" "I") ∈ lw_tbl := List.mem_append_right _ (List.mem_append_left _ (List.mem_of_getElem? (i := 56) (by decide +kernel)))
theorem cwu0_50 : (Cond.fieldLink RX1 59 RX1 "spent" "I") ∈ lw_tbl := List.mem_append_right _ (List.mem_append_left _ (List.mem_of_getElem? (i := 57) (by decide +kernel)))
theorem cwu0_51 : (Cond.laysFinal RX1 RX1 "stocks" "[LPacketStores$Row;") ∈ lw_tbl := List.mem_append_right _ (List.mem_append_left _ (List.mem_of_getElem? (i := 58) (by decide +kernel)))
theorem cwu0_52 : (Cond.laysFinal RX1 RX1 "rates" "[I") ∈ lw_tbl := List.mem_append_right _ (List.mem_append_left _ (List.mem_of_getElem? (i := 60) (by decide +kernel)))
theorem cwu0_53 : (Cond.laysFinal RX1 RX1 "madeKinds" "[I") ∈ lw_tbl := List.mem_append_right _ (List.mem_append_left _ (List.mem_of_getElem? (i := 62) (by decide +kernel)))
theorem cwu0_54 : (Cond.laysFinal RX1 RX1 "placeColumns" "[I") ∈ lw_tbl := List.mem_append_right _ (List.mem_append_left _ (List.mem_of_getElem? (i := 64) (by decide +kernel)))
theorem cwu0_55 : (Cond.laysFinal RX1 RX1 "placeRows" "[I") ∈ lw_tbl := List.mem_append_right _ (List.mem_append_left _ (List.mem_of_getElem? (i := 66) (by decide +kernel)))
theorem cwu0_56 : (Cond.laysFinal RX1 RX1 "acceptedKinds" "[I") ∈ lw_tbl := List.mem_append_right _ (List.mem_append_left _ (List.mem_of_getElem? (i := 68) (by decide +kernel)))
theorem cwu0_57 : (Cond.laysFinal RX1 RX1 "aboard" "[LPacketStores$Row;") ∈ lw_tbl := List.mem_append_right _ (List.mem_append_left _ (List.mem_of_getElem? (i := 70) (by decide +kernel)))
theorem cwu0_58 : (Cond.laysFinal RX1 RX1 "wagonKinds" "[I") ∈ lw_tbl := List.mem_append_right _ (List.mem_append_left _ (List.mem_of_getElem? (i := 72) (by decide +kernel)))
theorem cwu0_59 : (Cond.laysFinal RX1 RX1 "wagonRooms" "[I") ∈ lw_tbl := List.mem_append_right _ (List.mem_append_left _ (List.mem_of_getElem? (i := 74) (by decide +kernel)))
theorem cwt0 : ∀ w ∈ cw0, w ∈ lw_tbl := List.forall_mem_cons.mpr ⟨cwu0_0, List.forall_mem_cons.mpr ⟨cwu0_1, List.forall_mem_cons.mpr ⟨cwu0_2, List.forall_mem_cons.mpr ⟨cwu0_3, List.forall_mem_cons.mpr ⟨cwu0_4, List.forall_mem_cons.mpr ⟨cwu0_5, List.forall_mem_cons.mpr ⟨cwu0_6, List.forall_mem_cons.mpr ⟨cwu0_7, List.forall_mem_cons.mpr ⟨cwu0_8, List.forall_mem_cons.mpr ⟨cwu0_9, List.forall_mem_cons.mpr ⟨cwu0_10, List.forall_mem_cons.mpr ⟨cwu0_11, List.forall_mem_cons.mpr ⟨cwu0_12, List.forall_mem_cons.mpr ⟨cwu0_13, List.forall_mem_cons.mpr ⟨cwu0_14, List.forall_mem_cons.mpr ⟨cwu0_15, List.forall_mem_cons.mpr ⟨cwu0_16, List.forall_mem_cons.mpr ⟨cwu0_17, List.forall_mem_cons.mpr ⟨cwu0_18, List.forall_mem_cons.mpr ⟨cwu0_19, List.forall_mem_cons.mpr ⟨cwu0_20, List.forall_mem_cons.mpr ⟨cwu0_21, List.forall_mem_cons.mpr ⟨cwu0_22, List.forall_mem_cons.mpr ⟨cwu0_23, List.forall_mem_cons.mpr ⟨cwu0_24, List.forall_mem_cons.mpr ⟨cwu0_25, List.forall_mem_cons.mpr ⟨cwu0_26, List.forall_mem_cons.mpr ⟨cwu0_27, List.forall_mem_cons.mpr ⟨cwu0_28, List.forall_mem_cons.mpr ⟨cwu0_29, List.forall_mem_cons.mpr ⟨cwu0_30, List.forall_mem_cons.mpr ⟨cwu0_31, List.forall_mem_cons.mpr ⟨cwu0_32, List.forall_mem_cons.mpr ⟨cwu0_33, List.forall_mem_cons.mpr ⟨cwu0_34, List.forall_mem_cons.mpr ⟨cwu0_35, List.forall_mem_cons.mpr ⟨cwu0_36, List.forall_mem_cons.mpr ⟨cwu0_37, List.forall_mem_cons.mpr ⟨cwu0_38, List.forall_mem_cons.mpr ⟨cwu0_39, List.forall_mem_cons.mpr ⟨cwu0_40, List.forall_mem_cons.mpr ⟨cwu0_41, List.forall_mem_cons.mpr ⟨cwu0_42, List.forall_mem_cons.mpr ⟨cwu0_43, List.forall_mem_cons.mpr ⟨cwu0_44, List.forall_mem_cons.mpr ⟨cwu0_45, List.forall_mem_cons.mpr ⟨cwu0_46, List.forall_mem_cons.mpr ⟨cwu0_47, List.forall_mem_cons.mpr ⟨cwu0_48, List.forall_mem_cons.mpr ⟨cwu0_49, List.forall_mem_cons.mpr ⟨cwu0_50, List.forall_mem_cons.mpr ⟨cwu0_51, List.forall_mem_cons.mpr ⟨cwu0_52, List.forall_mem_cons.mpr ⟨cwu0_53, List.forall_mem_cons.mpr ⟨cwu0_54, List.forall_mem_cons.mpr ⟨cwu0_55, List.forall_mem_cons.mpr ⟨cwu0_56, List.forall_mem_cons.mpr ⟨cwu0_57, List.forall_mem_cons.mpr ⟨cwu0_58, List.forall_mem_cons.mpr ⟨cwu0_59, fun _ h => absurd h List.not_mem_nil⟩⟩⟩⟩⟩⟩⟩⟩⟩⟩⟩⟩⟩⟩⟩⟩⟩⟩⟩⟩⟩⟩⟩⟩⟩⟩⟩⟩⟩⟩⟩⟩⟩⟩⟩⟩⟩⟩⟩⟩⟩⟩⟩⟩⟩⟩⟩⟩⟩⟩⟩⟩⟩⟩⟩⟩⟩⟩⟩⟩
theorem cwi1 {w : Cond} (h : w ∈ cw1) : w ∈ cwL := List.mem_append_right _ (List.mem_append_left _ h)
theorem cwg1 : cw1.all goodWord = true := by decide +kernel
theorem cwu1_0 : (Cond.laysFinal RX1 RX1 "produced" "[I") ∈ lw_tbl := List.mem_append_right _ (List.mem_append_left _ (List.mem_of_getElem? (i := 76) (by decide +kernel)))
theorem cwu1_1 : (Cond.laysFinal RX1 RX1 "delivered" "[I") ∈ lw_tbl := List.mem_append_right _ (List.mem_append_left _ (List.mem_of_getElem? (i := 78) (by decide +kernel)))
theorem cwu1_2 : (Cond.laysFinal RX1 RX1 "dumped" "[I") ∈ lw_tbl := List.mem_append_right _ (List.mem_append_left _ (List.mem_of_getElem? (i := 80) (by decide +kernel)))
theorem cwu1_3 : (Cond.lays RX1 RX1 "time" "I") ∈ lw_tbl := List.mem_append_right _ (List.mem_append_left _ (List.mem_of_getElem? (i := 82) (by decide +kernel)))
theorem cwu1_4 : (Cond.lays RX1 RX1 "money" "I") ∈ lw_tbl := List.mem_append_right _ (List.mem_append_left _ (List.mem_of_getElem? (i := 84) (by decide +kernel)))
theorem cwu1_5 : (Cond.lays RX1 RX1 "earned" "I") ∈ lw_tbl := List.mem_append_right _ (List.mem_append_left _ (List.mem_of_getElem? (i := 86) (by decide +kernel)))
theorem cwu1_6 : (Cond.lays RX1 RX1 "spent" "I") ∈ lw_tbl := List.mem_append_right _ (List.mem_append_left _ (List.mem_of_getElem? (i := 88) (by decide +kernel)))
theorem cwu1_7 : (Cond.superclass RX1 "java/lang/Object") ∈ lw_tbl := List.mem_append_right _ (List.mem_append_left _ (List.mem_of_getElem? (i := 90) (by decide +kernel)))
theorem cwu1_8 : (Cond.methodLink RL 97 yX1_spend) ∈ lw_tbl := List.mem_append_right _ (List.mem_append_left _ (List.mem_of_getElem? (i := 91) (by decide +kernel)))
theorem cwu1_9 : (Cond.instanceMethod yX1_spend) ∈ lw_tbl := List.mem_append_right _ (List.mem_append_left _ (List.mem_of_getElem? (i := 92) (by decide +kernel)))
theorem cwu1_10 : (Cond.selects RX1 yX1_spend yX1_spend) ∈ lw_tbl := List.mem_append_right _ (List.mem_append_left _ (List.mem_of_getElem? (i := 93) (by decide +kernel)))
theorem cwu1_11 : (Cond.code yX1_spend cX1_spend 2 (some .boolean)) ∈ lw_tbl := List.mem_append_right _ (List.mem_append_left _ (List.mem_of_getElem? (i := 94) (by decide +kernel)))
theorem cwu1_12 : (Cond.constant RX1 100 (2000000000)) ∈ lw_tbl := List.mem_append_right _ (List.mem_append_left _ (List.mem_of_getElem? (i := 95) (by decide +kernel)))
theorem cwu1_13 : (Cond.methodLink RL 102 yX1_packet) ∈ lw_tbl := List.mem_append_right _ (List.mem_append_left _ (List.mem_of_getElem? (i := 96) (by decide +kernel)))
theorem cwu1_14 : (Cond.instanceMethod yX1_packet) ∈ lw_tbl := List.mem_append_right _ (List.mem_append_left _ (List.mem_of_getElem? (i := 97) (by decide +kernel)))
theorem cwu1_15 : (Cond.selects RX1 yX1_packet yX1_packet) ∈ lw_tbl := List.mem_append_right _ (List.mem_append_left _ (List.mem_of_getElem? (i := 98) (by decide +kernel)))
theorem cwu1_16 : (Cond.code yX1_packet cX1_packet 6 (some .int)) ∈ lw_tbl := List.mem_append_right _ (List.mem_append_left _ (List.mem_of_getElem? (i := 99) (by decide +kernel)))
theorem cwu1_17 : (Cond.methodLink RX1 131 yX1_rowAt) ∈ lw_tbl := List.mem_append_right _ (List.mem_append_left _ (List.mem_of_getElem? (i := 100) (by decide +kernel)))
theorem cwu1_18 : (Cond.instanceMethod yX1_rowAt) ∈ lw_tbl := List.mem_append_right _ (List.mem_append_left _ (List.mem_of_getElem? (i := 102) (by decide +kernel)))
theorem cwu1_19 : (Cond.code yX1_rowAt cX1_rowAt 3 (some (.object "PacketStores$Row"))) ∈ lw_tbl := List.mem_append_right _ (List.mem_append_left _ (List.mem_of_getElem? (i := 103) (by decide +kernel)))
theorem cwu1_20 : (Cond.methodLink RX1 173 yX1_isStation) ∈ lw_tbl := List.mem_append_right _ (List.mem_append_left _ (List.mem_of_getElem? (i := 104) (by decide +kernel)))
theorem cwu1_21 : (Cond.static yX1_isStation) ∈ lw_tbl := List.mem_append_right _ (List.mem_append_left _ (List.mem_of_getElem? (i := 105) (by decide +kernel)))
theorem cwu1_22 : (Cond.code yX1_isStation cX1_isStation 1 (some .boolean)) ∈ lw_tbl := List.mem_append_right _ (List.mem_append_left _ (List.mem_of_getElem? (i := 106) (by decide +kernel)))
theorem cwu1_23 : (Cond.methodLink RX1 78 yX1_isKind) ∈ lw_tbl := List.mem_append_right _ (List.mem_append_left _ (List.mem_of_getElem? (i := 107) (by decide +kernel)))
theorem cwu1_24 : (Cond.static yX1_isKind) ∈ lw_tbl := List.mem_append_right _ (List.mem_append_left _ (List.mem_of_getElem? (i := 108) (by decide +kernel)))
theorem cwu1_25 : (Cond.code yX1_isKind cX1_isKind 1 (some .boolean)) ∈ lw_tbl := List.mem_append_right _ (List.mem_append_left _ (List.mem_of_getElem? (i := 109) (by decide +kernel)))
theorem cwu1_26 : (Cond.methodLink RX1 74 yX1_stockIndex) ∈ lw_tbl := List.mem_append_right _ (List.mem_append_left _ (List.mem_of_getElem? (i := 110) (by decide +kernel)))
theorem cwu1_27 : (Cond.static yX1_stockIndex) ∈ lw_tbl := List.mem_append_right _ (List.mem_append_left _ (List.mem_of_getElem? (i := 111) (by decide +kernel)))
theorem cwu1_28 : (Cond.code yX1_stockIndex cX1_stockIndex 2 (some .int)) ∈ lw_tbl := List.mem_append_right _ (List.mem_append_left _ (List.mem_of_getElem? (i := 112) (by decide +kernel)))
theorem cwu1_29 : (Cond.methodLink RX1 135 yX0_look) ∈ lw_tbl := List.mem_append_right _ (List.mem_append_left _ (List.mem_of_getElem? (i := 113) (by decide +kernel)))
theorem cwu1_30 : (Cond.instanceMethod yX0_look) ∈ lw_tbl := List.mem_append_right _ (List.mem_append_left _ (List.mem_of_getElem? (i := 114) (by decide +kernel)))
theorem cwu1_31 : (Cond.selects RX0 yX0_look yX0_look) ∈ lw_tbl := List.mem_append_right _ (List.mem_append_left _ (List.mem_of_getElem? (i := 115) (by decide +kernel)))
theorem cwu1_32 : (Cond.code yX0_look cX0_look 3 (some .int)) ∈ lw_tbl := List.mem_append_right _ (List.mem_append_left _ (List.mem_of_getElem? (i := 116) (by decide +kernel)))
theorem cwu1_33 : (Cond.methodLink RL 107 yX1_units) ∈ lw_tbl := List.mem_append_right _ (List.mem_append_left _ (List.mem_of_getElem? (i := 117) (by decide +kernel)))
theorem cwu1_34 : (Cond.instanceMethod yX1_units) ∈ lw_tbl := List.mem_append_right _ (List.mem_append_left _ (List.mem_of_getElem? (i := 118) (by decide +kernel)))
theorem cwu1_35 : (Cond.selects RX1 yX1_units yX1_units) ∈ lw_tbl := List.mem_append_right _ (List.mem_append_left _ (List.mem_of_getElem? (i := 119) (by decide +kernel)))
theorem cwu1_36 : (Cond.code yX1_units cX1_units 4 (some .int)) ∈ lw_tbl := List.mem_append_right _ (List.mem_append_left _ (List.mem_of_getElem? (i := 120) (by decide +kernel)))
theorem cwu1_37 : (Cond.methodLink RX1 92 yX0_total) ∈ lw_tbl := List.mem_append_right _ (List.mem_append_left _ (List.mem_of_getElem? (i := 121) (by decide +kernel)))
theorem cwu1_38 : (Cond.instanceMethod yX0_total) ∈ lw_tbl := List.mem_append_right _ (List.mem_append_left _ (List.mem_of_getElem? (i := 122) (by decide +kernel)))
theorem cwu1_39 : (Cond.selects RX0 yX0_total yX0_total) ∈ lw_tbl := List.mem_append_right _ (List.mem_append_left _ (List.mem_of_getElem? (i := 123) (by decide +kernel)))
theorem cwu1_40 : (Cond.code yX0_total cX0_total 1 (some .int)) ∈ lw_tbl := List.mem_append_right _ (List.mem_append_left _ (List.mem_of_getElem? (i := 124) (by decide +kernel)))
theorem cwu1_41 : (Cond.methodLink RL 112 yX1_count) ∈ lw_tbl := List.mem_append_right _ (List.mem_append_left _ (List.mem_of_getElem? (i := 125) (by decide +kernel)))
theorem cwu1_42 : (Cond.instanceMethod yX1_count) ∈ lw_tbl := List.mem_append_right _ (List.mem_append_left _ (List.mem_of_getElem? (i := 126) (by decide +kernel)))
theorem cwu1_43 : (Cond.selects RX1 yX1_count yX1_count) ∈ lw_tbl := List.mem_append_right _ (List.mem_append_left _ (List.mem_of_getElem? (i := 127) (by decide +kernel)))
theorem cwu1_44 : (Cond.code yX1_count cX1_count 3 (some .int)) ∈ lw_tbl := List.mem_append_right _ (List.mem_append_left _ (List.mem_of_getElem? (i := 128) (by decide +kernel)))
theorem cwu1_45 : (Cond.methodLink RX1 138 yX1_unitsInStocks) ∈ lw_tbl := List.mem_append_right _ (List.mem_append_left _ (List.mem_of_getElem? (i := 129) (by decide +kernel)))
theorem cwu1_46 : (Cond.instanceMethod yX1_unitsInStocks) ∈ lw_tbl := List.mem_append_right _ (List.mem_append_left _ (List.mem_of_getElem? (i := 131) (by decide +kernel)))
theorem cwu1_47 : (Cond.code yX1_unitsInStocks cX1_unitsInStocks 4 (some .int)) ∈ lw_tbl := List.mem_append_right _ (List.mem_append_left _ (List.mem_of_getElem? (i := 132) (by decide +kernel)))
theorem cwu1_48 : (Cond.methodLink RX1 142 yX1_unitsInWagons) ∈ lw_tbl := List.mem_append_right _ (List.mem_append_left _ (List.mem_of_getElem? (i := 133) (by decide +kernel)))
theorem cwu1_49 : (Cond.instanceMethod yX1_unitsInWagons) ∈ lw_tbl := List.mem_append_right _ (List.mem_append_left _ (List.mem_of_getElem? (i := 135) (by decide +kernel)))
theorem cwu1_50 : (Cond.code yX1_unitsInWagons cX1_unitsInWagons 4 (some .int)) ∈ lw_tbl := List.mem_append_right _ (List.mem_append_left _ (List.mem_of_getElem? (i := 136) (by decide +kernel)))
theorem cwu1_51 : (Cond.methodLink RL 116 yX1_sum) ∈ lw_tbl := List.mem_append_right _ (List.mem_append_left _ (List.mem_of_getElem? (i := 137) (by decide +kernel)))
theorem cwu1_52 : (Cond.instanceMethod yX1_sum) ∈ lw_tbl := List.mem_append_right _ (List.mem_append_left _ (List.mem_of_getElem? (i := 138) (by decide +kernel)))
theorem cwu1_53 : (Cond.selects RX1 yX1_sum yX1_sum) ∈ lw_tbl := List.mem_append_right _ (List.mem_append_left _ (List.mem_of_getElem? (i := 139) (by decide +kernel)))
theorem cwu1_54 : (Cond.code yX1_sum cX1_sum 2 (some .int)) ∈ lw_tbl := List.mem_append_right _ (List.mem_append_left _ (List.mem_of_getElem? (i := 140) (by decide +kernel)))
theorem cwu1_55 : (Cond.methodLink RL 54 yL_place) ∈ lw_tbl := List.mem_append_right _ (List.mem_append_left _ (List.mem_of_getElem? (i := 141) (by decide +kernel)))
theorem cwu1_56 : (Cond.static yL_place) ∈ lw_tbl := List.mem_append_right _ (List.mem_append_left _ (List.mem_of_getElem? (i := 142) (by decide +kernel)))
theorem cwu1_57 : (Cond.codeWith yL_place cL_place 5 (some .int) [(0, 7, 10, 13), (0, 7, 14, 15)]) ∈ lw_tbl := List.mem_append_right _ (List.mem_append_left _ (List.mem_of_getElem? (i := 143) (by decide +kernel)))
theorem cwu1_58 : (Cond.classLink RL 13 "java/lang/IndexOutOfBoundsException") ∈ lw_tbl := List.mem_append_right _ (List.mem_append_left _ (List.mem_of_getElem? (i := 144) (by decide +kernel)))
theorem cwu1_59 : (Cond.classLink RL 15 "java/lang/IllegalArgumentException") ∈ lw_tbl := List.mem_append_right _ (List.mem_append_left _ (List.mem_of_getElem? (i := 145) (by decide +kernel)))
theorem cwt1 : ∀ w ∈ cw1, w ∈ lw_tbl := List.forall_mem_cons.mpr ⟨cwu1_0, List.forall_mem_cons.mpr ⟨cwu1_1, List.forall_mem_cons.mpr ⟨cwu1_2, List.forall_mem_cons.mpr ⟨cwu1_3, List.forall_mem_cons.mpr ⟨cwu1_4, List.forall_mem_cons.mpr ⟨cwu1_5, List.forall_mem_cons.mpr ⟨cwu1_6, List.forall_mem_cons.mpr ⟨cwu1_7, List.forall_mem_cons.mpr ⟨cwu1_8, List.forall_mem_cons.mpr ⟨cwu1_9, List.forall_mem_cons.mpr ⟨cwu1_10, List.forall_mem_cons.mpr ⟨cwu1_11, List.forall_mem_cons.mpr ⟨cwu1_12, List.forall_mem_cons.mpr ⟨cwu1_13, List.forall_mem_cons.mpr ⟨cwu1_14, List.forall_mem_cons.mpr ⟨cwu1_15, List.forall_mem_cons.mpr ⟨cwu1_16, List.forall_mem_cons.mpr ⟨cwu1_17, List.forall_mem_cons.mpr ⟨cwu1_18, List.forall_mem_cons.mpr ⟨cwu1_19, List.forall_mem_cons.mpr ⟨cwu1_20, List.forall_mem_cons.mpr ⟨cwu1_21, List.forall_mem_cons.mpr ⟨cwu1_22, List.forall_mem_cons.mpr ⟨cwu1_23, List.forall_mem_cons.mpr ⟨cwu1_24, List.forall_mem_cons.mpr ⟨cwu1_25, List.forall_mem_cons.mpr ⟨cwu1_26, List.forall_mem_cons.mpr ⟨cwu1_27, List.forall_mem_cons.mpr ⟨cwu1_28, List.forall_mem_cons.mpr ⟨cwu1_29, List.forall_mem_cons.mpr ⟨cwu1_30, List.forall_mem_cons.mpr ⟨cwu1_31, List.forall_mem_cons.mpr ⟨cwu1_32, List.forall_mem_cons.mpr ⟨cwu1_33, List.forall_mem_cons.mpr ⟨cwu1_34, List.forall_mem_cons.mpr ⟨cwu1_35, List.forall_mem_cons.mpr ⟨cwu1_36, List.forall_mem_cons.mpr ⟨cwu1_37, List.forall_mem_cons.mpr ⟨cwu1_38, List.forall_mem_cons.mpr ⟨cwu1_39, List.forall_mem_cons.mpr ⟨cwu1_40, List.forall_mem_cons.mpr ⟨cwu1_41, List.forall_mem_cons.mpr ⟨cwu1_42, List.forall_mem_cons.mpr ⟨cwu1_43, List.forall_mem_cons.mpr ⟨cwu1_44, List.forall_mem_cons.mpr ⟨cwu1_45, List.forall_mem_cons.mpr ⟨cwu1_46, List.forall_mem_cons.mpr ⟨cwu1_47, List.forall_mem_cons.mpr ⟨cwu1_48, List.forall_mem_cons.mpr ⟨cwu1_49, List.forall_mem_cons.mpr ⟨cwu1_50, List.forall_mem_cons.mpr ⟨cwu1_51, List.forall_mem_cons.mpr ⟨cwu1_52, List.forall_mem_cons.mpr ⟨cwu1_53, List.forall_mem_cons.mpr ⟨cwu1_54, List.forall_mem_cons.mpr ⟨cwu1_55, List.forall_mem_cons.mpr ⟨cwu1_56, List.forall_mem_cons.mpr ⟨cwu1_57, List.forall_mem_cons.mpr ⟨cwu1_58, List.forall_mem_cons.mpr ⟨cwu1_59, fun _ h => absurd h List.not_mem_nil⟩⟩⟩⟩⟩⟩⟩⟩⟩⟩⟩⟩⟩⟩⟩⟩⟩⟩⟩⟩⟩⟩⟩⟩⟩⟩⟩⟩⟩⟩⟩⟩⟩⟩⟩⟩⟩⟩⟩⟩⟩⟩⟩⟩⟩⟩⟩⟩⟩⟩⟩⟩⟩⟩⟩⟩⟩⟩⟩⟩
theorem cwi2 {w : Cond} (h : w ∈ cw2) : w ∈ cwL := List.mem_append_right _ (List.mem_append_right _ (List.mem_append_left _ h))
theorem cwg2 : cw2.all goodWord = true := by decide +kernel
theorem cwu2_0 : (Cond.methodLink RL 7 yX1_place) ∈ lw_tbl := List.mem_append_right _ (List.mem_append_left _ (List.mem_of_getElem? (i := 146) (by decide +kernel)))
theorem cwu2_1 : (Cond.instanceMethod yX1_place) ∈ lw_tbl := List.mem_append_right _ (List.mem_append_left _ (List.mem_of_getElem? (i := 147) (by decide +kernel)))
theorem cwu2_2 : (Cond.selects RX1 yX1_place yX1_place) ∈ lw_tbl := List.mem_append_right _ (List.mem_append_left _ (List.mem_of_getElem? (i := 148) (by decide +kernel)))
theorem cwu2_3 : (Cond.code yX1_place cX1_place 4 none) ∈ lw_tbl := List.mem_append_right _ (List.mem_append_left _ (List.mem_of_getElem? (i := 149) (by decide +kernel)))
theorem cwu2_4 : (Cond.methodLink RX1 63 yX1_checkStation) ∈ lw_tbl := List.mem_append_right _ (List.mem_append_left _ (List.mem_of_getElem? (i := 150) (by decide +kernel)))
theorem cwu2_5 : (Cond.static yX1_checkStation) ∈ lw_tbl := List.mem_append_right _ (List.mem_append_left _ (List.mem_of_getElem? (i := 151) (by decide +kernel)))
theorem cwu2_6 : (Cond.code yX1_checkStation cX1_checkStation 1 none) ∈ lw_tbl := List.mem_append_right _ (List.mem_append_left _ (List.mem_of_getElem? (i := 152) (by decide +kernel)))
theorem cwu2_7 : (Cond.classLink RX1 180 "java/lang/IndexOutOfBoundsException") ∈ lw_tbl := List.mem_append_right _ (List.mem_append_left _ (List.mem_of_getElem? (i := 153) (by decide +kernel)))
theorem cwu2_8 : (Cond.instantiable "java/lang/IndexOutOfBoundsException" 6) ∈ lw_tbl := List.mem_append_right _ (List.mem_append_left _ (List.mem_of_getElem? (i := 154) (by decide +kernel)))
theorem cwu2_9 : (Cond.selects "java/lang/IndexOutOfBoundsException" ⟨"java/lang/Throwable", "fillInStackTrace", "(I)Ljava/lang/Throwable;"⟩ ⟨"java/lang/Throwable", "fillInStackTrace", "(I)Ljava/lang/Throwable;"⟩) ∈ lw_tbl := List.mem_append_right _ (List.mem_append_left _ (List.mem_of_getElem? (i := 162) (by decide +kernel)))
theorem cwu2_10 : (Cond.selects "java/lang/IndexOutOfBoundsException" ⟨"java/lang/Throwable", "fillInStackTrace", "()Ljava/lang/Throwable;"⟩ ⟨"java/lang/Throwable", "fillInStackTrace", "()Ljava/lang/Throwable;"⟩) ∈ lw_tbl := List.mem_append_right _ (List.mem_append_left _ (List.mem_of_getElem? (i := 163) (by decide +kernel)))
theorem cwu2_11 : (Cond.lays "java/lang/IndexOutOfBoundsException" "java/lang/Throwable" "cause" "Ljava/lang/Throwable;") ∈ lw_tbl := List.mem_append_right _ (List.mem_append_left _ (List.mem_of_getElem? (i := 164) (by decide +kernel)))
theorem cwu2_12 : (Cond.lays "java/lang/Throwable" "java/lang/Throwable" "cause" "Ljava/lang/Throwable;") ∈ lw_tbl := List.mem_append_right _ (List.mem_append_left _ (List.mem_of_getElem? (i := 165) (by decide +kernel)))
theorem cwu2_13 : (Cond.lays "java/lang/IndexOutOfBoundsException" "java/lang/Throwable" "stackTrace" "[Ljava/lang/StackTraceElement;") ∈ lw_tbl := List.mem_append_right _ (List.mem_append_left _ (List.mem_of_getElem? (i := 166) (by decide +kernel)))
theorem cwu2_14 : (Cond.lays "java/lang/Throwable" "java/lang/Throwable" "stackTrace" "[Ljava/lang/StackTraceElement;") ∈ lw_tbl := List.mem_append_right _ (List.mem_append_left _ (List.mem_of_getElem? (i := 167) (by decide +kernel)))
theorem cwu2_15 : (Cond.lays "java/lang/IndexOutOfBoundsException" "java/lang/Throwable" "suppressedExceptions" "Ljava/util/List;") ∈ lw_tbl := List.mem_append_right _ (List.mem_append_left _ (List.mem_of_getElem? (i := 168) (by decide +kernel)))
theorem cwu2_16 : (Cond.lays "java/lang/Throwable" "java/lang/Throwable" "suppressedExceptions" "Ljava/util/List;") ∈ lw_tbl := List.mem_append_right _ (List.mem_append_left _ (List.mem_of_getElem? (i := 169) (by decide +kernel)))
theorem cwu2_17 : (Cond.lays "java/lang/IndexOutOfBoundsException" "java/lang/Throwable" "detailMessage" "Ljava/lang/String;") ∈ lw_tbl := List.mem_append_right _ (List.mem_append_left _ (List.mem_of_getElem? (i := 170) (by decide +kernel)))
theorem cwu2_18 : (Cond.lays "java/lang/Throwable" "java/lang/Throwable" "detailMessage" "Ljava/lang/String;") ∈ lw_tbl := List.mem_append_right _ (List.mem_append_left _ (List.mem_of_getElem? (i := 171) (by decide +kernel)))
theorem cwu2_19 : (Cond.lays "java/lang/IndexOutOfBoundsException" "java/lang/Throwable" "backtrace" "Ljava/lang/Object;") ∈ lw_tbl := List.mem_append_right _ (List.mem_append_left _ (List.mem_of_getElem? (i := 172) (by decide +kernel)))
theorem cwu2_20 : (Cond.lays "java/lang/Throwable" "java/lang/Throwable" "backtrace" "Ljava/lang/Object;") ∈ lw_tbl := List.mem_append_right _ (List.mem_append_left _ (List.mem_of_getElem? (i := 173) (by decide +kernel)))
theorem cwu2_21 : (Cond.fieldLink "java/lang/Throwable" 198 "java/lang/Throwable" "backtrace" "Ljava/lang/Object;") ∈ lw_tbl := List.mem_append_right _ (List.mem_append_left _ (List.mem_of_getElem? (i := 174) (by decide +kernel)))
theorem cwu2_22 : (Cond.superclass "java/lang/Throwable" "java/lang/Object") ∈ lw_tbl := List.mem_append_right _ (List.mem_append_left _ (List.mem_of_getElem? (i := 175) (by decide +kernel)))
theorem cwu2_23 : (Cond.instanceMethod ⟨"java/lang/Throwable", "<init>", "()V"⟩) ∈ lw_tbl := List.mem_append_right _ (List.mem_append_left _ (List.mem_of_getElem? (i := 176) (by decide +kernel)))
theorem cwu2_24 : (Cond.code ⟨"java/lang/Throwable", "<init>", "()V"⟩ prog_11_method_1_code 1 none) ∈ lw_tbl := List.mem_append_right _ (List.mem_append_left _ (List.mem_of_getElem? (i := 177) (by decide +kernel)))
theorem cwu2_25 : (Cond.methodLink "java/lang/Throwable" 1 objectInit) ∈ lw_tbl := List.mem_append_right _ (List.mem_append_left _ (List.mem_of_getElem? (i := 178) (by decide +kernel)))
theorem cwu2_26 : (Cond.fieldLink "java/lang/Throwable" 13 "java/lang/Throwable" "UNASSIGNED_STACK" "[Ljava/lang/StackTraceElement;") ∈ lw_tbl := List.mem_append_right _ (List.mem_append_left _ (List.mem_of_getElem? (i := 179) (by decide +kernel)))
theorem cwu2_27 : (Cond.fieldLink "java/lang/Throwable" 20 "java/lang/Throwable" "SUPPRESSED_SENTINEL" "Ljava/util/List;") ∈ lw_tbl := List.mem_append_right _ (List.mem_append_left _ (List.mem_of_getElem? (i := 181) (by decide +kernel)))
theorem cwu2_28 : (Cond.methodLink "java/lang/Throwable" 27 ⟨"java/lang/Throwable", "fillInStackTrace", "()Ljava/lang/Throwable;"⟩) ∈ lw_tbl := List.mem_append_right _ (List.mem_append_left _ (List.mem_of_getElem? (i := 183) (by decide +kernel)))
theorem cwu2_29 : (Cond.instanceMethod ⟨"java/lang/Throwable", "fillInStackTrace", "()Ljava/lang/Throwable;"⟩) ∈ lw_tbl := List.mem_append_right _ (List.mem_append_left _ (List.mem_of_getElem? (i := 184) (by decide +kernel)))
theorem cwu2_30 : (Cond.sameMethod "java/lang/Throwable" "java/lang/Throwable" "fillInStackTrace" "()Ljava/lang/Throwable;") ∈ lw_tbl := List.mem_append_right _ (List.mem_append_left _ (List.mem_of_getElem? (i := 185) (by decide +kernel)))
theorem cwu2_31 : (Cond.selects "java/lang/IllegalArgumentException" ⟨"java/lang/Throwable", "fillInStackTrace", "()Ljava/lang/Throwable;"⟩ ⟨"java/lang/Throwable", "fillInStackTrace", "()Ljava/lang/Throwable;"⟩) ∈ lw_tbl := List.mem_append_right _ (List.mem_append_left _ (List.mem_of_getElem? (i := 186) (by decide +kernel)))
theorem cwu2_32 : (Cond.codeSync ⟨"java/lang/Throwable", "fillInStackTrace", "()Ljava/lang/Throwable;"⟩ prog_11_method_18_code 1 (some (.object "java/lang/Throwable"))) ∈ lw_tbl := List.mem_append_right _ (List.mem_append_left _ (List.mem_of_getElem? (i := 187) (by decide +kernel)))
theorem cwu2_33 : (Cond.methodLink "java/lang/Throwable" 202 ⟨"java/lang/Throwable", "fillInStackTrace", "(I)Ljava/lang/Throwable;"⟩) ∈ lw_tbl := List.mem_append_right _ (List.mem_append_left _ (List.mem_of_getElem? (i := 188) (by decide +kernel)))
theorem cwu2_34 : (Cond.instanceMethod ⟨"java/lang/Throwable", "fillInStackTrace", "(I)Ljava/lang/Throwable;"⟩) ∈ lw_tbl := List.mem_append_right _ (List.mem_append_left _ (List.mem_of_getElem? (i := 190) (by decide +kernel)))
theorem cwu2_35 : (Cond.instantiable "java/lang/Throwable" 6) ∈ lw_tbl := List.mem_append_right _ (List.mem_append_left _ (List.mem_of_getElem? (i := 191) (by decide +kernel)))
theorem cwu2_36 : (Cond.native ⟨"java/lang/Throwable", "fillInStackTrace", "(I)Ljava/lang/Throwable;"⟩) ∈ lw_tbl := List.mem_append_right _ (List.mem_append_left _ (List.mem_of_getElem? (i := 192) (by decide +kernel)))
theorem cwu2_37 : (Cond.methodLink RX1 184 ⟨"java/lang/IndexOutOfBoundsException", "<init>", "(Ljava/lang/String;)V"⟩) ∈ lw_tbl := List.mem_append_right _ (List.mem_append_left _ (List.mem_of_getElem? (i := 194) (by decide +kernel)))
theorem cwu2_38 : (Cond.instanceMethod ⟨"java/lang/IndexOutOfBoundsException", "<init>", "(Ljava/lang/String;)V"⟩) ∈ lw_tbl := List.mem_append_right _ (List.mem_append_left _ (List.mem_of_getElem? (i := 195) (by decide +kernel)))
theorem cwu2_39 : (Cond.code ⟨"java/lang/IndexOutOfBoundsException", "<init>", "(Ljava/lang/String;)V"⟩ prog_7_method_2_code 2 none) ∈ lw_tbl := List.mem_append_right _ (List.mem_append_left _ (List.mem_of_getElem? (i := 196) (by decide +kernel)))
theorem cwu2_40 : (Cond.methodLink "java/lang/IndexOutOfBoundsException" 7 ⟨"java/lang/RuntimeException", "<init>", "(Ljava/lang/String;)V"⟩) ∈ lw_tbl := List.mem_append_right _ (List.mem_append_left _ (List.mem_of_getElem? (i := 197) (by decide +kernel)))
theorem cwu2_41 : (Cond.instanceMethod ⟨"java/lang/RuntimeException", "<init>", "(Ljava/lang/String;)V"⟩) ∈ lw_tbl := List.mem_append_right _ (List.mem_append_left _ (List.mem_of_getElem? (i := 198) (by decide +kernel)))
theorem cwu2_42 : (Cond.code ⟨"java/lang/RuntimeException", "<init>", "(Ljava/lang/String;)V"⟩ prog_9_method_2_code 2 none) ∈ lw_tbl := List.mem_append_right _ (List.mem_append_left _ (List.mem_of_getElem? (i := 199) (by decide +kernel)))
theorem cwu2_43 : (Cond.methodLink "java/lang/RuntimeException" 7 ⟨"java/lang/Exception", "<init>", "(Ljava/lang/String;)V"⟩) ∈ lw_tbl := List.mem_append_right _ (List.mem_append_left _ (List.mem_of_getElem? (i := 200) (by decide +kernel)))
theorem cwu2_44 : (Cond.instanceMethod ⟨"java/lang/Exception", "<init>", "(Ljava/lang/String;)V"⟩) ∈ lw_tbl := List.mem_append_right _ (List.mem_append_left _ (List.mem_of_getElem? (i := 201) (by decide +kernel)))
theorem cwu2_45 : (Cond.code ⟨"java/lang/Exception", "<init>", "(Ljava/lang/String;)V"⟩ prog_5_method_2_code 2 none) ∈ lw_tbl := List.mem_append_right _ (List.mem_append_left _ (List.mem_of_getElem? (i := 202) (by decide +kernel)))
theorem cwu2_46 : (Cond.methodLink "java/lang/Exception" 7 ⟨"java/lang/Throwable", "<init>", "(Ljava/lang/String;)V"⟩) ∈ lw_tbl := List.mem_append_right _ (List.mem_append_left _ (List.mem_of_getElem? (i := 203) (by decide +kernel)))
theorem cwu2_47 : (Cond.instanceMethod ⟨"java/lang/Throwable", "<init>", "(Ljava/lang/String;)V"⟩) ∈ lw_tbl := List.mem_append_right _ (List.mem_append_left _ (List.mem_of_getElem? (i := 204) (by decide +kernel)))
theorem cwu2_48 : (Cond.code ⟨"java/lang/Throwable", "<init>", "(Ljava/lang/String;)V"⟩ prog_11_method_2_code 2 none) ∈ lw_tbl := List.mem_append_right _ (List.mem_append_left _ (List.mem_of_getElem? (i := 205) (by decide +kernel)))
theorem cwu2_49 : (Cond.fieldLink "java/lang/Throwable" 31 "java/lang/Throwable" "detailMessage" "Ljava/lang/String;") ∈ lw_tbl := List.mem_append_right _ (List.mem_append_left _ (List.mem_of_getElem? (i := 207) (by decide +kernel)))
theorem cwu2_50 : (Cond.fieldLink "java/lang/Throwable" 7 "java/lang/Throwable" "cause" "Ljava/lang/Throwable;") ∈ lw_tbl := List.mem_append_right _ (List.mem_append_left _ (List.mem_of_getElem? (i := 208) (by decide +kernel)))
theorem cwu2_51 : (Cond.fieldLink "java/lang/Throwable" 17 "java/lang/Throwable" "stackTrace" "[Ljava/lang/StackTraceElement;") ∈ lw_tbl := List.mem_append_right _ (List.mem_append_left _ (List.mem_of_getElem? (i := 209) (by decide +kernel)))
theorem cwu2_52 : (Cond.fieldLink "java/lang/Throwable" 24 "java/lang/Throwable" "suppressedExceptions" "Ljava/util/List;") ∈ lw_tbl := List.mem_append_right _ (List.mem_append_left _ (List.mem_of_getElem? (i := 210) (by decide +kernel)))
theorem cwu2_53 : (Cond.lays "java/lang/IndexOutOfBoundsException" "java/lang/Throwable" "depth" "I") ∈ lw_tbl := List.mem_append_right _ (List.mem_append_left _ (List.mem_of_getElem? (i := 215) (by decide +kernel)))
theorem cwu2_54 : (Cond.superclass "java/lang/IndexOutOfBoundsException" "java/lang/RuntimeException") ∈ lw_tbl := List.mem_append_right _ (List.mem_append_left _ (List.mem_of_getElem? (i := 218) (by decide +kernel)))
theorem cwu2_55 : (Cond.arrayClass .byte) ∈ lw_tbl := List.mem_append_right _ (List.mem_append_left _ (List.mem_of_getElem? (i := 219) (by decide +kernel)))
theorem cwu2_56 : (Cond.methodLink RX1 67 yX1_checkRange) ∈ lw_tbl := List.mem_append_right _ (List.mem_append_left _ (List.mem_of_getElem? (i := 220) (by decide +kernel)))
theorem cwu2_57 : (Cond.static yX1_checkRange) ∈ lw_tbl := List.mem_append_right _ (List.mem_append_left _ (List.mem_of_getElem? (i := 221) (by decide +kernel)))
theorem cwu2_58 : (Cond.code yX1_checkRange cX1_checkRange 2 none) ∈ lw_tbl := List.mem_append_right _ (List.mem_append_left _ (List.mem_of_getElem? (i := 222) (by decide +kernel)))
theorem cwu2_59 : (Cond.classLink RX1 82 "java/lang/IllegalArgumentException") ∈ lw_tbl := List.mem_append_right _ (List.mem_append_left _ (List.mem_of_getElem? (i := 223) (by decide +kernel)))
theorem cwt2 : ∀ w ∈ cw2, w ∈ lw_tbl := List.forall_mem_cons.mpr ⟨cwu2_0, List.forall_mem_cons.mpr ⟨cwu2_1, List.forall_mem_cons.mpr ⟨cwu2_2, List.forall_mem_cons.mpr ⟨cwu2_3, List.forall_mem_cons.mpr ⟨cwu2_4, List.forall_mem_cons.mpr ⟨cwu2_5, List.forall_mem_cons.mpr ⟨cwu2_6, List.forall_mem_cons.mpr ⟨cwu2_7, List.forall_mem_cons.mpr ⟨cwu2_8, List.forall_mem_cons.mpr ⟨cwu2_9, List.forall_mem_cons.mpr ⟨cwu2_10, List.forall_mem_cons.mpr ⟨cwu2_11, List.forall_mem_cons.mpr ⟨cwu2_12, List.forall_mem_cons.mpr ⟨cwu2_13, List.forall_mem_cons.mpr ⟨cwu2_14, List.forall_mem_cons.mpr ⟨cwu2_15, List.forall_mem_cons.mpr ⟨cwu2_16, List.forall_mem_cons.mpr ⟨cwu2_17, List.forall_mem_cons.mpr ⟨cwu2_18, List.forall_mem_cons.mpr ⟨cwu2_19, List.forall_mem_cons.mpr ⟨cwu2_20, List.forall_mem_cons.mpr ⟨cwu2_21, List.forall_mem_cons.mpr ⟨cwu2_22, List.forall_mem_cons.mpr ⟨cwu2_23, List.forall_mem_cons.mpr ⟨cwu2_24, List.forall_mem_cons.mpr ⟨cwu2_25, List.forall_mem_cons.mpr ⟨cwu2_26, List.forall_mem_cons.mpr ⟨cwu2_27, List.forall_mem_cons.mpr ⟨cwu2_28, List.forall_mem_cons.mpr ⟨cwu2_29, List.forall_mem_cons.mpr ⟨cwu2_30, List.forall_mem_cons.mpr ⟨cwu2_31, List.forall_mem_cons.mpr ⟨cwu2_32, List.forall_mem_cons.mpr ⟨cwu2_33, List.forall_mem_cons.mpr ⟨cwu2_34, List.forall_mem_cons.mpr ⟨cwu2_35, List.forall_mem_cons.mpr ⟨cwu2_36, List.forall_mem_cons.mpr ⟨cwu2_37, List.forall_mem_cons.mpr ⟨cwu2_38, List.forall_mem_cons.mpr ⟨cwu2_39, List.forall_mem_cons.mpr ⟨cwu2_40, List.forall_mem_cons.mpr ⟨cwu2_41, List.forall_mem_cons.mpr ⟨cwu2_42, List.forall_mem_cons.mpr ⟨cwu2_43, List.forall_mem_cons.mpr ⟨cwu2_44, List.forall_mem_cons.mpr ⟨cwu2_45, List.forall_mem_cons.mpr ⟨cwu2_46, List.forall_mem_cons.mpr ⟨cwu2_47, List.forall_mem_cons.mpr ⟨cwu2_48, List.forall_mem_cons.mpr ⟨cwu2_49, List.forall_mem_cons.mpr ⟨cwu2_50, List.forall_mem_cons.mpr ⟨cwu2_51, List.forall_mem_cons.mpr ⟨cwu2_52, List.forall_mem_cons.mpr ⟨cwu2_53, List.forall_mem_cons.mpr ⟨cwu2_54, List.forall_mem_cons.mpr ⟨cwu2_55, List.forall_mem_cons.mpr ⟨cwu2_56, List.forall_mem_cons.mpr ⟨cwu2_57, List.forall_mem_cons.mpr ⟨cwu2_58, List.forall_mem_cons.mpr ⟨cwu2_59, fun _ h => absurd h List.not_mem_nil⟩⟩⟩⟩⟩⟩⟩⟩⟩⟩⟩⟩⟩⟩⟩⟩⟩⟩⟩⟩⟩⟩⟩⟩⟩⟩⟩⟩⟩⟩⟩⟩⟩⟩⟩⟩⟩⟩⟩⟩⟩⟩⟩⟩⟩⟩⟩⟩⟩⟩⟩⟩⟩⟩⟩⟩⟩⟩⟩⟩
theorem cwi3 {w : Cond} (h : w ∈ cw3) : w ∈ cwL := List.mem_append_right _ (List.mem_append_right _ (List.mem_append_right _ (List.mem_append_left _ h)))
theorem cwg3 : cw3.all goodWord = true := by decide +kernel
theorem cwu3_0 : (Cond.instantiable "java/lang/IllegalArgumentException" 6) ∈ lw_tbl := List.mem_append_right _ (List.mem_append_left _ (List.mem_of_getElem? (i := 224) (by decide +kernel)))
theorem cwu3_1 : (Cond.selects "java/lang/IllegalArgumentException" ⟨"java/lang/Throwable", "fillInStackTrace", "(I)Ljava/lang/Throwable;"⟩ ⟨"java/lang/Throwable", "fillInStackTrace", "(I)Ljava/lang/Throwable;"⟩) ∈ lw_tbl := List.mem_append_right _ (List.mem_append_left _ (List.mem_of_getElem? (i := 226) (by decide +kernel)))
theorem cwu3_2 : (Cond.lays "java/lang/IllegalArgumentException" "java/lang/Throwable" "cause" "Ljava/lang/Throwable;") ∈ lw_tbl := List.mem_append_right _ (List.mem_append_left _ (List.mem_of_getElem? (i := 227) (by decide +kernel)))
theorem cwu3_3 : (Cond.lays "java/lang/IllegalArgumentException" "java/lang/Throwable" "stackTrace" "[Ljava/lang/StackTraceElement;") ∈ lw_tbl := List.mem_append_right _ (List.mem_append_left _ (List.mem_of_getElem? (i := 228) (by decide +kernel)))
theorem cwu3_4 : (Cond.lays "java/lang/IllegalArgumentException" "java/lang/Throwable" "suppressedExceptions" "Ljava/util/List;") ∈ lw_tbl := List.mem_append_right _ (List.mem_append_left _ (List.mem_of_getElem? (i := 229) (by decide +kernel)))
theorem cwu3_5 : (Cond.lays "java/lang/IllegalArgumentException" "java/lang/Throwable" "detailMessage" "Ljava/lang/String;") ∈ lw_tbl := List.mem_append_right _ (List.mem_append_left _ (List.mem_of_getElem? (i := 230) (by decide +kernel)))
theorem cwu3_6 : (Cond.lays "java/lang/IllegalArgumentException" "java/lang/Throwable" "backtrace" "Ljava/lang/Object;") ∈ lw_tbl := List.mem_append_right _ (List.mem_append_left _ (List.mem_of_getElem? (i := 231) (by decide +kernel)))
theorem cwu3_7 : (Cond.methodLink RX1 86 ⟨"java/lang/IllegalArgumentException", "<init>", "(Ljava/lang/String;)V"⟩) ∈ lw_tbl := List.mem_append_right _ (List.mem_append_left _ (List.mem_of_getElem? (i := 233) (by decide +kernel)))
theorem cwu3_8 : (Cond.instanceMethod ⟨"java/lang/IllegalArgumentException", "<init>", "(Ljava/lang/String;)V"⟩) ∈ lw_tbl := List.mem_append_right _ (List.mem_append_left _ (List.mem_of_getElem? (i := 234) (by decide +kernel)))
theorem cwu3_9 : (Cond.code ⟨"java/lang/IllegalArgumentException", "<init>", "(Ljava/lang/String;)V"⟩ prog_6_method_2_code 2 none) ∈ lw_tbl := List.mem_append_right _ (List.mem_append_left _ (List.mem_of_getElem? (i := 235) (by decide +kernel)))
theorem cwu3_10 : (Cond.methodLink "java/lang/IllegalArgumentException" 7 ⟨"java/lang/RuntimeException", "<init>", "(Ljava/lang/String;)V"⟩) ∈ lw_tbl := List.mem_append_right _ (List.mem_append_left _ (List.mem_of_getElem? (i := 236) (by decide +kernel)))
theorem cwu3_11 : (Cond.lays "java/lang/IllegalArgumentException" "java/lang/Throwable" "depth" "I") ∈ lw_tbl := List.mem_append_right _ (List.mem_append_left _ (List.mem_of_getElem? (i := 237) (by decide +kernel)))
theorem cwu3_12 : (Cond.superclass "java/lang/IllegalArgumentException" "java/lang/RuntimeException") ∈ lw_tbl := List.mem_append_right _ (List.mem_append_left _ (List.mem_of_getElem? (i := 238) (by decide +kernel)))
theorem cwu3_13 : (Cond.methodLink RL 64 yL_rate) ∈ lw_tbl := List.mem_append_right _ (List.mem_append_left _ (List.mem_of_getElem? (i := 239) (by decide +kernel)))
theorem cwu3_14 : (Cond.static yL_rate) ∈ lw_tbl := List.mem_append_right _ (List.mem_append_right _ (List.mem_append_left _ (List.mem_of_getElem? (i := 0) (by decide +kernel))))
theorem cwu3_15 : (Cond.codeWith yL_rate cL_rate 5 (some .int) [(0, 7, 10, 13), (0, 7, 14, 15)]) ∈ lw_tbl := List.mem_append_right _ (List.mem_append_right _ (List.mem_append_left _ (List.mem_of_getElem? (i := 1) (by decide +kernel))))
theorem cwu3_16 : (Cond.methodLink RL 17 yX1_rate) ∈ lw_tbl := List.mem_append_right _ (List.mem_append_right _ (List.mem_append_left _ (List.mem_of_getElem? (i := 2) (by decide +kernel))))
theorem cwu3_17 : (Cond.instanceMethod yX1_rate) ∈ lw_tbl := List.mem_append_right _ (List.mem_append_right _ (List.mem_append_left _ (List.mem_of_getElem? (i := 3) (by decide +kernel))))
theorem cwu3_18 : (Cond.selects RX1 yX1_rate yX1_rate) ∈ lw_tbl := List.mem_append_right _ (List.mem_append_right _ (List.mem_append_left _ (List.mem_of_getElem? (i := 4) (by decide +kernel))))
theorem cwu3_19 : (Cond.code yX1_rate cX1_rate 4 none) ∈ lw_tbl := List.mem_append_right _ (List.mem_append_right _ (List.mem_append_left _ (List.mem_of_getElem? (i := 5) (by decide +kernel))))
theorem cwu3_20 : (Cond.methodLink RX1 71 yX1_checkKind) ∈ lw_tbl := List.mem_append_right _ (List.mem_append_right _ (List.mem_append_left _ (List.mem_of_getElem? (i := 6) (by decide +kernel))))
theorem cwu3_21 : (Cond.static yX1_checkKind) ∈ lw_tbl := List.mem_append_right _ (List.mem_append_right _ (List.mem_append_left _ (List.mem_of_getElem? (i := 7) (by decide +kernel))))
theorem cwu3_22 : (Cond.code yX1_checkKind cX1_checkKind 1 none) ∈ lw_tbl := List.mem_append_right _ (List.mem_append_right _ (List.mem_append_left _ (List.mem_of_getElem? (i := 8) (by decide +kernel))))
theorem cwu3_23 : (Cond.methodLink RL 67 yL_accept) ∈ lw_tbl := List.mem_append_right _ (List.mem_append_right _ (List.mem_append_left _ (List.mem_of_getElem? (i := 10) (by decide +kernel))))
theorem cwu3_24 : (Cond.static yL_accept) ∈ lw_tbl := List.mem_append_right _ (List.mem_append_right _ (List.mem_append_left _ (List.mem_of_getElem? (i := 11) (by decide +kernel))))
theorem cwu3_25 : (Cond.codeWith yL_accept cL_accept 4 (some .int) [(0, 6, 9, 13), (0, 6, 12, 15)]) ∈ lw_tbl := List.mem_append_right _ (List.mem_append_right _ (List.mem_append_left _ (List.mem_of_getElem? (i := 12) (by decide +kernel))))
theorem cwu3_26 : (Cond.methodLink RL 20 yX1_accept) ∈ lw_tbl := List.mem_append_right _ (List.mem_append_right _ (List.mem_append_left _ (List.mem_of_getElem? (i := 13) (by decide +kernel))))
theorem cwu3_27 : (Cond.instanceMethod yX1_accept) ∈ lw_tbl := List.mem_append_right _ (List.mem_append_right _ (List.mem_append_left _ (List.mem_of_getElem? (i := 14) (by decide +kernel))))
theorem cwu3_28 : (Cond.selects RX1 yX1_accept yX1_accept) ∈ lw_tbl := List.mem_append_right _ (List.mem_append_right _ (List.mem_append_left _ (List.mem_of_getElem? (i := 15) (by decide +kernel))))
theorem cwu3_29 : (Cond.code yX1_accept cX1_accept 3 none) ∈ lw_tbl := List.mem_append_right _ (List.mem_append_right _ (List.mem_append_left _ (List.mem_of_getElem? (i := 16) (by decide +kernel))))
theorem cwu3_30 : (Cond.methodLink RL 71 yL_make) ∈ lw_tbl := List.mem_append_right _ (List.mem_append_right _ (List.mem_append_left _ (List.mem_of_getElem? (i := 17) (by decide +kernel))))
theorem cwu3_31 : (Cond.static yL_make) ∈ lw_tbl := List.mem_append_right _ (List.mem_append_right _ (List.mem_append_left _ (List.mem_of_getElem? (i := 18) (by decide +kernel))))
theorem cwu3_32 : (Cond.codeWith yL_make cL_make 5 (some .int) [(0, 7, 10, 13), (0, 7, 14, 15)]) ∈ lw_tbl := List.mem_append_right _ (List.mem_append_right _ (List.mem_append_left _ (List.mem_of_getElem? (i := 19) (by decide +kernel))))
theorem cwu3_33 : (Cond.methodLink RL 24 yX1_make) ∈ lw_tbl := List.mem_append_right _ (List.mem_append_right _ (List.mem_append_left _ (List.mem_of_getElem? (i := 20) (by decide +kernel))))
theorem cwu3_34 : (Cond.instanceMethod yX1_make) ∈ lw_tbl := List.mem_append_right _ (List.mem_append_right _ (List.mem_append_left _ (List.mem_of_getElem? (i := 21) (by decide +kernel))))
theorem cwu3_35 : (Cond.selects RX1 yX1_make yX1_make) ∈ lw_tbl := List.mem_append_right _ (List.mem_append_right _ (List.mem_append_left _ (List.mem_of_getElem? (i := 22) (by decide +kernel))))
theorem cwu3_36 : (Cond.code yX1_make cX1_make 4 none) ∈ lw_tbl := List.mem_append_right _ (List.mem_append_right _ (List.mem_append_left _ (List.mem_of_getElem? (i := 23) (by decide +kernel))))
theorem cwu3_37 : (Cond.methodLink RL 74 yL_wagon) ∈ lw_tbl := List.mem_append_right _ (List.mem_append_right _ (List.mem_append_left _ (List.mem_of_getElem? (i := 25) (by decide +kernel))))
theorem cwu3_38 : (Cond.static yL_wagon) ∈ lw_tbl := List.mem_append_right _ (List.mem_append_right _ (List.mem_append_left _ (List.mem_of_getElem? (i := 26) (by decide +kernel))))
theorem cwu3_39 : (Cond.codeWith yL_wagon cL_wagon 5 (some .int) [(0, 7, 10, 13), (0, 7, 14, 15)]) ∈ lw_tbl := List.mem_append_right _ (List.mem_append_right _ (List.mem_append_left _ (List.mem_of_getElem? (i := 27) (by decide +kernel))))
theorem cwu3_40 : (Cond.methodLink RL 27 yX1_wagon) ∈ lw_tbl := List.mem_append_right _ (List.mem_append_right _ (List.mem_append_left _ (List.mem_of_getElem? (i := 28) (by decide +kernel))))
theorem cwu3_41 : (Cond.instanceMethod yX1_wagon) ∈ lw_tbl := List.mem_append_right _ (List.mem_append_right _ (List.mem_append_left _ (List.mem_of_getElem? (i := 29) (by decide +kernel))))
theorem cwu3_42 : (Cond.selects RX1 yX1_wagon yX1_wagon) ∈ lw_tbl := List.mem_append_right _ (List.mem_append_right _ (List.mem_append_left _ (List.mem_of_getElem? (i := 30) (by decide +kernel))))
theorem cwu3_43 : (Cond.code yX1_wagon cX1_wagon 5 none) ∈ lw_tbl := List.mem_append_right _ (List.mem_append_right _ (List.mem_append_left _ (List.mem_of_getElem? (i := 31) (by decide +kernel))))
theorem cwu3_44 : (Cond.methodLink RX1 89 yX1_checkWagon) ∈ lw_tbl := List.mem_append_right _ (List.mem_append_right _ (List.mem_append_left _ (List.mem_of_getElem? (i := 32) (by decide +kernel))))
theorem cwu3_45 : (Cond.static yX1_checkWagon) ∈ lw_tbl := List.mem_append_right _ (List.mem_append_right _ (List.mem_append_left _ (List.mem_of_getElem? (i := 33) (by decide +kernel))))
theorem cwu3_46 : (Cond.code yX1_checkWagon cX1_checkWagon 1 none) ∈ lw_tbl := List.mem_append_right _ (List.mem_append_right _ (List.mem_append_left _ (List.mem_of_getElem? (i := 34) (by decide +kernel))))
theorem cwu3_47 : (Cond.methodLink RL 77 yL_pass) ∈ lw_tbl := List.mem_append_right _ (List.mem_append_right _ (List.mem_append_left _ (List.mem_of_getElem? (i := 38) (by decide +kernel))))
theorem cwu3_48 : (Cond.static yL_pass) ∈ lw_tbl := List.mem_append_right _ (List.mem_append_right _ (List.mem_append_left _ (List.mem_of_getElem? (i := 39) (by decide +kernel))))
theorem cwu3_49 : (Cond.codeWith yL_pass cL_pass 4 (some .int) [(0, 9, 12, 15)]) ∈ lw_tbl := List.mem_append_right _ (List.mem_append_right _ (List.mem_append_left _ (List.mem_of_getElem? (i := 40) (by decide +kernel))))
theorem cwu3_50 : (Cond.methodLink RL 30 yX1_pass) ∈ lw_tbl := List.mem_append_right _ (List.mem_append_right _ (List.mem_append_left _ (List.mem_of_getElem? (i := 41) (by decide +kernel))))
theorem cwu3_51 : (Cond.instanceMethod yX1_pass) ∈ lw_tbl := List.mem_append_right _ (List.mem_append_right _ (List.mem_append_left _ (List.mem_of_getElem? (i := 42) (by decide +kernel))))
theorem cwu3_52 : (Cond.selects RX1 yX1_pass yX1_pass) ∈ lw_tbl := List.mem_append_right _ (List.mem_append_right _ (List.mem_append_left _ (List.mem_of_getElem? (i := 43) (by decide +kernel))))
theorem cwu3_53 : (Cond.code yX1_pass cX1_pass 5 (some .int)) ∈ lw_tbl := List.mem_append_right _ (List.mem_append_right _ (List.mem_append_left _ (List.mem_of_getElem? (i := 44) (by decide +kernel))))
theorem cwu3_54 : (Cond.methodLink RX1 103 yX1_produceEverywhere) ∈ lw_tbl := List.mem_append_right _ (List.mem_append_right _ (List.mem_append_left _ (List.mem_of_getElem? (i := 46) (by decide +kernel))))
theorem cwu3_55 : (Cond.instanceMethod yX1_produceEverywhere) ∈ lw_tbl := List.mem_append_right _ (List.mem_append_right _ (List.mem_append_left _ (List.mem_of_getElem? (i := 48) (by decide +kernel))))
theorem cwu3_56 : (Cond.code yX1_produceEverywhere cX1_produceEverywhere 3 none) ∈ lw_tbl := List.mem_append_right _ (List.mem_append_right _ (List.mem_append_left _ (List.mem_of_getElem? (i := 49) (by decide +kernel))))
theorem cwu3_57 : (Cond.methodLink RX1 145 yX1_produce) ∈ lw_tbl := List.mem_append_right _ (List.mem_append_right _ (List.mem_append_left _ (List.mem_of_getElem? (i := 50) (by decide +kernel))))
theorem cwu3_58 : (Cond.instanceMethod yX1_produce) ∈ lw_tbl := List.mem_append_right _ (List.mem_append_right _ (List.mem_append_left _ (List.mem_of_getElem? (i := 52) (by decide +kernel))))
theorem cwu3_59 : (Cond.code yX1_produce cX1_produce 7 none) ∈ lw_tbl := List.mem_append_right _ (List.mem_append_right _ (List.mem_append_left _ (List.mem_of_getElem? (i := 53) (by decide +kernel))))
theorem cwt3 : ∀ w ∈ cw3, w ∈ lw_tbl := List.forall_mem_cons.mpr ⟨cwu3_0, List.forall_mem_cons.mpr ⟨cwu3_1, List.forall_mem_cons.mpr ⟨cwu3_2, List.forall_mem_cons.mpr ⟨cwu3_3, List.forall_mem_cons.mpr ⟨cwu3_4, List.forall_mem_cons.mpr ⟨cwu3_5, List.forall_mem_cons.mpr ⟨cwu3_6, List.forall_mem_cons.mpr ⟨cwu3_7, List.forall_mem_cons.mpr ⟨cwu3_8, List.forall_mem_cons.mpr ⟨cwu3_9, List.forall_mem_cons.mpr ⟨cwu3_10, List.forall_mem_cons.mpr ⟨cwu3_11, List.forall_mem_cons.mpr ⟨cwu3_12, List.forall_mem_cons.mpr ⟨cwu3_13, List.forall_mem_cons.mpr ⟨cwu3_14, List.forall_mem_cons.mpr ⟨cwu3_15, List.forall_mem_cons.mpr ⟨cwu3_16, List.forall_mem_cons.mpr ⟨cwu3_17, List.forall_mem_cons.mpr ⟨cwu3_18, List.forall_mem_cons.mpr ⟨cwu3_19, List.forall_mem_cons.mpr ⟨cwu3_20, List.forall_mem_cons.mpr ⟨cwu3_21, List.forall_mem_cons.mpr ⟨cwu3_22, List.forall_mem_cons.mpr ⟨cwu3_23, List.forall_mem_cons.mpr ⟨cwu3_24, List.forall_mem_cons.mpr ⟨cwu3_25, List.forall_mem_cons.mpr ⟨cwu3_26, List.forall_mem_cons.mpr ⟨cwu3_27, List.forall_mem_cons.mpr ⟨cwu3_28, List.forall_mem_cons.mpr ⟨cwu3_29, List.forall_mem_cons.mpr ⟨cwu3_30, List.forall_mem_cons.mpr ⟨cwu3_31, List.forall_mem_cons.mpr ⟨cwu3_32, List.forall_mem_cons.mpr ⟨cwu3_33, List.forall_mem_cons.mpr ⟨cwu3_34, List.forall_mem_cons.mpr ⟨cwu3_35, List.forall_mem_cons.mpr ⟨cwu3_36, List.forall_mem_cons.mpr ⟨cwu3_37, List.forall_mem_cons.mpr ⟨cwu3_38, List.forall_mem_cons.mpr ⟨cwu3_39, List.forall_mem_cons.mpr ⟨cwu3_40, List.forall_mem_cons.mpr ⟨cwu3_41, List.forall_mem_cons.mpr ⟨cwu3_42, List.forall_mem_cons.mpr ⟨cwu3_43, List.forall_mem_cons.mpr ⟨cwu3_44, List.forall_mem_cons.mpr ⟨cwu3_45, List.forall_mem_cons.mpr ⟨cwu3_46, List.forall_mem_cons.mpr ⟨cwu3_47, List.forall_mem_cons.mpr ⟨cwu3_48, List.forall_mem_cons.mpr ⟨cwu3_49, List.forall_mem_cons.mpr ⟨cwu3_50, List.forall_mem_cons.mpr ⟨cwu3_51, List.forall_mem_cons.mpr ⟨cwu3_52, List.forall_mem_cons.mpr ⟨cwu3_53, List.forall_mem_cons.mpr ⟨cwu3_54, List.forall_mem_cons.mpr ⟨cwu3_55, List.forall_mem_cons.mpr ⟨cwu3_56, List.forall_mem_cons.mpr ⟨cwu3_57, List.forall_mem_cons.mpr ⟨cwu3_58, List.forall_mem_cons.mpr ⟨cwu3_59, fun _ h => absurd h List.not_mem_nil⟩⟩⟩⟩⟩⟩⟩⟩⟩⟩⟩⟩⟩⟩⟩⟩⟩⟩⟩⟩⟩⟩⟩⟩⟩⟩⟩⟩⟩⟩⟩⟩⟩⟩⟩⟩⟩⟩⟩⟩⟩⟩⟩⟩⟩⟩⟩⟩⟩⟩⟩⟩⟩⟩⟩⟩⟩⟩⟩⟩
theorem cwi4 {w : Cond} (h : w ∈ cw4) : w ∈ cwL := List.mem_append_right _ (List.mem_append_right _ (List.mem_append_right _ (List.mem_append_right _ (List.mem_append_left _ h))))
theorem cwg4 : cw4.all goodWord = true := by decide +kernel
theorem cwu4_0 : (Cond.methodLink RX1 149 Lib.Math.min.name) ∈ lw_tbl := List.mem_append_right _ (List.mem_append_right _ (List.mem_append_left _ (List.mem_of_getElem? (i := 54) (by decide +kernel))))
theorem cwu4_1 : (Cond.static Lib.Math.min.name) ∈ lw_tbl := List.mem_append_right _ (List.mem_append_right _ (List.mem_append_left _ (List.mem_of_getElem? (i := 55) (by decide +kernel))))
theorem cwu4_2 : (Cond.code Lib.Math.min.name Lib.Math.min.code 2 (some .int)) ∈ lw_tbl := List.mem_append_right _ (List.mem_append_right _ (List.mem_append_left _ (List.mem_of_getElem? (i := 56) (by decide +kernel))))
theorem cwu4_3 : (Cond.methodLink RX1 154 yX0_putBehind) ∈ lw_tbl := List.mem_append_right _ (List.mem_append_right _ (List.mem_append_left _ (List.mem_of_getElem? (i := 57) (by decide +kernel))))
theorem cwu4_4 : (Cond.instanceMethod yX0_putBehind) ∈ lw_tbl := List.mem_append_right _ (List.mem_append_right _ (List.mem_append_left _ (List.mem_of_getElem? (i := 58) (by decide +kernel))))
theorem cwu4_5 : (Cond.selects RX0 yX0_putBehind yX0_putBehind) ∈ lw_tbl := List.mem_append_right _ (List.mem_append_right _ (List.mem_append_left _ (List.mem_of_getElem? (i := 59) (by decide +kernel))))
theorem cwu4_6 : (Cond.code yX0_putBehind cX0_putBehind 4 none) ∈ lw_tbl := List.mem_append_right _ (List.mem_append_right _ (List.mem_append_left _ (List.mem_of_getElem? (i := 60) (by decide +kernel))))
theorem cwu4_7 : (Cond.methodLink RX0 28 yX0_lastIs) ∈ lw_tbl := List.mem_append_right _ (List.mem_append_right _ (List.mem_append_left _ (List.mem_of_getElem? (i := 61) (by decide +kernel))))
theorem cwu4_8 : (Cond.instanceMethod yX0_lastIs) ∈ lw_tbl := List.mem_append_right _ (List.mem_append_right _ (List.mem_append_left _ (List.mem_of_getElem? (i := 63) (by decide +kernel))))
theorem cwu4_9 : (Cond.code yX0_lastIs cX0_lastIs 4 (some .boolean)) ∈ lw_tbl := List.mem_append_right _ (List.mem_append_right _ (List.mem_append_left _ (List.mem_of_getElem? (i := 64) (by decide +kernel))))
theorem cwu4_10 : (Cond.methodLink RL 81 yL_load) ∈ lw_tbl := List.mem_append_right _ (List.mem_append_right _ (List.mem_append_left _ (List.mem_of_getElem? (i := 65) (by decide +kernel))))
theorem cwu4_11 : (Cond.static yL_load) ∈ lw_tbl := List.mem_append_right _ (List.mem_append_right _ (List.mem_append_left _ (List.mem_of_getElem? (i := 66) (by decide +kernel))))
theorem cwu4_12 : (Cond.codeWith yL_load cL_load 6 (some .int) [(0, 12, 15, 13), (0, 12, 19, 15)]) ∈ lw_tbl := List.mem_append_right _ (List.mem_append_right _ (List.mem_append_left _ (List.mem_of_getElem? (i := 67) (by decide +kernel))))
theorem cwu4_13 : (Cond.methodLink RL 34 yX1_load) ∈ lw_tbl := List.mem_append_right _ (List.mem_append_right _ (List.mem_append_left _ (List.mem_of_getElem? (i := 68) (by decide +kernel))))
theorem cwu4_14 : (Cond.instanceMethod yX1_load) ∈ lw_tbl := List.mem_append_right _ (List.mem_append_right _ (List.mem_append_left _ (List.mem_of_getElem? (i := 69) (by decide +kernel))))
theorem cwu4_15 : (Cond.selects RX1 yX1_load yX1_load) ∈ lw_tbl := List.mem_append_right _ (List.mem_append_right _ (List.mem_append_left _ (List.mem_of_getElem? (i := 70) (by decide +kernel))))
theorem cwu4_16 : (Cond.code yX1_load cX1_load 5 (some .int)) ∈ lw_tbl := List.mem_append_right _ (List.mem_append_right _ (List.mem_append_left _ (List.mem_of_getElem? (i := 71) (by decide +kernel))))
theorem cwu4_17 : (Cond.methodLink RX1 106 yX1_checkNotBelowZero) ∈ lw_tbl := List.mem_append_right _ (List.mem_append_right _ (List.mem_append_left _ (List.mem_of_getElem? (i := 72) (by decide +kernel))))
theorem cwu4_18 : (Cond.static yX1_checkNotBelowZero) ∈ lw_tbl := List.mem_append_right _ (List.mem_append_right _ (List.mem_append_left _ (List.mem_of_getElem? (i := 73) (by decide +kernel))))
theorem cwu4_19 : (Cond.code yX1_checkNotBelowZero cX1_checkNotBelowZero 1 none) ∈ lw_tbl := List.mem_append_right _ (List.mem_append_right _ (List.mem_append_left _ (List.mem_of_getElem? (i := 74) (by decide +kernel))))
theorem cwu4_20 : (Cond.methodLink RX1 109 yX0_moveTo) ∈ lw_tbl := List.mem_append_right _ (List.mem_append_right _ (List.mem_append_left _ (List.mem_of_getElem? (i := 76) (by decide +kernel))))
theorem cwu4_21 : (Cond.instanceMethod yX0_moveTo) ∈ lw_tbl := List.mem_append_right _ (List.mem_append_right _ (List.mem_append_left _ (List.mem_of_getElem? (i := 77) (by decide +kernel))))
theorem cwu4_22 : (Cond.selects RX0 yX0_moveTo yX0_moveTo) ∈ lw_tbl := List.mem_append_right _ (List.mem_append_right _ (List.mem_append_left _ (List.mem_of_getElem? (i := 78) (by decide +kernel))))
theorem cwu4_23 : (Cond.code yX0_moveTo cX0_moveTo 8 (some .int)) ∈ lw_tbl := List.mem_append_right _ (List.mem_append_right _ (List.mem_append_left _ (List.mem_of_getElem? (i := 79) (by decide +kernel))))
theorem cwu4_24 : (Cond.methodLink RX0 35 Lib.Math.min.name) ∈ lw_tbl := List.mem_append_right _ (List.mem_append_right _ (List.mem_append_left _ (List.mem_of_getElem? (i := 80) (by decide +kernel))))
theorem cwu4_25 : (Cond.methodLink RX0 41 yX0_putBehind) ∈ lw_tbl := List.mem_append_right _ (List.mem_append_right _ (List.mem_append_left _ (List.mem_of_getElem? (i := 81) (by decide +kernel))))
theorem cwu4_26 : (Cond.methodLink RX0 45 yX0_takeFromFirst) ∈ lw_tbl := List.mem_append_right _ (List.mem_append_right _ (List.mem_append_left _ (List.mem_of_getElem? (i := 82) (by decide +kernel))))
theorem cwu4_27 : (Cond.instanceMethod yX0_takeFromFirst) ∈ lw_tbl := List.mem_append_right _ (List.mem_append_right _ (List.mem_append_left _ (List.mem_of_getElem? (i := 83) (by decide +kernel))))
theorem cwu4_28 : (Cond.selects RX0 yX0_takeFromFirst yX0_takeFromFirst) ∈ lw_tbl := List.mem_append_right _ (List.mem_append_right _ (List.mem_append_left _ (List.mem_of_getElem? (i := 84) (by decide +kernel))))
theorem cwu4_29 : (Cond.code yX0_takeFromFirst cX0_takeFromFirst 2 none) ∈ lw_tbl := List.mem_append_right _ (List.mem_append_right _ (List.mem_append_left _ (List.mem_of_getElem? (i := 85) (by decide +kernel))))
theorem cwu4_30 : (Cond.methodLink RX0 32 yX0_dropFirst) ∈ lw_tbl := List.mem_append_right _ (List.mem_append_right _ (List.mem_append_left _ (List.mem_of_getElem? (i := 86) (by decide +kernel))))
theorem cwu4_31 : (Cond.instanceMethod yX0_dropFirst) ∈ lw_tbl := List.mem_append_right _ (List.mem_append_right _ (List.mem_append_left _ (List.mem_of_getElem? (i := 88) (by decide +kernel))))
theorem cwu4_32 : (Cond.code yX0_dropFirst cX0_dropFirst 2 none) ∈ lw_tbl := List.mem_append_right _ (List.mem_append_right _ (List.mem_append_left _ (List.mem_of_getElem? (i := 89) (by decide +kernel))))
theorem cwu4_33 : (Cond.methodLink RL 85 yL_unload) ∈ lw_tbl := List.mem_append_right _ (List.mem_append_right _ (List.mem_append_left _ (List.mem_of_getElem? (i := 90) (by decide +kernel))))
theorem cwu4_34 : (Cond.static yL_unload) ∈ lw_tbl := List.mem_append_right _ (List.mem_append_right _ (List.mem_append_left _ (List.mem_of_getElem? (i := 91) (by decide +kernel))))
theorem cwu4_35 : (Cond.codeWith yL_unload cL_unload 6 (some .int) [(0, 12, 15, 13), (0, 12, 19, 15)]) ∈ lw_tbl := List.mem_append_right _ (List.mem_append_right _ (List.mem_append_left _ (List.mem_of_getElem? (i := 92) (by decide +kernel))))
theorem cwu4_36 : (Cond.methodLink RL 38 yX1_unload) ∈ lw_tbl := List.mem_append_right _ (List.mem_append_right _ (List.mem_append_left _ (List.mem_of_getElem? (i := 93) (by decide +kernel))))
theorem cwu4_37 : (Cond.instanceMethod yX1_unload) ∈ lw_tbl := List.mem_append_right _ (List.mem_append_right _ (List.mem_append_left _ (List.mem_of_getElem? (i := 94) (by decide +kernel))))
theorem cwu4_38 : (Cond.selects RX1 yX1_unload yX1_unload) ∈ lw_tbl := List.mem_append_right _ (List.mem_append_right _ (List.mem_append_left _ (List.mem_of_getElem? (i := 95) (by decide +kernel))))
theorem cwu4_39 : (Cond.code yX1_unload cX1_unload 5 (some .int)) ∈ lw_tbl := List.mem_append_right _ (List.mem_append_right _ (List.mem_append_left _ (List.mem_of_getElem? (i := 96) (by decide +kernel))))
theorem cwu4_40 : (Cond.methodLink RX1 113 yX1_deliverFrom) ∈ lw_tbl := List.mem_append_right _ (List.mem_append_right _ (List.mem_append_left _ (List.mem_of_getElem? (i := 97) (by decide +kernel))))
theorem cwu4_41 : (Cond.instanceMethod yX1_deliverFrom) ∈ lw_tbl := List.mem_append_right _ (List.mem_append_right _ (List.mem_append_left _ (List.mem_of_getElem? (i := 99) (by decide +kernel))))
theorem cwu4_42 : (Cond.code yX1_deliverFrom cX1_deliverFrom 9 (some .int)) ∈ lw_tbl := List.mem_append_right _ (List.mem_append_right _ (List.mem_append_left _ (List.mem_of_getElem? (i := 100) (by decide +kernel))))
theorem cwu4_43 : (Cond.methodLink RX1 157 yX1_payOfOne) ∈ lw_tbl := List.mem_append_right _ (List.mem_append_right _ (List.mem_append_left _ (List.mem_of_getElem? (i := 101) (by decide +kernel))))
theorem cwu4_44 : (Cond.instanceMethod yX1_payOfOne) ∈ lw_tbl := List.mem_append_right _ (List.mem_append_right _ (List.mem_append_left _ (List.mem_of_getElem? (i := 103) (by decide +kernel))))
theorem cwu4_45 : (Cond.code yX1_payOfOne cX1_payOfOne 7 (some .int)) ∈ lw_tbl := List.mem_append_right _ (List.mem_append_right _ (List.mem_append_left _ (List.mem_of_getElem? (i := 104) (by decide +kernel))))
theorem cwu4_46 : (Cond.methodLink RX1 167 Lib.Math.abs.name) ∈ lw_tbl := List.mem_append_right _ (List.mem_append_right _ (List.mem_append_left _ (List.mem_of_getElem? (i := 105) (by decide +kernel))))
theorem cwu4_47 : (Cond.static Lib.Math.abs.name) ∈ lw_tbl := List.mem_append_right _ (List.mem_append_right _ (List.mem_append_left _ (List.mem_of_getElem? (i := 106) (by decide +kernel))))
theorem cwu4_48 : (Cond.code Lib.Math.abs.name Lib.Math.abs.code 1 (some .int)) ∈ lw_tbl := List.mem_append_right _ (List.mem_append_right _ (List.mem_append_left _ (List.mem_of_getElem? (i := 107) (by decide +kernel))))
theorem cwu4_49 : (Cond.methodLink RX1 170 Lib.Math.max.name) ∈ lw_tbl := List.mem_append_right _ (List.mem_append_right _ (List.mem_append_left _ (List.mem_of_getElem? (i := 108) (by decide +kernel))))
theorem cwu4_50 : (Cond.static Lib.Math.max.name) ∈ lw_tbl := List.mem_append_right _ (List.mem_append_right _ (List.mem_append_left _ (List.mem_of_getElem? (i := 109) (by decide +kernel))))
theorem cwu4_51 : (Cond.code Lib.Math.max.name Lib.Math.max.code 2 (some .int)) ∈ lw_tbl := List.mem_append_right _ (List.mem_append_right _ (List.mem_append_left _ (List.mem_of_getElem? (i := 110) (by decide +kernel))))
theorem cwu4_52 : (Cond.methodLink RX1 161 yX1_earn) ∈ lw_tbl := List.mem_append_right _ (List.mem_append_right _ (List.mem_append_left _ (List.mem_of_getElem? (i := 111) (by decide +kernel))))
theorem cwu4_53 : (Cond.instanceMethod yX1_earn) ∈ lw_tbl := List.mem_append_right _ (List.mem_append_right _ (List.mem_append_left _ (List.mem_of_getElem? (i := 113) (by decide +kernel))))
theorem cwu4_54 : (Cond.code yX1_earn cX1_earn 4 none) ∈ lw_tbl := List.mem_append_right _ (List.mem_append_right _ (List.mem_append_left _ (List.mem_of_getElem? (i := 114) (by decide +kernel))))
theorem cwu4_55 : (Cond.methodLink RX1 164 yX0_takeFromFirst) ∈ lw_tbl := List.mem_append_right _ (List.mem_append_right _ (List.mem_append_left _ (List.mem_of_getElem? (i := 115) (by decide +kernel))))
theorem cwu4_56 : (Cond.methodLink RL 88 yL_pour) ∈ lw_tbl := List.mem_append_right _ (List.mem_append_right _ (List.mem_append_left _ (List.mem_of_getElem? (i := 116) (by decide +kernel))))
theorem cwu4_57 : (Cond.static yL_pour) ∈ lw_tbl := List.mem_append_right _ (List.mem_append_right _ (List.mem_append_left _ (List.mem_of_getElem? (i := 117) (by decide +kernel))))
theorem cwu4_58 : (Cond.codeWith yL_pour cL_pour 4 (some .int) [(0, 6, 9, 13), (0, 6, 12, 15)]) ∈ lw_tbl := List.mem_append_right _ (List.mem_append_right _ (List.mem_append_left _ (List.mem_of_getElem? (i := 118) (by decide +kernel))))
theorem cwu4_59 : (Cond.methodLink RL 41 yX1_pour) ∈ lw_tbl := List.mem_append_right _ (List.mem_append_right _ (List.mem_append_left _ (List.mem_of_getElem? (i := 119) (by decide +kernel))))
theorem cwt4 : ∀ w ∈ cw4, w ∈ lw_tbl := List.forall_mem_cons.mpr ⟨cwu4_0, List.forall_mem_cons.mpr ⟨cwu4_1, List.forall_mem_cons.mpr ⟨cwu4_2, List.forall_mem_cons.mpr ⟨cwu4_3, List.forall_mem_cons.mpr ⟨cwu4_4, List.forall_mem_cons.mpr ⟨cwu4_5, List.forall_mem_cons.mpr ⟨cwu4_6, List.forall_mem_cons.mpr ⟨cwu4_7, List.forall_mem_cons.mpr ⟨cwu4_8, List.forall_mem_cons.mpr ⟨cwu4_9, List.forall_mem_cons.mpr ⟨cwu4_10, List.forall_mem_cons.mpr ⟨cwu4_11, List.forall_mem_cons.mpr ⟨cwu4_12, List.forall_mem_cons.mpr ⟨cwu4_13, List.forall_mem_cons.mpr ⟨cwu4_14, List.forall_mem_cons.mpr ⟨cwu4_15, List.forall_mem_cons.mpr ⟨cwu4_16, List.forall_mem_cons.mpr ⟨cwu4_17, List.forall_mem_cons.mpr ⟨cwu4_18, List.forall_mem_cons.mpr ⟨cwu4_19, List.forall_mem_cons.mpr ⟨cwu4_20, List.forall_mem_cons.mpr ⟨cwu4_21, List.forall_mem_cons.mpr ⟨cwu4_22, List.forall_mem_cons.mpr ⟨cwu4_23, List.forall_mem_cons.mpr ⟨cwu4_24, List.forall_mem_cons.mpr ⟨cwu4_25, List.forall_mem_cons.mpr ⟨cwu4_26, List.forall_mem_cons.mpr ⟨cwu4_27, List.forall_mem_cons.mpr ⟨cwu4_28, List.forall_mem_cons.mpr ⟨cwu4_29, List.forall_mem_cons.mpr ⟨cwu4_30, List.forall_mem_cons.mpr ⟨cwu4_31, List.forall_mem_cons.mpr ⟨cwu4_32, List.forall_mem_cons.mpr ⟨cwu4_33, List.forall_mem_cons.mpr ⟨cwu4_34, List.forall_mem_cons.mpr ⟨cwu4_35, List.forall_mem_cons.mpr ⟨cwu4_36, List.forall_mem_cons.mpr ⟨cwu4_37, List.forall_mem_cons.mpr ⟨cwu4_38, List.forall_mem_cons.mpr ⟨cwu4_39, List.forall_mem_cons.mpr ⟨cwu4_40, List.forall_mem_cons.mpr ⟨cwu4_41, List.forall_mem_cons.mpr ⟨cwu4_42, List.forall_mem_cons.mpr ⟨cwu4_43, List.forall_mem_cons.mpr ⟨cwu4_44, List.forall_mem_cons.mpr ⟨cwu4_45, List.forall_mem_cons.mpr ⟨cwu4_46, List.forall_mem_cons.mpr ⟨cwu4_47, List.forall_mem_cons.mpr ⟨cwu4_48, List.forall_mem_cons.mpr ⟨cwu4_49, List.forall_mem_cons.mpr ⟨cwu4_50, List.forall_mem_cons.mpr ⟨cwu4_51, List.forall_mem_cons.mpr ⟨cwu4_52, List.forall_mem_cons.mpr ⟨cwu4_53, List.forall_mem_cons.mpr ⟨cwu4_54, List.forall_mem_cons.mpr ⟨cwu4_55, List.forall_mem_cons.mpr ⟨cwu4_56, List.forall_mem_cons.mpr ⟨cwu4_57, List.forall_mem_cons.mpr ⟨cwu4_58, List.forall_mem_cons.mpr ⟨cwu4_59, fun _ h => absurd h List.not_mem_nil⟩⟩⟩⟩⟩⟩⟩⟩⟩⟩⟩⟩⟩⟩⟩⟩⟩⟩⟩⟩⟩⟩⟩⟩⟩⟩⟩⟩⟩⟩⟩⟩⟩⟩⟩⟩⟩⟩⟩⟩⟩⟩⟩⟩⟩⟩⟩⟩⟩⟩⟩⟩⟩⟩⟩⟩⟩⟩⟩⟩
theorem cwi5 {w : Cond} (h : w ∈ cw5) : w ∈ cwL := List.mem_append_right _ (List.mem_append_right _ (List.mem_append_right _ (List.mem_append_right _ (List.mem_append_right _ (List.mem_append_left _ h)))))
theorem cwg5 : cw5.all goodWord = true := by decide +kernel
theorem cwu5_0 : (Cond.instanceMethod yX1_pour) ∈ lw_tbl := List.mem_append_right _ (List.mem_append_right _ (List.mem_append_left _ (List.mem_of_getElem? (i := 120) (by decide +kernel))))
theorem cwu5_1 : (Cond.selects RX1 yX1_pour yX1_pour) ∈ lw_tbl := List.mem_append_right _ (List.mem_append_right _ (List.mem_append_left _ (List.mem_of_getElem? (i := 121) (by decide +kernel))))
theorem cwu5_2 : (Cond.code yX1_pour cX1_pour 4 none) ∈ lw_tbl := List.mem_append_right _ (List.mem_append_right _ (List.mem_append_left _ (List.mem_of_getElem? (i := 122) (by decide +kernel))))
theorem cwu5_3 : (Cond.methodLink RX1 117 yX1_checkFellows) ∈ lw_tbl := List.mem_append_right _ (List.mem_append_right _ (List.mem_append_left _ (List.mem_of_getElem? (i := 123) (by decide +kernel))))
theorem cwu5_4 : (Cond.instanceMethod yX1_checkFellows) ∈ lw_tbl := List.mem_append_right _ (List.mem_append_right _ (List.mem_append_left _ (List.mem_of_getElem? (i := 125) (by decide +kernel))))
theorem cwu5_5 : (Cond.code yX1_checkFellows cX1_checkFellows 3 none) ∈ lw_tbl := List.mem_append_right _ (List.mem_append_right _ (List.mem_append_left _ (List.mem_of_getElem? (i := 126) (by decide +kernel))))
theorem cwu5_6 : (Cond.methodLink RL 91 yL_part) ∈ lw_tbl := List.mem_append_right _ (List.mem_append_right _ (List.mem_append_left _ (List.mem_of_getElem? (i := 130) (by decide +kernel))))
theorem cwu5_7 : (Cond.static yL_part) ∈ lw_tbl := List.mem_append_right _ (List.mem_append_right _ (List.mem_append_left _ (List.mem_of_getElem? (i := 131) (by decide +kernel))))
theorem cwu5_8 : (Cond.codeWith yL_part cL_part 5 (some .int) [(0, 7, 10, 13), (0, 7, 14, 15)]) ∈ lw_tbl := List.mem_append_right _ (List.mem_append_right _ (List.mem_append_left _ (List.mem_of_getElem? (i := 132) (by decide +kernel))))
theorem cwu5_9 : (Cond.methodLink RL 44 yX1_part) ∈ lw_tbl := List.mem_append_right _ (List.mem_append_right _ (List.mem_append_left _ (List.mem_of_getElem? (i := 133) (by decide +kernel))))
theorem cwu5_10 : (Cond.instanceMethod yX1_part) ∈ lw_tbl := List.mem_append_right _ (List.mem_append_right _ (List.mem_append_left _ (List.mem_of_getElem? (i := 134) (by decide +kernel))))
theorem cwu5_11 : (Cond.selects RX1 yX1_part yX1_part) ∈ lw_tbl := List.mem_append_right _ (List.mem_append_right _ (List.mem_append_left _ (List.mem_of_getElem? (i := 135) (by decide +kernel))))
theorem cwu5_12 : (Cond.code yX1_part cX1_part 4 none) ∈ lw_tbl := List.mem_append_right _ (List.mem_append_right _ (List.mem_append_left _ (List.mem_of_getElem? (i := 136) (by decide +kernel))))
theorem cwu5_13 : (Cond.methodLink RX1 124 yX0_moveAllBehind) ∈ lw_tbl := List.mem_append_right _ (List.mem_append_right _ (List.mem_append_left _ (List.mem_of_getElem? (i := 138) (by decide +kernel))))
theorem cwu5_14 : (Cond.instanceMethod yX0_moveAllBehind) ∈ lw_tbl := List.mem_append_right _ (List.mem_append_right _ (List.mem_append_left _ (List.mem_of_getElem? (i := 139) (by decide +kernel))))
theorem cwu5_15 : (Cond.selects RX0 yX0_moveAllBehind yX0_moveAllBehind) ∈ lw_tbl := List.mem_append_right _ (List.mem_append_right _ (List.mem_append_left _ (List.mem_of_getElem? (i := 140) (by decide +kernel))))
theorem cwu5_16 : (Cond.code yX0_moveAllBehind cX0_moveAllBehind 8 none) ∈ lw_tbl := List.mem_append_right _ (List.mem_append_right _ (List.mem_append_left _ (List.mem_of_getElem? (i := 141) (by decide +kernel))))
theorem cwu5_17 : (Cond.methodLink RL 94 yL_dump) ∈ lw_tbl := List.mem_append_right _ (List.mem_append_right _ (List.mem_append_left _ (List.mem_of_getElem? (i := 142) (by decide +kernel))))
theorem cwu5_18 : (Cond.static yL_dump) ∈ lw_tbl := List.mem_append_right _ (List.mem_append_right _ (List.mem_append_left _ (List.mem_of_getElem? (i := 143) (by decide +kernel))))
theorem cwu5_19 : (Cond.codeWith yL_dump cL_dump 4 (some .int) [(0, 9, 12, 13)]) ∈ lw_tbl := List.mem_append_right _ (List.mem_append_right _ (List.mem_append_left _ (List.mem_of_getElem? (i := 144) (by decide +kernel))))
theorem cwu5_20 : (Cond.methodLink RL 47 yX1_dump) ∈ lw_tbl := List.mem_append_right _ (List.mem_append_right _ (List.mem_append_left _ (List.mem_of_getElem? (i := 145) (by decide +kernel))))
theorem cwu5_21 : (Cond.instanceMethod yX1_dump) ∈ lw_tbl := List.mem_append_right _ (List.mem_append_right _ (List.mem_append_left _ (List.mem_of_getElem? (i := 146) (by decide +kernel))))
theorem cwu5_22 : (Cond.selects RX1 yX1_dump yX1_dump) ∈ lw_tbl := List.mem_append_right _ (List.mem_append_right _ (List.mem_append_left _ (List.mem_of_getElem? (i := 147) (by decide +kernel))))
theorem cwu5_23 : (Cond.code yX1_dump cX1_dump 3 (some .int)) ∈ lw_tbl := List.mem_append_right _ (List.mem_append_right _ (List.mem_append_left _ (List.mem_of_getElem? (i := 148) (by decide +kernel))))
theorem cwu5_24 : (Cond.methodLink RX1 128 yX0_clear) ∈ lw_tbl := List.mem_append_right _ (List.mem_append_right _ (List.mem_append_left _ (List.mem_of_getElem? (i := 149) (by decide +kernel))))
theorem cwu5_25 : (Cond.instanceMethod yX0_clear) ∈ lw_tbl := List.mem_append_right _ (List.mem_append_right _ (List.mem_append_left _ (List.mem_of_getElem? (i := 150) (by decide +kernel))))
theorem cwu5_26 : (Cond.selects RX0 yX0_clear yX0_clear) ∈ lw_tbl := List.mem_append_right _ (List.mem_append_right _ (List.mem_append_left _ (List.mem_of_getElem? (i := 151) (by decide +kernel))))
theorem cwu5_27 : (Cond.code yX0_clear cX0_clear 1 none) ∈ lw_tbl := List.mem_append_right _ (List.mem_append_right _ (List.mem_append_left _ (List.mem_of_getElem? (i := 152) (by decide +kernel))))
theorem cwu5_28 : (Cond.classLink RL 51 RX2) ∈ lw_tbl := List.mem_append_right _ (List.mem_append_right _ (List.mem_append_left _ (List.mem_of_getElem? (i := 153) (by decide +kernel))))
theorem cwu5_29 : (Cond.instantiable RX2 18) ∈ lw_tbl := List.mem_append_right _ (List.mem_append_right _ (List.mem_append_left _ (List.mem_of_getElem? (i := 154) (by decide +kernel))))
theorem cwu5_30 : (Cond.methodLink RL 53 yX2_init) ∈ lw_tbl := List.mem_append_right _ (List.mem_append_right _ (List.mem_append_left _ (List.mem_of_getElem? (i := 155) (by decide +kernel))))
theorem cwu5_31 : (Cond.instanceMethod yX2_init) ∈ lw_tbl := List.mem_append_right _ (List.mem_append_right _ (List.mem_append_left _ (List.mem_of_getElem? (i := 156) (by decide +kernel))))
theorem cwu5_32 : (Cond.code yX2_init cX2_init 2 none) ∈ lw_tbl := List.mem_append_right _ (List.mem_append_right _ (List.mem_append_left _ (List.mem_of_getElem? (i := 157) (by decide +kernel))))
theorem cwu5_33 : (Cond.methodLink RX2 1 objectInit) ∈ lw_tbl := List.mem_append_right _ (List.mem_append_right _ (List.mem_append_left _ (List.mem_of_getElem? (i := 158) (by decide +kernel))))
theorem cwu5_34 : (Cond.constant RX2 38 (49000)) ∈ lw_tbl := List.mem_append_right _ (List.mem_append_right _ (List.mem_append_left _ (List.mem_of_getElem? (i := 159) (by decide +kernel))))
theorem cwu5_35 : (Cond.fieldLink RX2 54 RX2 "thrown" "I") ∈ lw_tbl := List.mem_append_right _ (List.mem_append_right _ (List.mem_append_left _ (List.mem_of_getElem? (i := 160) (by decide +kernel))))
theorem cwu5_36 : (Cond.fieldLink RX2 74 RX2 "time" "I") ∈ lw_tbl := List.mem_append_right _ (List.mem_append_right _ (List.mem_append_left _ (List.mem_of_getElem? (i := 161) (by decide +kernel))))
theorem cwu5_37 : (Cond.fieldLink RX2 7 RX2 "money" "I") ∈ lw_tbl := List.mem_append_right _ (List.mem_append_right _ (List.mem_append_left _ (List.mem_of_getElem? (i := 162) (by decide +kernel))))
theorem cwu5_38 : (Cond.fieldLink RX2 91 RX2 "earned" "I") ∈ lw_tbl := List.mem_append_right _ (List.mem_append_right _ (List.mem_append_left _ (List.mem_of_getElem? (i := 163) (by decide +kernel))))
theorem cwu5_39 : (Cond.fieldLink RX2 98 RX2 "spent" "I") ∈ lw_tbl := List.mem_append_right _ (List.mem_append_right _ (List.mem_append_left _ (List.mem_of_getElem? (i := 164) (by decide +kernel))))
theorem cwu5_40 : (Cond.fieldLink RX2 13 RX2 "columns" "[I") ∈ lw_tbl := List.mem_append_right _ (List.mem_append_right _ (List.mem_append_left _ (List.mem_of_getElem? (i := 165) (by decide +kernel))))
theorem cwu5_41 : (Cond.fieldLink RX2 17 RX2 "lines" "[I") ∈ lw_tbl := List.mem_append_right _ (List.mem_append_right _ (List.mem_append_left _ (List.mem_of_getElem? (i := 166) (by decide +kernel))))
theorem cwu5_42 : (Cond.fieldLink RX2 20 RX2 "accepts" "[I") ∈ lw_tbl := List.mem_append_right _ (List.mem_append_right _ (List.mem_append_left _ (List.mem_of_getElem? (i := 167) (by decide +kernel))))
theorem cwu5_43 : (Cond.fieldLink RX2 23 RX2 "rates" "[I") ∈ lw_tbl := List.mem_append_right _ (List.mem_append_right _ (List.mem_append_left _ (List.mem_of_getElem? (i := 168) (by decide +kernel))))
theorem cwu5_44 : (Cond.fieldLink RX2 26 RX2 "made" "[I") ∈ lw_tbl := List.mem_append_right _ (List.mem_append_right _ (List.mem_append_left _ (List.mem_of_getElem? (i := 169) (by decide +kernel))))
theorem cwu5_45 : (Cond.fieldLink RX2 29 RX2 "wagonKind" "[I") ∈ lw_tbl := List.mem_append_right _ (List.mem_append_right _ (List.mem_append_left _ (List.mem_of_getElem? (i := 170) (by decide +kernel))))
theorem cwu5_46 : (Cond.fieldLink RX2 32 RX2 "wagonRoom" "[I") ∈ lw_tbl := List.mem_append_right _ (List.mem_append_right _ (List.mem_append_left _ (List.mem_of_getElem? (i := 171) (by decide +kernel))))
theorem cwu5_47 : (Cond.fieldLink RX2 35 RX2 "size" "[I") ∈ lw_tbl := List.mem_append_right _ (List.mem_append_right _ (List.mem_append_left _ (List.mem_of_getElem? (i := 172) (by decide +kernel))))
theorem cwu5_48 : (Cond.fieldLink RX2 39 RX2 "origins" "[I") ∈ lw_tbl := List.mem_append_right _ (List.mem_append_right _ (List.mem_append_left _ (List.mem_of_getElem? (i := 173) (by decide +kernel))))
theorem cwu5_49 : (Cond.fieldLink RX2 42 RX2 "born" "[I") ∈ lw_tbl := List.mem_append_right _ (List.mem_append_right _ (List.mem_append_left _ (List.mem_of_getElem? (i := 174) (by decide +kernel))))
theorem cwu5_50 : (Cond.fieldLink RX2 45 RX2 "produced" "[I") ∈ lw_tbl := List.mem_append_right _ (List.mem_append_right _ (List.mem_append_left _ (List.mem_of_getElem? (i := 175) (by decide +kernel))))
theorem cwu5_51 : (Cond.fieldLink RX2 48 RX2 "delivered" "[I") ∈ lw_tbl := List.mem_append_right _ (List.mem_append_right _ (List.mem_append_left _ (List.mem_of_getElem? (i := 176) (by decide +kernel))))
theorem cwu5_52 : (Cond.fieldLink RX2 51 RX2 "dumped" "[I") ∈ lw_tbl := List.mem_append_right _ (List.mem_append_right _ (List.mem_append_left _ (List.mem_of_getElem? (i := 177) (by decide +kernel))))
theorem cwu5_53 : (Cond.lays RX2 RX2 "thrown" "I") ∈ lw_tbl := List.mem_append_right _ (List.mem_append_right _ (List.mem_append_left _ (List.mem_of_getElem? (i := 178) (by decide +kernel))))
theorem cwu5_54 : (Cond.lays RX2 RX2 "time" "I") ∈ lw_tbl := List.mem_append_right _ (List.mem_append_right _ (List.mem_append_left _ (List.mem_of_getElem? (i := 180) (by decide +kernel))))
theorem cwu5_55 : (Cond.lays RX2 RX2 "money" "I") ∈ lw_tbl := List.mem_append_right _ (List.mem_append_right _ (List.mem_append_left _ (List.mem_of_getElem? (i := 182) (by decide +kernel))))
theorem cwu5_56 : (Cond.lays RX2 RX2 "earned" "I") ∈ lw_tbl := List.mem_append_right _ (List.mem_append_right _ (List.mem_append_left _ (List.mem_of_getElem? (i := 184) (by decide +kernel))))
theorem cwu5_57 : (Cond.lays RX2 RX2 "spent" "I") ∈ lw_tbl := List.mem_append_right _ (List.mem_append_right _ (List.mem_append_left _ (List.mem_of_getElem? (i := 186) (by decide +kernel))))
theorem cwu5_58 : (Cond.laysFinal RX2 RX2 "columns" "[I") ∈ lw_tbl := List.mem_append_right _ (List.mem_append_right _ (List.mem_append_left _ (List.mem_of_getElem? (i := 188) (by decide +kernel))))
theorem cwu5_59 : (Cond.laysFinal RX2 RX2 "lines" "[I") ∈ lw_tbl := List.mem_append_right _ (List.mem_append_right _ (List.mem_append_left _ (List.mem_of_getElem? (i := 190) (by decide +kernel))))
theorem cwt5 : ∀ w ∈ cw5, w ∈ lw_tbl := List.forall_mem_cons.mpr ⟨cwu5_0, List.forall_mem_cons.mpr ⟨cwu5_1, List.forall_mem_cons.mpr ⟨cwu5_2, List.forall_mem_cons.mpr ⟨cwu5_3, List.forall_mem_cons.mpr ⟨cwu5_4, List.forall_mem_cons.mpr ⟨cwu5_5, List.forall_mem_cons.mpr ⟨cwu5_6, List.forall_mem_cons.mpr ⟨cwu5_7, List.forall_mem_cons.mpr ⟨cwu5_8, List.forall_mem_cons.mpr ⟨cwu5_9, List.forall_mem_cons.mpr ⟨cwu5_10, List.forall_mem_cons.mpr ⟨cwu5_11, List.forall_mem_cons.mpr ⟨cwu5_12, List.forall_mem_cons.mpr ⟨cwu5_13, List.forall_mem_cons.mpr ⟨cwu5_14, List.forall_mem_cons.mpr ⟨cwu5_15, List.forall_mem_cons.mpr ⟨cwu5_16, List.forall_mem_cons.mpr ⟨cwu5_17, List.forall_mem_cons.mpr ⟨cwu5_18, List.forall_mem_cons.mpr ⟨cwu5_19, List.forall_mem_cons.mpr ⟨cwu5_20, List.forall_mem_cons.mpr ⟨cwu5_21, List.forall_mem_cons.mpr ⟨cwu5_22, List.forall_mem_cons.mpr ⟨cwu5_23, List.forall_mem_cons.mpr ⟨cwu5_24, List.forall_mem_cons.mpr ⟨cwu5_25, List.forall_mem_cons.mpr ⟨cwu5_26, List.forall_mem_cons.mpr ⟨cwu5_27, List.forall_mem_cons.mpr ⟨cwu5_28, List.forall_mem_cons.mpr ⟨cwu5_29, List.forall_mem_cons.mpr ⟨cwu5_30, List.forall_mem_cons.mpr ⟨cwu5_31, List.forall_mem_cons.mpr ⟨cwu5_32, List.forall_mem_cons.mpr ⟨cwu5_33, List.forall_mem_cons.mpr ⟨cwu5_34, List.forall_mem_cons.mpr ⟨cwu5_35, List.forall_mem_cons.mpr ⟨cwu5_36, List.forall_mem_cons.mpr ⟨cwu5_37, List.forall_mem_cons.mpr ⟨cwu5_38, List.forall_mem_cons.mpr ⟨cwu5_39, List.forall_mem_cons.mpr ⟨cwu5_40, List.forall_mem_cons.mpr ⟨cwu5_41, List.forall_mem_cons.mpr ⟨cwu5_42, List.forall_mem_cons.mpr ⟨cwu5_43, List.forall_mem_cons.mpr ⟨cwu5_44, List.forall_mem_cons.mpr ⟨cwu5_45, List.forall_mem_cons.mpr ⟨cwu5_46, List.forall_mem_cons.mpr ⟨cwu5_47, List.forall_mem_cons.mpr ⟨cwu5_48, List.forall_mem_cons.mpr ⟨cwu5_49, List.forall_mem_cons.mpr ⟨cwu5_50, List.forall_mem_cons.mpr ⟨cwu5_51, List.forall_mem_cons.mpr ⟨cwu5_52, List.forall_mem_cons.mpr ⟨cwu5_53, List.forall_mem_cons.mpr ⟨cwu5_54, List.forall_mem_cons.mpr ⟨cwu5_55, List.forall_mem_cons.mpr ⟨cwu5_56, List.forall_mem_cons.mpr ⟨cwu5_57, List.forall_mem_cons.mpr ⟨cwu5_58, List.forall_mem_cons.mpr ⟨cwu5_59, fun _ h => absurd h List.not_mem_nil⟩⟩⟩⟩⟩⟩⟩⟩⟩⟩⟩⟩⟩⟩⟩⟩⟩⟩⟩⟩⟩⟩⟩⟩⟩⟩⟩⟩⟩⟩⟩⟩⟩⟩⟩⟩⟩⟩⟩⟩⟩⟩⟩⟩⟩⟩⟩⟩⟩⟩⟩⟩⟩⟩⟩⟩⟩⟩⟩⟩
theorem cwi6 {w : Cond} (h : w ∈ cw6) : w ∈ cwL := List.mem_append_right _ (List.mem_append_right _ (List.mem_append_right _ (List.mem_append_right _ (List.mem_append_right _ (List.mem_append_right _ (List.mem_append_left _ h))))))
theorem cwg6 : cw6.all goodWord = true := by decide +kernel
theorem cwu6_0 : (Cond.laysFinal RX2 RX2 "accepts" "[I") ∈ lw_tbl := List.mem_append_right _ (List.mem_append_right _ (List.mem_append_left _ (List.mem_of_getElem? (i := 192) (by decide +kernel))))
theorem cwu6_1 : (Cond.laysFinal RX2 RX2 "rates" "[I") ∈ lw_tbl := List.mem_append_right _ (List.mem_append_right _ (List.mem_append_left _ (List.mem_of_getElem? (i := 194) (by decide +kernel))))
theorem cwu6_2 : (Cond.laysFinal RX2 RX2 "made" "[I") ∈ lw_tbl := List.mem_append_right _ (List.mem_append_right _ (List.mem_append_left _ (List.mem_of_getElem? (i := 196) (by decide +kernel))))
theorem cwu6_3 : (Cond.laysFinal RX2 RX2 "wagonKind" "[I") ∈ lw_tbl := List.mem_append_right _ (List.mem_append_right _ (List.mem_append_left _ (List.mem_of_getElem? (i := 198) (by decide +kernel))))
theorem cwu6_4 : (Cond.laysFinal RX2 RX2 "wagonRoom" "[I") ∈ lw_tbl := List.mem_append_right _ (List.mem_append_right _ (List.mem_append_left _ (List.mem_of_getElem? (i := 200) (by decide +kernel))))
theorem cwu6_5 : (Cond.laysFinal RX2 RX2 "size" "[I") ∈ lw_tbl := List.mem_append_right _ (List.mem_append_right _ (List.mem_append_left _ (List.mem_of_getElem? (i := 202) (by decide +kernel))))
theorem cwu6_6 : (Cond.laysFinal RX2 RX2 "origins" "[I") ∈ lw_tbl := List.mem_append_right _ (List.mem_append_right _ (List.mem_append_left _ (List.mem_of_getElem? (i := 204) (by decide +kernel))))
theorem cwu6_7 : (Cond.laysFinal RX2 RX2 "born" "[I") ∈ lw_tbl := List.mem_append_right _ (List.mem_append_right _ (List.mem_append_left _ (List.mem_of_getElem? (i := 206) (by decide +kernel))))
theorem cwu6_8 : (Cond.laysFinal RX2 RX2 "produced" "[I") ∈ lw_tbl := List.mem_append_right _ (List.mem_append_right _ (List.mem_append_left _ (List.mem_of_getElem? (i := 208) (by decide +kernel))))
theorem cwu6_9 : (Cond.laysFinal RX2 RX2 "delivered" "[I") ∈ lw_tbl := List.mem_append_right _ (List.mem_append_right _ (List.mem_append_left _ (List.mem_of_getElem? (i := 210) (by decide +kernel))))
theorem cwu6_10 : (Cond.laysFinal RX2 RX2 "dumped" "[I") ∈ lw_tbl := List.mem_append_right _ (List.mem_append_right _ (List.mem_append_left _ (List.mem_of_getElem? (i := 212) (by decide +kernel))))
theorem cwu6_11 : (Cond.superclass RX2 "java/lang/Object") ∈ lw_tbl := List.mem_append_right _ (List.mem_append_right _ (List.mem_append_left _ (List.mem_of_getElem? (i := 214) (by decide +kernel))))
theorem cwu6_12 : (Cond.methodLink RL 60 yX2_thrown) ∈ lw_tbl := List.mem_append_right _ (List.mem_append_right _ (List.mem_append_left _ (List.mem_of_getElem? (i := 215) (by decide +kernel))))
theorem cwu6_13 : (Cond.instanceMethod yX2_thrown) ∈ lw_tbl := List.mem_append_right _ (List.mem_append_right _ (List.mem_append_left _ (List.mem_of_getElem? (i := 216) (by decide +kernel))))
theorem cwu6_14 : (Cond.selects RX2 yX2_thrown yX2_thrown) ∈ lw_tbl := List.mem_append_right _ (List.mem_append_right _ (List.mem_append_left _ (List.mem_of_getElem? (i := 217) (by decide +kernel))))
theorem cwu6_15 : (Cond.code yX2_thrown cX2_thrown 1 (some .int)) ∈ lw_tbl := List.mem_append_right _ (List.mem_append_right _ (List.mem_append_left _ (List.mem_of_getElem? (i := 218) (by decide +kernel))))
theorem cwu6_16 : (Cond.methodLink RL 59 yX2_place) ∈ lw_tbl := List.mem_append_right _ (List.mem_append_right _ (List.mem_append_left _ (List.mem_of_getElem? (i := 219) (by decide +kernel))))
theorem cwu6_17 : (Cond.instanceMethod yX2_place) ∈ lw_tbl := List.mem_append_right _ (List.mem_append_right _ (List.mem_append_left _ (List.mem_of_getElem? (i := 220) (by decide +kernel))))
theorem cwu6_18 : (Cond.selects RX2 yX2_place yX2_place) ∈ lw_tbl := List.mem_append_right _ (List.mem_append_right _ (List.mem_append_left _ (List.mem_of_getElem? (i := 221) (by decide +kernel))))
theorem cwu6_19 : (Cond.code yX2_place cX2_place 4 none) ∈ lw_tbl := List.mem_append_right _ (List.mem_append_right _ (List.mem_append_left _ (List.mem_of_getElem? (i := 222) (by decide +kernel))))
theorem cwu6_20 : (Cond.methodLink RX2 77 yX2_in) ∈ lw_tbl := List.mem_append_right _ (List.mem_append_right _ (List.mem_append_left _ (List.mem_of_getElem? (i := 223) (by decide +kernel))))
theorem cwu6_21 : (Cond.static yX2_in) ∈ lw_tbl := List.mem_append_right _ (List.mem_append_right _ (List.mem_append_left _ (List.mem_of_getElem? (i := 224) (by decide +kernel))))
theorem cwu6_22 : (Cond.code yX2_in cX2_in 2 (some .boolean)) ∈ lw_tbl := List.mem_append_right _ (List.mem_append_right _ (List.mem_append_left _ (List.mem_of_getElem? (i := 225) (by decide +kernel))))
theorem cwu6_23 : (Cond.methodLink RL 66 yX2_rate) ∈ lw_tbl := List.mem_append_right _ (List.mem_append_right _ (List.mem_append_left _ (List.mem_of_getElem? (i := 226) (by decide +kernel))))
theorem cwu6_24 : (Cond.instanceMethod yX2_rate) ∈ lw_tbl := List.mem_append_right _ (List.mem_append_right _ (List.mem_append_left _ (List.mem_of_getElem? (i := 227) (by decide +kernel))))
theorem cwu6_25 : (Cond.selects RX2 yX2_rate yX2_rate) ∈ lw_tbl := List.mem_append_right _ (List.mem_append_right _ (List.mem_append_left _ (List.mem_of_getElem? (i := 228) (by decide +kernel))))
theorem cwu6_26 : (Cond.code yX2_rate cX2_rate 4 none) ∈ lw_tbl := List.mem_append_right _ (List.mem_append_right _ (List.mem_append_left _ (List.mem_of_getElem? (i := 229) (by decide +kernel))))
theorem cwu6_27 : (Cond.methodLink RL 70 yX2_accept) ∈ lw_tbl := List.mem_append_right _ (List.mem_append_right _ (List.mem_append_left _ (List.mem_of_getElem? (i := 230) (by decide +kernel))))
theorem cwu6_28 : (Cond.instanceMethod yX2_accept) ∈ lw_tbl := List.mem_append_right _ (List.mem_append_right _ (List.mem_append_left _ (List.mem_of_getElem? (i := 231) (by decide +kernel))))
theorem cwu6_29 : (Cond.selects RX2 yX2_accept yX2_accept) ∈ lw_tbl := List.mem_append_right _ (List.mem_append_right _ (List.mem_append_left _ (List.mem_of_getElem? (i := 232) (by decide +kernel))))
theorem cwu6_30 : (Cond.code yX2_accept cX2_accept 3 none) ∈ lw_tbl := List.mem_append_right _ (List.mem_append_right _ (List.mem_append_left _ (List.mem_of_getElem? (i := 233) (by decide +kernel))))
theorem cwu6_31 : (Cond.methodLink RL 73 yX2_make) ∈ lw_tbl := List.mem_append_right _ (List.mem_append_right _ (List.mem_append_left _ (List.mem_of_getElem? (i := 234) (by decide +kernel))))
theorem cwu6_32 : (Cond.instanceMethod yX2_make) ∈ lw_tbl := List.mem_append_right _ (List.mem_append_right _ (List.mem_append_left _ (List.mem_of_getElem? (i := 235) (by decide +kernel))))
theorem cwu6_33 : (Cond.selects RX2 yX2_make yX2_make) ∈ lw_tbl := List.mem_append_right _ (List.mem_append_right _ (List.mem_append_left _ (List.mem_of_getElem? (i := 236) (by decide +kernel))))
theorem cwu6_34 : (Cond.code yX2_make cX2_make 4 none) ∈ lw_tbl := List.mem_append_right _ (List.mem_append_right _ (List.mem_append_left _ (List.mem_of_getElem? (i := 237) (by decide +kernel))))
theorem cwu6_35 : (Cond.methodLink RL 76 yX2_wagon) ∈ lw_tbl := List.mem_append_right _ (List.mem_append_right _ (List.mem_append_left _ (List.mem_of_getElem? (i := 238) (by decide +kernel))))
theorem cwu6_36 : (Cond.instanceMethod yX2_wagon) ∈ lw_tbl := List.mem_append_right _ (List.mem_append_right _ (List.mem_append_left _ (List.mem_of_getElem? (i := 239) (by decide +kernel))))
theorem cwu6_37 : (Cond.selects RX2 yX2_wagon yX2_wagon) ∈ lw_tbl := List.mem_append_right _ (List.mem_append_right _ (List.mem_append_right _ (List.mem_of_getElem? (i := 0) (by decide +kernel))))
theorem cwu6_38 : (Cond.code yX2_wagon cX2_wagon 4 none) ∈ lw_tbl := List.mem_append_right _ (List.mem_append_right _ (List.mem_append_right _ (List.mem_of_getElem? (i := 1) (by decide +kernel))))
theorem cwu6_39 : (Cond.methodLink RL 80 yX2_pass) ∈ lw_tbl := List.mem_append_right _ (List.mem_append_right _ (List.mem_append_right _ (List.mem_of_getElem? (i := 2) (by decide +kernel))))
theorem cwu6_40 : (Cond.instanceMethod yX2_pass) ∈ lw_tbl := List.mem_append_right _ (List.mem_append_right _ (List.mem_append_right _ (List.mem_of_getElem? (i := 3) (by decide +kernel))))
theorem cwu6_41 : (Cond.selects RX2 yX2_pass yX2_pass) ∈ lw_tbl := List.mem_append_right _ (List.mem_append_right _ (List.mem_append_right _ (List.mem_of_getElem? (i := 4) (by decide +kernel))))
theorem cwu6_42 : (Cond.code yX2_pass cX2_pass 5 (some .int)) ∈ lw_tbl := List.mem_append_right _ (List.mem_append_right _ (List.mem_append_right _ (List.mem_of_getElem? (i := 5) (by decide +kernel))))
theorem cwu6_43 : (Cond.constant RX2 73 (2000000000)) ∈ lw_tbl := List.mem_append_right _ (List.mem_append_right _ (List.mem_append_right _ (List.mem_of_getElem? (i := 6) (by decide +kernel))))
theorem cwu6_44 : (Cond.methodLink RX2 80 yX2_produce) ∈ lw_tbl := List.mem_append_right _ (List.mem_append_right _ (List.mem_append_right _ (List.mem_of_getElem? (i := 7) (by decide +kernel))))
theorem cwu6_45 : (Cond.instanceMethod yX2_produce) ∈ lw_tbl := List.mem_append_right _ (List.mem_append_right _ (List.mem_append_right _ (List.mem_of_getElem? (i := 9) (by decide +kernel))))
theorem cwu6_46 : (Cond.code yX2_produce cX2_produce 3 none) ∈ lw_tbl := List.mem_append_right _ (List.mem_append_right _ (List.mem_append_right _ (List.mem_of_getElem? (i := 10) (by decide +kernel))))
theorem cwu6_47 : (Cond.methodLink RX2 69 yX2_put) ∈ lw_tbl := List.mem_append_right _ (List.mem_append_right _ (List.mem_append_right _ (List.mem_of_getElem? (i := 11) (by decide +kernel))))
theorem cwu6_48 : (Cond.instanceMethod yX2_put) ∈ lw_tbl := List.mem_append_right _ (List.mem_append_right _ (List.mem_append_right _ (List.mem_of_getElem? (i := 13) (by decide +kernel))))
theorem cwu6_49 : (Cond.code yX2_put cX2_put 6 none) ∈ lw_tbl := List.mem_append_right _ (List.mem_append_right _ (List.mem_append_right _ (List.mem_of_getElem? (i := 14) (by decide +kernel))))
theorem cwu6_50 : (Cond.methodLink RX2 61 yX2_packets) ∈ lw_tbl := List.mem_append_right _ (List.mem_append_right _ (List.mem_append_right _ (List.mem_of_getElem? (i := 15) (by decide +kernel))))
theorem cwu6_51 : (Cond.instanceMethod yX2_packets) ∈ lw_tbl := List.mem_append_right _ (List.mem_append_right _ (List.mem_append_right _ (List.mem_of_getElem? (i := 17) (by decide +kernel))))
theorem cwu6_52 : (Cond.code yX2_packets cX2_packets 4 (some .int)) ∈ lw_tbl := List.mem_append_right _ (List.mem_append_right _ (List.mem_append_right _ (List.mem_of_getElem? (i := 18) (by decide +kernel))))
theorem cwu6_53 : (Cond.methodLink RX2 57 yX2_isFirst) ∈ lw_tbl := List.mem_append_right _ (List.mem_append_right _ (List.mem_append_right _ (List.mem_of_getElem? (i := 19) (by decide +kernel))))
theorem cwu6_54 : (Cond.instanceMethod yX2_isFirst) ∈ lw_tbl := List.mem_append_right _ (List.mem_append_right _ (List.mem_append_right _ (List.mem_of_getElem? (i := 21) (by decide +kernel))))
theorem cwu6_55 : (Cond.code yX2_isFirst cX2_isFirst 3 (some .boolean)) ∈ lw_tbl := List.mem_append_right _ (List.mem_append_right _ (List.mem_append_right _ (List.mem_of_getElem? (i := 22) (by decide +kernel))))
theorem cwu6_56 : (Cond.methodLink RL 84 yX2_load) ∈ lw_tbl := List.mem_append_right _ (List.mem_append_right _ (List.mem_append_right _ (List.mem_of_getElem? (i := 23) (by decide +kernel))))
theorem cwu6_57 : (Cond.instanceMethod yX2_load) ∈ lw_tbl := List.mem_append_right _ (List.mem_append_right _ (List.mem_append_right _ (List.mem_of_getElem? (i := 24) (by decide +kernel))))
theorem cwu6_58 : (Cond.selects RX2 yX2_load yX2_load) ∈ lw_tbl := List.mem_append_right _ (List.mem_append_right _ (List.mem_append_right _ (List.mem_of_getElem? (i := 25) (by decide +kernel))))
theorem cwu6_59 : (Cond.code yX2_load cX2_load 6 (some .int)) ∈ lw_tbl := List.mem_append_right _ (List.mem_append_right _ (List.mem_append_right _ (List.mem_of_getElem? (i := 26) (by decide +kernel))))
theorem cwt6 : ∀ w ∈ cw6, w ∈ lw_tbl := List.forall_mem_cons.mpr ⟨cwu6_0, List.forall_mem_cons.mpr ⟨cwu6_1, List.forall_mem_cons.mpr ⟨cwu6_2, List.forall_mem_cons.mpr ⟨cwu6_3, List.forall_mem_cons.mpr ⟨cwu6_4, List.forall_mem_cons.mpr ⟨cwu6_5, List.forall_mem_cons.mpr ⟨cwu6_6, List.forall_mem_cons.mpr ⟨cwu6_7, List.forall_mem_cons.mpr ⟨cwu6_8, List.forall_mem_cons.mpr ⟨cwu6_9, List.forall_mem_cons.mpr ⟨cwu6_10, List.forall_mem_cons.mpr ⟨cwu6_11, List.forall_mem_cons.mpr ⟨cwu6_12, List.forall_mem_cons.mpr ⟨cwu6_13, List.forall_mem_cons.mpr ⟨cwu6_14, List.forall_mem_cons.mpr ⟨cwu6_15, List.forall_mem_cons.mpr ⟨cwu6_16, List.forall_mem_cons.mpr ⟨cwu6_17, List.forall_mem_cons.mpr ⟨cwu6_18, List.forall_mem_cons.mpr ⟨cwu6_19, List.forall_mem_cons.mpr ⟨cwu6_20, List.forall_mem_cons.mpr ⟨cwu6_21, List.forall_mem_cons.mpr ⟨cwu6_22, List.forall_mem_cons.mpr ⟨cwu6_23, List.forall_mem_cons.mpr ⟨cwu6_24, List.forall_mem_cons.mpr ⟨cwu6_25, List.forall_mem_cons.mpr ⟨cwu6_26, List.forall_mem_cons.mpr ⟨cwu6_27, List.forall_mem_cons.mpr ⟨cwu6_28, List.forall_mem_cons.mpr ⟨cwu6_29, List.forall_mem_cons.mpr ⟨cwu6_30, List.forall_mem_cons.mpr ⟨cwu6_31, List.forall_mem_cons.mpr ⟨cwu6_32, List.forall_mem_cons.mpr ⟨cwu6_33, List.forall_mem_cons.mpr ⟨cwu6_34, List.forall_mem_cons.mpr ⟨cwu6_35, List.forall_mem_cons.mpr ⟨cwu6_36, List.forall_mem_cons.mpr ⟨cwu6_37, List.forall_mem_cons.mpr ⟨cwu6_38, List.forall_mem_cons.mpr ⟨cwu6_39, List.forall_mem_cons.mpr ⟨cwu6_40, List.forall_mem_cons.mpr ⟨cwu6_41, List.forall_mem_cons.mpr ⟨cwu6_42, List.forall_mem_cons.mpr ⟨cwu6_43, List.forall_mem_cons.mpr ⟨cwu6_44, List.forall_mem_cons.mpr ⟨cwu6_45, List.forall_mem_cons.mpr ⟨cwu6_46, List.forall_mem_cons.mpr ⟨cwu6_47, List.forall_mem_cons.mpr ⟨cwu6_48, List.forall_mem_cons.mpr ⟨cwu6_49, List.forall_mem_cons.mpr ⟨cwu6_50, List.forall_mem_cons.mpr ⟨cwu6_51, List.forall_mem_cons.mpr ⟨cwu6_52, List.forall_mem_cons.mpr ⟨cwu6_53, List.forall_mem_cons.mpr ⟨cwu6_54, List.forall_mem_cons.mpr ⟨cwu6_55, List.forall_mem_cons.mpr ⟨cwu6_56, List.forall_mem_cons.mpr ⟨cwu6_57, List.forall_mem_cons.mpr ⟨cwu6_58, List.forall_mem_cons.mpr ⟨cwu6_59, fun _ h => absurd h List.not_mem_nil⟩⟩⟩⟩⟩⟩⟩⟩⟩⟩⟩⟩⟩⟩⟩⟩⟩⟩⟩⟩⟩⟩⟩⟩⟩⟩⟩⟩⟩⟩⟩⟩⟩⟩⟩⟩⟩⟩⟩⟩⟩⟩⟩⟩⟩⟩⟩⟩⟩⟩⟩⟩⟩⟩⟩⟩⟩⟩⟩⟩
theorem cwi7 {w : Cond} (h : w ∈ cw7) : w ∈ cwL := List.mem_append_right _ (List.mem_append_right _ (List.mem_append_right _ (List.mem_append_right _ (List.mem_append_right _ (List.mem_append_right _ (List.mem_append_right _ (List.mem_append_left _ h)))))))
theorem cwg7 : cw7.all goodWord = true := by decide +kernel
theorem cwu7_0 : (Cond.methodLink RX2 84 yX2_move) ∈ lw_tbl := List.mem_append_right _ (List.mem_append_right _ (List.mem_append_right _ (List.mem_of_getElem? (i := 27) (by decide +kernel))))
theorem cwu7_1 : (Cond.instanceMethod yX2_move) ∈ lw_tbl := List.mem_append_right _ (List.mem_append_right _ (List.mem_append_right _ (List.mem_of_getElem? (i := 29) (by decide +kernel))))
theorem cwu7_2 : (Cond.code yX2_move cX2_move 5 none) ∈ lw_tbl := List.mem_append_right _ (List.mem_append_right _ (List.mem_append_right _ (List.mem_of_getElem? (i := 30) (by decide +kernel))))
theorem cwu7_3 : (Cond.methodLink RX2 65 yX2_drop) ∈ lw_tbl := List.mem_append_right _ (List.mem_append_right _ (List.mem_append_right _ (List.mem_of_getElem? (i := 31) (by decide +kernel))))
theorem cwu7_4 : (Cond.instanceMethod yX2_drop) ∈ lw_tbl := List.mem_append_right _ (List.mem_append_right _ (List.mem_append_right _ (List.mem_of_getElem? (i := 33) (by decide +kernel))))
theorem cwu7_5 : (Cond.code yX2_drop cX2_drop 3 none) ∈ lw_tbl := List.mem_append_right _ (List.mem_append_right _ (List.mem_append_right _ (List.mem_of_getElem? (i := 34) (by decide +kernel))))
theorem cwu7_6 : (Cond.methodLink RL 87 yX2_unload) ∈ lw_tbl := List.mem_append_right _ (List.mem_append_right _ (List.mem_append_right _ (List.mem_of_getElem? (i := 35) (by decide +kernel))))
theorem cwu7_7 : (Cond.instanceMethod yX2_unload) ∈ lw_tbl := List.mem_append_right _ (List.mem_append_right _ (List.mem_append_right _ (List.mem_of_getElem? (i := 36) (by decide +kernel))))
theorem cwu7_8 : (Cond.selects RX2 yX2_unload yX2_unload) ∈ lw_tbl := List.mem_append_right _ (List.mem_append_right _ (List.mem_append_right _ (List.mem_of_getElem? (i := 37) (by decide +kernel))))
theorem cwu7_9 : (Cond.code yX2_unload cX2_unload 9 (some .int)) ∈ lw_tbl := List.mem_append_right _ (List.mem_append_right _ (List.mem_append_right _ (List.mem_of_getElem? (i := 38) (by decide +kernel))))
theorem cwu7_10 : (Cond.methodLink RX2 94 yX2_pay) ∈ lw_tbl := List.mem_append_right _ (List.mem_append_right _ (List.mem_append_right _ (List.mem_of_getElem? (i := 39) (by decide +kernel))))
theorem cwu7_11 : (Cond.instanceMethod yX2_pay) ∈ lw_tbl := List.mem_append_right _ (List.mem_append_right _ (List.mem_append_right _ (List.mem_of_getElem? (i := 41) (by decide +kernel))))
theorem cwu7_12 : (Cond.code yX2_pay cX2_pay 6 none) ∈ lw_tbl := List.mem_append_right _ (List.mem_append_right _ (List.mem_append_right _ (List.mem_of_getElem? (i := 42) (by decide +kernel))))
theorem cwu7_13 : (Cond.methodLink RX2 87 yX2_apart) ∈ lw_tbl := List.mem_append_right _ (List.mem_append_right _ (List.mem_append_right _ (List.mem_of_getElem? (i := 43) (by decide +kernel))))
theorem cwu7_14 : (Cond.static yX2_apart) ∈ lw_tbl := List.mem_append_right _ (List.mem_append_right _ (List.mem_append_right _ (List.mem_of_getElem? (i := 44) (by decide +kernel))))
theorem cwu7_15 : (Cond.code yX2_apart cX2_apart 2 (some .int)) ∈ lw_tbl := List.mem_append_right _ (List.mem_append_right _ (List.mem_append_right _ (List.mem_of_getElem? (i := 45) (by decide +kernel))))
theorem cwu7_16 : (Cond.methodLink RL 90 yX2_pour) ∈ lw_tbl := List.mem_append_right _ (List.mem_append_right _ (List.mem_append_right _ (List.mem_of_getElem? (i := 46) (by decide +kernel))))
theorem cwu7_17 : (Cond.instanceMethod yX2_pour) ∈ lw_tbl := List.mem_append_right _ (List.mem_append_right _ (List.mem_append_right _ (List.mem_of_getElem? (i := 47) (by decide +kernel))))
theorem cwu7_18 : (Cond.selects RX2 yX2_pour yX2_pour) ∈ lw_tbl := List.mem_append_right _ (List.mem_append_right _ (List.mem_append_right _ (List.mem_of_getElem? (i := 48) (by decide +kernel))))
theorem cwu7_19 : (Cond.code yX2_pour cX2_pour 4 none) ∈ lw_tbl := List.mem_append_right _ (List.mem_append_right _ (List.mem_append_right _ (List.mem_of_getElem? (i := 49) (by decide +kernel))))
theorem cwu7_20 : (Cond.methodLink RL 93 yX2_part) ∈ lw_tbl := List.mem_append_right _ (List.mem_append_right _ (List.mem_append_right _ (List.mem_of_getElem? (i := 50) (by decide +kernel))))
theorem cwu7_21 : (Cond.instanceMethod yX2_part) ∈ lw_tbl := List.mem_append_right _ (List.mem_append_right _ (List.mem_append_right _ (List.mem_of_getElem? (i := 51) (by decide +kernel))))
theorem cwu7_22 : (Cond.selects RX2 yX2_part yX2_part) ∈ lw_tbl := List.mem_append_right _ (List.mem_append_right _ (List.mem_append_right _ (List.mem_of_getElem? (i := 52) (by decide +kernel))))
theorem cwu7_23 : (Cond.code yX2_part cX2_part 7 none) ∈ lw_tbl := List.mem_append_right _ (List.mem_append_right _ (List.mem_append_right _ (List.mem_of_getElem? (i := 53) (by decide +kernel))))
theorem cwu7_24 : (Cond.constant RX2 97 (48000)) ∈ lw_tbl := List.mem_append_right _ (List.mem_append_right _ (List.mem_append_right _ (List.mem_of_getElem? (i := 54) (by decide +kernel))))
theorem cwu7_25 : (Cond.methodLink RL 96 yX2_dump) ∈ lw_tbl := List.mem_append_right _ (List.mem_append_right _ (List.mem_append_right _ (List.mem_of_getElem? (i := 55) (by decide +kernel))))
theorem cwu7_26 : (Cond.instanceMethod yX2_dump) ∈ lw_tbl := List.mem_append_right _ (List.mem_append_right _ (List.mem_append_right _ (List.mem_of_getElem? (i := 56) (by decide +kernel))))
theorem cwu7_27 : (Cond.selects RX2 yX2_dump yX2_dump) ∈ lw_tbl := List.mem_append_right _ (List.mem_append_right _ (List.mem_append_right _ (List.mem_of_getElem? (i := 57) (by decide +kernel))))
theorem cwu7_28 : (Cond.code yX2_dump cX2_dump 3 (some .int)) ∈ lw_tbl := List.mem_append_right _ (List.mem_append_right _ (List.mem_append_right _ (List.mem_of_getElem? (i := 58) (by decide +kernel))))
theorem cwu7_29 : (Cond.methodLink RL 101 yX2_spend) ∈ lw_tbl := List.mem_append_right _ (List.mem_append_right _ (List.mem_append_right _ (List.mem_of_getElem? (i := 59) (by decide +kernel))))
theorem cwu7_30 : (Cond.instanceMethod yX2_spend) ∈ lw_tbl := List.mem_append_right _ (List.mem_append_right _ (List.mem_append_right _ (List.mem_of_getElem? (i := 60) (by decide +kernel))))
theorem cwu7_31 : (Cond.selects RX2 yX2_spend yX2_spend) ∈ lw_tbl := List.mem_append_right _ (List.mem_append_right _ (List.mem_append_right _ (List.mem_of_getElem? (i := 61) (by decide +kernel))))
theorem cwu7_32 : (Cond.code yX2_spend cX2_spend 2 (some .boolean)) ∈ lw_tbl := List.mem_append_right _ (List.mem_append_right _ (List.mem_append_right _ (List.mem_of_getElem? (i := 62) (by decide +kernel))))
theorem cwu7_33 : (Cond.methodLink RL 106 yX2_packet) ∈ lw_tbl := List.mem_append_right _ (List.mem_append_right _ (List.mem_append_right _ (List.mem_of_getElem? (i := 63) (by decide +kernel))))
theorem cwu7_34 : (Cond.instanceMethod yX2_packet) ∈ lw_tbl := List.mem_append_right _ (List.mem_append_right _ (List.mem_append_right _ (List.mem_of_getElem? (i := 64) (by decide +kernel))))
theorem cwu7_35 : (Cond.selects RX2 yX2_packet yX2_packet) ∈ lw_tbl := List.mem_append_right _ (List.mem_append_right _ (List.mem_append_right _ (List.mem_of_getElem? (i := 65) (by decide +kernel))))
theorem cwu7_36 : (Cond.code yX2_packet cX2_packet 9 (some .int)) ∈ lw_tbl := List.mem_append_right _ (List.mem_append_right _ (List.mem_append_right _ (List.mem_of_getElem? (i := 66) (by decide +kernel))))
theorem cwu7_37 : (Cond.methodLink RX2 101 yX2_rowOf) ∈ lw_tbl := List.mem_append_right _ (List.mem_append_right _ (List.mem_append_right _ (List.mem_of_getElem? (i := 67) (by decide +kernel))))
theorem cwu7_38 : (Cond.instanceMethod yX2_rowOf) ∈ lw_tbl := List.mem_append_right _ (List.mem_append_right _ (List.mem_append_right _ (List.mem_of_getElem? (i := 69) (by decide +kernel))))
theorem cwu7_39 : (Cond.code yX2_rowOf cX2_rowOf 3 (some .int)) ∈ lw_tbl := List.mem_append_right _ (List.mem_append_right _ (List.mem_append_right _ (List.mem_of_getElem? (i := 70) (by decide +kernel))))
theorem cwu7_40 : (Cond.methodLink RL 111 yX2_units) ∈ lw_tbl := List.mem_append_right _ (List.mem_append_right _ (List.mem_append_right _ (List.mem_of_getElem? (i := 71) (by decide +kernel))))
theorem cwu7_41 : (Cond.instanceMethod yX2_units) ∈ lw_tbl := List.mem_append_right _ (List.mem_append_right _ (List.mem_append_right _ (List.mem_of_getElem? (i := 72) (by decide +kernel))))
theorem cwu7_42 : (Cond.selects RX2 yX2_units yX2_units) ∈ lw_tbl := List.mem_append_right _ (List.mem_append_right _ (List.mem_append_right _ (List.mem_of_getElem? (i := 73) (by decide +kernel))))
theorem cwu7_43 : (Cond.code yX2_units cX2_units 4 (some .int)) ∈ lw_tbl := List.mem_append_right _ (List.mem_append_right _ (List.mem_append_right _ (List.mem_of_getElem? (i := 74) (by decide +kernel))))
theorem cwu7_44 : (Cond.methodLink RL 115 yX2_count) ∈ lw_tbl := List.mem_append_right _ (List.mem_append_right _ (List.mem_append_right _ (List.mem_of_getElem? (i := 75) (by decide +kernel))))
theorem cwu7_45 : (Cond.instanceMethod yX2_count) ∈ lw_tbl := List.mem_append_right _ (List.mem_append_right _ (List.mem_append_right _ (List.mem_of_getElem? (i := 76) (by decide +kernel))))
theorem cwu7_46 : (Cond.selects RX2 yX2_count yX2_count) ∈ lw_tbl := List.mem_append_right _ (List.mem_append_right _ (List.mem_append_right _ (List.mem_of_getElem? (i := 77) (by decide +kernel))))
theorem cwu7_47 : (Cond.code yX2_count cX2_count 5 (some .int)) ∈ lw_tbl := List.mem_append_right _ (List.mem_append_right _ (List.mem_append_right _ (List.mem_of_getElem? (i := 78) (by decide +kernel))))
theorem cwu7_48 : (Cond.methodLink RL 119 yX2_sum) ∈ lw_tbl := List.mem_append_right _ (List.mem_append_right _ (List.mem_append_right _ (List.mem_of_getElem? (i := 79) (by decide +kernel))))
theorem cwu7_49 : (Cond.instanceMethod yX2_sum) ∈ lw_tbl := List.mem_append_right _ (List.mem_append_right _ (List.mem_append_right _ (List.mem_of_getElem? (i := 80) (by decide +kernel))))
theorem cwu7_50 : (Cond.selects RX2 yX2_sum yX2_sum) ∈ lw_tbl := List.mem_append_right _ (List.mem_append_right _ (List.mem_append_right _ (List.mem_of_getElem? (i := 81) (by decide +kernel))))
theorem cwu7_51 : (Cond.code yX2_sum cX2_sum 2 (some .int)) ∈ lw_tbl := List.mem_append_right _ (List.mem_append_right _ (List.mem_append_right _ (List.mem_of_getElem? (i := 82) (by decide +kernel))))
theorem cwu7_52 : (Cond.arrayClass .long) ∈ lw_tbl := List.mem_append_right _ (List.mem_append_right _ (List.mem_append_right _ (List.mem_of_getElem? (i := 83) (by decide +kernel))))
theorem cwu7_53 : (Cond.sameMethod "java/lang/Throwable" "java/lang/Throwable" "fillInStackTrace" "(I)Ljava/lang/Throwable;") ∈ lw_tbl := List.mem_append_right _ (List.mem_append_right _ (List.mem_append_right _ (List.mem_of_getElem? (i := 84) (by decide +kernel))))
theorem cwu7_54 : (Cond.selects RX1 yX1_rowAt yX1_rowAt) ∈ lw_tbl := List.mem_append_left _ (List.mem_of_getElem? (i := 0) (by decide +kernel))
theorem cwu7_55 : (Cond.selects RX1 yX1_unitsInStocks yX1_unitsInStocks) ∈ lw_tbl := List.mem_append_left _ (List.mem_of_getElem? (i := 1) (by decide +kernel))
theorem cwu7_56 : (Cond.selects RX1 yX1_unitsInWagons yX1_unitsInWagons) ∈ lw_tbl := List.mem_append_left _ (List.mem_of_getElem? (i := 2) (by decide +kernel))
theorem cwu7_57 : (Cond.selects RX1 yX1_produceEverywhere yX1_produceEverywhere) ∈ lw_tbl := List.mem_append_left _ (List.mem_of_getElem? (i := 4) (by decide +kernel))
theorem cwu7_58 : (Cond.selects RX1 yX1_produce yX1_produce) ∈ lw_tbl := List.mem_append_left _ (List.mem_of_getElem? (i := 5) (by decide +kernel))
theorem cwu7_59 : (Cond.selects RX0 yX0_lastIs yX0_lastIs) ∈ lw_tbl := List.mem_append_left _ (List.mem_of_getElem? (i := 6) (by decide +kernel))
theorem cwt7 : ∀ w ∈ cw7, w ∈ lw_tbl := List.forall_mem_cons.mpr ⟨cwu7_0, List.forall_mem_cons.mpr ⟨cwu7_1, List.forall_mem_cons.mpr ⟨cwu7_2, List.forall_mem_cons.mpr ⟨cwu7_3, List.forall_mem_cons.mpr ⟨cwu7_4, List.forall_mem_cons.mpr ⟨cwu7_5, List.forall_mem_cons.mpr ⟨cwu7_6, List.forall_mem_cons.mpr ⟨cwu7_7, List.forall_mem_cons.mpr ⟨cwu7_8, List.forall_mem_cons.mpr ⟨cwu7_9, List.forall_mem_cons.mpr ⟨cwu7_10, List.forall_mem_cons.mpr ⟨cwu7_11, List.forall_mem_cons.mpr ⟨cwu7_12, List.forall_mem_cons.mpr ⟨cwu7_13, List.forall_mem_cons.mpr ⟨cwu7_14, List.forall_mem_cons.mpr ⟨cwu7_15, List.forall_mem_cons.mpr ⟨cwu7_16, List.forall_mem_cons.mpr ⟨cwu7_17, List.forall_mem_cons.mpr ⟨cwu7_18, List.forall_mem_cons.mpr ⟨cwu7_19, List.forall_mem_cons.mpr ⟨cwu7_20, List.forall_mem_cons.mpr ⟨cwu7_21, List.forall_mem_cons.mpr ⟨cwu7_22, List.forall_mem_cons.mpr ⟨cwu7_23, List.forall_mem_cons.mpr ⟨cwu7_24, List.forall_mem_cons.mpr ⟨cwu7_25, List.forall_mem_cons.mpr ⟨cwu7_26, List.forall_mem_cons.mpr ⟨cwu7_27, List.forall_mem_cons.mpr ⟨cwu7_28, List.forall_mem_cons.mpr ⟨cwu7_29, List.forall_mem_cons.mpr ⟨cwu7_30, List.forall_mem_cons.mpr ⟨cwu7_31, List.forall_mem_cons.mpr ⟨cwu7_32, List.forall_mem_cons.mpr ⟨cwu7_33, List.forall_mem_cons.mpr ⟨cwu7_34, List.forall_mem_cons.mpr ⟨cwu7_35, List.forall_mem_cons.mpr ⟨cwu7_36, List.forall_mem_cons.mpr ⟨cwu7_37, List.forall_mem_cons.mpr ⟨cwu7_38, List.forall_mem_cons.mpr ⟨cwu7_39, List.forall_mem_cons.mpr ⟨cwu7_40, List.forall_mem_cons.mpr ⟨cwu7_41, List.forall_mem_cons.mpr ⟨cwu7_42, List.forall_mem_cons.mpr ⟨cwu7_43, List.forall_mem_cons.mpr ⟨cwu7_44, List.forall_mem_cons.mpr ⟨cwu7_45, List.forall_mem_cons.mpr ⟨cwu7_46, List.forall_mem_cons.mpr ⟨cwu7_47, List.forall_mem_cons.mpr ⟨cwu7_48, List.forall_mem_cons.mpr ⟨cwu7_49, List.forall_mem_cons.mpr ⟨cwu7_50, List.forall_mem_cons.mpr ⟨cwu7_51, List.forall_mem_cons.mpr ⟨cwu7_52, List.forall_mem_cons.mpr ⟨cwu7_53, List.forall_mem_cons.mpr ⟨cwu7_54, List.forall_mem_cons.mpr ⟨cwu7_55, List.forall_mem_cons.mpr ⟨cwu7_56, List.forall_mem_cons.mpr ⟨cwu7_57, List.forall_mem_cons.mpr ⟨cwu7_58, List.forall_mem_cons.mpr ⟨cwu7_59, fun _ h => absurd h List.not_mem_nil⟩⟩⟩⟩⟩⟩⟩⟩⟩⟩⟩⟩⟩⟩⟩⟩⟩⟩⟩⟩⟩⟩⟩⟩⟩⟩⟩⟩⟩⟩⟩⟩⟩⟩⟩⟩⟩⟩⟩⟩⟩⟩⟩⟩⟩⟩⟩⟩⟩⟩⟩⟩⟩⟩⟩⟩⟩⟩⟩⟩
theorem cwi8 {w : Cond} (h : w ∈ cw8) : w ∈ cwL := List.mem_append_right _ (List.mem_append_right _ (List.mem_append_right _ (List.mem_append_right _ (List.mem_append_right _ (List.mem_append_right _ (List.mem_append_right _ (List.mem_append_right _ (h))))))))
theorem cwg8 : cw8.all goodWord = true := by decide +kernel
theorem cwu8_0 : (Cond.selects RX0 yX0_dropFirst yX0_dropFirst) ∈ lw_tbl := List.mem_append_left _ (List.mem_of_getElem? (i := 7) (by decide +kernel))
theorem cwu8_1 : (Cond.selects RX1 yX1_deliverFrom yX1_deliverFrom) ∈ lw_tbl := List.mem_append_left _ (List.mem_of_getElem? (i := 8) (by decide +kernel))
theorem cwu8_2 : (Cond.selects RX1 yX1_payOfOne yX1_payOfOne) ∈ lw_tbl := List.mem_append_left _ (List.mem_of_getElem? (i := 9) (by decide +kernel))
theorem cwu8_3 : (Cond.selects RX1 yX1_earn yX1_earn) ∈ lw_tbl := List.mem_append_left _ (List.mem_of_getElem? (i := 10) (by decide +kernel))
theorem cwu8_4 : (Cond.selects RX1 yX1_checkFellows yX1_checkFellows) ∈ lw_tbl := List.mem_append_left _ (List.mem_of_getElem? (i := 11) (by decide +kernel))
theorem cwu8_5 : (Cond.selects RX2 yX2_produce yX2_produce) ∈ lw_tbl := List.mem_append_left _ (List.mem_of_getElem? (i := 12) (by decide +kernel))
theorem cwu8_6 : (Cond.selects RX2 yX2_put yX2_put) ∈ lw_tbl := List.mem_append_left _ (List.mem_of_getElem? (i := 13) (by decide +kernel))
theorem cwu8_7 : (Cond.selects RX2 yX2_packets yX2_packets) ∈ lw_tbl := List.mem_append_left _ (List.mem_of_getElem? (i := 14) (by decide +kernel))
theorem cwu8_8 : (Cond.selects RX2 yX2_isFirst yX2_isFirst) ∈ lw_tbl := List.mem_append_left _ (List.mem_of_getElem? (i := 15) (by decide +kernel))
theorem cwu8_9 : (Cond.selects RX2 yX2_move yX2_move) ∈ lw_tbl := List.mem_append_left _ (List.mem_of_getElem? (i := 16) (by decide +kernel))
theorem cwu8_10 : (Cond.selects RX2 yX2_drop yX2_drop) ∈ lw_tbl := List.mem_append_left _ (List.mem_of_getElem? (i := 17) (by decide +kernel))
theorem cwu8_11 : (Cond.selects RX2 yX2_pay yX2_pay) ∈ lw_tbl := List.mem_append_left _ (List.mem_of_getElem? (i := 18) (by decide +kernel))
theorem cwu8_12 : (Cond.selects RX2 yX2_rowOf yX2_rowOf) ∈ lw_tbl := List.mem_append_left _ (List.mem_of_getElem? (i := 19) (by decide +kernel))
theorem cwt8 : ∀ w ∈ cw8, w ∈ lw_tbl := List.forall_mem_cons.mpr ⟨cwu8_0, List.forall_mem_cons.mpr ⟨cwu8_1, List.forall_mem_cons.mpr ⟨cwu8_2, List.forall_mem_cons.mpr ⟨cwu8_3, List.forall_mem_cons.mpr ⟨cwu8_4, List.forall_mem_cons.mpr ⟨cwu8_5, List.forall_mem_cons.mpr ⟨cwu8_6, List.forall_mem_cons.mpr ⟨cwu8_7, List.forall_mem_cons.mpr ⟨cwu8_8, List.forall_mem_cons.mpr ⟨cwu8_9, List.forall_mem_cons.mpr ⟨cwu8_10, List.forall_mem_cons.mpr ⟨cwu8_11, List.forall_mem_cons.mpr ⟨cwu8_12, fun _ h => absurd h List.not_mem_nil⟩⟩⟩⟩⟩⟩⟩⟩⟩⟩⟩⟩⟩
theorem cwh0 : ∀ w ∈ cw0, goodWord w = true := fun w h => List.all_eq_true.mp cwg0 w h
theorem cwh1 : ∀ w ∈ cw1, goodWord w = true := fun w h => List.all_eq_true.mp cwg1 w h
theorem cwh2 : ∀ w ∈ cw2, goodWord w = true := fun w h => List.all_eq_true.mp cwg2 w h
theorem cwh3 : ∀ w ∈ cw3, goodWord w = true := fun w h => List.all_eq_true.mp cwg3 w h
theorem cwh4 : ∀ w ∈ cw4, goodWord w = true := fun w h => List.all_eq_true.mp cwg4 w h
theorem cwh5 : ∀ w ∈ cw5, goodWord w = true := fun w h => List.all_eq_true.mp cwg5 w h
theorem cwh6 : ∀ w ∈ cw6, goodWord w = true := fun w h => List.all_eq_true.mp cwg6 w h
theorem cwh7 : ∀ w ∈ cw7, goodWord w = true := fun w h => List.all_eq_true.mp cwg7 w h
theorem cwh8 : ∀ w ∈ cw8, goodWord w = true := fun w h => List.all_eq_true.mp cwg8 w h
theorem cw_good : ∀ w ∈ cwL, goodWord w = true := fun w h => (List.mem_append.mp h).elim (fun h => cwh0 w h) (fun h => (List.mem_append.mp h).elim (fun h => cwh1 w h) (fun h => (List.mem_append.mp h).elim (fun h => cwh2 w h) (fun h => (List.mem_append.mp h).elim (fun h => cwh3 w h) (fun h => (List.mem_append.mp h).elim (fun h => cwh4 w h) (fun h => (List.mem_append.mp h).elim (fun h => cwh5 w h) (fun h => (List.mem_append.mp h).elim (fun h => cwh6 w h) (fun h => (List.mem_append.mp h).elim (fun h => cwh7 w h) (fun h => cwh8 w h))))))))
theorem cw_in : ∀ w ∈ cwL, w ∈ lw_tbl := fun w h => (List.mem_append.mp h).elim (fun h => cwt0 w h) (fun h => (List.mem_append.mp h).elim (fun h => cwt1 w h) (fun h => (List.mem_append.mp h).elim (fun h => cwt2 w h) (fun h => (List.mem_append.mp h).elim (fun h => cwt3 w h) (fun h => (List.mem_append.mp h).elim (fun h => cwt4 w h) (fun h => (List.mem_append.mp h).elim (fun h => cwt5 w h) (fun h => (List.mem_append.mp h).elim (fun h => cwt6 w h) (fun h => (List.mem_append.mp h).elim (fun h => cwt7 w h) (fun h => cwt8 w h))))))))
theorem mw_0 : (Cond.initialized RL) ∈ cwL := cwi0 (List.mem_of_getElem? (i := 0) rfl)
theorem mw_1 : (Cond.initialized RX1) ∈ cwL := cwi0 (List.mem_of_getElem? (i := 1) rfl)
theorem mw_2 : (Cond.initialized RX0) ∈ cwL := cwi0 (List.mem_of_getElem? (i := 2) rfl)
theorem mw_3 : (Cond.initialized RX2) ∈ cwL := cwi0 (List.mem_of_getElem? (i := 3) rfl)
theorem mw_4 : (Cond.initialized "java/lang/Throwable") ∈ cwL := cwi0 (List.mem_of_getElem? (i := 4) rfl)
theorem mw_5 : (Cond.initialized "java/lang/Exception") ∈ cwL := cwi0 (List.mem_of_getElem? (i := 5) rfl)
theorem mw_6 : (Cond.initialized "java/lang/RuntimeException") ∈ cwL := cwi0 (List.mem_of_getElem? (i := 6) rfl)
theorem mw_7 : (Cond.initialized "java/lang/IndexOutOfBoundsException") ∈ cwL := cwi0 (List.mem_of_getElem? (i := 7) rfl)
theorem mw_8 : (Cond.initialized "java/lang/IllegalArgumentException") ∈ cwL := cwi0 (List.mem_of_getElem? (i := 8) rfl)
theorem mw_9 : (Cond.initialized "java/lang/Math") ∈ cwL := cwi0 (List.mem_of_getElem? (i := 9) rfl)
theorem mw_10 : (Cond.classLink RL 8 RX1) ∈ cwL := cwi0 (List.mem_of_getElem? (i := 10) rfl)
theorem mw_11 : (Cond.instantiable RX1 16) ∈ cwL := cwi0 (List.mem_of_getElem? (i := 11) rfl)
theorem mw_12 : (Cond.methodLink RL 50 yX1_init) ∈ cwL := cwi0 (List.mem_of_getElem? (i := 12) rfl)
theorem mw_13 : (Cond.instanceMethod yX1_init) ∈ cwL := cwi0 (List.mem_of_getElem? (i := 13) rfl)
theorem mw_14 : (Cond.code yX1_init cX1_init 2 none) ∈ cwL := cwi0 (List.mem_of_getElem? (i := 14) rfl)
theorem mw_15 : (Cond.methodLink RX1 3 objectInit) ∈ cwL := cwi0 (List.mem_of_getElem? (i := 15) rfl)
theorem mw_16 : (Cond.instanceMethod objectInit) ∈ cwL := cwi0 (List.mem_of_getElem? (i := 16) rfl)
theorem mw_17 : (Cond.code objectInit ⟨#[0xb1]⟩ 1 none) ∈ cwL := cwi0 (List.mem_of_getElem? (i := 17) rfl)
theorem mw_18 : (Cond.classLink RX1 9 RX0) ∈ cwL := cwi0 (List.mem_of_getElem? (i := 18) rfl)
theorem mw_19 : (Cond.instantiable RX0 5) ∈ cwL := cwi0 (List.mem_of_getElem? (i := 19) rfl)
theorem mw_20 : (Cond.instanceMethod yX0_init) ∈ cwL := cwi0 (List.mem_of_getElem? (i := 20) rfl)
theorem mw_21 : (Cond.code yX0_init cX0_init 1 none) ∈ cwL := cwi0 (List.mem_of_getElem? (i := 21) rfl)
theorem mw_22 : (Cond.methodLink RX0 3 objectInit) ∈ cwL := cwi0 (List.mem_of_getElem? (i := 22) rfl)
theorem mw_23 : (Cond.fieldLink RX0 9 RX0 "origins" "[I") ∈ cwL := cwi0 (List.mem_of_getElem? (i := 23) rfl)
theorem mw_24 : (Cond.fieldLink RX0 15 RX0 "amounts" "[I") ∈ cwL := cwi0 (List.mem_of_getElem? (i := 24) rfl)
theorem mw_25 : (Cond.fieldLink RX0 18 RX0 "births" "[I") ∈ cwL := cwi0 (List.mem_of_getElem? (i := 25) rfl)
theorem mw_26 : (Cond.fieldLink RX0 21 RX0 "packets" "I") ∈ cwL := cwi0 (List.mem_of_getElem? (i := 26) rfl)
theorem mw_27 : (Cond.fieldLink RX0 25 RX0 "total" "I") ∈ cwL := cwi0 (List.mem_of_getElem? (i := 27) rfl)
theorem mw_28 : (Cond.laysFinal RX0 RX0 "origins" "[I") ∈ cwL := cwi0 (List.mem_of_getElem? (i := 28) rfl)
theorem mw_29 : (Cond.laysFinal RX0 RX0 "amounts" "[I") ∈ cwL := cwi0 (List.mem_of_getElem? (i := 29) rfl)
theorem mw_30 : (Cond.laysFinal RX0 RX0 "births" "[I") ∈ cwL := cwi0 (List.mem_of_getElem? (i := 30) rfl)
theorem mw_31 : (Cond.lays RX0 RX0 "packets" "I") ∈ cwL := cwi0 (List.mem_of_getElem? (i := 31) rfl)
theorem mw_32 : (Cond.lays RX0 RX0 "total" "I") ∈ cwL := cwi0 (List.mem_of_getElem? (i := 32) rfl)
theorem mw_33 : (Cond.superclass RX0 "java/lang/Object") ∈ cwL := cwi0 (List.mem_of_getElem? (i := 33) rfl)
theorem mw_34 : (Cond.arrayClass .int) ∈ cwL := cwi0 (List.mem_of_getElem? (i := 34) rfl)
theorem mw_35 : (Cond.fieldLink RX1 11 RX1 "stocks" "[LPacketStores$Row;") ∈ cwL := cwi0 (List.mem_of_getElem? (i := 35) rfl)
theorem mw_36 : (Cond.fieldLink RX1 15 RX1 "rates" "[I") ∈ cwL := cwi0 (List.mem_of_getElem? (i := 36) rfl)
theorem mw_37 : (Cond.fieldLink RX1 19 RX1 "madeKinds" "[I") ∈ cwL := cwi0 (List.mem_of_getElem? (i := 37) rfl)
theorem mw_38 : (Cond.fieldLink RX1 22 RX1 "placeColumns" "[I") ∈ cwL := cwi0 (List.mem_of_getElem? (i := 38) rfl)
theorem mw_39 : (Cond.fieldLink RX1 25 RX1 "placeRows" "[I") ∈ cwL := cwi0 (List.mem_of_getElem? (i := 39) rfl)
theorem mw_40 : (Cond.fieldLink RX1 28 RX1 "acceptedKinds" "[I") ∈ cwL := cwi0 (List.mem_of_getElem? (i := 40) rfl)
theorem mw_41 : (Cond.fieldLink RX1 31 RX1 "aboard" "[LPacketStores$Row;") ∈ cwL := cwi0 (List.mem_of_getElem? (i := 41) rfl)
theorem mw_42 : (Cond.fieldLink RX1 34 RX1 "wagonKinds" "[I") ∈ cwL := cwi0 (List.mem_of_getElem? (i := 42) rfl)
theorem mw_43 : (Cond.fieldLink RX1 37 RX1 "wagonRooms" "[I") ∈ cwL := cwi0 (List.mem_of_getElem? (i := 43) rfl)
theorem mw_44 : (Cond.fieldLink RX1 40 RX1 "produced" "[I") ∈ cwL := cwi0 (List.mem_of_getElem? (i := 44) rfl)
theorem mw_45 : (Cond.fieldLink RX1 43 RX1 "delivered" "[I") ∈ cwL := cwi0 (List.mem_of_getElem? (i := 45) rfl)
theorem mw_46 : (Cond.fieldLink RX1 46 RX1 "dumped" "[I") ∈ cwL := cwi0 (List.mem_of_getElem? (i := 46) rfl)
theorem mw_47 : (Cond.fieldLink RX1 49 RX1 "time" "I") ∈ cwL := cwi0 (List.mem_of_getElem? (i := 47) rfl)
theorem mw_48 : (Cond.fieldLink RX1 53 RX1 "money" "I") ∈ cwL := cwi0 (List.mem_of_getElem? (i := 48) rfl)
theorem mw_49 : (Cond.fieldLink RX1 56 RX1 "earned" "I") ∈ cwL := cwi0 (List.mem_of_getElem? (i := 49) rfl)
theorem mw_50 : (Cond.fieldLink RX1 59 RX1 "spent" "I") ∈ cwL := cwi0 (List.mem_of_getElem? (i := 50) rfl)
theorem mw_51 : (Cond.laysFinal RX1 RX1 "stocks" "[LPacketStores$Row;") ∈ cwL := cwi0 (List.mem_of_getElem? (i := 51) rfl)
theorem mw_52 : (Cond.laysFinal RX1 RX1 "rates" "[I") ∈ cwL := cwi0 (List.mem_of_getElem? (i := 52) rfl)
theorem mw_53 : (Cond.laysFinal RX1 RX1 "madeKinds" "[I") ∈ cwL := cwi0 (List.mem_of_getElem? (i := 53) rfl)
theorem mw_54 : (Cond.laysFinal RX1 RX1 "placeColumns" "[I") ∈ cwL := cwi0 (List.mem_of_getElem? (i := 54) rfl)
theorem mw_55 : (Cond.laysFinal RX1 RX1 "placeRows" "[I") ∈ cwL := cwi0 (List.mem_of_getElem? (i := 55) rfl)
theorem mw_56 : (Cond.laysFinal RX1 RX1 "acceptedKinds" "[I") ∈ cwL := cwi0 (List.mem_of_getElem? (i := 56) rfl)
theorem mw_57 : (Cond.laysFinal RX1 RX1 "aboard" "[LPacketStores$Row;") ∈ cwL := cwi0 (List.mem_of_getElem? (i := 57) rfl)
theorem mw_58 : (Cond.laysFinal RX1 RX1 "wagonKinds" "[I") ∈ cwL := cwi0 (List.mem_of_getElem? (i := 58) rfl)
theorem mw_59 : (Cond.laysFinal RX1 RX1 "wagonRooms" "[I") ∈ cwL := cwi0 (List.mem_of_getElem? (i := 59) rfl)
theorem mw_60 : (Cond.laysFinal RX1 RX1 "produced" "[I") ∈ cwL := cwi1 (List.mem_of_getElem? (i := 0) rfl)
theorem mw_61 : (Cond.laysFinal RX1 RX1 "delivered" "[I") ∈ cwL := cwi1 (List.mem_of_getElem? (i := 1) rfl)
theorem mw_62 : (Cond.laysFinal RX1 RX1 "dumped" "[I") ∈ cwL := cwi1 (List.mem_of_getElem? (i := 2) rfl)
theorem mw_63 : (Cond.lays RX1 RX1 "time" "I") ∈ cwL := cwi1 (List.mem_of_getElem? (i := 3) rfl)
theorem mw_64 : (Cond.lays RX1 RX1 "money" "I") ∈ cwL := cwi1 (List.mem_of_getElem? (i := 4) rfl)
theorem mw_65 : (Cond.lays RX1 RX1 "earned" "I") ∈ cwL := cwi1 (List.mem_of_getElem? (i := 5) rfl)
theorem mw_66 : (Cond.lays RX1 RX1 "spent" "I") ∈ cwL := cwi1 (List.mem_of_getElem? (i := 6) rfl)
theorem mw_67 : (Cond.superclass RX1 "java/lang/Object") ∈ cwL := cwi1 (List.mem_of_getElem? (i := 7) rfl)
theorem mw_68 : (Cond.methodLink RL 97 yX1_spend) ∈ cwL := cwi1 (List.mem_of_getElem? (i := 8) rfl)
theorem mw_69 : (Cond.instanceMethod yX1_spend) ∈ cwL := cwi1 (List.mem_of_getElem? (i := 9) rfl)
theorem mw_70 : (Cond.selects RX1 yX1_spend yX1_spend) ∈ cwL := cwi1 (List.mem_of_getElem? (i := 10) rfl)
theorem mw_71 : (Cond.code yX1_spend cX1_spend 2 (some .boolean)) ∈ cwL := cwi1 (List.mem_of_getElem? (i := 11) rfl)
theorem mw_72 : (Cond.constant RX1 100 (2000000000)) ∈ cwL := cwi1 (List.mem_of_getElem? (i := 12) rfl)
theorem mw_73 : (Cond.methodLink RL 102 yX1_packet) ∈ cwL := cwi1 (List.mem_of_getElem? (i := 13) rfl)
theorem mw_74 : (Cond.instanceMethod yX1_packet) ∈ cwL := cwi1 (List.mem_of_getElem? (i := 14) rfl)
theorem mw_75 : (Cond.selects RX1 yX1_packet yX1_packet) ∈ cwL := cwi1 (List.mem_of_getElem? (i := 15) rfl)
theorem mw_76 : (Cond.code yX1_packet cX1_packet 6 (some .int)) ∈ cwL := cwi1 (List.mem_of_getElem? (i := 16) rfl)
theorem mw_77 : (Cond.methodLink RX1 131 yX1_rowAt) ∈ cwL := cwi1 (List.mem_of_getElem? (i := 17) rfl)
theorem mw_78 : (Cond.instanceMethod yX1_rowAt) ∈ cwL := cwi1 (List.mem_of_getElem? (i := 18) rfl)
theorem mw_79 : (Cond.code yX1_rowAt cX1_rowAt 3 (some (.object "PacketStores$Row"))) ∈ cwL := cwi1 (List.mem_of_getElem? (i := 19) rfl)
theorem mw_80 : (Cond.methodLink RX1 173 yX1_isStation) ∈ cwL := cwi1 (List.mem_of_getElem? (i := 20) rfl)
theorem mw_81 : (Cond.static yX1_isStation) ∈ cwL := cwi1 (List.mem_of_getElem? (i := 21) rfl)
theorem mw_82 : (Cond.code yX1_isStation cX1_isStation 1 (some .boolean)) ∈ cwL := cwi1 (List.mem_of_getElem? (i := 22) rfl)
theorem mw_83 : (Cond.methodLink RX1 78 yX1_isKind) ∈ cwL := cwi1 (List.mem_of_getElem? (i := 23) rfl)
theorem mw_84 : (Cond.static yX1_isKind) ∈ cwL := cwi1 (List.mem_of_getElem? (i := 24) rfl)
theorem mw_85 : (Cond.code yX1_isKind cX1_isKind 1 (some .boolean)) ∈ cwL := cwi1 (List.mem_of_getElem? (i := 25) rfl)
theorem mw_86 : (Cond.methodLink RX1 74 yX1_stockIndex) ∈ cwL := cwi1 (List.mem_of_getElem? (i := 26) rfl)
theorem mw_87 : (Cond.static yX1_stockIndex) ∈ cwL := cwi1 (List.mem_of_getElem? (i := 27) rfl)
theorem mw_88 : (Cond.code yX1_stockIndex cX1_stockIndex 2 (some .int)) ∈ cwL := cwi1 (List.mem_of_getElem? (i := 28) rfl)
theorem mw_89 : (Cond.methodLink RX1 135 yX0_look) ∈ cwL := cwi1 (List.mem_of_getElem? (i := 29) rfl)
theorem mw_90 : (Cond.instanceMethod yX0_look) ∈ cwL := cwi1 (List.mem_of_getElem? (i := 30) rfl)
theorem mw_91 : (Cond.selects RX0 yX0_look yX0_look) ∈ cwL := cwi1 (List.mem_of_getElem? (i := 31) rfl)
theorem mw_92 : (Cond.code yX0_look cX0_look 3 (some .int)) ∈ cwL := cwi1 (List.mem_of_getElem? (i := 32) rfl)
theorem mw_93 : (Cond.methodLink RL 107 yX1_units) ∈ cwL := cwi1 (List.mem_of_getElem? (i := 33) rfl)
theorem mw_94 : (Cond.instanceMethod yX1_units) ∈ cwL := cwi1 (List.mem_of_getElem? (i := 34) rfl)
theorem mw_95 : (Cond.selects RX1 yX1_units yX1_units) ∈ cwL := cwi1 (List.mem_of_getElem? (i := 35) rfl)
theorem mw_96 : (Cond.code yX1_units cX1_units 4 (some .int)) ∈ cwL := cwi1 (List.mem_of_getElem? (i := 36) rfl)
theorem mw_97 : (Cond.methodLink RX1 92 yX0_total) ∈ cwL := cwi1 (List.mem_of_getElem? (i := 37) rfl)
theorem mw_98 : (Cond.instanceMethod yX0_total) ∈ cwL := cwi1 (List.mem_of_getElem? (i := 38) rfl)
theorem mw_99 : (Cond.selects RX0 yX0_total yX0_total) ∈ cwL := cwi1 (List.mem_of_getElem? (i := 39) rfl)
theorem mw_100 : (Cond.code yX0_total cX0_total 1 (some .int)) ∈ cwL := cwi1 (List.mem_of_getElem? (i := 40) rfl)
theorem mw_101 : (Cond.methodLink RL 112 yX1_count) ∈ cwL := cwi1 (List.mem_of_getElem? (i := 41) rfl)
theorem mw_102 : (Cond.instanceMethod yX1_count) ∈ cwL := cwi1 (List.mem_of_getElem? (i := 42) rfl)
theorem mw_103 : (Cond.selects RX1 yX1_count yX1_count) ∈ cwL := cwi1 (List.mem_of_getElem? (i := 43) rfl)
theorem mw_104 : (Cond.code yX1_count cX1_count 3 (some .int)) ∈ cwL := cwi1 (List.mem_of_getElem? (i := 44) rfl)
theorem mw_105 : (Cond.methodLink RX1 138 yX1_unitsInStocks) ∈ cwL := cwi1 (List.mem_of_getElem? (i := 45) rfl)
theorem mw_106 : (Cond.instanceMethod yX1_unitsInStocks) ∈ cwL := cwi1 (List.mem_of_getElem? (i := 46) rfl)
theorem mw_107 : (Cond.code yX1_unitsInStocks cX1_unitsInStocks 4 (some .int)) ∈ cwL := cwi1 (List.mem_of_getElem? (i := 47) rfl)
theorem mw_108 : (Cond.methodLink RX1 142 yX1_unitsInWagons) ∈ cwL := cwi1 (List.mem_of_getElem? (i := 48) rfl)
theorem mw_109 : (Cond.instanceMethod yX1_unitsInWagons) ∈ cwL := cwi1 (List.mem_of_getElem? (i := 49) rfl)
theorem mw_110 : (Cond.code yX1_unitsInWagons cX1_unitsInWagons 4 (some .int)) ∈ cwL := cwi1 (List.mem_of_getElem? (i := 50) rfl)
theorem mw_111 : (Cond.methodLink RL 116 yX1_sum) ∈ cwL := cwi1 (List.mem_of_getElem? (i := 51) rfl)
theorem mw_112 : (Cond.instanceMethod yX1_sum) ∈ cwL := cwi1 (List.mem_of_getElem? (i := 52) rfl)
theorem mw_113 : (Cond.selects RX1 yX1_sum yX1_sum) ∈ cwL := cwi1 (List.mem_of_getElem? (i := 53) rfl)
theorem mw_114 : (Cond.code yX1_sum cX1_sum 2 (some .int)) ∈ cwL := cwi1 (List.mem_of_getElem? (i := 54) rfl)
theorem mw_115 : (Cond.methodLink RL 54 yL_place) ∈ cwL := cwi1 (List.mem_of_getElem? (i := 55) rfl)
theorem mw_116 : (Cond.static yL_place) ∈ cwL := cwi1 (List.mem_of_getElem? (i := 56) rfl)
theorem mw_117 : (Cond.codeWith yL_place cL_place 5 (some .int) [(0, 7, 10, 13), (0, 7, 14, 15)]) ∈ cwL := cwi1 (List.mem_of_getElem? (i := 57) rfl)
theorem mw_118 : (Cond.classLink RL 13 "java/lang/IndexOutOfBoundsException") ∈ cwL := cwi1 (List.mem_of_getElem? (i := 58) rfl)
theorem mw_119 : (Cond.classLink RL 15 "java/lang/IllegalArgumentException") ∈ cwL := cwi1 (List.mem_of_getElem? (i := 59) rfl)
theorem mw_120 : (Cond.methodLink RL 7 yX1_place) ∈ cwL := cwi2 (List.mem_of_getElem? (i := 0) rfl)
theorem mw_121 : (Cond.instanceMethod yX1_place) ∈ cwL := cwi2 (List.mem_of_getElem? (i := 1) rfl)
theorem mw_122 : (Cond.selects RX1 yX1_place yX1_place) ∈ cwL := cwi2 (List.mem_of_getElem? (i := 2) rfl)
theorem mw_123 : (Cond.code yX1_place cX1_place 4 none) ∈ cwL := cwi2 (List.mem_of_getElem? (i := 3) rfl)
theorem mw_124 : (Cond.methodLink RX1 63 yX1_checkStation) ∈ cwL := cwi2 (List.mem_of_getElem? (i := 4) rfl)
theorem mw_125 : (Cond.static yX1_checkStation) ∈ cwL := cwi2 (List.mem_of_getElem? (i := 5) rfl)
theorem mw_126 : (Cond.code yX1_checkStation cX1_checkStation 1 none) ∈ cwL := cwi2 (List.mem_of_getElem? (i := 6) rfl)
theorem mw_127 : (Cond.classLink RX1 180 "java/lang/IndexOutOfBoundsException") ∈ cwL := cwi2 (List.mem_of_getElem? (i := 7) rfl)
theorem mw_128 : (Cond.instantiable "java/lang/IndexOutOfBoundsException" 6) ∈ cwL := cwi2 (List.mem_of_getElem? (i := 8) rfl)
theorem mw_129 : (Cond.selects "java/lang/IndexOutOfBoundsException" ⟨"java/lang/Throwable", "fillInStackTrace", "(I)Ljava/lang/Throwable;"⟩ ⟨"java/lang/Throwable", "fillInStackTrace", "(I)Ljava/lang/Throwable;"⟩) ∈ cwL := cwi2 (List.mem_of_getElem? (i := 9) rfl)
theorem mw_130 : (Cond.selects "java/lang/IndexOutOfBoundsException" ⟨"java/lang/Throwable", "fillInStackTrace", "()Ljava/lang/Throwable;"⟩ ⟨"java/lang/Throwable", "fillInStackTrace", "()Ljava/lang/Throwable;"⟩) ∈ cwL := cwi2 (List.mem_of_getElem? (i := 10) rfl)
theorem mw_131 : (Cond.lays "java/lang/IndexOutOfBoundsException" "java/lang/Throwable" "cause" "Ljava/lang/Throwable;") ∈ cwL := cwi2 (List.mem_of_getElem? (i := 11) rfl)
theorem mw_132 : (Cond.lays "java/lang/Throwable" "java/lang/Throwable" "cause" "Ljava/lang/Throwable;") ∈ cwL := cwi2 (List.mem_of_getElem? (i := 12) rfl)
theorem mw_133 : (Cond.lays "java/lang/IndexOutOfBoundsException" "java/lang/Throwable" "stackTrace" "[Ljava/lang/StackTraceElement;") ∈ cwL := cwi2 (List.mem_of_getElem? (i := 13) rfl)
theorem mw_134 : (Cond.lays "java/lang/Throwable" "java/lang/Throwable" "stackTrace" "[Ljava/lang/StackTraceElement;") ∈ cwL := cwi2 (List.mem_of_getElem? (i := 14) rfl)
theorem mw_135 : (Cond.lays "java/lang/IndexOutOfBoundsException" "java/lang/Throwable" "suppressedExceptions" "Ljava/util/List;") ∈ cwL := cwi2 (List.mem_of_getElem? (i := 15) rfl)
theorem mw_136 : (Cond.lays "java/lang/Throwable" "java/lang/Throwable" "suppressedExceptions" "Ljava/util/List;") ∈ cwL := cwi2 (List.mem_of_getElem? (i := 16) rfl)
theorem mw_137 : (Cond.lays "java/lang/IndexOutOfBoundsException" "java/lang/Throwable" "detailMessage" "Ljava/lang/String;") ∈ cwL := cwi2 (List.mem_of_getElem? (i := 17) rfl)
theorem mw_138 : (Cond.lays "java/lang/Throwable" "java/lang/Throwable" "detailMessage" "Ljava/lang/String;") ∈ cwL := cwi2 (List.mem_of_getElem? (i := 18) rfl)
theorem mw_139 : (Cond.lays "java/lang/IndexOutOfBoundsException" "java/lang/Throwable" "backtrace" "Ljava/lang/Object;") ∈ cwL := cwi2 (List.mem_of_getElem? (i := 19) rfl)
theorem mw_140 : (Cond.lays "java/lang/Throwable" "java/lang/Throwable" "backtrace" "Ljava/lang/Object;") ∈ cwL := cwi2 (List.mem_of_getElem? (i := 20) rfl)
theorem mw_141 : (Cond.fieldLink "java/lang/Throwable" 198 "java/lang/Throwable" "backtrace" "Ljava/lang/Object;") ∈ cwL := cwi2 (List.mem_of_getElem? (i := 21) rfl)
theorem mw_142 : (Cond.superclass "java/lang/Throwable" "java/lang/Object") ∈ cwL := cwi2 (List.mem_of_getElem? (i := 22) rfl)
theorem mw_143 : (Cond.instanceMethod ⟨"java/lang/Throwable", "<init>", "()V"⟩) ∈ cwL := cwi2 (List.mem_of_getElem? (i := 23) rfl)
theorem mw_144 : (Cond.code ⟨"java/lang/Throwable", "<init>", "()V"⟩ prog_11_method_1_code 1 none) ∈ cwL := cwi2 (List.mem_of_getElem? (i := 24) rfl)
theorem mw_145 : (Cond.methodLink "java/lang/Throwable" 1 objectInit) ∈ cwL := cwi2 (List.mem_of_getElem? (i := 25) rfl)
theorem mw_146 : (Cond.fieldLink "java/lang/Throwable" 13 "java/lang/Throwable" "UNASSIGNED_STACK" "[Ljava/lang/StackTraceElement;") ∈ cwL := cwi2 (List.mem_of_getElem? (i := 26) rfl)
theorem mw_147 : (Cond.fieldLink "java/lang/Throwable" 20 "java/lang/Throwable" "SUPPRESSED_SENTINEL" "Ljava/util/List;") ∈ cwL := cwi2 (List.mem_of_getElem? (i := 27) rfl)
theorem mw_148 : (Cond.methodLink "java/lang/Throwable" 27 ⟨"java/lang/Throwable", "fillInStackTrace", "()Ljava/lang/Throwable;"⟩) ∈ cwL := cwi2 (List.mem_of_getElem? (i := 28) rfl)
theorem mw_149 : (Cond.instanceMethod ⟨"java/lang/Throwable", "fillInStackTrace", "()Ljava/lang/Throwable;"⟩) ∈ cwL := cwi2 (List.mem_of_getElem? (i := 29) rfl)
theorem mw_150 : (Cond.sameMethod "java/lang/Throwable" "java/lang/Throwable" "fillInStackTrace" "()Ljava/lang/Throwable;") ∈ cwL := cwi2 (List.mem_of_getElem? (i := 30) rfl)
theorem mw_151 : (Cond.selects "java/lang/IllegalArgumentException" ⟨"java/lang/Throwable", "fillInStackTrace", "()Ljava/lang/Throwable;"⟩ ⟨"java/lang/Throwable", "fillInStackTrace", "()Ljava/lang/Throwable;"⟩) ∈ cwL := cwi2 (List.mem_of_getElem? (i := 31) rfl)
theorem mw_152 : (Cond.codeSync ⟨"java/lang/Throwable", "fillInStackTrace", "()Ljava/lang/Throwable;"⟩ prog_11_method_18_code 1 (some (.object "java/lang/Throwable"))) ∈ cwL := cwi2 (List.mem_of_getElem? (i := 32) rfl)
theorem mw_153 : (Cond.methodLink "java/lang/Throwable" 202 ⟨"java/lang/Throwable", "fillInStackTrace", "(I)Ljava/lang/Throwable;"⟩) ∈ cwL := cwi2 (List.mem_of_getElem? (i := 33) rfl)
theorem mw_154 : (Cond.instanceMethod ⟨"java/lang/Throwable", "fillInStackTrace", "(I)Ljava/lang/Throwable;"⟩) ∈ cwL := cwi2 (List.mem_of_getElem? (i := 34) rfl)
theorem mw_155 : (Cond.instantiable "java/lang/Throwable" 6) ∈ cwL := cwi2 (List.mem_of_getElem? (i := 35) rfl)
theorem mw_156 : (Cond.native ⟨"java/lang/Throwable", "fillInStackTrace", "(I)Ljava/lang/Throwable;"⟩) ∈ cwL := cwi2 (List.mem_of_getElem? (i := 36) rfl)
theorem mw_157 : (Cond.methodLink RX1 184 ⟨"java/lang/IndexOutOfBoundsException", "<init>", "(Ljava/lang/String;)V"⟩) ∈ cwL := cwi2 (List.mem_of_getElem? (i := 37) rfl)
theorem mw_158 : (Cond.instanceMethod ⟨"java/lang/IndexOutOfBoundsException", "<init>", "(Ljava/lang/String;)V"⟩) ∈ cwL := cwi2 (List.mem_of_getElem? (i := 38) rfl)
theorem mw_159 : (Cond.code ⟨"java/lang/IndexOutOfBoundsException", "<init>", "(Ljava/lang/String;)V"⟩ prog_7_method_2_code 2 none) ∈ cwL := cwi2 (List.mem_of_getElem? (i := 39) rfl)
theorem mw_160 : (Cond.methodLink "java/lang/IndexOutOfBoundsException" 7 ⟨"java/lang/RuntimeException", "<init>", "(Ljava/lang/String;)V"⟩) ∈ cwL := cwi2 (List.mem_of_getElem? (i := 40) rfl)
theorem mw_161 : (Cond.instanceMethod ⟨"java/lang/RuntimeException", "<init>", "(Ljava/lang/String;)V"⟩) ∈ cwL := cwi2 (List.mem_of_getElem? (i := 41) rfl)
theorem mw_162 : (Cond.code ⟨"java/lang/RuntimeException", "<init>", "(Ljava/lang/String;)V"⟩ prog_9_method_2_code 2 none) ∈ cwL := cwi2 (List.mem_of_getElem? (i := 42) rfl)
theorem mw_163 : (Cond.methodLink "java/lang/RuntimeException" 7 ⟨"java/lang/Exception", "<init>", "(Ljava/lang/String;)V"⟩) ∈ cwL := cwi2 (List.mem_of_getElem? (i := 43) rfl)
theorem mw_164 : (Cond.instanceMethod ⟨"java/lang/Exception", "<init>", "(Ljava/lang/String;)V"⟩) ∈ cwL := cwi2 (List.mem_of_getElem? (i := 44) rfl)
theorem mw_165 : (Cond.code ⟨"java/lang/Exception", "<init>", "(Ljava/lang/String;)V"⟩ prog_5_method_2_code 2 none) ∈ cwL := cwi2 (List.mem_of_getElem? (i := 45) rfl)
theorem mw_166 : (Cond.methodLink "java/lang/Exception" 7 ⟨"java/lang/Throwable", "<init>", "(Ljava/lang/String;)V"⟩) ∈ cwL := cwi2 (List.mem_of_getElem? (i := 46) rfl)
theorem mw_167 : (Cond.instanceMethod ⟨"java/lang/Throwable", "<init>", "(Ljava/lang/String;)V"⟩) ∈ cwL := cwi2 (List.mem_of_getElem? (i := 47) rfl)
theorem mw_168 : (Cond.code ⟨"java/lang/Throwable", "<init>", "(Ljava/lang/String;)V"⟩ prog_11_method_2_code 2 none) ∈ cwL := cwi2 (List.mem_of_getElem? (i := 48) rfl)
theorem mw_169 : (Cond.fieldLink "java/lang/Throwable" 31 "java/lang/Throwable" "detailMessage" "Ljava/lang/String;") ∈ cwL := cwi2 (List.mem_of_getElem? (i := 49) rfl)
theorem mw_170 : (Cond.fieldLink "java/lang/Throwable" 7 "java/lang/Throwable" "cause" "Ljava/lang/Throwable;") ∈ cwL := cwi2 (List.mem_of_getElem? (i := 50) rfl)
theorem mw_171 : (Cond.fieldLink "java/lang/Throwable" 17 "java/lang/Throwable" "stackTrace" "[Ljava/lang/StackTraceElement;") ∈ cwL := cwi2 (List.mem_of_getElem? (i := 51) rfl)
theorem mw_172 : (Cond.fieldLink "java/lang/Throwable" 24 "java/lang/Throwable" "suppressedExceptions" "Ljava/util/List;") ∈ cwL := cwi2 (List.mem_of_getElem? (i := 52) rfl)
theorem mw_173 : (Cond.lays "java/lang/IndexOutOfBoundsException" "java/lang/Throwable" "depth" "I") ∈ cwL := cwi2 (List.mem_of_getElem? (i := 53) rfl)
theorem mw_174 : (Cond.superclass "java/lang/IndexOutOfBoundsException" "java/lang/RuntimeException") ∈ cwL := cwi2 (List.mem_of_getElem? (i := 54) rfl)
theorem mw_175 : (Cond.arrayClass .byte) ∈ cwL := cwi2 (List.mem_of_getElem? (i := 55) rfl)
theorem mw_176 : (Cond.methodLink RX1 67 yX1_checkRange) ∈ cwL := cwi2 (List.mem_of_getElem? (i := 56) rfl)
theorem mw_177 : (Cond.static yX1_checkRange) ∈ cwL := cwi2 (List.mem_of_getElem? (i := 57) rfl)
theorem mw_178 : (Cond.code yX1_checkRange cX1_checkRange 2 none) ∈ cwL := cwi2 (List.mem_of_getElem? (i := 58) rfl)
theorem mw_179 : (Cond.classLink RX1 82 "java/lang/IllegalArgumentException") ∈ cwL := cwi2 (List.mem_of_getElem? (i := 59) rfl)
theorem mw_180 : (Cond.instantiable "java/lang/IllegalArgumentException" 6) ∈ cwL := cwi3 (List.mem_of_getElem? (i := 0) rfl)
theorem mw_181 : (Cond.selects "java/lang/IllegalArgumentException" ⟨"java/lang/Throwable", "fillInStackTrace", "(I)Ljava/lang/Throwable;"⟩ ⟨"java/lang/Throwable", "fillInStackTrace", "(I)Ljava/lang/Throwable;"⟩) ∈ cwL := cwi3 (List.mem_of_getElem? (i := 1) rfl)
theorem mw_182 : (Cond.lays "java/lang/IllegalArgumentException" "java/lang/Throwable" "cause" "Ljava/lang/Throwable;") ∈ cwL := cwi3 (List.mem_of_getElem? (i := 2) rfl)
theorem mw_183 : (Cond.lays "java/lang/IllegalArgumentException" "java/lang/Throwable" "stackTrace" "[Ljava/lang/StackTraceElement;") ∈ cwL := cwi3 (List.mem_of_getElem? (i := 3) rfl)
theorem mw_184 : (Cond.lays "java/lang/IllegalArgumentException" "java/lang/Throwable" "suppressedExceptions" "Ljava/util/List;") ∈ cwL := cwi3 (List.mem_of_getElem? (i := 4) rfl)
theorem mw_185 : (Cond.lays "java/lang/IllegalArgumentException" "java/lang/Throwable" "detailMessage" "Ljava/lang/String;") ∈ cwL := cwi3 (List.mem_of_getElem? (i := 5) rfl)
theorem mw_186 : (Cond.lays "java/lang/IllegalArgumentException" "java/lang/Throwable" "backtrace" "Ljava/lang/Object;") ∈ cwL := cwi3 (List.mem_of_getElem? (i := 6) rfl)
theorem mw_187 : (Cond.methodLink RX1 86 ⟨"java/lang/IllegalArgumentException", "<init>", "(Ljava/lang/String;)V"⟩) ∈ cwL := cwi3 (List.mem_of_getElem? (i := 7) rfl)
theorem mw_188 : (Cond.instanceMethod ⟨"java/lang/IllegalArgumentException", "<init>", "(Ljava/lang/String;)V"⟩) ∈ cwL := cwi3 (List.mem_of_getElem? (i := 8) rfl)
theorem mw_189 : (Cond.code ⟨"java/lang/IllegalArgumentException", "<init>", "(Ljava/lang/String;)V"⟩ prog_6_method_2_code 2 none) ∈ cwL := cwi3 (List.mem_of_getElem? (i := 9) rfl)
theorem mw_190 : (Cond.methodLink "java/lang/IllegalArgumentException" 7 ⟨"java/lang/RuntimeException", "<init>", "(Ljava/lang/String;)V"⟩) ∈ cwL := cwi3 (List.mem_of_getElem? (i := 10) rfl)
theorem mw_191 : (Cond.lays "java/lang/IllegalArgumentException" "java/lang/Throwable" "depth" "I") ∈ cwL := cwi3 (List.mem_of_getElem? (i := 11) rfl)
theorem mw_192 : (Cond.superclass "java/lang/IllegalArgumentException" "java/lang/RuntimeException") ∈ cwL := cwi3 (List.mem_of_getElem? (i := 12) rfl)
theorem mw_193 : (Cond.methodLink RL 64 yL_rate) ∈ cwL := cwi3 (List.mem_of_getElem? (i := 13) rfl)
theorem mw_194 : (Cond.static yL_rate) ∈ cwL := cwi3 (List.mem_of_getElem? (i := 14) rfl)
theorem mw_195 : (Cond.codeWith yL_rate cL_rate 5 (some .int) [(0, 7, 10, 13), (0, 7, 14, 15)]) ∈ cwL := cwi3 (List.mem_of_getElem? (i := 15) rfl)
theorem mw_196 : (Cond.methodLink RL 17 yX1_rate) ∈ cwL := cwi3 (List.mem_of_getElem? (i := 16) rfl)
theorem mw_197 : (Cond.instanceMethod yX1_rate) ∈ cwL := cwi3 (List.mem_of_getElem? (i := 17) rfl)
theorem mw_198 : (Cond.selects RX1 yX1_rate yX1_rate) ∈ cwL := cwi3 (List.mem_of_getElem? (i := 18) rfl)
theorem mw_199 : (Cond.code yX1_rate cX1_rate 4 none) ∈ cwL := cwi3 (List.mem_of_getElem? (i := 19) rfl)
theorem mw_200 : (Cond.methodLink RX1 71 yX1_checkKind) ∈ cwL := cwi3 (List.mem_of_getElem? (i := 20) rfl)
theorem mw_201 : (Cond.static yX1_checkKind) ∈ cwL := cwi3 (List.mem_of_getElem? (i := 21) rfl)
theorem mw_202 : (Cond.code yX1_checkKind cX1_checkKind 1 none) ∈ cwL := cwi3 (List.mem_of_getElem? (i := 22) rfl)
theorem mw_203 : (Cond.methodLink RL 67 yL_accept) ∈ cwL := cwi3 (List.mem_of_getElem? (i := 23) rfl)
theorem mw_204 : (Cond.static yL_accept) ∈ cwL := cwi3 (List.mem_of_getElem? (i := 24) rfl)
theorem mw_205 : (Cond.codeWith yL_accept cL_accept 4 (some .int) [(0, 6, 9, 13), (0, 6, 12, 15)]) ∈ cwL := cwi3 (List.mem_of_getElem? (i := 25) rfl)
theorem mw_206 : (Cond.methodLink RL 20 yX1_accept) ∈ cwL := cwi3 (List.mem_of_getElem? (i := 26) rfl)
theorem mw_207 : (Cond.instanceMethod yX1_accept) ∈ cwL := cwi3 (List.mem_of_getElem? (i := 27) rfl)
theorem mw_208 : (Cond.selects RX1 yX1_accept yX1_accept) ∈ cwL := cwi3 (List.mem_of_getElem? (i := 28) rfl)
theorem mw_209 : (Cond.code yX1_accept cX1_accept 3 none) ∈ cwL := cwi3 (List.mem_of_getElem? (i := 29) rfl)
theorem mw_210 : (Cond.methodLink RL 71 yL_make) ∈ cwL := cwi3 (List.mem_of_getElem? (i := 30) rfl)
theorem mw_211 : (Cond.static yL_make) ∈ cwL := cwi3 (List.mem_of_getElem? (i := 31) rfl)
theorem mw_212 : (Cond.codeWith yL_make cL_make 5 (some .int) [(0, 7, 10, 13), (0, 7, 14, 15)]) ∈ cwL := cwi3 (List.mem_of_getElem? (i := 32) rfl)
theorem mw_213 : (Cond.methodLink RL 24 yX1_make) ∈ cwL := cwi3 (List.mem_of_getElem? (i := 33) rfl)
theorem mw_214 : (Cond.instanceMethod yX1_make) ∈ cwL := cwi3 (List.mem_of_getElem? (i := 34) rfl)
theorem mw_215 : (Cond.selects RX1 yX1_make yX1_make) ∈ cwL := cwi3 (List.mem_of_getElem? (i := 35) rfl)
theorem mw_216 : (Cond.code yX1_make cX1_make 4 none) ∈ cwL := cwi3 (List.mem_of_getElem? (i := 36) rfl)
theorem mw_217 : (Cond.methodLink RL 74 yL_wagon) ∈ cwL := cwi3 (List.mem_of_getElem? (i := 37) rfl)
theorem mw_218 : (Cond.static yL_wagon) ∈ cwL := cwi3 (List.mem_of_getElem? (i := 38) rfl)
theorem mw_219 : (Cond.codeWith yL_wagon cL_wagon 5 (some .int) [(0, 7, 10, 13), (0, 7, 14, 15)]) ∈ cwL := cwi3 (List.mem_of_getElem? (i := 39) rfl)
theorem mw_220 : (Cond.methodLink RL 27 yX1_wagon) ∈ cwL := cwi3 (List.mem_of_getElem? (i := 40) rfl)
theorem mw_221 : (Cond.instanceMethod yX1_wagon) ∈ cwL := cwi3 (List.mem_of_getElem? (i := 41) rfl)
theorem mw_222 : (Cond.selects RX1 yX1_wagon yX1_wagon) ∈ cwL := cwi3 (List.mem_of_getElem? (i := 42) rfl)
theorem mw_223 : (Cond.code yX1_wagon cX1_wagon 5 none) ∈ cwL := cwi3 (List.mem_of_getElem? (i := 43) rfl)
theorem mw_224 : (Cond.methodLink RX1 89 yX1_checkWagon) ∈ cwL := cwi3 (List.mem_of_getElem? (i := 44) rfl)
theorem mw_225 : (Cond.static yX1_checkWagon) ∈ cwL := cwi3 (List.mem_of_getElem? (i := 45) rfl)
theorem mw_226 : (Cond.code yX1_checkWagon cX1_checkWagon 1 none) ∈ cwL := cwi3 (List.mem_of_getElem? (i := 46) rfl)
theorem mw_227 : (Cond.methodLink RL 77 yL_pass) ∈ cwL := cwi3 (List.mem_of_getElem? (i := 47) rfl)
theorem mw_228 : (Cond.static yL_pass) ∈ cwL := cwi3 (List.mem_of_getElem? (i := 48) rfl)
theorem mw_229 : (Cond.codeWith yL_pass cL_pass 4 (some .int) [(0, 9, 12, 15)]) ∈ cwL := cwi3 (List.mem_of_getElem? (i := 49) rfl)
theorem mw_230 : (Cond.methodLink RL 30 yX1_pass) ∈ cwL := cwi3 (List.mem_of_getElem? (i := 50) rfl)
theorem mw_231 : (Cond.instanceMethod yX1_pass) ∈ cwL := cwi3 (List.mem_of_getElem? (i := 51) rfl)
theorem mw_232 : (Cond.selects RX1 yX1_pass yX1_pass) ∈ cwL := cwi3 (List.mem_of_getElem? (i := 52) rfl)
theorem mw_233 : (Cond.code yX1_pass cX1_pass 5 (some .int)) ∈ cwL := cwi3 (List.mem_of_getElem? (i := 53) rfl)
theorem mw_234 : (Cond.methodLink RX1 103 yX1_produceEverywhere) ∈ cwL := cwi3 (List.mem_of_getElem? (i := 54) rfl)
theorem mw_235 : (Cond.instanceMethod yX1_produceEverywhere) ∈ cwL := cwi3 (List.mem_of_getElem? (i := 55) rfl)
theorem mw_236 : (Cond.code yX1_produceEverywhere cX1_produceEverywhere 3 none) ∈ cwL := cwi3 (List.mem_of_getElem? (i := 56) rfl)
theorem mw_237 : (Cond.methodLink RX1 145 yX1_produce) ∈ cwL := cwi3 (List.mem_of_getElem? (i := 57) rfl)
theorem mw_238 : (Cond.instanceMethod yX1_produce) ∈ cwL := cwi3 (List.mem_of_getElem? (i := 58) rfl)
theorem mw_239 : (Cond.code yX1_produce cX1_produce 7 none) ∈ cwL := cwi3 (List.mem_of_getElem? (i := 59) rfl)
theorem mw_240 : (Cond.methodLink RX1 149 Lib.Math.min.name) ∈ cwL := cwi4 (List.mem_of_getElem? (i := 0) rfl)
theorem mw_241 : (Cond.static Lib.Math.min.name) ∈ cwL := cwi4 (List.mem_of_getElem? (i := 1) rfl)
theorem mw_242 : (Cond.code Lib.Math.min.name Lib.Math.min.code 2 (some .int)) ∈ cwL := cwi4 (List.mem_of_getElem? (i := 2) rfl)
theorem mw_243 : (Cond.methodLink RX1 154 yX0_putBehind) ∈ cwL := cwi4 (List.mem_of_getElem? (i := 3) rfl)
theorem mw_244 : (Cond.instanceMethod yX0_putBehind) ∈ cwL := cwi4 (List.mem_of_getElem? (i := 4) rfl)
theorem mw_245 : (Cond.selects RX0 yX0_putBehind yX0_putBehind) ∈ cwL := cwi4 (List.mem_of_getElem? (i := 5) rfl)
theorem mw_246 : (Cond.code yX0_putBehind cX0_putBehind 4 none) ∈ cwL := cwi4 (List.mem_of_getElem? (i := 6) rfl)
theorem mw_247 : (Cond.methodLink RX0 28 yX0_lastIs) ∈ cwL := cwi4 (List.mem_of_getElem? (i := 7) rfl)
theorem mw_248 : (Cond.instanceMethod yX0_lastIs) ∈ cwL := cwi4 (List.mem_of_getElem? (i := 8) rfl)
theorem mw_249 : (Cond.code yX0_lastIs cX0_lastIs 4 (some .boolean)) ∈ cwL := cwi4 (List.mem_of_getElem? (i := 9) rfl)
theorem mw_250 : (Cond.methodLink RL 81 yL_load) ∈ cwL := cwi4 (List.mem_of_getElem? (i := 10) rfl)
theorem mw_251 : (Cond.static yL_load) ∈ cwL := cwi4 (List.mem_of_getElem? (i := 11) rfl)
theorem mw_252 : (Cond.codeWith yL_load cL_load 6 (some .int) [(0, 12, 15, 13), (0, 12, 19, 15)]) ∈ cwL := cwi4 (List.mem_of_getElem? (i := 12) rfl)
theorem mw_253 : (Cond.methodLink RL 34 yX1_load) ∈ cwL := cwi4 (List.mem_of_getElem? (i := 13) rfl)
theorem mw_254 : (Cond.instanceMethod yX1_load) ∈ cwL := cwi4 (List.mem_of_getElem? (i := 14) rfl)
theorem mw_255 : (Cond.selects RX1 yX1_load yX1_load) ∈ cwL := cwi4 (List.mem_of_getElem? (i := 15) rfl)
theorem mw_256 : (Cond.code yX1_load cX1_load 5 (some .int)) ∈ cwL := cwi4 (List.mem_of_getElem? (i := 16) rfl)
theorem mw_257 : (Cond.methodLink RX1 106 yX1_checkNotBelowZero) ∈ cwL := cwi4 (List.mem_of_getElem? (i := 17) rfl)
theorem mw_258 : (Cond.static yX1_checkNotBelowZero) ∈ cwL := cwi4 (List.mem_of_getElem? (i := 18) rfl)
theorem mw_259 : (Cond.code yX1_checkNotBelowZero cX1_checkNotBelowZero 1 none) ∈ cwL := cwi4 (List.mem_of_getElem? (i := 19) rfl)
theorem mw_260 : (Cond.methodLink RX1 109 yX0_moveTo) ∈ cwL := cwi4 (List.mem_of_getElem? (i := 20) rfl)
theorem mw_261 : (Cond.instanceMethod yX0_moveTo) ∈ cwL := cwi4 (List.mem_of_getElem? (i := 21) rfl)
theorem mw_262 : (Cond.selects RX0 yX0_moveTo yX0_moveTo) ∈ cwL := cwi4 (List.mem_of_getElem? (i := 22) rfl)
theorem mw_263 : (Cond.code yX0_moveTo cX0_moveTo 8 (some .int)) ∈ cwL := cwi4 (List.mem_of_getElem? (i := 23) rfl)
theorem mw_264 : (Cond.methodLink RX0 35 Lib.Math.min.name) ∈ cwL := cwi4 (List.mem_of_getElem? (i := 24) rfl)
theorem mw_265 : (Cond.methodLink RX0 41 yX0_putBehind) ∈ cwL := cwi4 (List.mem_of_getElem? (i := 25) rfl)
theorem mw_266 : (Cond.methodLink RX0 45 yX0_takeFromFirst) ∈ cwL := cwi4 (List.mem_of_getElem? (i := 26) rfl)
theorem mw_267 : (Cond.instanceMethod yX0_takeFromFirst) ∈ cwL := cwi4 (List.mem_of_getElem? (i := 27) rfl)
theorem mw_268 : (Cond.selects RX0 yX0_takeFromFirst yX0_takeFromFirst) ∈ cwL := cwi4 (List.mem_of_getElem? (i := 28) rfl)
theorem mw_269 : (Cond.code yX0_takeFromFirst cX0_takeFromFirst 2 none) ∈ cwL := cwi4 (List.mem_of_getElem? (i := 29) rfl)
theorem mw_270 : (Cond.methodLink RX0 32 yX0_dropFirst) ∈ cwL := cwi4 (List.mem_of_getElem? (i := 30) rfl)
theorem mw_271 : (Cond.instanceMethod yX0_dropFirst) ∈ cwL := cwi4 (List.mem_of_getElem? (i := 31) rfl)
theorem mw_272 : (Cond.code yX0_dropFirst cX0_dropFirst 2 none) ∈ cwL := cwi4 (List.mem_of_getElem? (i := 32) rfl)
theorem mw_273 : (Cond.methodLink RL 85 yL_unload) ∈ cwL := cwi4 (List.mem_of_getElem? (i := 33) rfl)
theorem mw_274 : (Cond.static yL_unload) ∈ cwL := cwi4 (List.mem_of_getElem? (i := 34) rfl)
theorem mw_275 : (Cond.codeWith yL_unload cL_unload 6 (some .int) [(0, 12, 15, 13), (0, 12, 19, 15)]) ∈ cwL := cwi4 (List.mem_of_getElem? (i := 35) rfl)
theorem mw_276 : (Cond.methodLink RL 38 yX1_unload) ∈ cwL := cwi4 (List.mem_of_getElem? (i := 36) rfl)
theorem mw_277 : (Cond.instanceMethod yX1_unload) ∈ cwL := cwi4 (List.mem_of_getElem? (i := 37) rfl)
theorem mw_278 : (Cond.selects RX1 yX1_unload yX1_unload) ∈ cwL := cwi4 (List.mem_of_getElem? (i := 38) rfl)
theorem mw_279 : (Cond.code yX1_unload cX1_unload 5 (some .int)) ∈ cwL := cwi4 (List.mem_of_getElem? (i := 39) rfl)
theorem mw_280 : (Cond.methodLink RX1 113 yX1_deliverFrom) ∈ cwL := cwi4 (List.mem_of_getElem? (i := 40) rfl)
theorem mw_281 : (Cond.instanceMethod yX1_deliverFrom) ∈ cwL := cwi4 (List.mem_of_getElem? (i := 41) rfl)
theorem mw_282 : (Cond.code yX1_deliverFrom cX1_deliverFrom 9 (some .int)) ∈ cwL := cwi4 (List.mem_of_getElem? (i := 42) rfl)
theorem mw_283 : (Cond.methodLink RX1 157 yX1_payOfOne) ∈ cwL := cwi4 (List.mem_of_getElem? (i := 43) rfl)
theorem mw_284 : (Cond.instanceMethod yX1_payOfOne) ∈ cwL := cwi4 (List.mem_of_getElem? (i := 44) rfl)
theorem mw_285 : (Cond.code yX1_payOfOne cX1_payOfOne 7 (some .int)) ∈ cwL := cwi4 (List.mem_of_getElem? (i := 45) rfl)
theorem mw_286 : (Cond.methodLink RX1 167 Lib.Math.abs.name) ∈ cwL := cwi4 (List.mem_of_getElem? (i := 46) rfl)
theorem mw_287 : (Cond.static Lib.Math.abs.name) ∈ cwL := cwi4 (List.mem_of_getElem? (i := 47) rfl)
theorem mw_288 : (Cond.code Lib.Math.abs.name Lib.Math.abs.code 1 (some .int)) ∈ cwL := cwi4 (List.mem_of_getElem? (i := 48) rfl)
theorem mw_289 : (Cond.methodLink RX1 170 Lib.Math.max.name) ∈ cwL := cwi4 (List.mem_of_getElem? (i := 49) rfl)
theorem mw_290 : (Cond.static Lib.Math.max.name) ∈ cwL := cwi4 (List.mem_of_getElem? (i := 50) rfl)
theorem mw_291 : (Cond.code Lib.Math.max.name Lib.Math.max.code 2 (some .int)) ∈ cwL := cwi4 (List.mem_of_getElem? (i := 51) rfl)
theorem mw_292 : (Cond.methodLink RX1 161 yX1_earn) ∈ cwL := cwi4 (List.mem_of_getElem? (i := 52) rfl)
theorem mw_293 : (Cond.instanceMethod yX1_earn) ∈ cwL := cwi4 (List.mem_of_getElem? (i := 53) rfl)
theorem mw_294 : (Cond.code yX1_earn cX1_earn 4 none) ∈ cwL := cwi4 (List.mem_of_getElem? (i := 54) rfl)
theorem mw_295 : (Cond.methodLink RX1 164 yX0_takeFromFirst) ∈ cwL := cwi4 (List.mem_of_getElem? (i := 55) rfl)
theorem mw_296 : (Cond.methodLink RL 88 yL_pour) ∈ cwL := cwi4 (List.mem_of_getElem? (i := 56) rfl)
theorem mw_297 : (Cond.static yL_pour) ∈ cwL := cwi4 (List.mem_of_getElem? (i := 57) rfl)
theorem mw_298 : (Cond.codeWith yL_pour cL_pour 4 (some .int) [(0, 6, 9, 13), (0, 6, 12, 15)]) ∈ cwL := cwi4 (List.mem_of_getElem? (i := 58) rfl)
theorem mw_299 : (Cond.methodLink RL 41 yX1_pour) ∈ cwL := cwi4 (List.mem_of_getElem? (i := 59) rfl)
theorem mw_300 : (Cond.instanceMethod yX1_pour) ∈ cwL := cwi5 (List.mem_of_getElem? (i := 0) rfl)
theorem mw_301 : (Cond.selects RX1 yX1_pour yX1_pour) ∈ cwL := cwi5 (List.mem_of_getElem? (i := 1) rfl)
theorem mw_302 : (Cond.code yX1_pour cX1_pour 4 none) ∈ cwL := cwi5 (List.mem_of_getElem? (i := 2) rfl)
theorem mw_303 : (Cond.methodLink RX1 117 yX1_checkFellows) ∈ cwL := cwi5 (List.mem_of_getElem? (i := 3) rfl)
theorem mw_304 : (Cond.instanceMethod yX1_checkFellows) ∈ cwL := cwi5 (List.mem_of_getElem? (i := 4) rfl)
theorem mw_305 : (Cond.code yX1_checkFellows cX1_checkFellows 3 none) ∈ cwL := cwi5 (List.mem_of_getElem? (i := 5) rfl)
theorem mw_306 : (Cond.methodLink RL 91 yL_part) ∈ cwL := cwi5 (List.mem_of_getElem? (i := 6) rfl)
theorem mw_307 : (Cond.static yL_part) ∈ cwL := cwi5 (List.mem_of_getElem? (i := 7) rfl)
theorem mw_308 : (Cond.codeWith yL_part cL_part 5 (some .int) [(0, 7, 10, 13), (0, 7, 14, 15)]) ∈ cwL := cwi5 (List.mem_of_getElem? (i := 8) rfl)
theorem mw_309 : (Cond.methodLink RL 44 yX1_part) ∈ cwL := cwi5 (List.mem_of_getElem? (i := 9) rfl)
theorem mw_310 : (Cond.instanceMethod yX1_part) ∈ cwL := cwi5 (List.mem_of_getElem? (i := 10) rfl)
theorem mw_311 : (Cond.selects RX1 yX1_part yX1_part) ∈ cwL := cwi5 (List.mem_of_getElem? (i := 11) rfl)
theorem mw_312 : (Cond.code yX1_part cX1_part 4 none) ∈ cwL := cwi5 (List.mem_of_getElem? (i := 12) rfl)
theorem mw_313 : (Cond.methodLink RX1 124 yX0_moveAllBehind) ∈ cwL := cwi5 (List.mem_of_getElem? (i := 13) rfl)
theorem mw_314 : (Cond.instanceMethod yX0_moveAllBehind) ∈ cwL := cwi5 (List.mem_of_getElem? (i := 14) rfl)
theorem mw_315 : (Cond.selects RX0 yX0_moveAllBehind yX0_moveAllBehind) ∈ cwL := cwi5 (List.mem_of_getElem? (i := 15) rfl)
theorem mw_316 : (Cond.code yX0_moveAllBehind cX0_moveAllBehind 8 none) ∈ cwL := cwi5 (List.mem_of_getElem? (i := 16) rfl)
theorem mw_317 : (Cond.methodLink RL 94 yL_dump) ∈ cwL := cwi5 (List.mem_of_getElem? (i := 17) rfl)
theorem mw_318 : (Cond.static yL_dump) ∈ cwL := cwi5 (List.mem_of_getElem? (i := 18) rfl)
theorem mw_319 : (Cond.codeWith yL_dump cL_dump 4 (some .int) [(0, 9, 12, 13)]) ∈ cwL := cwi5 (List.mem_of_getElem? (i := 19) rfl)
theorem mw_320 : (Cond.methodLink RL 47 yX1_dump) ∈ cwL := cwi5 (List.mem_of_getElem? (i := 20) rfl)
theorem mw_321 : (Cond.instanceMethod yX1_dump) ∈ cwL := cwi5 (List.mem_of_getElem? (i := 21) rfl)
theorem mw_322 : (Cond.selects RX1 yX1_dump yX1_dump) ∈ cwL := cwi5 (List.mem_of_getElem? (i := 22) rfl)
theorem mw_323 : (Cond.code yX1_dump cX1_dump 3 (some .int)) ∈ cwL := cwi5 (List.mem_of_getElem? (i := 23) rfl)
theorem mw_324 : (Cond.methodLink RX1 128 yX0_clear) ∈ cwL := cwi5 (List.mem_of_getElem? (i := 24) rfl)
theorem mw_325 : (Cond.instanceMethod yX0_clear) ∈ cwL := cwi5 (List.mem_of_getElem? (i := 25) rfl)
theorem mw_326 : (Cond.selects RX0 yX0_clear yX0_clear) ∈ cwL := cwi5 (List.mem_of_getElem? (i := 26) rfl)
theorem mw_327 : (Cond.code yX0_clear cX0_clear 1 none) ∈ cwL := cwi5 (List.mem_of_getElem? (i := 27) rfl)
theorem mw_328 : (Cond.classLink RL 51 RX2) ∈ cwL := cwi5 (List.mem_of_getElem? (i := 28) rfl)
theorem mw_329 : (Cond.instantiable RX2 18) ∈ cwL := cwi5 (List.mem_of_getElem? (i := 29) rfl)
theorem mw_330 : (Cond.methodLink RL 53 yX2_init) ∈ cwL := cwi5 (List.mem_of_getElem? (i := 30) rfl)
theorem mw_331 : (Cond.instanceMethod yX2_init) ∈ cwL := cwi5 (List.mem_of_getElem? (i := 31) rfl)
theorem mw_332 : (Cond.code yX2_init cX2_init 2 none) ∈ cwL := cwi5 (List.mem_of_getElem? (i := 32) rfl)
theorem mw_333 : (Cond.methodLink RX2 1 objectInit) ∈ cwL := cwi5 (List.mem_of_getElem? (i := 33) rfl)
theorem mw_334 : (Cond.constant RX2 38 (49000)) ∈ cwL := cwi5 (List.mem_of_getElem? (i := 34) rfl)
theorem mw_335 : (Cond.fieldLink RX2 54 RX2 "thrown" "I") ∈ cwL := cwi5 (List.mem_of_getElem? (i := 35) rfl)
theorem mw_336 : (Cond.fieldLink RX2 74 RX2 "time" "I") ∈ cwL := cwi5 (List.mem_of_getElem? (i := 36) rfl)
theorem mw_337 : (Cond.fieldLink RX2 7 RX2 "money" "I") ∈ cwL := cwi5 (List.mem_of_getElem? (i := 37) rfl)
theorem mw_338 : (Cond.fieldLink RX2 91 RX2 "earned" "I") ∈ cwL := cwi5 (List.mem_of_getElem? (i := 38) rfl)
theorem mw_339 : (Cond.fieldLink RX2 98 RX2 "spent" "I") ∈ cwL := cwi5 (List.mem_of_getElem? (i := 39) rfl)
theorem mw_340 : (Cond.fieldLink RX2 13 RX2 "columns" "[I") ∈ cwL := cwi5 (List.mem_of_getElem? (i := 40) rfl)
theorem mw_341 : (Cond.fieldLink RX2 17 RX2 "lines" "[I") ∈ cwL := cwi5 (List.mem_of_getElem? (i := 41) rfl)
theorem mw_342 : (Cond.fieldLink RX2 20 RX2 "accepts" "[I") ∈ cwL := cwi5 (List.mem_of_getElem? (i := 42) rfl)
theorem mw_343 : (Cond.fieldLink RX2 23 RX2 "rates" "[I") ∈ cwL := cwi5 (List.mem_of_getElem? (i := 43) rfl)
theorem mw_344 : (Cond.fieldLink RX2 26 RX2 "made" "[I") ∈ cwL := cwi5 (List.mem_of_getElem? (i := 44) rfl)
theorem mw_345 : (Cond.fieldLink RX2 29 RX2 "wagonKind" "[I") ∈ cwL := cwi5 (List.mem_of_getElem? (i := 45) rfl)
theorem mw_346 : (Cond.fieldLink RX2 32 RX2 "wagonRoom" "[I") ∈ cwL := cwi5 (List.mem_of_getElem? (i := 46) rfl)
theorem mw_347 : (Cond.fieldLink RX2 35 RX2 "size" "[I") ∈ cwL := cwi5 (List.mem_of_getElem? (i := 47) rfl)
theorem mw_348 : (Cond.fieldLink RX2 39 RX2 "origins" "[I") ∈ cwL := cwi5 (List.mem_of_getElem? (i := 48) rfl)
theorem mw_349 : (Cond.fieldLink RX2 42 RX2 "born" "[I") ∈ cwL := cwi5 (List.mem_of_getElem? (i := 49) rfl)
theorem mw_350 : (Cond.fieldLink RX2 45 RX2 "produced" "[I") ∈ cwL := cwi5 (List.mem_of_getElem? (i := 50) rfl)
theorem mw_351 : (Cond.fieldLink RX2 48 RX2 "delivered" "[I") ∈ cwL := cwi5 (List.mem_of_getElem? (i := 51) rfl)
theorem mw_352 : (Cond.fieldLink RX2 51 RX2 "dumped" "[I") ∈ cwL := cwi5 (List.mem_of_getElem? (i := 52) rfl)
theorem mw_353 : (Cond.lays RX2 RX2 "thrown" "I") ∈ cwL := cwi5 (List.mem_of_getElem? (i := 53) rfl)
theorem mw_354 : (Cond.lays RX2 RX2 "time" "I") ∈ cwL := cwi5 (List.mem_of_getElem? (i := 54) rfl)
theorem mw_355 : (Cond.lays RX2 RX2 "money" "I") ∈ cwL := cwi5 (List.mem_of_getElem? (i := 55) rfl)
theorem mw_356 : (Cond.lays RX2 RX2 "earned" "I") ∈ cwL := cwi5 (List.mem_of_getElem? (i := 56) rfl)
theorem mw_357 : (Cond.lays RX2 RX2 "spent" "I") ∈ cwL := cwi5 (List.mem_of_getElem? (i := 57) rfl)
theorem mw_358 : (Cond.laysFinal RX2 RX2 "columns" "[I") ∈ cwL := cwi5 (List.mem_of_getElem? (i := 58) rfl)
theorem mw_359 : (Cond.laysFinal RX2 RX2 "lines" "[I") ∈ cwL := cwi5 (List.mem_of_getElem? (i := 59) rfl)
theorem mw_360 : (Cond.laysFinal RX2 RX2 "accepts" "[I") ∈ cwL := cwi6 (List.mem_of_getElem? (i := 0) rfl)
theorem mw_361 : (Cond.laysFinal RX2 RX2 "rates" "[I") ∈ cwL := cwi6 (List.mem_of_getElem? (i := 1) rfl)
theorem mw_362 : (Cond.laysFinal RX2 RX2 "made" "[I") ∈ cwL := cwi6 (List.mem_of_getElem? (i := 2) rfl)
theorem mw_363 : (Cond.laysFinal RX2 RX2 "wagonKind" "[I") ∈ cwL := cwi6 (List.mem_of_getElem? (i := 3) rfl)
theorem mw_364 : (Cond.laysFinal RX2 RX2 "wagonRoom" "[I") ∈ cwL := cwi6 (List.mem_of_getElem? (i := 4) rfl)
theorem mw_365 : (Cond.laysFinal RX2 RX2 "size" "[I") ∈ cwL := cwi6 (List.mem_of_getElem? (i := 5) rfl)
theorem mw_366 : (Cond.laysFinal RX2 RX2 "origins" "[I") ∈ cwL := cwi6 (List.mem_of_getElem? (i := 6) rfl)
theorem mw_367 : (Cond.laysFinal RX2 RX2 "born" "[I") ∈ cwL := cwi6 (List.mem_of_getElem? (i := 7) rfl)
theorem mw_368 : (Cond.laysFinal RX2 RX2 "produced" "[I") ∈ cwL := cwi6 (List.mem_of_getElem? (i := 8) rfl)
theorem mw_369 : (Cond.laysFinal RX2 RX2 "delivered" "[I") ∈ cwL := cwi6 (List.mem_of_getElem? (i := 9) rfl)
theorem mw_370 : (Cond.laysFinal RX2 RX2 "dumped" "[I") ∈ cwL := cwi6 (List.mem_of_getElem? (i := 10) rfl)
theorem mw_371 : (Cond.superclass RX2 "java/lang/Object") ∈ cwL := cwi6 (List.mem_of_getElem? (i := 11) rfl)
theorem mw_372 : (Cond.methodLink RL 60 yX2_thrown) ∈ cwL := cwi6 (List.mem_of_getElem? (i := 12) rfl)
theorem mw_373 : (Cond.instanceMethod yX2_thrown) ∈ cwL := cwi6 (List.mem_of_getElem? (i := 13) rfl)
theorem mw_374 : (Cond.selects RX2 yX2_thrown yX2_thrown) ∈ cwL := cwi6 (List.mem_of_getElem? (i := 14) rfl)
theorem mw_375 : (Cond.code yX2_thrown cX2_thrown 1 (some .int)) ∈ cwL := cwi6 (List.mem_of_getElem? (i := 15) rfl)
theorem mw_376 : (Cond.methodLink RL 59 yX2_place) ∈ cwL := cwi6 (List.mem_of_getElem? (i := 16) rfl)
theorem mw_377 : (Cond.instanceMethod yX2_place) ∈ cwL := cwi6 (List.mem_of_getElem? (i := 17) rfl)
theorem mw_378 : (Cond.selects RX2 yX2_place yX2_place) ∈ cwL := cwi6 (List.mem_of_getElem? (i := 18) rfl)
theorem mw_379 : (Cond.code yX2_place cX2_place 4 none) ∈ cwL := cwi6 (List.mem_of_getElem? (i := 19) rfl)
theorem mw_380 : (Cond.methodLink RX2 77 yX2_in) ∈ cwL := cwi6 (List.mem_of_getElem? (i := 20) rfl)
theorem mw_381 : (Cond.static yX2_in) ∈ cwL := cwi6 (List.mem_of_getElem? (i := 21) rfl)
theorem mw_382 : (Cond.code yX2_in cX2_in 2 (some .boolean)) ∈ cwL := cwi6 (List.mem_of_getElem? (i := 22) rfl)
theorem mw_383 : (Cond.methodLink RL 66 yX2_rate) ∈ cwL := cwi6 (List.mem_of_getElem? (i := 23) rfl)
theorem mw_384 : (Cond.instanceMethod yX2_rate) ∈ cwL := cwi6 (List.mem_of_getElem? (i := 24) rfl)
theorem mw_385 : (Cond.selects RX2 yX2_rate yX2_rate) ∈ cwL := cwi6 (List.mem_of_getElem? (i := 25) rfl)
theorem mw_386 : (Cond.code yX2_rate cX2_rate 4 none) ∈ cwL := cwi6 (List.mem_of_getElem? (i := 26) rfl)
theorem mw_387 : (Cond.methodLink RL 70 yX2_accept) ∈ cwL := cwi6 (List.mem_of_getElem? (i := 27) rfl)
theorem mw_388 : (Cond.instanceMethod yX2_accept) ∈ cwL := cwi6 (List.mem_of_getElem? (i := 28) rfl)
theorem mw_389 : (Cond.selects RX2 yX2_accept yX2_accept) ∈ cwL := cwi6 (List.mem_of_getElem? (i := 29) rfl)
theorem mw_390 : (Cond.code yX2_accept cX2_accept 3 none) ∈ cwL := cwi6 (List.mem_of_getElem? (i := 30) rfl)
theorem mw_391 : (Cond.methodLink RL 73 yX2_make) ∈ cwL := cwi6 (List.mem_of_getElem? (i := 31) rfl)
theorem mw_392 : (Cond.instanceMethod yX2_make) ∈ cwL := cwi6 (List.mem_of_getElem? (i := 32) rfl)
theorem mw_393 : (Cond.selects RX2 yX2_make yX2_make) ∈ cwL := cwi6 (List.mem_of_getElem? (i := 33) rfl)
theorem mw_394 : (Cond.code yX2_make cX2_make 4 none) ∈ cwL := cwi6 (List.mem_of_getElem? (i := 34) rfl)
theorem mw_395 : (Cond.methodLink RL 76 yX2_wagon) ∈ cwL := cwi6 (List.mem_of_getElem? (i := 35) rfl)
theorem mw_396 : (Cond.instanceMethod yX2_wagon) ∈ cwL := cwi6 (List.mem_of_getElem? (i := 36) rfl)
theorem mw_397 : (Cond.selects RX2 yX2_wagon yX2_wagon) ∈ cwL := cwi6 (List.mem_of_getElem? (i := 37) rfl)
theorem mw_398 : (Cond.code yX2_wagon cX2_wagon 4 none) ∈ cwL := cwi6 (List.mem_of_getElem? (i := 38) rfl)
theorem mw_399 : (Cond.methodLink RL 80 yX2_pass) ∈ cwL := cwi6 (List.mem_of_getElem? (i := 39) rfl)
theorem mw_400 : (Cond.instanceMethod yX2_pass) ∈ cwL := cwi6 (List.mem_of_getElem? (i := 40) rfl)
theorem mw_401 : (Cond.selects RX2 yX2_pass yX2_pass) ∈ cwL := cwi6 (List.mem_of_getElem? (i := 41) rfl)
theorem mw_402 : (Cond.code yX2_pass cX2_pass 5 (some .int)) ∈ cwL := cwi6 (List.mem_of_getElem? (i := 42) rfl)
theorem mw_403 : (Cond.constant RX2 73 (2000000000)) ∈ cwL := cwi6 (List.mem_of_getElem? (i := 43) rfl)
theorem mw_404 : (Cond.methodLink RX2 80 yX2_produce) ∈ cwL := cwi6 (List.mem_of_getElem? (i := 44) rfl)
theorem mw_405 : (Cond.instanceMethod yX2_produce) ∈ cwL := cwi6 (List.mem_of_getElem? (i := 45) rfl)
theorem mw_406 : (Cond.code yX2_produce cX2_produce 3 none) ∈ cwL := cwi6 (List.mem_of_getElem? (i := 46) rfl)
theorem mw_407 : (Cond.methodLink RX2 69 yX2_put) ∈ cwL := cwi6 (List.mem_of_getElem? (i := 47) rfl)
theorem mw_408 : (Cond.instanceMethod yX2_put) ∈ cwL := cwi6 (List.mem_of_getElem? (i := 48) rfl)
theorem mw_409 : (Cond.code yX2_put cX2_put 6 none) ∈ cwL := cwi6 (List.mem_of_getElem? (i := 49) rfl)
theorem mw_410 : (Cond.methodLink RX2 61 yX2_packets) ∈ cwL := cwi6 (List.mem_of_getElem? (i := 50) rfl)
theorem mw_411 : (Cond.instanceMethod yX2_packets) ∈ cwL := cwi6 (List.mem_of_getElem? (i := 51) rfl)
theorem mw_412 : (Cond.code yX2_packets cX2_packets 4 (some .int)) ∈ cwL := cwi6 (List.mem_of_getElem? (i := 52) rfl)
theorem mw_413 : (Cond.methodLink RX2 57 yX2_isFirst) ∈ cwL := cwi6 (List.mem_of_getElem? (i := 53) rfl)
theorem mw_414 : (Cond.instanceMethod yX2_isFirst) ∈ cwL := cwi6 (List.mem_of_getElem? (i := 54) rfl)
theorem mw_415 : (Cond.code yX2_isFirst cX2_isFirst 3 (some .boolean)) ∈ cwL := cwi6 (List.mem_of_getElem? (i := 55) rfl)
theorem mw_416 : (Cond.methodLink RL 84 yX2_load) ∈ cwL := cwi6 (List.mem_of_getElem? (i := 56) rfl)
theorem mw_417 : (Cond.instanceMethod yX2_load) ∈ cwL := cwi6 (List.mem_of_getElem? (i := 57) rfl)
theorem mw_418 : (Cond.selects RX2 yX2_load yX2_load) ∈ cwL := cwi6 (List.mem_of_getElem? (i := 58) rfl)
theorem mw_419 : (Cond.code yX2_load cX2_load 6 (some .int)) ∈ cwL := cwi6 (List.mem_of_getElem? (i := 59) rfl)
theorem mw_420 : (Cond.methodLink RX2 84 yX2_move) ∈ cwL := cwi7 (List.mem_of_getElem? (i := 0) rfl)
theorem mw_421 : (Cond.instanceMethod yX2_move) ∈ cwL := cwi7 (List.mem_of_getElem? (i := 1) rfl)
theorem mw_422 : (Cond.code yX2_move cX2_move 5 none) ∈ cwL := cwi7 (List.mem_of_getElem? (i := 2) rfl)
theorem mw_423 : (Cond.methodLink RX2 65 yX2_drop) ∈ cwL := cwi7 (List.mem_of_getElem? (i := 3) rfl)
theorem mw_424 : (Cond.instanceMethod yX2_drop) ∈ cwL := cwi7 (List.mem_of_getElem? (i := 4) rfl)
theorem mw_425 : (Cond.code yX2_drop cX2_drop 3 none) ∈ cwL := cwi7 (List.mem_of_getElem? (i := 5) rfl)
theorem mw_426 : (Cond.methodLink RL 87 yX2_unload) ∈ cwL := cwi7 (List.mem_of_getElem? (i := 6) rfl)
theorem mw_427 : (Cond.instanceMethod yX2_unload) ∈ cwL := cwi7 (List.mem_of_getElem? (i := 7) rfl)
theorem mw_428 : (Cond.selects RX2 yX2_unload yX2_unload) ∈ cwL := cwi7 (List.mem_of_getElem? (i := 8) rfl)
theorem mw_429 : (Cond.code yX2_unload cX2_unload 9 (some .int)) ∈ cwL := cwi7 (List.mem_of_getElem? (i := 9) rfl)
theorem mw_430 : (Cond.methodLink RX2 94 yX2_pay) ∈ cwL := cwi7 (List.mem_of_getElem? (i := 10) rfl)
theorem mw_431 : (Cond.instanceMethod yX2_pay) ∈ cwL := cwi7 (List.mem_of_getElem? (i := 11) rfl)
theorem mw_432 : (Cond.code yX2_pay cX2_pay 6 none) ∈ cwL := cwi7 (List.mem_of_getElem? (i := 12) rfl)
theorem mw_433 : (Cond.methodLink RX2 87 yX2_apart) ∈ cwL := cwi7 (List.mem_of_getElem? (i := 13) rfl)
theorem mw_434 : (Cond.static yX2_apart) ∈ cwL := cwi7 (List.mem_of_getElem? (i := 14) rfl)
theorem mw_435 : (Cond.code yX2_apart cX2_apart 2 (some .int)) ∈ cwL := cwi7 (List.mem_of_getElem? (i := 15) rfl)
theorem mw_436 : (Cond.methodLink RL 90 yX2_pour) ∈ cwL := cwi7 (List.mem_of_getElem? (i := 16) rfl)
theorem mw_437 : (Cond.instanceMethod yX2_pour) ∈ cwL := cwi7 (List.mem_of_getElem? (i := 17) rfl)
theorem mw_438 : (Cond.selects RX2 yX2_pour yX2_pour) ∈ cwL := cwi7 (List.mem_of_getElem? (i := 18) rfl)
theorem mw_439 : (Cond.code yX2_pour cX2_pour 4 none) ∈ cwL := cwi7 (List.mem_of_getElem? (i := 19) rfl)
theorem mw_440 : (Cond.methodLink RL 93 yX2_part) ∈ cwL := cwi7 (List.mem_of_getElem? (i := 20) rfl)
theorem mw_441 : (Cond.instanceMethod yX2_part) ∈ cwL := cwi7 (List.mem_of_getElem? (i := 21) rfl)
theorem mw_442 : (Cond.selects RX2 yX2_part yX2_part) ∈ cwL := cwi7 (List.mem_of_getElem? (i := 22) rfl)
theorem mw_443 : (Cond.code yX2_part cX2_part 7 none) ∈ cwL := cwi7 (List.mem_of_getElem? (i := 23) rfl)
theorem mw_444 : (Cond.constant RX2 97 (48000)) ∈ cwL := cwi7 (List.mem_of_getElem? (i := 24) rfl)
theorem mw_445 : (Cond.methodLink RL 96 yX2_dump) ∈ cwL := cwi7 (List.mem_of_getElem? (i := 25) rfl)
theorem mw_446 : (Cond.instanceMethod yX2_dump) ∈ cwL := cwi7 (List.mem_of_getElem? (i := 26) rfl)
theorem mw_447 : (Cond.selects RX2 yX2_dump yX2_dump) ∈ cwL := cwi7 (List.mem_of_getElem? (i := 27) rfl)
theorem mw_448 : (Cond.code yX2_dump cX2_dump 3 (some .int)) ∈ cwL := cwi7 (List.mem_of_getElem? (i := 28) rfl)
theorem mw_449 : (Cond.methodLink RL 101 yX2_spend) ∈ cwL := cwi7 (List.mem_of_getElem? (i := 29) rfl)
theorem mw_450 : (Cond.instanceMethod yX2_spend) ∈ cwL := cwi7 (List.mem_of_getElem? (i := 30) rfl)
theorem mw_451 : (Cond.selects RX2 yX2_spend yX2_spend) ∈ cwL := cwi7 (List.mem_of_getElem? (i := 31) rfl)
theorem mw_452 : (Cond.code yX2_spend cX2_spend 2 (some .boolean)) ∈ cwL := cwi7 (List.mem_of_getElem? (i := 32) rfl)
theorem mw_453 : (Cond.methodLink RL 106 yX2_packet) ∈ cwL := cwi7 (List.mem_of_getElem? (i := 33) rfl)
theorem mw_454 : (Cond.instanceMethod yX2_packet) ∈ cwL := cwi7 (List.mem_of_getElem? (i := 34) rfl)
theorem mw_455 : (Cond.selects RX2 yX2_packet yX2_packet) ∈ cwL := cwi7 (List.mem_of_getElem? (i := 35) rfl)
theorem mw_456 : (Cond.code yX2_packet cX2_packet 9 (some .int)) ∈ cwL := cwi7 (List.mem_of_getElem? (i := 36) rfl)
theorem mw_457 : (Cond.methodLink RX2 101 yX2_rowOf) ∈ cwL := cwi7 (List.mem_of_getElem? (i := 37) rfl)
theorem mw_458 : (Cond.instanceMethod yX2_rowOf) ∈ cwL := cwi7 (List.mem_of_getElem? (i := 38) rfl)
theorem mw_459 : (Cond.code yX2_rowOf cX2_rowOf 3 (some .int)) ∈ cwL := cwi7 (List.mem_of_getElem? (i := 39) rfl)
theorem mw_460 : (Cond.methodLink RL 111 yX2_units) ∈ cwL := cwi7 (List.mem_of_getElem? (i := 40) rfl)
theorem mw_461 : (Cond.instanceMethod yX2_units) ∈ cwL := cwi7 (List.mem_of_getElem? (i := 41) rfl)
theorem mw_462 : (Cond.selects RX2 yX2_units yX2_units) ∈ cwL := cwi7 (List.mem_of_getElem? (i := 42) rfl)
theorem mw_463 : (Cond.code yX2_units cX2_units 4 (some .int)) ∈ cwL := cwi7 (List.mem_of_getElem? (i := 43) rfl)
theorem mw_464 : (Cond.methodLink RL 115 yX2_count) ∈ cwL := cwi7 (List.mem_of_getElem? (i := 44) rfl)
theorem mw_465 : (Cond.instanceMethod yX2_count) ∈ cwL := cwi7 (List.mem_of_getElem? (i := 45) rfl)
theorem mw_466 : (Cond.selects RX2 yX2_count yX2_count) ∈ cwL := cwi7 (List.mem_of_getElem? (i := 46) rfl)
theorem mw_467 : (Cond.code yX2_count cX2_count 5 (some .int)) ∈ cwL := cwi7 (List.mem_of_getElem? (i := 47) rfl)
theorem mw_468 : (Cond.methodLink RL 119 yX2_sum) ∈ cwL := cwi7 (List.mem_of_getElem? (i := 48) rfl)
theorem mw_469 : (Cond.instanceMethod yX2_sum) ∈ cwL := cwi7 (List.mem_of_getElem? (i := 49) rfl)
theorem mw_470 : (Cond.selects RX2 yX2_sum yX2_sum) ∈ cwL := cwi7 (List.mem_of_getElem? (i := 50) rfl)
theorem mw_471 : (Cond.code yX2_sum cX2_sum 2 (some .int)) ∈ cwL := cwi7 (List.mem_of_getElem? (i := 51) rfl)
theorem mw_472 : (Cond.arrayClass .long) ∈ cwL := cwi7 (List.mem_of_getElem? (i := 52) rfl)
theorem mw_473 : (Cond.sameMethod "java/lang/Throwable" "java/lang/Throwable" "fillInStackTrace" "(I)Ljava/lang/Throwable;") ∈ cwL := cwi7 (List.mem_of_getElem? (i := 53) rfl)
theorem mw_474 : (Cond.selects RX1 yX1_rowAt yX1_rowAt) ∈ cwL := cwi7 (List.mem_of_getElem? (i := 54) rfl)
theorem mw_475 : (Cond.selects RX1 yX1_unitsInStocks yX1_unitsInStocks) ∈ cwL := cwi7 (List.mem_of_getElem? (i := 55) rfl)
theorem mw_476 : (Cond.selects RX1 yX1_unitsInWagons yX1_unitsInWagons) ∈ cwL := cwi7 (List.mem_of_getElem? (i := 56) rfl)
theorem mw_477 : (Cond.selects RX1 yX1_produceEverywhere yX1_produceEverywhere) ∈ cwL := cwi7 (List.mem_of_getElem? (i := 57) rfl)
theorem mw_478 : (Cond.selects RX1 yX1_produce yX1_produce) ∈ cwL := cwi7 (List.mem_of_getElem? (i := 58) rfl)
theorem mw_479 : (Cond.selects RX0 yX0_lastIs yX0_lastIs) ∈ cwL := cwi7 (List.mem_of_getElem? (i := 59) rfl)
theorem mw_480 : (Cond.selects RX0 yX0_dropFirst yX0_dropFirst) ∈ cwL := cwi8 (List.mem_of_getElem? (i := 0) rfl)
theorem mw_481 : (Cond.selects RX1 yX1_deliverFrom yX1_deliverFrom) ∈ cwL := cwi8 (List.mem_of_getElem? (i := 1) rfl)
theorem mw_482 : (Cond.selects RX1 yX1_payOfOne yX1_payOfOne) ∈ cwL := cwi8 (List.mem_of_getElem? (i := 2) rfl)
theorem mw_483 : (Cond.selects RX1 yX1_earn yX1_earn) ∈ cwL := cwi8 (List.mem_of_getElem? (i := 3) rfl)
theorem mw_484 : (Cond.selects RX1 yX1_checkFellows yX1_checkFellows) ∈ cwL := cwi8 (List.mem_of_getElem? (i := 4) rfl)
theorem mw_485 : (Cond.selects RX2 yX2_produce yX2_produce) ∈ cwL := cwi8 (List.mem_of_getElem? (i := 5) rfl)
theorem mw_486 : (Cond.selects RX2 yX2_put yX2_put) ∈ cwL := cwi8 (List.mem_of_getElem? (i := 6) rfl)
theorem mw_487 : (Cond.selects RX2 yX2_packets yX2_packets) ∈ cwL := cwi8 (List.mem_of_getElem? (i := 7) rfl)
theorem mw_488 : (Cond.selects RX2 yX2_isFirst yX2_isFirst) ∈ cwL := cwi8 (List.mem_of_getElem? (i := 8) rfl)
theorem mw_489 : (Cond.selects RX2 yX2_move yX2_move) ∈ cwL := cwi8 (List.mem_of_getElem? (i := 9) rfl)
theorem mw_490 : (Cond.selects RX2 yX2_drop yX2_drop) ∈ cwL := cwi8 (List.mem_of_getElem? (i := 10) rfl)
theorem mw_491 : (Cond.selects RX2 yX2_pay yX2_pay) ∈ cwL := cwi8 (List.mem_of_getElem? (i := 11) rfl)
theorem mw_492 : (Cond.selects RX2 yX2_rowOf yX2_rowOf) ∈ cwL := cwi8 (List.mem_of_getElem? (i := 12) rfl)
theorem in_X0 : ∀ w ∈ u_ws RX0 TX0 5, w ∈ cwL := by decide +kernel
theorem in_X1 : ∀ w ∈ u_ws RX1 TX1 16, w ∈ cwL := by decide +kernel
theorem in_X2 : ∀ w ∈ u_ws RX2 TX2 18, w ∈ cwL := by decide +kernel
abbrev wsX1_init : List Cond := .code yX1_init cX1_init 2 none :: cwL
abbrev wsX0_init : List Cond := .code yX0_init cX0_init 1 none :: cwL
abbrev wsX1_spend : List Cond := .code yX1_spend cX1_spend 2 (some .boolean) :: cwL
abbrev wsX1_packet : List Cond := .code yX1_packet cX1_packet 6 (some .int) :: cwL
abbrev wsX1_rowAt : List Cond := .code yX1_rowAt cX1_rowAt 3 (some (.object "PacketStores$Row")) :: cwL
abbrev wsX1_isStation : List Cond := .code yX1_isStation cX1_isStation 1 (some .boolean) :: cwL
abbrev wsX1_isKind : List Cond := .code yX1_isKind cX1_isKind 1 (some .boolean) :: cwL
abbrev wsX1_stockIndex : List Cond := .code yX1_stockIndex cX1_stockIndex 2 (some .int) :: cwL
abbrev wsX0_look : List Cond := .code yX0_look cX0_look 3 (some .int) :: cwL
abbrev wsX1_units : List Cond := .code yX1_units cX1_units 4 (some .int) :: cwL
abbrev wsX0_total : List Cond := .code yX0_total cX0_total 1 (some .int) :: cwL
abbrev wsX1_count : List Cond := .code yX1_count cX1_count 3 (some .int) :: cwL
abbrev wsX1_unitsInStocks : List Cond := .code yX1_unitsInStocks cX1_unitsInStocks 4 (some .int) :: cwL
abbrev wsX1_unitsInWagons : List Cond := .code yX1_unitsInWagons cX1_unitsInWagons 4 (some .int) :: cwL
abbrev wsX1_sum : List Cond := .code yX1_sum cX1_sum 2 (some .int) :: cwL
abbrev wsL_place : List Cond := .codeWith yL_place cL_place 5 (some .int) [(0, 7, 10, 13), (0, 7, 14, 15)] :: cwL
abbrev wsX1_place : List Cond := .code yX1_place cX1_place 4 none :: cwL
abbrev wsX1_checkStation : List Cond := .code yX1_checkStation cX1_checkStation 1 none :: cwL
abbrev wsX1_checkRange : List Cond := .code yX1_checkRange cX1_checkRange 2 none :: cwL
abbrev wsL_rate : List Cond := .codeWith yL_rate cL_rate 5 (some .int) [(0, 7, 10, 13), (0, 7, 14, 15)] :: cwL
abbrev wsX1_rate : List Cond := .code yX1_rate cX1_rate 4 none :: cwL
abbrev wsX1_checkKind : List Cond := .code yX1_checkKind cX1_checkKind 1 none :: cwL
abbrev wsL_accept : List Cond := .codeWith yL_accept cL_accept 4 (some .int) [(0, 6, 9, 13), (0, 6, 12, 15)] :: cwL
abbrev wsX1_accept : List Cond := .code yX1_accept cX1_accept 3 none :: cwL
abbrev wsL_make : List Cond := .codeWith yL_make cL_make 5 (some .int) [(0, 7, 10, 13), (0, 7, 14, 15)] :: cwL
abbrev wsX1_make : List Cond := .code yX1_make cX1_make 4 none :: cwL
abbrev wsL_wagon : List Cond := .codeWith yL_wagon cL_wagon 5 (some .int) [(0, 7, 10, 13), (0, 7, 14, 15)] :: cwL
abbrev wsX1_wagon : List Cond := .code yX1_wagon cX1_wagon 5 none :: cwL
abbrev wsX1_checkWagon : List Cond := .code yX1_checkWagon cX1_checkWagon 1 none :: cwL
abbrev wsL_pass : List Cond := .codeWith yL_pass cL_pass 4 (some .int) [(0, 9, 12, 15)] :: cwL
abbrev wsX1_pass : List Cond := .code yX1_pass cX1_pass 5 (some .int) :: cwL
abbrev wsX1_produceEverywhere : List Cond := .code yX1_produceEverywhere cX1_produceEverywhere 3 none :: cwL
abbrev wsX1_produce : List Cond := .code yX1_produce cX1_produce 7 none :: cwL
abbrev wsX0_putBehind : List Cond := .code yX0_putBehind cX0_putBehind 4 none :: cwL
abbrev wsX0_lastIs : List Cond := .code yX0_lastIs cX0_lastIs 4 (some .boolean) :: cwL
abbrev wsL_load : List Cond := .codeWith yL_load cL_load 6 (some .int) [(0, 12, 15, 13), (0, 12, 19, 15)] :: cwL
abbrev wsX1_load : List Cond := .code yX1_load cX1_load 5 (some .int) :: cwL
abbrev wsX1_checkNotBelowZero : List Cond := .code yX1_checkNotBelowZero cX1_checkNotBelowZero 1 none :: cwL
abbrev wsX0_moveTo : List Cond := .code yX0_moveTo cX0_moveTo 8 (some .int) :: cwL
abbrev wsX0_takeFromFirst : List Cond := .code yX0_takeFromFirst cX0_takeFromFirst 2 none :: cwL
abbrev wsX0_dropFirst : List Cond := .code yX0_dropFirst cX0_dropFirst 2 none :: cwL
abbrev wsL_unload : List Cond := .codeWith yL_unload cL_unload 6 (some .int) [(0, 12, 15, 13), (0, 12, 19, 15)] :: cwL
abbrev wsX1_unload : List Cond := .code yX1_unload cX1_unload 5 (some .int) :: cwL
abbrev wsX1_deliverFrom : List Cond := .code yX1_deliverFrom cX1_deliverFrom 9 (some .int) :: cwL
abbrev wsX1_payOfOne : List Cond := .code yX1_payOfOne cX1_payOfOne 7 (some .int) :: cwL
abbrev wsX1_earn : List Cond := .code yX1_earn cX1_earn 4 none :: cwL
abbrev wsL_pour : List Cond := .codeWith yL_pour cL_pour 4 (some .int) [(0, 6, 9, 13), (0, 6, 12, 15)] :: cwL
abbrev wsX1_pour : List Cond := .code yX1_pour cX1_pour 4 none :: cwL
abbrev wsX1_checkFellows : List Cond := .code yX1_checkFellows cX1_checkFellows 3 none :: cwL
abbrev wsL_part : List Cond := .codeWith yL_part cL_part 5 (some .int) [(0, 7, 10, 13), (0, 7, 14, 15)] :: cwL
abbrev wsX1_part : List Cond := .code yX1_part cX1_part 4 none :: cwL
abbrev wsX0_moveAllBehind : List Cond := .code yX0_moveAllBehind cX0_moveAllBehind 8 none :: cwL
abbrev wsL_dump : List Cond := .codeWith yL_dump cL_dump 4 (some .int) [(0, 9, 12, 13)] :: cwL
abbrev wsX1_dump : List Cond := .code yX1_dump cX1_dump 3 (some .int) :: cwL
abbrev wsX0_clear : List Cond := .code yX0_clear cX0_clear 1 none :: cwL
abbrev wsX2_init : List Cond := .code yX2_init cX2_init 2 none :: cwL
abbrev wsX2_thrown : List Cond := .code yX2_thrown cX2_thrown 1 (some .int) :: cwL
abbrev wsX2_place : List Cond := .code yX2_place cX2_place 4 none :: cwL
abbrev wsX2_in : List Cond := .code yX2_in cX2_in 2 (some .boolean) :: cwL
abbrev wsX2_rate : List Cond := .code yX2_rate cX2_rate 4 none :: cwL
abbrev wsX2_accept : List Cond := .code yX2_accept cX2_accept 3 none :: cwL
abbrev wsX2_make : List Cond := .code yX2_make cX2_make 4 none :: cwL
abbrev wsX2_wagon : List Cond := .code yX2_wagon cX2_wagon 4 none :: cwL
abbrev wsX2_pass : List Cond := .code yX2_pass cX2_pass 5 (some .int) :: cwL
abbrev wsX2_produce : List Cond := .code yX2_produce cX2_produce 3 none :: cwL
abbrev wsX2_put : List Cond := .code yX2_put cX2_put 6 none :: cwL
abbrev wsX2_packets : List Cond := .code yX2_packets cX2_packets 4 (some .int) :: cwL
abbrev wsX2_isFirst : List Cond := .code yX2_isFirst cX2_isFirst 3 (some .boolean) :: cwL
abbrev wsX2_load : List Cond := .code yX2_load cX2_load 6 (some .int) :: cwL
abbrev wsX2_move : List Cond := .code yX2_move cX2_move 5 none :: cwL
abbrev wsX2_drop : List Cond := .code yX2_drop cX2_drop 3 none :: cwL
abbrev wsX2_unload : List Cond := .code yX2_unload cX2_unload 9 (some .int) :: cwL
abbrev wsX2_pay : List Cond := .code yX2_pay cX2_pay 6 none :: cwL
abbrev wsX2_apart : List Cond := .code yX2_apart cX2_apart 2 (some .int) :: cwL
abbrev wsX2_pour : List Cond := .code yX2_pour cX2_pour 4 none :: cwL
abbrev wsX2_part : List Cond := .code yX2_part cX2_part 7 none :: cwL
abbrev wsX2_dump : List Cond := .code yX2_dump cX2_dump 3 (some .int) :: cwL
abbrev wsX2_spend : List Cond := .code yX2_spend cX2_spend 2 (some .boolean) :: cwL
abbrev wsX2_packet : List Cond := .code yX2_packet cX2_packet 9 (some .int) :: cwL
abbrev wsX2_rowOf : List Cond := .code yX2_rowOf cX2_rowOf 3 (some .int) :: cwL
abbrev wsX2_units : List Cond := .code yX2_units cX2_units 4 (some .int) :: cwL
abbrev wsX2_count : List Cond := .code yX2_count cX2_count 5 (some .int) :: cwL
abbrev wsX2_sum : List Cond := .code yX2_sum cX2_sum 2 (some .int) :: cwL
theorem gAll {big : List Cond} (hb : ∀ w ∈ cwL, w ∈ big) {b : Cond} (h : b ∈ cwL) : GoodIn big (b :: cwL) := by
  intro w hw
  have hw' : w ∈ cwL := by
    rcases List.mem_cons.mp hw with rfl | h1
    · exact h
    · exact h1
  exact ⟨hb w hw', good_of_word (cw_good w hw')⟩
theorem gV {big : List Cond} (hb : ∀ w ∈ cwL, w ∈ big) {own C : String} {idx : Nat} {y : MethodName} {b : Cond} (h1 : Cond.methodLink own idx y ∈ cwL) (h2 : Cond.instanceMethod y ∈ cwL) (h3 : Cond.selects C y y ∈ cwL) (h4 : Cond.initialized C ∈ cwL) (h : b ∈ cwL) : GoodIn big (wsV own idx C y (b :: cwL)) := by
  intro w hw
  have hw' : w ∈ cwL := by
    rcases List.mem_append.mp hw with h9 | h9
    · rcases List.mem_cons.mp h9 with rfl | h9
      · exact h1
      rcases List.mem_cons.mp h9 with rfl | h9
      · exact h2
      rcases List.mem_cons.mp h9 with rfl | h9
      · exact h3
      rw [List.mem_singleton.mp h9]; exact h4
    · rcases List.mem_cons.mp h9 with rfl | h9
      · exact h
      · exact h9
  exact ⟨hb w hw', good_of_word (cw_good w hw')⟩
theorem gS {big : List Cond} (hb : ∀ w ∈ cwL, w ∈ big) {own : String} {idx : Nat} {y : MethodName} {b : Cond} (h1 : Cond.methodLink own idx y ∈ cwL) (h2 : Cond.static y ∈ cwL) (h3 : Cond.initialized y.cls ∈ cwL) (h : b ∈ cwL) : GoodIn big (va_wsS own idx y (b :: cwL)) := by
  intro w hw
  have hw' : w ∈ cwL := by
    rcases List.mem_append.mp hw with h9 | h9
    · rcases List.mem_cons.mp h9 with rfl | h9
      · exact h1
      rcases List.mem_cons.mp h9 with rfl | h9
      · exact h2
      rw [List.mem_singleton.mp h9]; exact h3
    · rcases List.mem_cons.mp h9 with rfl | h9
      · exact h
      · exact h9
  exact ⟨hb w hw', good_of_word (cw_good w hw')⟩
theorem cwc {a : Cond} : ∀ w ∈ cwL, w ∈ a :: cwL := fun _ h => List.mem_cons_of_mem _ h
end
section
theorem dX0_init_0 : decode cX0_init 0 = .ok (.aload_n 0, 1) := by decide +kernel
theorem dX0_init_1 : decode cX0_init 1 = .ok (.invokespecial 3, 3) := by decide +kernel
theorem dX0_init_4 : decode cX0_init 4 = .ok (.aload_n 0, 1) := by decide +kernel
theorem dX0_init_5 : decode cX0_init 5 = .ok (.bipush 8, 2) := by decide +kernel
theorem dX0_init_7 : decode cX0_init 7 = .ok (.newarray .int, 2) := by decide +kernel
theorem dX0_init_9 : decode cX0_init 9 = .ok (.putfield 9, 3) := by decide +kernel
theorem dX0_init_12 : decode cX0_init 12 = .ok (.aload_n 0, 1) := by decide +kernel
theorem dX0_init_13 : decode cX0_init 13 = .ok (.bipush 8, 2) := by decide +kernel
theorem dX0_init_15 : decode cX0_init 15 = .ok (.newarray .int, 2) := by decide +kernel
theorem dX0_init_17 : decode cX0_init 17 = .ok (.putfield 15, 3) := by decide +kernel
theorem dX0_init_20 : decode cX0_init 20 = .ok (.aload_n 0, 1) := by decide +kernel
theorem dX0_init_21 : decode cX0_init 21 = .ok (.bipush 8, 2) := by decide +kernel
theorem dX0_init_23 : decode cX0_init 23 = .ok (.newarray .int, 2) := by decide +kernel
theorem dX0_init_25 : decode cX0_init 25 = .ok (.putfield 18, 3) := by decide +kernel
theorem dX0_init_28 : decode cX0_init 28 = .ok (.aload_n 0, 1) := by decide +kernel
theorem dX0_init_29 : decode cX0_init 29 = .ok (.iconst 0, 1) := by decide +kernel
theorem dX0_init_30 : decode cX0_init 30 = .ok (.putfield 21, 3) := by decide +kernel
theorem dX0_init_33 : decode cX0_init 33 = .ok (.aload_n 0, 1) := by decide +kernel
theorem dX0_init_34 : decode cX0_init 34 = .ok (.iconst 0, 1) := by decide +kernel
theorem dX0_init_35 : decode cX0_init 35 = .ok (.putfield 25, 3) := by decide +kernel
theorem dX0_init_38 : decode cX0_init 38 = .ok (.return_, 1) := by decide +kernel
theorem dX0_total_0 : decode cX0_total 0 = .ok (.aload_n 0, 1) := by decide +kernel
theorem dX0_total_1 : decode cX0_total 1 = .ok (.getfield 25, 3) := by decide +kernel
theorem dX0_total_4 : decode cX0_total 4 = .ok (.ireturn, 1) := by decide +kernel
theorem dX0_look_0 : decode cX0_look 0 = .ok (.iload_n 1, 1) := by decide +kernel
theorem dX0_look_1 : decode cX0_look 1 = .ok (.ifCond .lt 11, 3) := by decide +kernel
theorem dX0_look_4 : decode cX0_look 4 = .ok (.iload_n 1, 1) := by decide +kernel
theorem dX0_look_5 : decode cX0_look 5 = .ok (.aload_n 0, 1) := by decide +kernel
theorem dX0_look_6 : decode cX0_look 6 = .ok (.getfield 21, 3) := by decide +kernel
theorem dX0_look_9 : decode cX0_look 9 = .ok (.if_icmp .lt 5, 3) := by decide +kernel
theorem dX0_look_12 : decode cX0_look 12 = .ok (.iconst (-1), 1) := by decide +kernel
theorem dX0_look_13 : decode cX0_look 13 = .ok (.ireturn, 1) := by decide +kernel
theorem dX0_look_14 : decode cX0_look 14 = .ok (.iload_n 2, 1) := by decide +kernel
theorem dX0_look_15 : decode cX0_look 15 = .ok (.tableswitch 46 0 2 #[25, 32, 39], 25) := by decide +kernel
theorem dX0_look_40 : decode cX0_look 40 = .ok (.aload_n 0, 1) := by decide +kernel
theorem dX0_look_41 : decode cX0_look 41 = .ok (.getfield 9, 3) := by decide +kernel
theorem dX0_look_44 : decode cX0_look 44 = .ok (.iload_n 1, 1) := by decide +kernel
theorem dX0_look_45 : decode cX0_look 45 = .ok (.iaload, 1) := by decide +kernel
theorem dX0_look_46 : decode cX0_look 46 = .ok (.ireturn, 1) := by decide +kernel
theorem dX0_look_47 : decode cX0_look 47 = .ok (.aload_n 0, 1) := by decide +kernel
theorem dX0_look_48 : decode cX0_look 48 = .ok (.getfield 15, 3) := by decide +kernel
theorem dX0_look_51 : decode cX0_look 51 = .ok (.iload_n 1, 1) := by decide +kernel
theorem dX0_look_52 : decode cX0_look 52 = .ok (.iaload, 1) := by decide +kernel
theorem dX0_look_53 : decode cX0_look 53 = .ok (.ireturn, 1) := by decide +kernel
theorem dX0_look_54 : decode cX0_look 54 = .ok (.aload_n 0, 1) := by decide +kernel
theorem dX0_look_55 : decode cX0_look 55 = .ok (.getfield 18, 3) := by decide +kernel
theorem dX0_look_58 : decode cX0_look 58 = .ok (.iload_n 1, 1) := by decide +kernel
theorem dX0_look_59 : decode cX0_look 59 = .ok (.iaload, 1) := by decide +kernel
theorem dX0_look_60 : decode cX0_look 60 = .ok (.ireturn, 1) := by decide +kernel
theorem dX0_look_61 : decode cX0_look 61 = .ok (.iconst (-1), 1) := by decide +kernel
theorem dX0_look_62 : decode cX0_look 62 = .ok (.ireturn, 1) := by decide +kernel
theorem dX0_clear_0 : decode cX0_clear 0 = .ok (.aload_n 0, 1) := by decide +kernel
theorem dX0_clear_1 : decode cX0_clear 1 = .ok (.iconst 0, 1) := by decide +kernel
theorem dX0_clear_2 : decode cX0_clear 2 = .ok (.putfield 21, 3) := by decide +kernel
theorem dX0_clear_5 : decode cX0_clear 5 = .ok (.aload_n 0, 1) := by decide +kernel
theorem dX0_clear_6 : decode cX0_clear 6 = .ok (.iconst 0, 1) := by decide +kernel
theorem dX0_clear_7 : decode cX0_clear 7 = .ok (.putfield 25, 3) := by decide +kernel
theorem dX0_clear_10 : decode cX0_clear 10 = .ok (.return_, 1) := by decide +kernel
theorem dX0_putBehind_0 : decode cX0_putBehind 0 = .ok (.iload_n 3, 1) := by decide +kernel
theorem dX0_putBehind_1 : decode cX0_putBehind 1 = .ok (.ifCond .gt 4, 3) := by decide +kernel
theorem dX0_putBehind_4 : decode cX0_putBehind 4 = .ok (.return_, 1) := by decide +kernel
theorem dX0_putBehind_5 : decode cX0_putBehind 5 = .ok (.aload_n 0, 1) := by decide +kernel
theorem dX0_putBehind_6 : decode cX0_putBehind 6 = .ok (.getfield 21, 3) := by decide +kernel
theorem dX0_putBehind_9 : decode cX0_putBehind 9 = .ok (.bipush 8, 2) := by decide +kernel
theorem dX0_putBehind_11 : decode cX0_putBehind 11 = .ok (.if_icmp .ge 52, 3) := by decide +kernel
theorem dX0_putBehind_14 : decode cX0_putBehind 14 = .ok (.aload_n 0, 1) := by decide +kernel
theorem dX0_putBehind_15 : decode cX0_putBehind 15 = .ok (.iload_n 1, 1) := by decide +kernel
theorem dX0_putBehind_16 : decode cX0_putBehind 16 = .ok (.iload_n 2, 1) := by decide +kernel
theorem dX0_putBehind_17 : decode cX0_putBehind 17 = .ok (.invokevirtual 28, 3) := by decide +kernel
theorem dX0_putBehind_20 : decode cX0_putBehind 20 = .ok (.ifCond .ne 43, 3) := by decide +kernel
theorem dX0_putBehind_23 : decode cX0_putBehind 23 = .ok (.aload_n 0, 1) := by decide +kernel
theorem dX0_putBehind_24 : decode cX0_putBehind 24 = .ok (.getfield 9, 3) := by decide +kernel
theorem dX0_putBehind_27 : decode cX0_putBehind 27 = .ok (.aload_n 0, 1) := by decide +kernel
theorem dX0_putBehind_28 : decode cX0_putBehind 28 = .ok (.getfield 21, 3) := by decide +kernel
theorem dX0_putBehind_31 : decode cX0_putBehind 31 = .ok (.iload_n 1, 1) := by decide +kernel
theorem dX0_putBehind_32 : decode cX0_putBehind 32 = .ok (.iastore, 1) := by decide +kernel
theorem dX0_putBehind_33 : decode cX0_putBehind 33 = .ok (.aload_n 0, 1) := by decide +kernel
theorem dX0_putBehind_34 : decode cX0_putBehind 34 = .ok (.getfield 18, 3) := by decide +kernel
theorem dX0_putBehind_37 : decode cX0_putBehind 37 = .ok (.aload_n 0, 1) := by decide +kernel
theorem dX0_putBehind_38 : decode cX0_putBehind 38 = .ok (.getfield 21, 3) := by decide +kernel
theorem dX0_putBehind_41 : decode cX0_putBehind 41 = .ok (.iload_n 2, 1) := by decide +kernel
theorem dX0_putBehind_42 : decode cX0_putBehind 42 = .ok (.iastore, 1) := by decide +kernel
theorem dX0_putBehind_43 : decode cX0_putBehind 43 = .ok (.aload_n 0, 1) := by decide +kernel
theorem dX0_putBehind_44 : decode cX0_putBehind 44 = .ok (.getfield 15, 3) := by decide +kernel
theorem dX0_putBehind_47 : decode cX0_putBehind 47 = .ok (.aload_n 0, 1) := by decide +kernel
theorem dX0_putBehind_48 : decode cX0_putBehind 48 = .ok (.getfield 21, 3) := by decide +kernel
theorem dX0_putBehind_51 : decode cX0_putBehind 51 = .ok (.iconst 0, 1) := by decide +kernel
theorem dX0_putBehind_52 : decode cX0_putBehind 52 = .ok (.iastore, 1) := by decide +kernel
theorem dX0_putBehind_53 : decode cX0_putBehind 53 = .ok (.aload_n 0, 1) := by decide +kernel
theorem dX0_putBehind_54 : decode cX0_putBehind 54 = .ok (.dup, 1) := by decide +kernel
theorem dX0_putBehind_55 : decode cX0_putBehind 55 = .ok (.getfield 21, 3) := by decide +kernel
theorem dX0_putBehind_58 : decode cX0_putBehind 58 = .ok (.iconst 1, 1) := by decide +kernel
theorem dX0_putBehind_59 : decode cX0_putBehind 59 = .ok (.iadd, 1) := by decide +kernel
theorem dX0_putBehind_60 : decode cX0_putBehind 60 = .ok (.putfield 21, 3) := by decide +kernel
theorem dX0_putBehind_63 : decode cX0_putBehind 63 = .ok (.aload_n 0, 1) := by decide +kernel
theorem dX0_putBehind_64 : decode cX0_putBehind 64 = .ok (.getfield 15, 3) := by decide +kernel
theorem dX0_putBehind_67 : decode cX0_putBehind 67 = .ok (.aload_n 0, 1) := by decide +kernel
theorem dX0_putBehind_68 : decode cX0_putBehind 68 = .ok (.getfield 21, 3) := by decide +kernel
theorem dX0_putBehind_71 : decode cX0_putBehind 71 = .ok (.iconst 1, 1) := by decide +kernel
theorem dX0_putBehind_72 : decode cX0_putBehind 72 = .ok (.isub, 1) := by decide +kernel
theorem dX0_putBehind_73 : decode cX0_putBehind 73 = .ok (.dup2, 1) := by decide +kernel
theorem dX0_putBehind_74 : decode cX0_putBehind 74 = .ok (.iaload, 1) := by decide +kernel
theorem dX0_putBehind_75 : decode cX0_putBehind 75 = .ok (.iload_n 3, 1) := by decide +kernel
theorem dX0_putBehind_76 : decode cX0_putBehind 76 = .ok (.iadd, 1) := by decide +kernel
theorem dX0_putBehind_77 : decode cX0_putBehind 77 = .ok (.iastore, 1) := by decide +kernel
theorem dX0_putBehind_78 : decode cX0_putBehind 78 = .ok (.aload_n 0, 1) := by decide +kernel
theorem dX0_putBehind_79 : decode cX0_putBehind 79 = .ok (.dup, 1) := by decide +kernel
theorem dX0_putBehind_80 : decode cX0_putBehind 80 = .ok (.getfield 25, 3) := by decide +kernel
theorem dX0_putBehind_83 : decode cX0_putBehind 83 = .ok (.iload_n 3, 1) := by decide +kernel
theorem dX0_putBehind_84 : decode cX0_putBehind 84 = .ok (.iadd, 1) := by decide +kernel
theorem dX0_putBehind_85 : decode cX0_putBehind 85 = .ok (.putfield 25, 3) := by decide +kernel
theorem dX0_putBehind_88 : decode cX0_putBehind 88 = .ok (.return_, 1) := by decide +kernel
theorem dX0_lastIs_0 : decode cX0_lastIs 0 = .ok (.aload_n 0, 1) := by decide +kernel
theorem dX0_lastIs_1 : decode cX0_lastIs 1 = .ok (.getfield 21, 3) := by decide +kernel
theorem dX0_lastIs_4 : decode cX0_lastIs 4 = .ok (.iconst 1, 1) := by decide +kernel
theorem dX0_lastIs_5 : decode cX0_lastIs 5 = .ok (.isub, 1) := by decide +kernel
theorem dX0_lastIs_6 : decode cX0_lastIs 6 = .ok (.istore_n 3, 1) := by decide +kernel
theorem dX0_lastIs_7 : decode cX0_lastIs 7 = .ok (.iload_n 3, 1) := by decide +kernel
theorem dX0_lastIs_8 : decode cX0_lastIs 8 = .ok (.ifCond .lt 27, 3) := by decide +kernel
theorem dX0_lastIs_11 : decode cX0_lastIs 11 = .ok (.aload_n 0, 1) := by decide +kernel
theorem dX0_lastIs_12 : decode cX0_lastIs 12 = .ok (.getfield 9, 3) := by decide +kernel
theorem dX0_lastIs_15 : decode cX0_lastIs 15 = .ok (.iload_n 3, 1) := by decide +kernel
theorem dX0_lastIs_16 : decode cX0_lastIs 16 = .ok (.iaload, 1) := by decide +kernel
theorem dX0_lastIs_17 : decode cX0_lastIs 17 = .ok (.iload_n 1, 1) := by decide +kernel
theorem dX0_lastIs_18 : decode cX0_lastIs 18 = .ok (.if_icmp .ne 17, 3) := by decide +kernel
theorem dX0_lastIs_21 : decode cX0_lastIs 21 = .ok (.aload_n 0, 1) := by decide +kernel
theorem dX0_lastIs_22 : decode cX0_lastIs 22 = .ok (.getfield 18, 3) := by decide +kernel
theorem dX0_lastIs_25 : decode cX0_lastIs 25 = .ok (.iload_n 3, 1) := by decide +kernel
theorem dX0_lastIs_26 : decode cX0_lastIs 26 = .ok (.iaload, 1) := by decide +kernel
theorem dX0_lastIs_27 : decode cX0_lastIs 27 = .ok (.iload_n 2, 1) := by decide +kernel
theorem dX0_lastIs_28 : decode cX0_lastIs 28 = .ok (.if_icmp .ne 7, 3) := by decide +kernel
theorem dX0_lastIs_31 : decode cX0_lastIs 31 = .ok (.iconst 1, 1) := by decide +kernel
theorem dX0_lastIs_32 : decode cX0_lastIs 32 = .ok (.goto 4, 3) := by decide +kernel
theorem dX0_lastIs_35 : decode cX0_lastIs 35 = .ok (.iconst 0, 1) := by decide +kernel
theorem dX0_lastIs_36 : decode cX0_lastIs 36 = .ok (.ireturn, 1) := by decide +kernel
theorem dX0_takeFromFirst_0 : decode cX0_takeFromFirst 0 = .ok (.aload_n 0, 1) := by decide +kernel
theorem dX0_takeFromFirst_1 : decode cX0_takeFromFirst 1 = .ok (.getfield 15, 3) := by decide +kernel
theorem dX0_takeFromFirst_4 : decode cX0_takeFromFirst 4 = .ok (.iconst 0, 1) := by decide +kernel
theorem dX0_takeFromFirst_5 : decode cX0_takeFromFirst 5 = .ok (.dup2, 1) := by decide +kernel
theorem dX0_takeFromFirst_6 : decode cX0_takeFromFirst 6 = .ok (.iaload, 1) := by decide +kernel
theorem dX0_takeFromFirst_7 : decode cX0_takeFromFirst 7 = .ok (.iload_n 1, 1) := by decide +kernel
theorem dX0_takeFromFirst_8 : decode cX0_takeFromFirst 8 = .ok (.isub, 1) := by decide +kernel
theorem dX0_takeFromFirst_9 : decode cX0_takeFromFirst 9 = .ok (.iastore, 1) := by decide +kernel
theorem dX0_takeFromFirst_10 : decode cX0_takeFromFirst 10 = .ok (.aload_n 0, 1) := by decide +kernel
theorem dX0_takeFromFirst_11 : decode cX0_takeFromFirst 11 = .ok (.dup, 1) := by decide +kernel
theorem dX0_takeFromFirst_12 : decode cX0_takeFromFirst 12 = .ok (.getfield 25, 3) := by decide +kernel
theorem dX0_takeFromFirst_15 : decode cX0_takeFromFirst 15 = .ok (.iload_n 1, 1) := by decide +kernel
theorem dX0_takeFromFirst_16 : decode cX0_takeFromFirst 16 = .ok (.isub, 1) := by decide +kernel
theorem dX0_takeFromFirst_17 : decode cX0_takeFromFirst 17 = .ok (.putfield 25, 3) := by decide +kernel
theorem dX0_takeFromFirst_20 : decode cX0_takeFromFirst 20 = .ok (.aload_n 0, 1) := by decide +kernel
theorem dX0_takeFromFirst_21 : decode cX0_takeFromFirst 21 = .ok (.getfield 15, 3) := by decide +kernel
theorem dX0_takeFromFirst_24 : decode cX0_takeFromFirst 24 = .ok (.iconst 0, 1) := by decide +kernel
theorem dX0_takeFromFirst_25 : decode cX0_takeFromFirst 25 = .ok (.iaload, 1) := by decide +kernel
theorem dX0_takeFromFirst_26 : decode cX0_takeFromFirst 26 = .ok (.ifCond .ne 7, 3) := by decide +kernel
theorem dX0_takeFromFirst_29 : decode cX0_takeFromFirst 29 = .ok (.aload_n 0, 1) := by decide +kernel
theorem dX0_takeFromFirst_30 : decode cX0_takeFromFirst 30 = .ok (.invokevirtual 32, 3) := by decide +kernel
theorem dX0_takeFromFirst_33 : decode cX0_takeFromFirst 33 = .ok (.return_, 1) := by decide +kernel
theorem dX0_dropFirst_0 : decode cX0_dropFirst 0 = .ok (.iconst 1, 1) := by decide +kernel
theorem dX0_dropFirst_1 : decode cX0_dropFirst 1 = .ok (.istore_n 1, 1) := by decide +kernel
theorem dX0_dropFirst_2 : decode cX0_dropFirst 2 = .ok (.iload_n 1, 1) := by decide +kernel
theorem dX0_dropFirst_3 : decode cX0_dropFirst 3 = .ok (.aload_n 0, 1) := by decide +kernel
theorem dX0_dropFirst_4 : decode cX0_dropFirst 4 = .ok (.getfield 21, 3) := by decide +kernel
theorem dX0_dropFirst_7 : decode cX0_dropFirst 7 = .ok (.if_icmp .ge 51, 3) := by decide +kernel
theorem dX0_dropFirst_10 : decode cX0_dropFirst 10 = .ok (.aload_n 0, 1) := by decide +kernel
theorem dX0_dropFirst_11 : decode cX0_dropFirst 11 = .ok (.getfield 9, 3) := by decide +kernel
theorem dX0_dropFirst_14 : decode cX0_dropFirst 14 = .ok (.iload_n 1, 1) := by decide +kernel
theorem dX0_dropFirst_15 : decode cX0_dropFirst 15 = .ok (.iconst 1, 1) := by decide +kernel
theorem dX0_dropFirst_16 : decode cX0_dropFirst 16 = .ok (.isub, 1) := by decide +kernel
theorem dX0_dropFirst_17 : decode cX0_dropFirst 17 = .ok (.aload_n 0, 1) := by decide +kernel
theorem dX0_dropFirst_18 : decode cX0_dropFirst 18 = .ok (.getfield 9, 3) := by decide +kernel
theorem dX0_dropFirst_21 : decode cX0_dropFirst 21 = .ok (.iload_n 1, 1) := by decide +kernel
theorem dX0_dropFirst_22 : decode cX0_dropFirst 22 = .ok (.iaload, 1) := by decide +kernel
theorem dX0_dropFirst_23 : decode cX0_dropFirst 23 = .ok (.iastore, 1) := by decide +kernel
theorem dX0_dropFirst_24 : decode cX0_dropFirst 24 = .ok (.aload_n 0, 1) := by decide +kernel
theorem dX0_dropFirst_25 : decode cX0_dropFirst 25 = .ok (.getfield 15, 3) := by decide +kernel
theorem dX0_dropFirst_28 : decode cX0_dropFirst 28 = .ok (.iload_n 1, 1) := by decide +kernel
theorem dX0_dropFirst_29 : decode cX0_dropFirst 29 = .ok (.iconst 1, 1) := by decide +kernel
theorem dX0_dropFirst_30 : decode cX0_dropFirst 30 = .ok (.isub, 1) := by decide +kernel
theorem dX0_dropFirst_31 : decode cX0_dropFirst 31 = .ok (.aload_n 0, 1) := by decide +kernel
theorem dX0_dropFirst_32 : decode cX0_dropFirst 32 = .ok (.getfield 15, 3) := by decide +kernel
theorem dX0_dropFirst_35 : decode cX0_dropFirst 35 = .ok (.iload_n 1, 1) := by decide +kernel
theorem dX0_dropFirst_36 : decode cX0_dropFirst 36 = .ok (.iaload, 1) := by decide +kernel
theorem dX0_dropFirst_37 : decode cX0_dropFirst 37 = .ok (.iastore, 1) := by decide +kernel
theorem dX0_dropFirst_38 : decode cX0_dropFirst 38 = .ok (.aload_n 0, 1) := by decide +kernel
theorem dX0_dropFirst_39 : decode cX0_dropFirst 39 = .ok (.getfield 18, 3) := by decide +kernel
theorem dX0_dropFirst_42 : decode cX0_dropFirst 42 = .ok (.iload_n 1, 1) := by decide +kernel
theorem dX0_dropFirst_43 : decode cX0_dropFirst 43 = .ok (.iconst 1, 1) := by decide +kernel
theorem dX0_dropFirst_44 : decode cX0_dropFirst 44 = .ok (.isub, 1) := by decide +kernel
theorem dX0_dropFirst_45 : decode cX0_dropFirst 45 = .ok (.aload_n 0, 1) := by decide +kernel
theorem dX0_dropFirst_46 : decode cX0_dropFirst 46 = .ok (.getfield 18, 3) := by decide +kernel
theorem dX0_dropFirst_49 : decode cX0_dropFirst 49 = .ok (.iload_n 1, 1) := by decide +kernel
theorem dX0_dropFirst_50 : decode cX0_dropFirst 50 = .ok (.iaload, 1) := by decide +kernel
theorem dX0_dropFirst_51 : decode cX0_dropFirst 51 = .ok (.iastore, 1) := by decide +kernel
theorem dX0_dropFirst_52 : decode cX0_dropFirst 52 = .ok (.iinc 1 1, 3) := by decide +kernel
theorem dX0_dropFirst_55 : decode cX0_dropFirst 55 = .ok (.goto (-53), 3) := by decide +kernel
theorem dX0_dropFirst_58 : decode cX0_dropFirst 58 = .ok (.aload_n 0, 1) := by decide +kernel
theorem dX0_dropFirst_59 : decode cX0_dropFirst 59 = .ok (.dup, 1) := by decide +kernel
theorem dX0_dropFirst_60 : decode cX0_dropFirst 60 = .ok (.getfield 21, 3) := by decide +kernel
theorem dX0_dropFirst_63 : decode cX0_dropFirst 63 = .ok (.iconst 1, 1) := by decide +kernel
theorem dX0_dropFirst_64 : decode cX0_dropFirst 64 = .ok (.isub, 1) := by decide +kernel
theorem dX0_dropFirst_65 : decode cX0_dropFirst 65 = .ok (.putfield 21, 3) := by decide +kernel
theorem dX0_dropFirst_68 : decode cX0_dropFirst 68 = .ok (.return_, 1) := by decide +kernel
theorem dX0_moveTo_0 : decode cX0_moveTo 0 = .ok (.iload_n 2, 1) := by decide +kernel
theorem dX0_moveTo_1 : decode cX0_moveTo 1 = .ok (.aload_n 0, 1) := by decide +kernel
theorem dX0_moveTo_2 : decode cX0_moveTo 2 = .ok (.getfield 25, 3) := by decide +kernel
theorem dX0_moveTo_5 : decode cX0_moveTo 5 = .ok (.iload_n 3, 1) := by decide +kernel
theorem dX0_moveTo_6 : decode cX0_moveTo 6 = .ok (.aload_n 1, 1) := by decide +kernel
theorem dX0_moveTo_7 : decode cX0_moveTo 7 = .ok (.getfield 25, 3) := by decide +kernel
theorem dX0_moveTo_10 : decode cX0_moveTo 10 = .ok (.isub, 1) := by decide +kernel
theorem dX0_moveTo_11 : decode cX0_moveTo 11 = .ok (.invokestatic 35, 3) := by decide +kernel
theorem dX0_moveTo_14 : decode cX0_moveTo 14 = .ok (.invokestatic 35, 3) := by decide +kernel
theorem dX0_moveTo_17 : decode cX0_moveTo 17 = .ok (.istore 4, 2) := by decide +kernel
theorem dX0_moveTo_19 : decode cX0_moveTo 19 = .ok (.iload 4, 2) := by decide +kernel
theorem dX0_moveTo_21 : decode cX0_moveTo 21 = .ok (.istore 5, 2) := by decide +kernel
theorem dX0_moveTo_23 : decode cX0_moveTo 23 = .ok (.iconst 0, 1) := by decide +kernel
theorem dX0_moveTo_24 : decode cX0_moveTo 24 = .ok (.istore 6, 2) := by decide +kernel
theorem dX0_moveTo_26 : decode cX0_moveTo 26 = .ok (.iload 6, 2) := by decide +kernel
theorem dX0_moveTo_28 : decode cX0_moveTo 28 = .ok (.bipush 8, 2) := by decide +kernel
theorem dX0_moveTo_30 : decode cX0_moveTo 30 = .ok (.if_icmp .ge 58, 3) := by decide +kernel
theorem dX0_moveTo_33 : decode cX0_moveTo 33 = .ok (.iload 5, 2) := by decide +kernel
theorem dX0_moveTo_35 : decode cX0_moveTo 35 = .ok (.ifCond .le 53, 3) := by decide +kernel
theorem dX0_moveTo_38 : decode cX0_moveTo 38 = .ok (.iload 5, 2) := by decide +kernel
theorem dX0_moveTo_40 : decode cX0_moveTo 40 = .ok (.aload_n 0, 1) := by decide +kernel
theorem dX0_moveTo_41 : decode cX0_moveTo 41 = .ok (.getfield 15, 3) := by decide +kernel
theorem dX0_moveTo_44 : decode cX0_moveTo 44 = .ok (.iconst 0, 1) := by decide +kernel
theorem dX0_moveTo_45 : decode cX0_moveTo 45 = .ok (.iaload, 1) := by decide +kernel
theorem dX0_moveTo_46 : decode cX0_moveTo 46 = .ok (.invokestatic 35, 3) := by decide +kernel
theorem dX0_moveTo_49 : decode cX0_moveTo 49 = .ok (.istore 7, 2) := by decide +kernel
theorem dX0_moveTo_51 : decode cX0_moveTo 51 = .ok (.aload_n 1, 1) := by decide +kernel
theorem dX0_moveTo_52 : decode cX0_moveTo 52 = .ok (.aload_n 0, 1) := by decide +kernel
theorem dX0_moveTo_53 : decode cX0_moveTo 53 = .ok (.getfield 9, 3) := by decide +kernel
theorem dX0_moveTo_56 : decode cX0_moveTo 56 = .ok (.iconst 0, 1) := by decide +kernel
theorem dX0_moveTo_57 : decode cX0_moveTo 57 = .ok (.iaload, 1) := by decide +kernel
theorem dX0_moveTo_58 : decode cX0_moveTo 58 = .ok (.aload_n 0, 1) := by decide +kernel
theorem dX0_moveTo_59 : decode cX0_moveTo 59 = .ok (.getfield 18, 3) := by decide +kernel
theorem dX0_moveTo_62 : decode cX0_moveTo 62 = .ok (.iconst 0, 1) := by decide +kernel
theorem dX0_moveTo_63 : decode cX0_moveTo 63 = .ok (.iaload, 1) := by decide +kernel
theorem dX0_moveTo_64 : decode cX0_moveTo 64 = .ok (.iload 7, 2) := by decide +kernel
theorem dX0_moveTo_66 : decode cX0_moveTo 66 = .ok (.invokevirtual 41, 3) := by decide +kernel
theorem dX0_moveTo_69 : decode cX0_moveTo 69 = .ok (.aload_n 0, 1) := by decide +kernel
theorem dX0_moveTo_70 : decode cX0_moveTo 70 = .ok (.iload 7, 2) := by decide +kernel
theorem dX0_moveTo_72 : decode cX0_moveTo 72 = .ok (.invokevirtual 45, 3) := by decide +kernel
theorem dX0_moveTo_75 : decode cX0_moveTo 75 = .ok (.iload 5, 2) := by decide +kernel
theorem dX0_moveTo_77 : decode cX0_moveTo 77 = .ok (.iload 7, 2) := by decide +kernel
theorem dX0_moveTo_79 : decode cX0_moveTo 79 = .ok (.isub, 1) := by decide +kernel
theorem dX0_moveTo_80 : decode cX0_moveTo 80 = .ok (.istore 5, 2) := by decide +kernel
theorem dX0_moveTo_82 : decode cX0_moveTo 82 = .ok (.iinc 6 1, 3) := by decide +kernel
theorem dX0_moveTo_85 : decode cX0_moveTo 85 = .ok (.goto (-59), 3) := by decide +kernel
theorem dX0_moveTo_88 : decode cX0_moveTo 88 = .ok (.iload 4, 2) := by decide +kernel
theorem dX0_moveTo_90 : decode cX0_moveTo 90 = .ok (.ireturn, 1) := by decide +kernel
theorem dX0_moveAllBehind_0 : decode cX0_moveAllBehind 0 = .ok (.iload_n 1, 1) := by decide +kernel
theorem dX0_moveAllBehind_1 : decode cX0_moveAllBehind 1 = .ok (.aload_n 0, 1) := by decide +kernel
theorem dX0_moveAllBehind_2 : decode cX0_moveAllBehind 2 = .ok (.getfield 25, 3) := by decide +kernel
theorem dX0_moveAllBehind_5 : decode cX0_moveAllBehind 5 = .ok (.invokestatic 35, 3) := by decide +kernel
theorem dX0_moveAllBehind_8 : decode cX0_moveAllBehind 8 = .ok (.istore_n 3, 1) := by decide +kernel
theorem dX0_moveAllBehind_9 : decode cX0_moveAllBehind 9 = .ok (.iload_n 3, 1) := by decide +kernel
theorem dX0_moveAllBehind_10 : decode cX0_moveAllBehind 10 = .ok (.istore 4, 2) := by decide +kernel
theorem dX0_moveAllBehind_12 : decode cX0_moveAllBehind 12 = .ok (.iconst 0, 1) := by decide +kernel
theorem dX0_moveAllBehind_13 : decode cX0_moveAllBehind 13 = .ok (.istore 5, 2) := by decide +kernel
theorem dX0_moveAllBehind_15 : decode cX0_moveAllBehind 15 = .ok (.iconst 0, 1) := by decide +kernel
theorem dX0_moveAllBehind_16 : decode cX0_moveAllBehind 16 = .ok (.istore 6, 2) := by decide +kernel
theorem dX0_moveAllBehind_18 : decode cX0_moveAllBehind 18 = .ok (.iload 6, 2) := by decide +kernel
theorem dX0_moveAllBehind_20 : decode cX0_moveAllBehind 20 = .ok (.aload_n 0, 1) := by decide +kernel
theorem dX0_moveAllBehind_21 : decode cX0_moveAllBehind 21 = .ok (.getfield 21, 3) := by decide +kernel
theorem dX0_moveAllBehind_24 : decode cX0_moveAllBehind 24 = .ok (.if_icmp .ge 78, 3) := by decide +kernel
theorem dX0_moveAllBehind_27 : decode cX0_moveAllBehind 27 = .ok (.iload 4, 2) := by decide +kernel
theorem dX0_moveAllBehind_29 : decode cX0_moveAllBehind 29 = .ok (.aload_n 0, 1) := by decide +kernel
theorem dX0_moveAllBehind_30 : decode cX0_moveAllBehind 30 = .ok (.getfield 15, 3) := by decide +kernel
theorem dX0_moveAllBehind_33 : decode cX0_moveAllBehind 33 = .ok (.iload 6, 2) := by decide +kernel
theorem dX0_moveAllBehind_35 : decode cX0_moveAllBehind 35 = .ok (.iaload, 1) := by decide +kernel
theorem dX0_moveAllBehind_36 : decode cX0_moveAllBehind 36 = .ok (.invokestatic 35, 3) := by decide +kernel
theorem dX0_moveAllBehind_39 : decode cX0_moveAllBehind 39 = .ok (.istore 7, 2) := by decide +kernel
theorem dX0_moveAllBehind_41 : decode cX0_moveAllBehind 41 = .ok (.aload_n 2, 1) := by decide +kernel
theorem dX0_moveAllBehind_42 : decode cX0_moveAllBehind 42 = .ok (.aload_n 0, 1) := by decide +kernel
theorem dX0_moveAllBehind_43 : decode cX0_moveAllBehind 43 = .ok (.getfield 9, 3) := by decide +kernel
theorem dX0_moveAllBehind_46 : decode cX0_moveAllBehind 46 = .ok (.iload 6, 2) := by decide +kernel
theorem dX0_moveAllBehind_48 : decode cX0_moveAllBehind 48 = .ok (.iaload, 1) := by decide +kernel
theorem dX0_moveAllBehind_49 : decode cX0_moveAllBehind 49 = .ok (.aload_n 0, 1) := by decide +kernel
theorem dX0_moveAllBehind_50 : decode cX0_moveAllBehind 50 = .ok (.getfield 18, 3) := by decide +kernel
theorem dX0_moveAllBehind_53 : decode cX0_moveAllBehind 53 = .ok (.iload 6, 2) := by decide +kernel
theorem dX0_moveAllBehind_55 : decode cX0_moveAllBehind 55 = .ok (.iaload, 1) := by decide +kernel
theorem dX0_moveAllBehind_56 : decode cX0_moveAllBehind 56 = .ok (.aload_n 0, 1) := by decide +kernel
theorem dX0_moveAllBehind_57 : decode cX0_moveAllBehind 57 = .ok (.getfield 15, 3) := by decide +kernel
theorem dX0_moveAllBehind_60 : decode cX0_moveAllBehind 60 = .ok (.iload 6, 2) := by decide +kernel
theorem dX0_moveAllBehind_62 : decode cX0_moveAllBehind 62 = .ok (.iaload, 1) := by decide +kernel
theorem dX0_moveAllBehind_63 : decode cX0_moveAllBehind 63 = .ok (.iload 7, 2) := by decide +kernel
theorem dX0_moveAllBehind_65 : decode cX0_moveAllBehind 65 = .ok (.isub, 1) := by decide +kernel
theorem dX0_moveAllBehind_66 : decode cX0_moveAllBehind 66 = .ok (.invokevirtual 41, 3) := by decide +kernel
theorem dX0_moveAllBehind_69 : decode cX0_moveAllBehind 69 = .ok (.aload_n 0, 1) := by decide +kernel
theorem dX0_moveAllBehind_70 : decode cX0_moveAllBehind 70 = .ok (.getfield 15, 3) := by decide +kernel
theorem dX0_moveAllBehind_73 : decode cX0_moveAllBehind 73 = .ok (.iload 6, 2) := by decide +kernel
theorem dX0_moveAllBehind_75 : decode cX0_moveAllBehind 75 = .ok (.iload 7, 2) := by decide +kernel
theorem dX0_moveAllBehind_77 : decode cX0_moveAllBehind 77 = .ok (.iastore, 1) := by decide +kernel
theorem dX0_moveAllBehind_78 : decode cX0_moveAllBehind 78 = .ok (.iload 4, 2) := by decide +kernel
theorem dX0_moveAllBehind_80 : decode cX0_moveAllBehind 80 = .ok (.iload 7, 2) := by decide +kernel
theorem dX0_moveAllBehind_82 : decode cX0_moveAllBehind 82 = .ok (.isub, 1) := by decide +kernel
theorem dX0_moveAllBehind_83 : decode cX0_moveAllBehind 83 = .ok (.istore 4, 2) := by decide +kernel
theorem dX0_moveAllBehind_85 : decode cX0_moveAllBehind 85 = .ok (.iload 7, 2) := by decide +kernel
theorem dX0_moveAllBehind_87 : decode cX0_moveAllBehind 87 = .ok (.ifCond .le 9, 3) := by decide +kernel
theorem dX0_moveAllBehind_90 : decode cX0_moveAllBehind 90 = .ok (.iload 6, 2) := by decide +kernel
theorem dX0_moveAllBehind_92 : decode cX0_moveAllBehind 92 = .ok (.iconst 1, 1) := by decide +kernel
theorem dX0_moveAllBehind_93 : decode cX0_moveAllBehind 93 = .ok (.iadd, 1) := by decide +kernel
theorem dX0_moveAllBehind_94 : decode cX0_moveAllBehind 94 = .ok (.istore 5, 2) := by decide +kernel
theorem dX0_moveAllBehind_96 : decode cX0_moveAllBehind 96 = .ok (.iinc 6 1, 3) := by decide +kernel
theorem dX0_moveAllBehind_99 : decode cX0_moveAllBehind 99 = .ok (.goto (-81), 3) := by decide +kernel
theorem dX0_moveAllBehind_102 : decode cX0_moveAllBehind 102 = .ok (.aload_n 0, 1) := by decide +kernel
theorem dX0_moveAllBehind_103 : decode cX0_moveAllBehind 103 = .ok (.iload 5, 2) := by decide +kernel
theorem dX0_moveAllBehind_105 : decode cX0_moveAllBehind 105 = .ok (.putfield 21, 3) := by decide +kernel
theorem dX0_moveAllBehind_108 : decode cX0_moveAllBehind 108 = .ok (.aload_n 0, 1) := by decide +kernel
theorem dX0_moveAllBehind_109 : decode cX0_moveAllBehind 109 = .ok (.iload_n 3, 1) := by decide +kernel
theorem dX0_moveAllBehind_110 : decode cX0_moveAllBehind 110 = .ok (.putfield 25, 3) := by decide +kernel
theorem dX0_moveAllBehind_113 : decode cX0_moveAllBehind 113 = .ok (.return_, 1) := by decide +kernel
end
section
theorem dX1_init_0 : decode cX1_init 0 = .ok (.aload_n 0, 1) := by decide +kernel
theorem dX1_init_1 : decode cX1_init 1 = .ok (.invokespecial 3, 3) := by decide +kernel
theorem dX1_init_4 : decode cX1_init 4 = .ok (.aload_n 0, 1) := by decide +kernel
theorem dX1_init_5 : decode cX1_init 5 = .ok (.bipush 32, 2) := by decide +kernel
theorem dX1_init_7 : decode cX1_init 7 = .ok (.anewarray 9, 3) := by decide +kernel
theorem dX1_init_10 : decode cX1_init 10 = .ok (.putfield 11, 3) := by decide +kernel
theorem dX1_init_13 : decode cX1_init 13 = .ok (.aload_n 0, 1) := by decide +kernel
theorem dX1_init_14 : decode cX1_init 14 = .ok (.bipush 32, 2) := by decide +kernel
theorem dX1_init_16 : decode cX1_init 16 = .ok (.newarray .int, 2) := by decide +kernel
theorem dX1_init_18 : decode cX1_init 18 = .ok (.putfield 15, 3) := by decide +kernel
theorem dX1_init_21 : decode cX1_init 21 = .ok (.aload_n 0, 1) := by decide +kernel
theorem dX1_init_22 : decode cX1_init 22 = .ok (.bipush 32, 2) := by decide +kernel
theorem dX1_init_24 : decode cX1_init 24 = .ok (.newarray .int, 2) := by decide +kernel
theorem dX1_init_26 : decode cX1_init 26 = .ok (.putfield 19, 3) := by decide +kernel
theorem dX1_init_29 : decode cX1_init 29 = .ok (.aload_n 0, 1) := by decide +kernel
theorem dX1_init_30 : decode cX1_init 30 = .ok (.bipush 8, 2) := by decide +kernel
theorem dX1_init_32 : decode cX1_init 32 = .ok (.newarray .int, 2) := by decide +kernel
theorem dX1_init_34 : decode cX1_init 34 = .ok (.putfield 22, 3) := by decide +kernel
theorem dX1_init_37 : decode cX1_init 37 = .ok (.aload_n 0, 1) := by decide +kernel
theorem dX1_init_38 : decode cX1_init 38 = .ok (.bipush 8, 2) := by decide +kernel
theorem dX1_init_40 : decode cX1_init 40 = .ok (.newarray .int, 2) := by decide +kernel
theorem dX1_init_42 : decode cX1_init 42 = .ok (.putfield 25, 3) := by decide +kernel
theorem dX1_init_45 : decode cX1_init 45 = .ok (.aload_n 0, 1) := by decide +kernel
theorem dX1_init_46 : decode cX1_init 46 = .ok (.bipush 8, 2) := by decide +kernel
theorem dX1_init_48 : decode cX1_init 48 = .ok (.newarray .int, 2) := by decide +kernel
theorem dX1_init_50 : decode cX1_init 50 = .ok (.putfield 28, 3) := by decide +kernel
theorem dX1_init_53 : decode cX1_init 53 = .ok (.aload_n 0, 1) := by decide +kernel
theorem dX1_init_54 : decode cX1_init 54 = .ok (.bipush 16, 2) := by decide +kernel
theorem dX1_init_56 : decode cX1_init 56 = .ok (.anewarray 9, 3) := by decide +kernel
theorem dX1_init_59 : decode cX1_init 59 = .ok (.putfield 31, 3) := by decide +kernel
theorem dX1_init_62 : decode cX1_init 62 = .ok (.aload_n 0, 1) := by decide +kernel
theorem dX1_init_63 : decode cX1_init 63 = .ok (.bipush 16, 2) := by decide +kernel
theorem dX1_init_65 : decode cX1_init 65 = .ok (.newarray .int, 2) := by decide +kernel
theorem dX1_init_67 : decode cX1_init 67 = .ok (.putfield 34, 3) := by decide +kernel
theorem dX1_init_70 : decode cX1_init 70 = .ok (.aload_n 0, 1) := by decide +kernel
theorem dX1_init_71 : decode cX1_init 71 = .ok (.bipush 16, 2) := by decide +kernel
theorem dX1_init_73 : decode cX1_init 73 = .ok (.newarray .int, 2) := by decide +kernel
theorem dX1_init_75 : decode cX1_init 75 = .ok (.putfield 37, 3) := by decide +kernel
theorem dX1_init_78 : decode cX1_init 78 = .ok (.aload_n 0, 1) := by decide +kernel
theorem dX1_init_79 : decode cX1_init 79 = .ok (.iconst 4, 1) := by decide +kernel
theorem dX1_init_80 : decode cX1_init 80 = .ok (.newarray .int, 2) := by decide +kernel
theorem dX1_init_82 : decode cX1_init 82 = .ok (.putfield 40, 3) := by decide +kernel
theorem dX1_init_85 : decode cX1_init 85 = .ok (.aload_n 0, 1) := by decide +kernel
theorem dX1_init_86 : decode cX1_init 86 = .ok (.iconst 4, 1) := by decide +kernel
theorem dX1_init_87 : decode cX1_init 87 = .ok (.newarray .int, 2) := by decide +kernel
theorem dX1_init_89 : decode cX1_init 89 = .ok (.putfield 43, 3) := by decide +kernel
theorem dX1_init_92 : decode cX1_init 92 = .ok (.aload_n 0, 1) := by decide +kernel
theorem dX1_init_93 : decode cX1_init 93 = .ok (.iconst 4, 1) := by decide +kernel
theorem dX1_init_94 : decode cX1_init 94 = .ok (.newarray .int, 2) := by decide +kernel
theorem dX1_init_96 : decode cX1_init 96 = .ok (.putfield 46, 3) := by decide +kernel
theorem dX1_init_99 : decode cX1_init 99 = .ok (.aload_n 0, 1) := by decide +kernel
theorem dX1_init_100 : decode cX1_init 100 = .ok (.iconst 0, 1) := by decide +kernel
theorem dX1_init_101 : decode cX1_init 101 = .ok (.putfield 49, 3) := by decide +kernel
theorem dX1_init_104 : decode cX1_init 104 = .ok (.aload_n 0, 1) := by decide +kernel
theorem dX1_init_105 : decode cX1_init 105 = .ok (.sipush 10000, 3) := by decide +kernel
theorem dX1_init_108 : decode cX1_init 108 = .ok (.putfield 53, 3) := by decide +kernel
theorem dX1_init_111 : decode cX1_init 111 = .ok (.aload_n 0, 1) := by decide +kernel
theorem dX1_init_112 : decode cX1_init 112 = .ok (.iconst 0, 1) := by decide +kernel
theorem dX1_init_113 : decode cX1_init 113 = .ok (.putfield 56, 3) := by decide +kernel
theorem dX1_init_116 : decode cX1_init 116 = .ok (.aload_n 0, 1) := by decide +kernel
theorem dX1_init_117 : decode cX1_init 117 = .ok (.iconst 0, 1) := by decide +kernel
theorem dX1_init_118 : decode cX1_init 118 = .ok (.putfield 59, 3) := by decide +kernel
theorem dX1_init_121 : decode cX1_init 121 = .ok (.iconst 0, 1) := by decide +kernel
theorem dX1_init_122 : decode cX1_init 122 = .ok (.istore_n 1, 1) := by decide +kernel
theorem dX1_init_123 : decode cX1_init 123 = .ok (.iload_n 1, 1) := by decide +kernel
theorem dX1_init_124 : decode cX1_init 124 = .ok (.bipush 32, 2) := by decide +kernel
theorem dX1_init_126 : decode cX1_init 126 = .ok (.if_icmp .ge 29, 3) := by decide +kernel
theorem dX1_init_129 : decode cX1_init 129 = .ok (.aload_n 0, 1) := by decide +kernel
theorem dX1_init_130 : decode cX1_init 130 = .ok (.getfield 11, 3) := by decide +kernel
theorem dX1_init_133 : decode cX1_init 133 = .ok (.iload_n 1, 1) := by decide +kernel
theorem dX1_init_134 : decode cX1_init 134 = .ok (.new 9, 3) := by decide +kernel
theorem dX1_init_137 : decode cX1_init 137 = .ok (.dup, 1) := by decide +kernel
theorem dX1_init_138 : decode cX1_init 138 = .ok (.invokespecial 62, 3) := by decide +kernel
theorem dX1_init_141 : decode cX1_init 141 = .ok (.aastore, 1) := by decide +kernel
theorem dX1_init_142 : decode cX1_init 142 = .ok (.aload_n 0, 1) := by decide +kernel
theorem dX1_init_143 : decode cX1_init 143 = .ok (.getfield 19, 3) := by decide +kernel
theorem dX1_init_146 : decode cX1_init 146 = .ok (.iload_n 1, 1) := by decide +kernel
theorem dX1_init_147 : decode cX1_init 147 = .ok (.iconst (-1), 1) := by decide +kernel
theorem dX1_init_148 : decode cX1_init 148 = .ok (.iastore, 1) := by decide +kernel
theorem dX1_init_149 : decode cX1_init 149 = .ok (.iinc 1 1, 3) := by decide +kernel
theorem dX1_init_152 : decode cX1_init 152 = .ok (.goto (-29), 3) := by decide +kernel
theorem dX1_init_155 : decode cX1_init 155 = .ok (.iconst 0, 1) := by decide +kernel
theorem dX1_init_156 : decode cX1_init 156 = .ok (.istore_n 1, 1) := by decide +kernel
theorem dX1_init_157 : decode cX1_init 157 = .ok (.iload_n 1, 1) := by decide +kernel
theorem dX1_init_158 : decode cX1_init 158 = .ok (.bipush 16, 2) := by decide +kernel
theorem dX1_init_160 : decode cX1_init 160 = .ok (.if_icmp .ge 22, 3) := by decide +kernel
theorem dX1_init_163 : decode cX1_init 163 = .ok (.aload_n 0, 1) := by decide +kernel
theorem dX1_init_164 : decode cX1_init 164 = .ok (.getfield 31, 3) := by decide +kernel
theorem dX1_init_167 : decode cX1_init 167 = .ok (.iload_n 1, 1) := by decide +kernel
theorem dX1_init_168 : decode cX1_init 168 = .ok (.new 9, 3) := by decide +kernel
theorem dX1_init_171 : decode cX1_init 171 = .ok (.dup, 1) := by decide +kernel
theorem dX1_init_172 : decode cX1_init 172 = .ok (.invokespecial 62, 3) := by decide +kernel
theorem dX1_init_175 : decode cX1_init 175 = .ok (.aastore, 1) := by decide +kernel
theorem dX1_init_176 : decode cX1_init 176 = .ok (.iinc 1 1, 3) := by decide +kernel
theorem dX1_init_179 : decode cX1_init 179 = .ok (.goto (-22), 3) := by decide +kernel
theorem dX1_init_182 : decode cX1_init 182 = .ok (.return_, 1) := by decide +kernel
theorem dX1_place_0 : decode cX1_place 0 = .ok (.iload_n 1, 1) := by decide +kernel
theorem dX1_place_1 : decode cX1_place 1 = .ok (.invokestatic 63, 3) := by decide +kernel
theorem dX1_place_4 : decode cX1_place 4 = .ok (.iload_n 2, 1) := by decide +kernel
theorem dX1_place_5 : decode cX1_place 5 = .ok (.bipush 99, 2) := by decide +kernel
theorem dX1_place_7 : decode cX1_place 7 = .ok (.invokestatic 67, 3) := by decide +kernel
theorem dX1_place_10 : decode cX1_place 10 = .ok (.iload_n 3, 1) := by decide +kernel
theorem dX1_place_11 : decode cX1_place 11 = .ok (.bipush 99, 2) := by decide +kernel
theorem dX1_place_13 : decode cX1_place 13 = .ok (.invokestatic 67, 3) := by decide +kernel
theorem dX1_place_16 : decode cX1_place 16 = .ok (.aload_n 0, 1) := by decide +kernel
theorem dX1_place_17 : decode cX1_place 17 = .ok (.getfield 22, 3) := by decide +kernel
theorem dX1_place_20 : decode cX1_place 20 = .ok (.iload_n 1, 1) := by decide +kernel
theorem dX1_place_21 : decode cX1_place 21 = .ok (.iload_n 2, 1) := by decide +kernel
theorem dX1_place_22 : decode cX1_place 22 = .ok (.iastore, 1) := by decide +kernel
theorem dX1_place_23 : decode cX1_place 23 = .ok (.aload_n 0, 1) := by decide +kernel
theorem dX1_place_24 : decode cX1_place 24 = .ok (.getfield 25, 3) := by decide +kernel
theorem dX1_place_27 : decode cX1_place 27 = .ok (.iload_n 1, 1) := by decide +kernel
theorem dX1_place_28 : decode cX1_place 28 = .ok (.iload_n 3, 1) := by decide +kernel
theorem dX1_place_29 : decode cX1_place 29 = .ok (.iastore, 1) := by decide +kernel
theorem dX1_place_30 : decode cX1_place 30 = .ok (.return_, 1) := by decide +kernel
theorem dX1_rate_0 : decode cX1_rate 0 = .ok (.iload_n 1, 1) := by decide +kernel
theorem dX1_rate_1 : decode cX1_rate 1 = .ok (.invokestatic 63, 3) := by decide +kernel
theorem dX1_rate_4 : decode cX1_rate 4 = .ok (.iload_n 2, 1) := by decide +kernel
theorem dX1_rate_5 : decode cX1_rate 5 = .ok (.invokestatic 71, 3) := by decide +kernel
theorem dX1_rate_8 : decode cX1_rate 8 = .ok (.iload_n 3, 1) := by decide +kernel
theorem dX1_rate_9 : decode cX1_rate 9 = .ok (.bipush 31, 2) := by decide +kernel
theorem dX1_rate_11 : decode cX1_rate 11 = .ok (.invokestatic 67, 3) := by decide +kernel
theorem dX1_rate_14 : decode cX1_rate 14 = .ok (.aload_n 0, 1) := by decide +kernel
theorem dX1_rate_15 : decode cX1_rate 15 = .ok (.getfield 15, 3) := by decide +kernel
theorem dX1_rate_18 : decode cX1_rate 18 = .ok (.iload_n 1, 1) := by decide +kernel
theorem dX1_rate_19 : decode cX1_rate 19 = .ok (.iload_n 2, 1) := by decide +kernel
theorem dX1_rate_20 : decode cX1_rate 20 = .ok (.invokestatic 74, 3) := by decide +kernel
theorem dX1_rate_23 : decode cX1_rate 23 = .ok (.iload_n 3, 1) := by decide +kernel
theorem dX1_rate_24 : decode cX1_rate 24 = .ok (.iastore, 1) := by decide +kernel
theorem dX1_rate_25 : decode cX1_rate 25 = .ok (.return_, 1) := by decide +kernel
theorem dX1_accept_0 : decode cX1_accept 0 = .ok (.iload_n 1, 1) := by decide +kernel
theorem dX1_accept_1 : decode cX1_accept 1 = .ok (.invokestatic 63, 3) := by decide +kernel
theorem dX1_accept_4 : decode cX1_accept 4 = .ok (.iload_n 2, 1) := by decide +kernel
theorem dX1_accept_5 : decode cX1_accept 5 = .ok (.bipush 15, 2) := by decide +kernel
theorem dX1_accept_7 : decode cX1_accept 7 = .ok (.invokestatic 67, 3) := by decide +kernel
theorem dX1_accept_10 : decode cX1_accept 10 = .ok (.aload_n 0, 1) := by decide +kernel
theorem dX1_accept_11 : decode cX1_accept 11 = .ok (.getfield 28, 3) := by decide +kernel
theorem dX1_accept_14 : decode cX1_accept 14 = .ok (.iload_n 1, 1) := by decide +kernel
theorem dX1_accept_15 : decode cX1_accept 15 = .ok (.iload_n 2, 1) := by decide +kernel
theorem dX1_accept_16 : decode cX1_accept 16 = .ok (.iastore, 1) := by decide +kernel
theorem dX1_accept_17 : decode cX1_accept 17 = .ok (.return_, 1) := by decide +kernel
theorem dX1_make_0 : decode cX1_make 0 = .ok (.iload_n 1, 1) := by decide +kernel
theorem dX1_make_1 : decode cX1_make 1 = .ok (.invokestatic 63, 3) := by decide +kernel
theorem dX1_make_4 : decode cX1_make 4 = .ok (.iload_n 2, 1) := by decide +kernel
theorem dX1_make_5 : decode cX1_make 5 = .ok (.invokestatic 71, 3) := by decide +kernel
theorem dX1_make_8 : decode cX1_make 8 = .ok (.iload_n 3, 1) := by decide +kernel
theorem dX1_make_9 : decode cX1_make 9 = .ok (.iconst (-1), 1) := by decide +kernel
theorem dX1_make_10 : decode cX1_make 10 = .ok (.if_icmp .eq 20, 3) := by decide +kernel
theorem dX1_make_13 : decode cX1_make 13 = .ok (.iload_n 3, 1) := by decide +kernel
theorem dX1_make_14 : decode cX1_make 14 = .ok (.invokestatic 78, 3) := by decide +kernel
theorem dX1_make_17 : decode cX1_make 17 = .ok (.ifCond .ne 13, 3) := by decide +kernel
theorem dX1_make_20 : decode cX1_make 20 = .ok (.new 82, 3) := by decide +kernel
theorem dX1_make_23 : decode cX1_make 23 = .ok (.dup, 1) := by decide +kernel
theorem dX1_make_24 : decode cX1_make 24 = .ok (.ldc 84, 2) := by decide +kernel
theorem dX1_make_26 : decode cX1_make 26 = .ok (.invokespecial 86, 3) := by decide +kernel
theorem dX1_make_29 : decode cX1_make 29 = .ok (.athrow, 1) := by decide +kernel
theorem dX1_make_30 : decode cX1_make 30 = .ok (.aload_n 0, 1) := by decide +kernel
theorem dX1_make_31 : decode cX1_make 31 = .ok (.getfield 19, 3) := by decide +kernel
theorem dX1_make_34 : decode cX1_make 34 = .ok (.iload_n 1, 1) := by decide +kernel
theorem dX1_make_35 : decode cX1_make 35 = .ok (.iload_n 2, 1) := by decide +kernel
theorem dX1_make_36 : decode cX1_make 36 = .ok (.invokestatic 74, 3) := by decide +kernel
theorem dX1_make_39 : decode cX1_make 39 = .ok (.iload_n 3, 1) := by decide +kernel
theorem dX1_make_40 : decode cX1_make 40 = .ok (.iastore, 1) := by decide +kernel
theorem dX1_make_41 : decode cX1_make 41 = .ok (.return_, 1) := by decide +kernel
theorem dX1_wagon_0 : decode cX1_wagon 0 = .ok (.iload_n 1, 1) := by decide +kernel
theorem dX1_wagon_1 : decode cX1_wagon 1 = .ok (.invokestatic 89, 3) := by decide +kernel
theorem dX1_wagon_4 : decode cX1_wagon 4 = .ok (.iload_n 2, 1) := by decide +kernel
theorem dX1_wagon_5 : decode cX1_wagon 5 = .ok (.invokestatic 71, 3) := by decide +kernel
theorem dX1_wagon_8 : decode cX1_wagon 8 = .ok (.iload_n 3, 1) := by decide +kernel
theorem dX1_wagon_9 : decode cX1_wagon 9 = .ok (.bipush 80, 2) := by decide +kernel
theorem dX1_wagon_11 : decode cX1_wagon 11 = .ok (.invokestatic 67, 3) := by decide +kernel
theorem dX1_wagon_14 : decode cX1_wagon 14 = .ok (.aload_n 0, 1) := by decide +kernel
theorem dX1_wagon_15 : decode cX1_wagon 15 = .ok (.getfield 31, 3) := by decide +kernel
theorem dX1_wagon_18 : decode cX1_wagon 18 = .ok (.iload_n 1, 1) := by decide +kernel
theorem dX1_wagon_19 : decode cX1_wagon 19 = .ok (.aaload, 1) := by decide +kernel
theorem dX1_wagon_20 : decode cX1_wagon 20 = .ok (.invokevirtual 92, 3) := by decide +kernel
theorem dX1_wagon_23 : decode cX1_wagon 23 = .ok (.istore 4, 2) := by decide +kernel
theorem dX1_wagon_25 : decode cX1_wagon 25 = .ok (.iload 4, 2) := by decide +kernel
theorem dX1_wagon_27 : decode cX1_wagon 27 = .ok (.iload_n 3, 1) := by decide +kernel
theorem dX1_wagon_28 : decode cX1_wagon 28 = .ok (.if_icmp .le 13, 3) := by decide +kernel
theorem dX1_wagon_31 : decode cX1_wagon 31 = .ok (.new 82, 3) := by decide +kernel
theorem dX1_wagon_34 : decode cX1_wagon 34 = .ok (.dup, 1) := by decide +kernel
theorem dX1_wagon_35 : decode cX1_wagon 35 = .ok (.ldc 96, 2) := by decide +kernel
theorem dX1_wagon_37 : decode cX1_wagon 37 = .ok (.invokespecial 86, 3) := by decide +kernel
theorem dX1_wagon_40 : decode cX1_wagon 40 = .ok (.athrow, 1) := by decide +kernel
theorem dX1_wagon_41 : decode cX1_wagon 41 = .ok (.iload 4, 2) := by decide +kernel
theorem dX1_wagon_43 : decode cX1_wagon 43 = .ok (.ifCond .le 23, 3) := by decide +kernel
theorem dX1_wagon_46 : decode cX1_wagon 46 = .ok (.aload_n 0, 1) := by decide +kernel
theorem dX1_wagon_47 : decode cX1_wagon 47 = .ok (.getfield 34, 3) := by decide +kernel
theorem dX1_wagon_50 : decode cX1_wagon 50 = .ok (.iload_n 1, 1) := by decide +kernel
theorem dX1_wagon_51 : decode cX1_wagon 51 = .ok (.iaload, 1) := by decide +kernel
theorem dX1_wagon_52 : decode cX1_wagon 52 = .ok (.iload_n 2, 1) := by decide +kernel
theorem dX1_wagon_53 : decode cX1_wagon 53 = .ok (.if_icmp .eq 13, 3) := by decide +kernel
theorem dX1_wagon_56 : decode cX1_wagon 56 = .ok (.new 82, 3) := by decide +kernel
theorem dX1_wagon_59 : decode cX1_wagon 59 = .ok (.dup, 1) := by decide +kernel
theorem dX1_wagon_60 : decode cX1_wagon 60 = .ok (.ldc 98, 2) := by decide +kernel
theorem dX1_wagon_62 : decode cX1_wagon 62 = .ok (.invokespecial 86, 3) := by decide +kernel
theorem dX1_wagon_65 : decode cX1_wagon 65 = .ok (.athrow, 1) := by decide +kernel
theorem dX1_wagon_66 : decode cX1_wagon 66 = .ok (.aload_n 0, 1) := by decide +kernel
theorem dX1_wagon_67 : decode cX1_wagon 67 = .ok (.getfield 34, 3) := by decide +kernel
theorem dX1_wagon_70 : decode cX1_wagon 70 = .ok (.iload_n 1, 1) := by decide +kernel
theorem dX1_wagon_71 : decode cX1_wagon 71 = .ok (.iload_n 2, 1) := by decide +kernel
theorem dX1_wagon_72 : decode cX1_wagon 72 = .ok (.iastore, 1) := by decide +kernel
theorem dX1_wagon_73 : decode cX1_wagon 73 = .ok (.aload_n 0, 1) := by decide +kernel
theorem dX1_wagon_74 : decode cX1_wagon 74 = .ok (.getfield 37, 3) := by decide +kernel
theorem dX1_wagon_77 : decode cX1_wagon 77 = .ok (.iload_n 1, 1) := by decide +kernel
theorem dX1_wagon_78 : decode cX1_wagon 78 = .ok (.iload_n 3, 1) := by decide +kernel
theorem dX1_wagon_79 : decode cX1_wagon 79 = .ok (.iastore, 1) := by decide +kernel
theorem dX1_wagon_80 : decode cX1_wagon 80 = .ok (.return_, 1) := by decide +kernel
theorem dX1_pass_0 : decode cX1_pass 0 = .ok (.iload_n 1, 1) := by decide +kernel
theorem dX1_pass_1 : decode cX1_pass 1 = .ok (.sipush 2000, 3) := by decide +kernel
theorem dX1_pass_4 : decode cX1_pass 4 = .ok (.invokestatic 67, 3) := by decide +kernel
theorem dX1_pass_7 : decode cX1_pass 7 = .ok (.iload_n 1, 1) := by decide +kernel
theorem dX1_pass_8 : decode cX1_pass 8 = .ok (.ldc 100, 2) := by decide +kernel
theorem dX1_pass_10 : decode cX1_pass 10 = .ok (.aload_n 0, 1) := by decide +kernel
theorem dX1_pass_11 : decode cX1_pass 11 = .ok (.getfield 49, 3) := by decide +kernel
theorem dX1_pass_14 : decode cX1_pass 14 = .ok (.isub, 1) := by decide +kernel
theorem dX1_pass_15 : decode cX1_pass 15 = .ok (.if_icmp .le 13, 3) := by decide +kernel
theorem dX1_pass_18 : decode cX1_pass 18 = .ok (.new 82, 3) := by decide +kernel
theorem dX1_pass_21 : decode cX1_pass 21 = .ok (.dup, 1) := by decide +kernel
theorem dX1_pass_22 : decode cX1_pass 22 = .ok (.ldc 101, 2) := by decide +kernel
theorem dX1_pass_24 : decode cX1_pass 24 = .ok (.invokespecial 86, 3) := by decide +kernel
theorem dX1_pass_27 : decode cX1_pass 27 = .ok (.athrow, 1) := by decide +kernel
theorem dX1_pass_28 : decode cX1_pass 28 = .ok (.aload_n 0, 1) := by decide +kernel
theorem dX1_pass_29 : decode cX1_pass 29 = .ok (.getfield 49, 3) := by decide +kernel
theorem dX1_pass_32 : decode cX1_pass 32 = .ok (.iload_n 1, 1) := by decide +kernel
theorem dX1_pass_33 : decode cX1_pass 33 = .ok (.iadd, 1) := by decide +kernel
theorem dX1_pass_34 : decode cX1_pass 34 = .ok (.istore_n 2, 1) := by decide +kernel
theorem dX1_pass_35 : decode cX1_pass 35 = .ok (.aload_n 0, 1) := by decide +kernel
theorem dX1_pass_36 : decode cX1_pass 36 = .ok (.getfield 49, 3) := by decide +kernel
theorem dX1_pass_39 : decode cX1_pass 39 = .ok (.aload_n 0, 1) := by decide +kernel
theorem dX1_pass_40 : decode cX1_pass 40 = .ok (.getfield 49, 3) := by decide +kernel
theorem dX1_pass_43 : decode cX1_pass 43 = .ok (.bipush 16, 2) := by decide +kernel
theorem dX1_pass_45 : decode cX1_pass 45 = .ok (.irem, 1) := by decide +kernel
theorem dX1_pass_46 : decode cX1_pass 46 = .ok (.isub, 1) := by decide +kernel
theorem dX1_pass_47 : decode cX1_pass 47 = .ok (.bipush 16, 2) := by decide +kernel
theorem dX1_pass_49 : decode cX1_pass 49 = .ok (.iadd, 1) := by decide +kernel
theorem dX1_pass_50 : decode cX1_pass 50 = .ok (.istore_n 3, 1) := by decide +kernel
theorem dX1_pass_51 : decode cX1_pass 51 = .ok (.iload_n 3, 1) := by decide +kernel
theorem dX1_pass_52 : decode cX1_pass 52 = .ok (.istore 4, 2) := by decide +kernel
theorem dX1_pass_54 : decode cX1_pass 54 = .ok (.iload 4, 2) := by decide +kernel
theorem dX1_pass_56 : decode cX1_pass 56 = .ok (.iload_n 2, 1) := by decide +kernel
theorem dX1_pass_57 : decode cX1_pass 57 = .ok (.if_icmp .gt 19, 3) := by decide +kernel
theorem dX1_pass_60 : decode cX1_pass 60 = .ok (.aload_n 0, 1) := by decide +kernel
theorem dX1_pass_61 : decode cX1_pass 61 = .ok (.iload 4, 2) := by decide +kernel
theorem dX1_pass_63 : decode cX1_pass 63 = .ok (.putfield 49, 3) := by decide +kernel
theorem dX1_pass_66 : decode cX1_pass 66 = .ok (.aload_n 0, 1) := by decide +kernel
theorem dX1_pass_67 : decode cX1_pass 67 = .ok (.invokevirtual 103, 3) := by decide +kernel
theorem dX1_pass_70 : decode cX1_pass 70 = .ok (.iinc 4 16, 3) := by decide +kernel
theorem dX1_pass_73 : decode cX1_pass 73 = .ok (.goto (-19), 3) := by decide +kernel
theorem dX1_pass_76 : decode cX1_pass 76 = .ok (.aload_n 0, 1) := by decide +kernel
theorem dX1_pass_77 : decode cX1_pass 77 = .ok (.iload_n 2, 1) := by decide +kernel
theorem dX1_pass_78 : decode cX1_pass 78 = .ok (.putfield 49, 3) := by decide +kernel
theorem dX1_pass_81 : decode cX1_pass 81 = .ok (.aload_n 0, 1) := by decide +kernel
theorem dX1_pass_82 : decode cX1_pass 82 = .ok (.getfield 49, 3) := by decide +kernel
theorem dX1_pass_85 : decode cX1_pass 85 = .ok (.ireturn, 1) := by decide +kernel
theorem dX1_load_0 : decode cX1_load 0 = .ok (.iload_n 1, 1) := by decide +kernel
theorem dX1_load_1 : decode cX1_load 1 = .ok (.invokestatic 89, 3) := by decide +kernel
theorem dX1_load_4 : decode cX1_load 4 = .ok (.iload_n 2, 1) := by decide +kernel
theorem dX1_load_5 : decode cX1_load 5 = .ok (.invokestatic 63, 3) := by decide +kernel
theorem dX1_load_8 : decode cX1_load 8 = .ok (.iload_n 3, 1) := by decide +kernel
theorem dX1_load_9 : decode cX1_load 9 = .ok (.invokestatic 106, 3) := by decide +kernel
theorem dX1_load_12 : decode cX1_load 12 = .ok (.aload_n 0, 1) := by decide +kernel
theorem dX1_load_13 : decode cX1_load 13 = .ok (.getfield 11, 3) := by decide +kernel
theorem dX1_load_16 : decode cX1_load 16 = .ok (.iload_n 2, 1) := by decide +kernel
theorem dX1_load_17 : decode cX1_load 17 = .ok (.aload_n 0, 1) := by decide +kernel
theorem dX1_load_18 : decode cX1_load 18 = .ok (.getfield 34, 3) := by decide +kernel
theorem dX1_load_21 : decode cX1_load 21 = .ok (.iload_n 1, 1) := by decide +kernel
theorem dX1_load_22 : decode cX1_load 22 = .ok (.iaload, 1) := by decide +kernel
theorem dX1_load_23 : decode cX1_load 23 = .ok (.invokestatic 74, 3) := by decide +kernel
theorem dX1_load_26 : decode cX1_load 26 = .ok (.aaload, 1) := by decide +kernel
theorem dX1_load_27 : decode cX1_load 27 = .ok (.astore 4, 2) := by decide +kernel
theorem dX1_load_29 : decode cX1_load 29 = .ok (.aload 4, 2) := by decide +kernel
theorem dX1_load_31 : decode cX1_load 31 = .ok (.aload_n 0, 1) := by decide +kernel
theorem dX1_load_32 : decode cX1_load 32 = .ok (.getfield 31, 3) := by decide +kernel
theorem dX1_load_35 : decode cX1_load 35 = .ok (.iload_n 1, 1) := by decide +kernel
theorem dX1_load_36 : decode cX1_load 36 = .ok (.aaload, 1) := by decide +kernel
theorem dX1_load_37 : decode cX1_load 37 = .ok (.iload_n 3, 1) := by decide +kernel
theorem dX1_load_38 : decode cX1_load 38 = .ok (.aload_n 0, 1) := by decide +kernel
theorem dX1_load_39 : decode cX1_load 39 = .ok (.getfield 37, 3) := by decide +kernel
theorem dX1_load_42 : decode cX1_load 42 = .ok (.iload_n 1, 1) := by decide +kernel
theorem dX1_load_43 : decode cX1_load 43 = .ok (.iaload, 1) := by decide +kernel
theorem dX1_load_44 : decode cX1_load 44 = .ok (.invokevirtual 109, 3) := by decide +kernel
theorem dX1_load_47 : decode cX1_load 47 = .ok (.ireturn, 1) := by decide +kernel
theorem dX1_unload_0 : decode cX1_unload 0 = .ok (.iload_n 1, 1) := by decide +kernel
theorem dX1_unload_1 : decode cX1_unload 1 = .ok (.invokestatic 89, 3) := by decide +kernel
theorem dX1_unload_4 : decode cX1_unload 4 = .ok (.iload_n 2, 1) := by decide +kernel
theorem dX1_unload_5 : decode cX1_unload 5 = .ok (.invokestatic 63, 3) := by decide +kernel
theorem dX1_unload_8 : decode cX1_unload 8 = .ok (.iload_n 3, 1) := by decide +kernel
theorem dX1_unload_9 : decode cX1_unload 9 = .ok (.invokestatic 106, 3) := by decide +kernel
theorem dX1_unload_12 : decode cX1_unload 12 = .ok (.aload_n 0, 1) := by decide +kernel
theorem dX1_unload_13 : decode cX1_unload 13 = .ok (.getfield 34, 3) := by decide +kernel
theorem dX1_unload_16 : decode cX1_unload 16 = .ok (.iload_n 1, 1) := by decide +kernel
theorem dX1_unload_17 : decode cX1_unload 17 = .ok (.iaload, 1) := by decide +kernel
theorem dX1_unload_18 : decode cX1_unload 18 = .ok (.istore 4, 2) := by decide +kernel
theorem dX1_unload_20 : decode cX1_unload 20 = .ok (.aload_n 0, 1) := by decide +kernel
theorem dX1_unload_21 : decode cX1_unload 21 = .ok (.getfield 28, 3) := by decide +kernel
theorem dX1_unload_24 : decode cX1_unload 24 = .ok (.iload_n 2, 1) := by decide +kernel
theorem dX1_unload_25 : decode cX1_unload 25 = .ok (.iaload, 1) := by decide +kernel
theorem dX1_unload_26 : decode cX1_unload 26 = .ok (.iload 4, 2) := by decide +kernel
theorem dX1_unload_28 : decode cX1_unload 28 = .ok (.ishr, 1) := by decide +kernel
theorem dX1_unload_29 : decode cX1_unload 29 = .ok (.iconst 1, 1) := by decide +kernel
theorem dX1_unload_30 : decode cX1_unload 30 = .ok (.iand, 1) := by decide +kernel
theorem dX1_unload_31 : decode cX1_unload 31 = .ok (.iconst 1, 1) := by decide +kernel
theorem dX1_unload_32 : decode cX1_unload 32 = .ok (.if_icmp .ne 18, 3) := by decide +kernel
theorem dX1_unload_35 : decode cX1_unload 35 = .ok (.aload_n 0, 1) := by decide +kernel
theorem dX1_unload_36 : decode cX1_unload 36 = .ok (.aload_n 0, 1) := by decide +kernel
theorem dX1_unload_37 : decode cX1_unload 37 = .ok (.getfield 31, 3) := by decide +kernel
theorem dX1_unload_40 : decode cX1_unload 40 = .ok (.iload_n 1, 1) := by decide +kernel
theorem dX1_unload_41 : decode cX1_unload 41 = .ok (.aaload, 1) := by decide +kernel
theorem dX1_unload_42 : decode cX1_unload 42 = .ok (.iload_n 2, 1) := by decide +kernel
theorem dX1_unload_43 : decode cX1_unload 43 = .ok (.iload 4, 2) := by decide +kernel
theorem dX1_unload_45 : decode cX1_unload 45 = .ok (.iload_n 3, 1) := by decide +kernel
theorem dX1_unload_46 : decode cX1_unload 46 = .ok (.invokevirtual 113, 3) := by decide +kernel
theorem dX1_unload_49 : decode cX1_unload 49 = .ok (.ireturn, 1) := by decide +kernel
theorem dX1_unload_50 : decode cX1_unload 50 = .ok (.aload_n 0, 1) := by decide +kernel
theorem dX1_unload_51 : decode cX1_unload 51 = .ok (.getfield 31, 3) := by decide +kernel
theorem dX1_unload_54 : decode cX1_unload 54 = .ok (.iload_n 1, 1) := by decide +kernel
theorem dX1_unload_55 : decode cX1_unload 55 = .ok (.aaload, 1) := by decide +kernel
theorem dX1_unload_56 : decode cX1_unload 56 = .ok (.aload_n 0, 1) := by decide +kernel
end
section
theorem dX1_unload_57 : decode cX1_unload 57 = .ok (.getfield 11, 3) := by decide +kernel
theorem dX1_unload_60 : decode cX1_unload 60 = .ok (.iload_n 2, 1) := by decide +kernel
theorem dX1_unload_61 : decode cX1_unload 61 = .ok (.iload 4, 2) := by decide +kernel
theorem dX1_unload_63 : decode cX1_unload 63 = .ok (.invokestatic 74, 3) := by decide +kernel
theorem dX1_unload_66 : decode cX1_unload 66 = .ok (.aaload, 1) := by decide +kernel
theorem dX1_unload_67 : decode cX1_unload 67 = .ok (.iload_n 3, 1) := by decide +kernel
theorem dX1_unload_68 : decode cX1_unload 68 = .ok (.sipush 999, 3) := by decide +kernel
theorem dX1_unload_71 : decode cX1_unload 71 = .ok (.invokevirtual 109, 3) := by decide +kernel
theorem dX1_unload_74 : decode cX1_unload 74 = .ok (.ireturn, 1) := by decide +kernel
theorem dX1_pour_0 : decode cX1_pour 0 = .ok (.iload_n 1, 1) := by decide +kernel
theorem dX1_pour_1 : decode cX1_pour 1 = .ok (.invokestatic 89, 3) := by decide +kernel
theorem dX1_pour_4 : decode cX1_pour 4 = .ok (.iload_n 2, 1) := by decide +kernel
theorem dX1_pour_5 : decode cX1_pour 5 = .ok (.invokestatic 89, 3) := by decide +kernel
theorem dX1_pour_8 : decode cX1_pour 8 = .ok (.aload_n 0, 1) := by decide +kernel
theorem dX1_pour_9 : decode cX1_pour 9 = .ok (.iload_n 1, 1) := by decide +kernel
theorem dX1_pour_10 : decode cX1_pour 10 = .ok (.iload_n 2, 1) := by decide +kernel
theorem dX1_pour_11 : decode cX1_pour 11 = .ok (.invokevirtual 117, 3) := by decide +kernel
theorem dX1_pour_14 : decode cX1_pour 14 = .ok (.aload_n 0, 1) := by decide +kernel
theorem dX1_pour_15 : decode cX1_pour 15 = .ok (.getfield 31, 3) := by decide +kernel
theorem dX1_pour_18 : decode cX1_pour 18 = .ok (.iload_n 2, 1) := by decide +kernel
theorem dX1_pour_19 : decode cX1_pour 19 = .ok (.aaload, 1) := by decide +kernel
theorem dX1_pour_20 : decode cX1_pour 20 = .ok (.invokevirtual 92, 3) := by decide +kernel
theorem dX1_pour_23 : decode cX1_pour 23 = .ok (.istore_n 3, 1) := by decide +kernel
theorem dX1_pour_24 : decode cX1_pour 24 = .ok (.iload_n 3, 1) := by decide +kernel
theorem dX1_pour_25 : decode cX1_pour 25 = .ok (.aload_n 0, 1) := by decide +kernel
theorem dX1_pour_26 : decode cX1_pour 26 = .ok (.getfield 37, 3) := by decide +kernel
theorem dX1_pour_29 : decode cX1_pour 29 = .ok (.iload_n 1, 1) := by decide +kernel
theorem dX1_pour_30 : decode cX1_pour 30 = .ok (.iaload, 1) := by decide +kernel
theorem dX1_pour_31 : decode cX1_pour 31 = .ok (.aload_n 0, 1) := by decide +kernel
theorem dX1_pour_32 : decode cX1_pour 32 = .ok (.getfield 31, 3) := by decide +kernel
theorem dX1_pour_35 : decode cX1_pour 35 = .ok (.iload_n 1, 1) := by decide +kernel
theorem dX1_pour_36 : decode cX1_pour 36 = .ok (.aaload, 1) := by decide +kernel
theorem dX1_pour_37 : decode cX1_pour 37 = .ok (.invokevirtual 92, 3) := by decide +kernel
theorem dX1_pour_40 : decode cX1_pour 40 = .ok (.isub, 1) := by decide +kernel
theorem dX1_pour_41 : decode cX1_pour 41 = .ok (.if_icmp .le 13, 3) := by decide +kernel
theorem dX1_pour_44 : decode cX1_pour 44 = .ok (.new 82, 3) := by decide +kernel
theorem dX1_pour_47 : decode cX1_pour 47 = .ok (.dup, 1) := by decide +kernel
theorem dX1_pour_48 : decode cX1_pour 48 = .ok (.ldc 120, 2) := by decide +kernel
theorem dX1_pour_50 : decode cX1_pour 50 = .ok (.invokespecial 86, 3) := by decide +kernel
theorem dX1_pour_53 : decode cX1_pour 53 = .ok (.athrow, 1) := by decide +kernel
theorem dX1_pour_54 : decode cX1_pour 54 = .ok (.aload_n 0, 1) := by decide +kernel
theorem dX1_pour_55 : decode cX1_pour 55 = .ok (.getfield 31, 3) := by decide +kernel
theorem dX1_pour_58 : decode cX1_pour 58 = .ok (.iload_n 2, 1) := by decide +kernel
theorem dX1_pour_59 : decode cX1_pour 59 = .ok (.aaload, 1) := by decide +kernel
theorem dX1_pour_60 : decode cX1_pour 60 = .ok (.aload_n 0, 1) := by decide +kernel
theorem dX1_pour_61 : decode cX1_pour 61 = .ok (.getfield 31, 3) := by decide +kernel
theorem dX1_pour_64 : decode cX1_pour 64 = .ok (.iload_n 1, 1) := by decide +kernel
theorem dX1_pour_65 : decode cX1_pour 65 = .ok (.aaload, 1) := by decide +kernel
theorem dX1_pour_66 : decode cX1_pour 66 = .ok (.iload_n 3, 1) := by decide +kernel
theorem dX1_pour_67 : decode cX1_pour 67 = .ok (.aload_n 0, 1) := by decide +kernel
theorem dX1_pour_68 : decode cX1_pour 68 = .ok (.getfield 37, 3) := by decide +kernel
theorem dX1_pour_71 : decode cX1_pour 71 = .ok (.iload_n 1, 1) := by decide +kernel
theorem dX1_pour_72 : decode cX1_pour 72 = .ok (.iaload, 1) := by decide +kernel
theorem dX1_pour_73 : decode cX1_pour 73 = .ok (.invokevirtual 109, 3) := by decide +kernel
theorem dX1_pour_76 : decode cX1_pour 76 = .ok (.pop, 1) := by decide +kernel
theorem dX1_pour_77 : decode cX1_pour 77 = .ok (.return_, 1) := by decide +kernel
theorem dX1_part_0 : decode cX1_part 0 = .ok (.iload_n 1, 1) := by decide +kernel
theorem dX1_part_1 : decode cX1_part 1 = .ok (.invokestatic 89, 3) := by decide +kernel
theorem dX1_part_4 : decode cX1_part 4 = .ok (.iload_n 3, 1) := by decide +kernel
theorem dX1_part_5 : decode cX1_part 5 = .ok (.invokestatic 89, 3) := by decide +kernel
theorem dX1_part_8 : decode cX1_part 8 = .ok (.iload_n 2, 1) := by decide +kernel
theorem dX1_part_9 : decode cX1_part 9 = .ok (.invokestatic 106, 3) := by decide +kernel
theorem dX1_part_12 : decode cX1_part 12 = .ok (.aload_n 0, 1) := by decide +kernel
theorem dX1_part_13 : decode cX1_part 13 = .ok (.iload_n 1, 1) := by decide +kernel
theorem dX1_part_14 : decode cX1_part 14 = .ok (.iload_n 3, 1) := by decide +kernel
theorem dX1_part_15 : decode cX1_part 15 = .ok (.invokevirtual 117, 3) := by decide +kernel
theorem dX1_part_18 : decode cX1_part 18 = .ok (.aload_n 0, 1) := by decide +kernel
theorem dX1_part_19 : decode cX1_part 19 = .ok (.getfield 31, 3) := by decide +kernel
theorem dX1_part_22 : decode cX1_part 22 = .ok (.iload_n 3, 1) := by decide +kernel
theorem dX1_part_23 : decode cX1_part 23 = .ok (.aaload, 1) := by decide +kernel
theorem dX1_part_24 : decode cX1_part 24 = .ok (.invokevirtual 92, 3) := by decide +kernel
theorem dX1_part_27 : decode cX1_part 27 = .ok (.ifCond .le 13, 3) := by decide +kernel
theorem dX1_part_30 : decode cX1_part 30 = .ok (.new 82, 3) := by decide +kernel
theorem dX1_part_33 : decode cX1_part 33 = .ok (.dup, 1) := by decide +kernel
theorem dX1_part_34 : decode cX1_part 34 = .ok (.ldc 122, 2) := by decide +kernel
theorem dX1_part_36 : decode cX1_part 36 = .ok (.invokespecial 86, 3) := by decide +kernel
theorem dX1_part_39 : decode cX1_part 39 = .ok (.athrow, 1) := by decide +kernel
theorem dX1_part_40 : decode cX1_part 40 = .ok (.aload_n 0, 1) := by decide +kernel
theorem dX1_part_41 : decode cX1_part 41 = .ok (.getfield 31, 3) := by decide +kernel
theorem dX1_part_44 : decode cX1_part 44 = .ok (.iload_n 1, 1) := by decide +kernel
theorem dX1_part_45 : decode cX1_part 45 = .ok (.aaload, 1) := by decide +kernel
theorem dX1_part_46 : decode cX1_part 46 = .ok (.invokevirtual 92, 3) := by decide +kernel
theorem dX1_part_49 : decode cX1_part 49 = .ok (.iload_n 2, 1) := by decide +kernel
theorem dX1_part_50 : decode cX1_part 50 = .ok (.isub, 1) := by decide +kernel
theorem dX1_part_51 : decode cX1_part 51 = .ok (.aload_n 0, 1) := by decide +kernel
theorem dX1_part_52 : decode cX1_part 52 = .ok (.getfield 37, 3) := by decide +kernel
theorem dX1_part_55 : decode cX1_part 55 = .ok (.iload_n 3, 1) := by decide +kernel
theorem dX1_part_56 : decode cX1_part 56 = .ok (.iaload, 1) := by decide +kernel
theorem dX1_part_57 : decode cX1_part 57 = .ok (.if_icmp .le 13, 3) := by decide +kernel
theorem dX1_part_60 : decode cX1_part 60 = .ok (.new 82, 3) := by decide +kernel
theorem dX1_part_63 : decode cX1_part 63 = .ok (.dup, 1) := by decide +kernel
theorem dX1_part_64 : decode cX1_part 64 = .ok (.ldc 120, 2) := by decide +kernel
theorem dX1_part_66 : decode cX1_part 66 = .ok (.invokespecial 86, 3) := by decide +kernel
theorem dX1_part_69 : decode cX1_part 69 = .ok (.athrow, 1) := by decide +kernel
theorem dX1_part_70 : decode cX1_part 70 = .ok (.aload_n 0, 1) := by decide +kernel
theorem dX1_part_71 : decode cX1_part 71 = .ok (.getfield 31, 3) := by decide +kernel
theorem dX1_part_74 : decode cX1_part 74 = .ok (.iload_n 1, 1) := by decide +kernel
theorem dX1_part_75 : decode cX1_part 75 = .ok (.aaload, 1) := by decide +kernel
theorem dX1_part_76 : decode cX1_part 76 = .ok (.iload_n 2, 1) := by decide +kernel
theorem dX1_part_77 : decode cX1_part 77 = .ok (.aload_n 0, 1) := by decide +kernel
theorem dX1_part_78 : decode cX1_part 78 = .ok (.getfield 31, 3) := by decide +kernel
theorem dX1_part_81 : decode cX1_part 81 = .ok (.iload_n 3, 1) := by decide +kernel
theorem dX1_part_82 : decode cX1_part 82 = .ok (.aaload, 1) := by decide +kernel
theorem dX1_part_83 : decode cX1_part 83 = .ok (.invokevirtual 124, 3) := by decide +kernel
theorem dX1_part_86 : decode cX1_part 86 = .ok (.return_, 1) := by decide +kernel
theorem dX1_dump_0 : decode cX1_dump 0 = .ok (.iload_n 1, 1) := by decide +kernel
theorem dX1_dump_1 : decode cX1_dump 1 = .ok (.invokestatic 89, 3) := by decide +kernel
theorem dX1_dump_4 : decode cX1_dump 4 = .ok (.aload_n 0, 1) := by decide +kernel
theorem dX1_dump_5 : decode cX1_dump 5 = .ok (.getfield 31, 3) := by decide +kernel
theorem dX1_dump_8 : decode cX1_dump 8 = .ok (.iload_n 1, 1) := by decide +kernel
theorem dX1_dump_9 : decode cX1_dump 9 = .ok (.aaload, 1) := by decide +kernel
theorem dX1_dump_10 : decode cX1_dump 10 = .ok (.invokevirtual 92, 3) := by decide +kernel
theorem dX1_dump_13 : decode cX1_dump 13 = .ok (.istore_n 2, 1) := by decide +kernel
theorem dX1_dump_14 : decode cX1_dump 14 = .ok (.aload_n 0, 1) := by decide +kernel
theorem dX1_dump_15 : decode cX1_dump 15 = .ok (.getfield 31, 3) := by decide +kernel
theorem dX1_dump_18 : decode cX1_dump 18 = .ok (.iload_n 1, 1) := by decide +kernel
theorem dX1_dump_19 : decode cX1_dump 19 = .ok (.aaload, 1) := by decide +kernel
theorem dX1_dump_20 : decode cX1_dump 20 = .ok (.invokevirtual 128, 3) := by decide +kernel
theorem dX1_dump_23 : decode cX1_dump 23 = .ok (.aload_n 0, 1) := by decide +kernel
theorem dX1_dump_24 : decode cX1_dump 24 = .ok (.getfield 46, 3) := by decide +kernel
theorem dX1_dump_27 : decode cX1_dump 27 = .ok (.aload_n 0, 1) := by decide +kernel
theorem dX1_dump_28 : decode cX1_dump 28 = .ok (.getfield 34, 3) := by decide +kernel
theorem dX1_dump_31 : decode cX1_dump 31 = .ok (.iload_n 1, 1) := by decide +kernel
theorem dX1_dump_32 : decode cX1_dump 32 = .ok (.iaload, 1) := by decide +kernel
theorem dX1_dump_33 : decode cX1_dump 33 = .ok (.dup2, 1) := by decide +kernel
theorem dX1_dump_34 : decode cX1_dump 34 = .ok (.iaload, 1) := by decide +kernel
theorem dX1_dump_35 : decode cX1_dump 35 = .ok (.iload_n 2, 1) := by decide +kernel
theorem dX1_dump_36 : decode cX1_dump 36 = .ok (.iadd, 1) := by decide +kernel
theorem dX1_dump_37 : decode cX1_dump 37 = .ok (.iastore, 1) := by decide +kernel
theorem dX1_dump_38 : decode cX1_dump 38 = .ok (.iload_n 2, 1) := by decide +kernel
theorem dX1_dump_39 : decode cX1_dump 39 = .ok (.ireturn, 1) := by decide +kernel
theorem dX1_spend_0 : decode cX1_spend 0 = .ok (.iload_n 1, 1) := by decide +kernel
theorem dX1_spend_1 : decode cX1_spend 1 = .ok (.ifCond .lt 22, 3) := by decide +kernel
theorem dX1_spend_4 : decode cX1_spend 4 = .ok (.iload_n 1, 1) := by decide +kernel
theorem dX1_spend_5 : decode cX1_spend 5 = .ok (.aload_n 0, 1) := by decide +kernel
theorem dX1_spend_6 : decode cX1_spend 6 = .ok (.getfield 53, 3) := by decide +kernel
theorem dX1_spend_9 : decode cX1_spend 9 = .ok (.if_icmp .gt 14, 3) := by decide +kernel
theorem dX1_spend_12 : decode cX1_spend 12 = .ok (.iload_n 1, 1) := by decide +kernel
theorem dX1_spend_13 : decode cX1_spend 13 = .ok (.ldc 100, 2) := by decide +kernel
theorem dX1_spend_15 : decode cX1_spend 15 = .ok (.aload_n 0, 1) := by decide +kernel
theorem dX1_spend_16 : decode cX1_spend 16 = .ok (.getfield 59, 3) := by decide +kernel
theorem dX1_spend_19 : decode cX1_spend 19 = .ok (.isub, 1) := by decide +kernel
theorem dX1_spend_20 : decode cX1_spend 20 = .ok (.if_icmp .le 5, 3) := by decide +kernel
theorem dX1_spend_23 : decode cX1_spend 23 = .ok (.iconst 0, 1) := by decide +kernel
theorem dX1_spend_24 : decode cX1_spend 24 = .ok (.ireturn, 1) := by decide +kernel
theorem dX1_spend_25 : decode cX1_spend 25 = .ok (.aload_n 0, 1) := by decide +kernel
theorem dX1_spend_26 : decode cX1_spend 26 = .ok (.dup, 1) := by decide +kernel
theorem dX1_spend_27 : decode cX1_spend 27 = .ok (.getfield 53, 3) := by decide +kernel
theorem dX1_spend_30 : decode cX1_spend 30 = .ok (.iload_n 1, 1) := by decide +kernel
theorem dX1_spend_31 : decode cX1_spend 31 = .ok (.isub, 1) := by decide +kernel
theorem dX1_spend_32 : decode cX1_spend 32 = .ok (.putfield 53, 3) := by decide +kernel
theorem dX1_spend_35 : decode cX1_spend 35 = .ok (.aload_n 0, 1) := by decide +kernel
theorem dX1_spend_36 : decode cX1_spend 36 = .ok (.dup, 1) := by decide +kernel
theorem dX1_spend_37 : decode cX1_spend 37 = .ok (.getfield 59, 3) := by decide +kernel
theorem dX1_spend_40 : decode cX1_spend 40 = .ok (.iload_n 1, 1) := by decide +kernel
theorem dX1_spend_41 : decode cX1_spend 41 = .ok (.iadd, 1) := by decide +kernel
theorem dX1_spend_42 : decode cX1_spend 42 = .ok (.putfield 59, 3) := by decide +kernel
theorem dX1_spend_45 : decode cX1_spend 45 = .ok (.iconst 1, 1) := by decide +kernel
theorem dX1_spend_46 : decode cX1_spend 46 = .ok (.ireturn, 1) := by decide +kernel
theorem dX1_packet_0 : decode cX1_packet 0 = .ok (.aload_n 0, 1) := by decide +kernel
theorem dX1_packet_1 : decode cX1_packet 1 = .ok (.iload_n 1, 1) := by decide +kernel
theorem dX1_packet_2 : decode cX1_packet 2 = .ok (.iload_n 2, 1) := by decide +kernel
theorem dX1_packet_3 : decode cX1_packet 3 = .ok (.invokevirtual 131, 3) := by decide +kernel
theorem dX1_packet_6 : decode cX1_packet 6 = .ok (.astore 5, 2) := by decide +kernel
theorem dX1_packet_8 : decode cX1_packet 8 = .ok (.aload 5, 2) := by decide +kernel
theorem dX1_packet_10 : decode cX1_packet 10 = .ok (.ifnonnull 7, 3) := by decide +kernel
theorem dX1_packet_13 : decode cX1_packet 13 = .ok (.iconst (-1), 1) := by decide +kernel
theorem dX1_packet_14 : decode cX1_packet 14 = .ok (.goto 11, 3) := by decide +kernel
theorem dX1_packet_17 : decode cX1_packet 17 = .ok (.aload 5, 2) := by decide +kernel
theorem dX1_packet_19 : decode cX1_packet 19 = .ok (.iload_n 3, 1) := by decide +kernel
theorem dX1_packet_20 : decode cX1_packet 20 = .ok (.iload 4, 2) := by decide +kernel
theorem dX1_packet_22 : decode cX1_packet 22 = .ok (.invokevirtual 135, 3) := by decide +kernel
theorem dX1_packet_25 : decode cX1_packet 25 = .ok (.ireturn, 1) := by decide +kernel
theorem dX1_units_0 : decode cX1_units 0 = .ok (.aload_n 0, 1) := by decide +kernel
theorem dX1_units_1 : decode cX1_units 1 = .ok (.iload_n 1, 1) := by decide +kernel
theorem dX1_units_2 : decode cX1_units 2 = .ok (.iload_n 2, 1) := by decide +kernel
theorem dX1_units_3 : decode cX1_units 3 = .ok (.invokevirtual 131, 3) := by decide +kernel
theorem dX1_units_6 : decode cX1_units 6 = .ok (.astore_n 3, 1) := by decide +kernel
theorem dX1_units_7 : decode cX1_units 7 = .ok (.aload_n 3, 1) := by decide +kernel
theorem dX1_units_8 : decode cX1_units 8 = .ok (.ifnonnull 7, 3) := by decide +kernel
theorem dX1_units_11 : decode cX1_units 11 = .ok (.iconst (-1), 1) := by decide +kernel
theorem dX1_units_12 : decode cX1_units 12 = .ok (.goto 7, 3) := by decide +kernel
theorem dX1_units_15 : decode cX1_units 15 = .ok (.aload_n 3, 1) := by decide +kernel
theorem dX1_units_16 : decode cX1_units 16 = .ok (.invokevirtual 92, 3) := by decide +kernel
theorem dX1_units_19 : decode cX1_units 19 = .ok (.ireturn, 1) := by decide +kernel
theorem dX1_count_0 : decode cX1_count 0 = .ok (.iload_n 1, 1) := by decide +kernel
theorem dX1_count_1 : decode cX1_count 1 = .ok (.invokestatic 78, 3) := by decide +kernel
theorem dX1_count_4 : decode cX1_count 4 = .ok (.ifCond .ne 5, 3) := by decide +kernel
theorem dX1_count_7 : decode cX1_count 7 = .ok (.iconst (-1), 1) := by decide +kernel
theorem dX1_count_8 : decode cX1_count 8 = .ok (.ireturn, 1) := by decide +kernel
theorem dX1_count_9 : decode cX1_count 9 = .ok (.iload_n 2, 1) := by decide +kernel
theorem dX1_count_10 : decode cX1_count 10 = .ok (.tableswitch 67 0 4 #[34, 41, 48, 55, 61], 34) := by decide +kernel
theorem dX1_count_44 : decode cX1_count 44 = .ok (.aload_n 0, 1) := by decide +kernel
theorem dX1_count_45 : decode cX1_count 45 = .ok (.getfield 40, 3) := by decide +kernel
theorem dX1_count_48 : decode cX1_count 48 = .ok (.iload_n 1, 1) := by decide +kernel
theorem dX1_count_49 : decode cX1_count 49 = .ok (.iaload, 1) := by decide +kernel
theorem dX1_count_50 : decode cX1_count 50 = .ok (.ireturn, 1) := by decide +kernel
theorem dX1_count_51 : decode cX1_count 51 = .ok (.aload_n 0, 1) := by decide +kernel
theorem dX1_count_52 : decode cX1_count 52 = .ok (.getfield 43, 3) := by decide +kernel
theorem dX1_count_55 : decode cX1_count 55 = .ok (.iload_n 1, 1) := by decide +kernel
theorem dX1_count_56 : decode cX1_count 56 = .ok (.iaload, 1) := by decide +kernel
theorem dX1_count_57 : decode cX1_count 57 = .ok (.ireturn, 1) := by decide +kernel
theorem dX1_count_58 : decode cX1_count 58 = .ok (.aload_n 0, 1) := by decide +kernel
theorem dX1_count_59 : decode cX1_count 59 = .ok (.getfield 46, 3) := by decide +kernel
theorem dX1_count_62 : decode cX1_count 62 = .ok (.iload_n 1, 1) := by decide +kernel
theorem dX1_count_63 : decode cX1_count 63 = .ok (.iaload, 1) := by decide +kernel
theorem dX1_count_64 : decode cX1_count 64 = .ok (.ireturn, 1) := by decide +kernel
theorem dX1_count_65 : decode cX1_count 65 = .ok (.aload_n 0, 1) := by decide +kernel
theorem dX1_count_66 : decode cX1_count 66 = .ok (.iload_n 1, 1) := by decide +kernel
theorem dX1_count_67 : decode cX1_count 67 = .ok (.invokevirtual 138, 3) := by decide +kernel
theorem dX1_count_70 : decode cX1_count 70 = .ok (.ireturn, 1) := by decide +kernel
theorem dX1_count_71 : decode cX1_count 71 = .ok (.aload_n 0, 1) := by decide +kernel
theorem dX1_count_72 : decode cX1_count 72 = .ok (.iload_n 1, 1) := by decide +kernel
theorem dX1_count_73 : decode cX1_count 73 = .ok (.invokevirtual 142, 3) := by decide +kernel
theorem dX1_count_76 : decode cX1_count 76 = .ok (.ireturn, 1) := by decide +kernel
theorem dX1_count_77 : decode cX1_count 77 = .ok (.iconst (-1), 1) := by decide +kernel
theorem dX1_count_78 : decode cX1_count 78 = .ok (.ireturn, 1) := by decide +kernel
theorem dX1_sum_0 : decode cX1_sum 0 = .ok (.iload_n 1, 1) := by decide +kernel
theorem dX1_sum_1 : decode cX1_sum 1 = .ok (.tableswitch 51 0 3 #[31, 36, 41, 46], 31) := by decide +kernel
theorem dX1_sum_32 : decode cX1_sum 32 = .ok (.aload_n 0, 1) := by decide +kernel
theorem dX1_sum_33 : decode cX1_sum 33 = .ok (.getfield 53, 3) := by decide +kernel
theorem dX1_sum_36 : decode cX1_sum 36 = .ok (.ireturn, 1) := by decide +kernel
theorem dX1_sum_37 : decode cX1_sum 37 = .ok (.aload_n 0, 1) := by decide +kernel
theorem dX1_sum_38 : decode cX1_sum 38 = .ok (.getfield 56, 3) := by decide +kernel
theorem dX1_sum_41 : decode cX1_sum 41 = .ok (.ireturn, 1) := by decide +kernel
theorem dX1_sum_42 : decode cX1_sum 42 = .ok (.aload_n 0, 1) := by decide +kernel
theorem dX1_sum_43 : decode cX1_sum 43 = .ok (.getfield 59, 3) := by decide +kernel
theorem dX1_sum_46 : decode cX1_sum 46 = .ok (.ireturn, 1) := by decide +kernel
theorem dX1_sum_47 : decode cX1_sum 47 = .ok (.aload_n 0, 1) := by decide +kernel
theorem dX1_sum_48 : decode cX1_sum 48 = .ok (.getfield 49, 3) := by decide +kernel
theorem dX1_sum_51 : decode cX1_sum 51 = .ok (.ireturn, 1) := by decide +kernel
theorem dX1_sum_52 : decode cX1_sum 52 = .ok (.iconst (-1), 1) := by decide +kernel
theorem dX1_sum_53 : decode cX1_sum 53 = .ok (.ireturn, 1) := by decide +kernel
theorem dX1_produceEverywhere_0 : decode cX1_produceEverywhere 0 = .ok (.iconst 0, 1) := by decide +kernel
theorem dX1_produceEverywhere_1 : decode cX1_produceEverywhere 1 = .ok (.istore_n 1, 1) := by decide +kernel
theorem dX1_produceEverywhere_2 : decode cX1_produceEverywhere 2 = .ok (.iload_n 1, 1) := by decide +kernel
theorem dX1_produceEverywhere_3 : decode cX1_produceEverywhere 3 = .ok (.bipush 8, 2) := by decide +kernel
theorem dX1_produceEverywhere_5 : decode cX1_produceEverywhere 5 = .ok (.if_icmp .ge 38, 3) := by decide +kernel
theorem dX1_produceEverywhere_8 : decode cX1_produceEverywhere 8 = .ok (.iconst 0, 1) := by decide +kernel
theorem dX1_produceEverywhere_9 : decode cX1_produceEverywhere 9 = .ok (.istore_n 2, 1) := by decide +kernel
theorem dX1_produceEverywhere_10 : decode cX1_produceEverywhere 10 = .ok (.iload_n 2, 1) := by decide +kernel
theorem dX1_produceEverywhere_11 : decode cX1_produceEverywhere 11 = .ok (.iconst 4, 1) := by decide +kernel
theorem dX1_produceEverywhere_12 : decode cX1_produceEverywhere 12 = .ok (.if_icmp .ge 25, 3) := by decide +kernel
theorem dX1_produceEverywhere_15 : decode cX1_produceEverywhere 15 = .ok (.aload_n 0, 1) := by decide +kernel
theorem dX1_produceEverywhere_16 : decode cX1_produceEverywhere 16 = .ok (.iload_n 1, 1) := by decide +kernel
theorem dX1_produceEverywhere_17 : decode cX1_produceEverywhere 17 = .ok (.iload_n 2, 1) := by decide +kernel
theorem dX1_produceEverywhere_18 : decode cX1_produceEverywhere 18 = .ok (.aload_n 0, 1) := by decide +kernel
theorem dX1_produceEverywhere_19 : decode cX1_produceEverywhere 19 = .ok (.getfield 15, 3) := by decide +kernel
theorem dX1_produceEverywhere_22 : decode cX1_produceEverywhere 22 = .ok (.iload_n 1, 1) := by decide +kernel
theorem dX1_produceEverywhere_23 : decode cX1_produceEverywhere 23 = .ok (.iload_n 2, 1) := by decide +kernel
theorem dX1_produceEverywhere_24 : decode cX1_produceEverywhere 24 = .ok (.invokestatic 74, 3) := by decide +kernel
theorem dX1_produceEverywhere_27 : decode cX1_produceEverywhere 27 = .ok (.iaload, 1) := by decide +kernel
theorem dX1_produceEverywhere_28 : decode cX1_produceEverywhere 28 = .ok (.invokevirtual 145, 3) := by decide +kernel
theorem dX1_produceEverywhere_31 : decode cX1_produceEverywhere 31 = .ok (.iinc 2 1, 3) := by decide +kernel
theorem dX1_produceEverywhere_34 : decode cX1_produceEverywhere 34 = .ok (.goto (-24), 3) := by decide +kernel
theorem dX1_produceEverywhere_37 : decode cX1_produceEverywhere 37 = .ok (.iinc 1 1, 3) := by decide +kernel
theorem dX1_produceEverywhere_40 : decode cX1_produceEverywhere 40 = .ok (.goto (-38), 3) := by decide +kernel
theorem dX1_produceEverywhere_43 : decode cX1_produceEverywhere 43 = .ok (.return_, 1) := by decide +kernel
theorem dX1_produce_0 : decode cX1_produce 0 = .ok (.aload_n 0, 1) := by decide +kernel
theorem dX1_produce_1 : decode cX1_produce 1 = .ok (.getfield 11, 3) := by decide +kernel
theorem dX1_produce_4 : decode cX1_produce 4 = .ok (.iload_n 1, 1) := by decide +kernel
theorem dX1_produce_5 : decode cX1_produce 5 = .ok (.iload_n 2, 1) := by decide +kernel
theorem dX1_produce_6 : decode cX1_produce 6 = .ok (.invokestatic 74, 3) := by decide +kernel
theorem dX1_produce_9 : decode cX1_produce 9 = .ok (.aaload, 1) := by decide +kernel
theorem dX1_produce_10 : decode cX1_produce 10 = .ok (.astore 4, 2) := by decide +kernel
theorem dX1_produce_12 : decode cX1_produce 12 = .ok (.sipush 999, 3) := by decide +kernel
theorem dX1_produce_15 : decode cX1_produce 15 = .ok (.aload 4, 2) := by decide +kernel
theorem dX1_produce_17 : decode cX1_produce 17 = .ok (.invokevirtual 92, 3) := by decide +kernel
theorem dX1_produce_20 : decode cX1_produce 20 = .ok (.isub, 1) := by decide +kernel
theorem dX1_produce_21 : decode cX1_produce 21 = .ok (.ldc 100, 2) := by decide +kernel
theorem dX1_produce_23 : decode cX1_produce 23 = .ok (.aload_n 0, 1) := by decide +kernel
theorem dX1_produce_24 : decode cX1_produce 24 = .ok (.getfield 40, 3) := by decide +kernel
theorem dX1_produce_27 : decode cX1_produce 27 = .ok (.iload_n 2, 1) := by decide +kernel
theorem dX1_produce_28 : decode cX1_produce 28 = .ok (.iaload, 1) := by decide +kernel
theorem dX1_produce_29 : decode cX1_produce 29 = .ok (.isub, 1) := by decide +kernel
theorem dX1_produce_30 : decode cX1_produce 30 = .ok (.invokestatic 149, 3) := by decide +kernel
theorem dX1_produce_33 : decode cX1_produce 33 = .ok (.istore 5, 2) := by decide +kernel
theorem dX1_produce_35 : decode cX1_produce 35 = .ok (.iload_n 3, 1) := by decide +kernel
theorem dX1_produce_36 : decode cX1_produce 36 = .ok (.iload 5, 2) := by decide +kernel
theorem dX1_produce_38 : decode cX1_produce 38 = .ok (.invokestatic 149, 3) := by decide +kernel
theorem dX1_produce_41 : decode cX1_produce 41 = .ok (.istore 6, 2) := by decide +kernel
theorem dX1_produce_43 : decode cX1_produce 43 = .ok (.aload 4, 2) := by decide +kernel
theorem dX1_produce_45 : decode cX1_produce 45 = .ok (.iload_n 1, 1) := by decide +kernel
theorem dX1_produce_46 : decode cX1_produce 46 = .ok (.aload_n 0, 1) := by decide +kernel
theorem dX1_produce_47 : decode cX1_produce 47 = .ok (.getfield 49, 3) := by decide +kernel
theorem dX1_produce_50 : decode cX1_produce 50 = .ok (.iload 6, 2) := by decide +kernel
theorem dX1_produce_52 : decode cX1_produce 52 = .ok (.invokevirtual 154, 3) := by decide +kernel
theorem dX1_produce_55 : decode cX1_produce 55 = .ok (.aload_n 0, 1) := by decide +kernel
theorem dX1_produce_56 : decode cX1_produce 56 = .ok (.getfield 40, 3) := by decide +kernel
theorem dX1_produce_59 : decode cX1_produce 59 = .ok (.iload_n 2, 1) := by decide +kernel
theorem dX1_produce_60 : decode cX1_produce 60 = .ok (.dup2, 1) := by decide +kernel
theorem dX1_produce_61 : decode cX1_produce 61 = .ok (.iaload, 1) := by decide +kernel
theorem dX1_produce_62 : decode cX1_produce 62 = .ok (.iload 6, 2) := by decide +kernel
theorem dX1_produce_64 : decode cX1_produce 64 = .ok (.iadd, 1) := by decide +kernel
theorem dX1_produce_65 : decode cX1_produce 65 = .ok (.iastore, 1) := by decide +kernel
theorem dX1_produce_66 : decode cX1_produce 66 = .ok (.return_, 1) := by decide +kernel
theorem dX1_deliverFrom_0 : decode cX1_deliverFrom 0 = .ok (.iload 4, 2) := by decide +kernel
theorem dX1_deliverFrom_2 : decode cX1_deliverFrom 2 = .ok (.aload_n 1, 1) := by decide +kernel
theorem dX1_deliverFrom_3 : decode cX1_deliverFrom 3 = .ok (.invokevirtual 92, 3) := by decide +kernel
theorem dX1_deliverFrom_6 : decode cX1_deliverFrom 6 = .ok (.invokestatic 149, 3) := by decide +kernel
theorem dX1_deliverFrom_9 : decode cX1_deliverFrom 9 = .ok (.istore 5, 2) := by decide +kernel
theorem dX1_deliverFrom_11 : decode cX1_deliverFrom 11 = .ok (.iload 5, 2) := by decide +kernel
theorem dX1_deliverFrom_13 : decode cX1_deliverFrom 13 = .ok (.istore 6, 2) := by decide +kernel
theorem dX1_deliverFrom_15 : decode cX1_deliverFrom 15 = .ok (.iconst 0, 1) := by decide +kernel
theorem dX1_deliverFrom_16 : decode cX1_deliverFrom 16 = .ok (.istore 7, 2) := by decide +kernel
theorem dX1_deliverFrom_18 : decode cX1_deliverFrom 18 = .ok (.iload 7, 2) := by decide +kernel
theorem dX1_deliverFrom_20 : decode cX1_deliverFrom 20 = .ok (.bipush 8, 2) := by decide +kernel
theorem dX1_deliverFrom_22 : decode cX1_deliverFrom 22 = .ok (.if_icmp .ge 64, 3) := by decide +kernel
theorem dX1_deliverFrom_25 : decode cX1_deliverFrom 25 = .ok (.iload 6, 2) := by decide +kernel
theorem dX1_deliverFrom_27 : decode cX1_deliverFrom 27 = .ok (.ifCond .le 59, 3) := by decide +kernel
theorem dX1_deliverFrom_30 : decode cX1_deliverFrom 30 = .ok (.iload 6, 2) := by decide +kernel
theorem dX1_deliverFrom_32 : decode cX1_deliverFrom 32 = .ok (.aload_n 1, 1) := by decide +kernel
theorem dX1_deliverFrom_33 : decode cX1_deliverFrom 33 = .ok (.iconst 0, 1) := by decide +kernel
theorem dX1_deliverFrom_34 : decode cX1_deliverFrom 34 = .ok (.iconst 1, 1) := by decide +kernel
theorem dX1_deliverFrom_35 : decode cX1_deliverFrom 35 = .ok (.invokevirtual 135, 3) := by decide +kernel
theorem dX1_deliverFrom_38 : decode cX1_deliverFrom 38 = .ok (.invokestatic 149, 3) := by decide +kernel
theorem dX1_deliverFrom_41 : decode cX1_deliverFrom 41 = .ok (.istore 8, 2) := by decide +kernel
theorem dX1_deliverFrom_43 : decode cX1_deliverFrom 43 = .ok (.aload_n 0, 1) := by decide +kernel
theorem dX1_deliverFrom_44 : decode cX1_deliverFrom 44 = .ok (.iload 8, 2) := by decide +kernel
theorem dX1_deliverFrom_46 : decode cX1_deliverFrom 46 = .ok (.aload_n 0, 1) := by decide +kernel
end
section
theorem dX1_deliverFrom_47 : decode cX1_deliverFrom 47 = .ok (.aload_n 1, 1) := by decide +kernel
theorem dX1_deliverFrom_48 : decode cX1_deliverFrom 48 = .ok (.iconst 0, 1) := by decide +kernel
theorem dX1_deliverFrom_49 : decode cX1_deliverFrom 49 = .ok (.iconst 0, 1) := by decide +kernel
theorem dX1_deliverFrom_50 : decode cX1_deliverFrom 50 = .ok (.invokevirtual 135, 3) := by decide +kernel
theorem dX1_deliverFrom_53 : decode cX1_deliverFrom 53 = .ok (.aload_n 1, 1) := by decide +kernel
theorem dX1_deliverFrom_54 : decode cX1_deliverFrom 54 = .ok (.iconst 0, 1) := by decide +kernel
theorem dX1_deliverFrom_55 : decode cX1_deliverFrom 55 = .ok (.iconst 2, 1) := by decide +kernel
theorem dX1_deliverFrom_56 : decode cX1_deliverFrom 56 = .ok (.invokevirtual 135, 3) := by decide +kernel
theorem dX1_deliverFrom_59 : decode cX1_deliverFrom 59 = .ok (.iload_n 2, 1) := by decide +kernel
theorem dX1_deliverFrom_60 : decode cX1_deliverFrom 60 = .ok (.invokevirtual 157, 3) := by decide +kernel
theorem dX1_deliverFrom_63 : decode cX1_deliverFrom 63 = .ok (.imul, 1) := by decide +kernel
theorem dX1_deliverFrom_64 : decode cX1_deliverFrom 64 = .ok (.invokevirtual 161, 3) := by decide +kernel
theorem dX1_deliverFrom_67 : decode cX1_deliverFrom 67 = .ok (.aload_n 1, 1) := by decide +kernel
theorem dX1_deliverFrom_68 : decode cX1_deliverFrom 68 = .ok (.iload 8, 2) := by decide +kernel
theorem dX1_deliverFrom_70 : decode cX1_deliverFrom 70 = .ok (.invokevirtual 164, 3) := by decide +kernel
theorem dX1_deliverFrom_73 : decode cX1_deliverFrom 73 = .ok (.iload 6, 2) := by decide +kernel
theorem dX1_deliverFrom_75 : decode cX1_deliverFrom 75 = .ok (.iload 8, 2) := by decide +kernel
theorem dX1_deliverFrom_77 : decode cX1_deliverFrom 77 = .ok (.isub, 1) := by decide +kernel
theorem dX1_deliverFrom_78 : decode cX1_deliverFrom 78 = .ok (.istore 6, 2) := by decide +kernel
theorem dX1_deliverFrom_80 : decode cX1_deliverFrom 80 = .ok (.iinc 7 1, 3) := by decide +kernel
theorem dX1_deliverFrom_83 : decode cX1_deliverFrom 83 = .ok (.goto (-65), 3) := by decide +kernel
theorem dX1_deliverFrom_86 : decode cX1_deliverFrom 86 = .ok (.aload_n 0, 1) := by decide +kernel
theorem dX1_deliverFrom_87 : decode cX1_deliverFrom 87 = .ok (.getfield 43, 3) := by decide +kernel
theorem dX1_deliverFrom_90 : decode cX1_deliverFrom 90 = .ok (.iload_n 3, 1) := by decide +kernel
theorem dX1_deliverFrom_91 : decode cX1_deliverFrom 91 = .ok (.dup2, 1) := by decide +kernel
theorem dX1_deliverFrom_92 : decode cX1_deliverFrom 92 = .ok (.iaload, 1) := by decide +kernel
theorem dX1_deliverFrom_93 : decode cX1_deliverFrom 93 = .ok (.iload 5, 2) := by decide +kernel
theorem dX1_deliverFrom_95 : decode cX1_deliverFrom 95 = .ok (.iadd, 1) := by decide +kernel
theorem dX1_deliverFrom_96 : decode cX1_deliverFrom 96 = .ok (.iastore, 1) := by decide +kernel
theorem dX1_deliverFrom_97 : decode cX1_deliverFrom 97 = .ok (.aload_n 0, 1) := by decide +kernel
theorem dX1_deliverFrom_98 : decode cX1_deliverFrom 98 = .ok (.getfield 19, 3) := by decide +kernel
theorem dX1_deliverFrom_101 : decode cX1_deliverFrom 101 = .ok (.iload_n 2, 1) := by decide +kernel
theorem dX1_deliverFrom_102 : decode cX1_deliverFrom 102 = .ok (.iload_n 3, 1) := by decide +kernel
theorem dX1_deliverFrom_103 : decode cX1_deliverFrom 103 = .ok (.invokestatic 74, 3) := by decide +kernel
theorem dX1_deliverFrom_106 : decode cX1_deliverFrom 106 = .ok (.iaload, 1) := by decide +kernel
theorem dX1_deliverFrom_107 : decode cX1_deliverFrom 107 = .ok (.istore 7, 2) := by decide +kernel
theorem dX1_deliverFrom_109 : decode cX1_deliverFrom 109 = .ok (.iload 7, 2) := by decide +kernel
theorem dX1_deliverFrom_111 : decode cX1_deliverFrom 111 = .ok (.iconst (-1), 1) := by decide +kernel
theorem dX1_deliverFrom_112 : decode cX1_deliverFrom 112 = .ok (.if_icmp .eq 12, 3) := by decide +kernel
theorem dX1_deliverFrom_115 : decode cX1_deliverFrom 115 = .ok (.aload_n 0, 1) := by decide +kernel
theorem dX1_deliverFrom_116 : decode cX1_deliverFrom 116 = .ok (.iload_n 2, 1) := by decide +kernel
theorem dX1_deliverFrom_117 : decode cX1_deliverFrom 117 = .ok (.iload 7, 2) := by decide +kernel
theorem dX1_deliverFrom_119 : decode cX1_deliverFrom 119 = .ok (.iload 5, 2) := by decide +kernel
theorem dX1_deliverFrom_121 : decode cX1_deliverFrom 121 = .ok (.invokevirtual 145, 3) := by decide +kernel
theorem dX1_deliverFrom_124 : decode cX1_deliverFrom 124 = .ok (.iload 5, 2) := by decide +kernel
theorem dX1_deliverFrom_126 : decode cX1_deliverFrom 126 = .ok (.ireturn, 1) := by decide +kernel
theorem dX1_payOfOne_0 : decode cX1_payOfOne 0 = .ok (.aload_n 0, 1) := by decide +kernel
theorem dX1_payOfOne_1 : decode cX1_payOfOne 1 = .ok (.getfield 22, 3) := by decide +kernel
theorem dX1_payOfOne_4 : decode cX1_payOfOne 4 = .ok (.iload_n 1, 1) := by decide +kernel
theorem dX1_payOfOne_5 : decode cX1_payOfOne 5 = .ok (.iaload, 1) := by decide +kernel
theorem dX1_payOfOne_6 : decode cX1_payOfOne 6 = .ok (.aload_n 0, 1) := by decide +kernel
theorem dX1_payOfOne_7 : decode cX1_payOfOne 7 = .ok (.getfield 22, 3) := by decide +kernel
theorem dX1_payOfOne_10 : decode cX1_payOfOne 10 = .ok (.iload_n 3, 1) := by decide +kernel
theorem dX1_payOfOne_11 : decode cX1_payOfOne 11 = .ok (.iaload, 1) := by decide +kernel
theorem dX1_payOfOne_12 : decode cX1_payOfOne 12 = .ok (.isub, 1) := by decide +kernel
theorem dX1_payOfOne_13 : decode cX1_payOfOne 13 = .ok (.invokestatic 167, 3) := by decide +kernel
theorem dX1_payOfOne_16 : decode cX1_payOfOne 16 = .ok (.istore 4, 2) := by decide +kernel
theorem dX1_payOfOne_18 : decode cX1_payOfOne 18 = .ok (.aload_n 0, 1) := by decide +kernel
theorem dX1_payOfOne_19 : decode cX1_payOfOne 19 = .ok (.getfield 25, 3) := by decide +kernel
theorem dX1_payOfOne_22 : decode cX1_payOfOne 22 = .ok (.iload_n 1, 1) := by decide +kernel
theorem dX1_payOfOne_23 : decode cX1_payOfOne 23 = .ok (.iaload, 1) := by decide +kernel
theorem dX1_payOfOne_24 : decode cX1_payOfOne 24 = .ok (.aload_n 0, 1) := by decide +kernel
theorem dX1_payOfOne_25 : decode cX1_payOfOne 25 = .ok (.getfield 25, 3) := by decide +kernel
theorem dX1_payOfOne_28 : decode cX1_payOfOne 28 = .ok (.iload_n 3, 1) := by decide +kernel
theorem dX1_payOfOne_29 : decode cX1_payOfOne 29 = .ok (.iaload, 1) := by decide +kernel
theorem dX1_payOfOne_30 : decode cX1_payOfOne 30 = .ok (.isub, 1) := by decide +kernel
theorem dX1_payOfOne_31 : decode cX1_payOfOne 31 = .ok (.invokestatic 167, 3) := by decide +kernel
theorem dX1_payOfOne_34 : decode cX1_payOfOne 34 = .ok (.istore 5, 2) := by decide +kernel
theorem dX1_payOfOne_36 : decode cX1_payOfOne 36 = .ok (.iconst 1, 1) := by decide +kernel
theorem dX1_payOfOne_37 : decode cX1_payOfOne 37 = .ok (.bipush 64, 2) := by decide +kernel
theorem dX1_payOfOne_39 : decode cX1_payOfOne 39 = .ok (.aload_n 0, 1) := by decide +kernel
theorem dX1_payOfOne_40 : decode cX1_payOfOne 40 = .ok (.getfield 49, 3) := by decide +kernel
theorem dX1_payOfOne_43 : decode cX1_payOfOne 43 = .ok (.iload_n 2, 1) := by decide +kernel
theorem dX1_payOfOne_44 : decode cX1_payOfOne 44 = .ok (.isub, 1) := by decide +kernel
theorem dX1_payOfOne_45 : decode cX1_payOfOne 45 = .ok (.bipush 64, 2) := by decide +kernel
theorem dX1_payOfOne_47 : decode cX1_payOfOne 47 = .ok (.idiv, 1) := by decide +kernel
theorem dX1_payOfOne_48 : decode cX1_payOfOne 48 = .ok (.isub, 1) := by decide +kernel
theorem dX1_payOfOne_49 : decode cX1_payOfOne 49 = .ok (.invokestatic 170, 3) := by decide +kernel
theorem dX1_payOfOne_52 : decode cX1_payOfOne 52 = .ok (.istore 6, 2) := by decide +kernel
theorem dX1_payOfOne_54 : decode cX1_payOfOne 54 = .ok (.iload 4, 2) := by decide +kernel
theorem dX1_payOfOne_56 : decode cX1_payOfOne 56 = .ok (.iload 5, 2) := by decide +kernel
theorem dX1_payOfOne_58 : decode cX1_payOfOne 58 = .ok (.iadd, 1) := by decide +kernel
theorem dX1_payOfOne_59 : decode cX1_payOfOne 59 = .ok (.iload 6, 2) := by decide +kernel
theorem dX1_payOfOne_61 : decode cX1_payOfOne 61 = .ok (.imul, 1) := by decide +kernel
theorem dX1_payOfOne_62 : decode cX1_payOfOne 62 = .ok (.ireturn, 1) := by decide +kernel
theorem dX1_earn_0 : decode cX1_earn 0 = .ok (.ldc 100, 2) := by decide +kernel
theorem dX1_earn_2 : decode cX1_earn 2 = .ok (.aload_n 0, 1) := by decide +kernel
theorem dX1_earn_3 : decode cX1_earn 3 = .ok (.getfield 53, 3) := by decide +kernel
theorem dX1_earn_6 : decode cX1_earn 6 = .ok (.isub, 1) := by decide +kernel
theorem dX1_earn_7 : decode cX1_earn 7 = .ok (.ldc 100, 2) := by decide +kernel
theorem dX1_earn_9 : decode cX1_earn 9 = .ok (.aload_n 0, 1) := by decide +kernel
theorem dX1_earn_10 : decode cX1_earn 10 = .ok (.getfield 56, 3) := by decide +kernel
theorem dX1_earn_13 : decode cX1_earn 13 = .ok (.isub, 1) := by decide +kernel
theorem dX1_earn_14 : decode cX1_earn 14 = .ok (.invokestatic 149, 3) := by decide +kernel
theorem dX1_earn_17 : decode cX1_earn 17 = .ok (.istore_n 2, 1) := by decide +kernel
theorem dX1_earn_18 : decode cX1_earn 18 = .ok (.iload_n 1, 1) := by decide +kernel
theorem dX1_earn_19 : decode cX1_earn 19 = .ok (.iload_n 2, 1) := by decide +kernel
theorem dX1_earn_20 : decode cX1_earn 20 = .ok (.invokestatic 149, 3) := by decide +kernel
theorem dX1_earn_23 : decode cX1_earn 23 = .ok (.istore_n 3, 1) := by decide +kernel
theorem dX1_earn_24 : decode cX1_earn 24 = .ok (.aload_n 0, 1) := by decide +kernel
theorem dX1_earn_25 : decode cX1_earn 25 = .ok (.dup, 1) := by decide +kernel
theorem dX1_earn_26 : decode cX1_earn 26 = .ok (.getfield 53, 3) := by decide +kernel
theorem dX1_earn_29 : decode cX1_earn 29 = .ok (.iload_n 3, 1) := by decide +kernel
theorem dX1_earn_30 : decode cX1_earn 30 = .ok (.iadd, 1) := by decide +kernel
theorem dX1_earn_31 : decode cX1_earn 31 = .ok (.putfield 53, 3) := by decide +kernel
theorem dX1_earn_34 : decode cX1_earn 34 = .ok (.aload_n 0, 1) := by decide +kernel
theorem dX1_earn_35 : decode cX1_earn 35 = .ok (.dup, 1) := by decide +kernel
theorem dX1_earn_36 : decode cX1_earn 36 = .ok (.getfield 56, 3) := by decide +kernel
theorem dX1_earn_39 : decode cX1_earn 39 = .ok (.iload_n 3, 1) := by decide +kernel
theorem dX1_earn_40 : decode cX1_earn 40 = .ok (.iadd, 1) := by decide +kernel
theorem dX1_earn_41 : decode cX1_earn 41 = .ok (.putfield 56, 3) := by decide +kernel
theorem dX1_earn_44 : decode cX1_earn 44 = .ok (.return_, 1) := by decide +kernel
theorem dX1_unitsInStocks_0 : decode cX1_unitsInStocks 0 = .ok (.iconst 0, 1) := by decide +kernel
theorem dX1_unitsInStocks_1 : decode cX1_unitsInStocks 1 = .ok (.istore_n 2, 1) := by decide +kernel
theorem dX1_unitsInStocks_2 : decode cX1_unitsInStocks 2 = .ok (.iconst 0, 1) := by decide +kernel
theorem dX1_unitsInStocks_3 : decode cX1_unitsInStocks 3 = .ok (.istore_n 3, 1) := by decide +kernel
theorem dX1_unitsInStocks_4 : decode cX1_unitsInStocks 4 = .ok (.iload_n 3, 1) := by decide +kernel
theorem dX1_unitsInStocks_5 : decode cX1_unitsInStocks 5 = .ok (.bipush 8, 2) := by decide +kernel
theorem dX1_unitsInStocks_7 : decode cX1_unitsInStocks 7 = .ok (.if_icmp .ge 25, 3) := by decide +kernel
theorem dX1_unitsInStocks_10 : decode cX1_unitsInStocks 10 = .ok (.iload_n 2, 1) := by decide +kernel
theorem dX1_unitsInStocks_11 : decode cX1_unitsInStocks 11 = .ok (.aload_n 0, 1) := by decide +kernel
theorem dX1_unitsInStocks_12 : decode cX1_unitsInStocks 12 = .ok (.getfield 11, 3) := by decide +kernel
theorem dX1_unitsInStocks_15 : decode cX1_unitsInStocks 15 = .ok (.iload_n 3, 1) := by decide +kernel
theorem dX1_unitsInStocks_16 : decode cX1_unitsInStocks 16 = .ok (.iload_n 1, 1) := by decide +kernel
theorem dX1_unitsInStocks_17 : decode cX1_unitsInStocks 17 = .ok (.invokestatic 74, 3) := by decide +kernel
theorem dX1_unitsInStocks_20 : decode cX1_unitsInStocks 20 = .ok (.aaload, 1) := by decide +kernel
theorem dX1_unitsInStocks_21 : decode cX1_unitsInStocks 21 = .ok (.invokevirtual 92, 3) := by decide +kernel
theorem dX1_unitsInStocks_24 : decode cX1_unitsInStocks 24 = .ok (.iadd, 1) := by decide +kernel
theorem dX1_unitsInStocks_25 : decode cX1_unitsInStocks 25 = .ok (.istore_n 2, 1) := by decide +kernel
theorem dX1_unitsInStocks_26 : decode cX1_unitsInStocks 26 = .ok (.iinc 3 1, 3) := by decide +kernel
theorem dX1_unitsInStocks_29 : decode cX1_unitsInStocks 29 = .ok (.goto (-25), 3) := by decide +kernel
theorem dX1_unitsInStocks_32 : decode cX1_unitsInStocks 32 = .ok (.iload_n 2, 1) := by decide +kernel
theorem dX1_unitsInStocks_33 : decode cX1_unitsInStocks 33 = .ok (.ireturn, 1) := by decide +kernel
theorem dX1_unitsInWagons_0 : decode cX1_unitsInWagons 0 = .ok (.iconst 0, 1) := by decide +kernel
theorem dX1_unitsInWagons_1 : decode cX1_unitsInWagons 1 = .ok (.istore_n 2, 1) := by decide +kernel
theorem dX1_unitsInWagons_2 : decode cX1_unitsInWagons 2 = .ok (.iconst 0, 1) := by decide +kernel
theorem dX1_unitsInWagons_3 : decode cX1_unitsInWagons 3 = .ok (.istore_n 3, 1) := by decide +kernel
theorem dX1_unitsInWagons_4 : decode cX1_unitsInWagons 4 = .ok (.iload_n 3, 1) := by decide +kernel
theorem dX1_unitsInWagons_5 : decode cX1_unitsInWagons 5 = .ok (.bipush 16, 2) := by decide +kernel
theorem dX1_unitsInWagons_7 : decode cX1_unitsInWagons 7 = .ok (.if_icmp .ge 31, 3) := by decide +kernel
theorem dX1_unitsInWagons_10 : decode cX1_unitsInWagons 10 = .ok (.aload_n 0, 1) := by decide +kernel
theorem dX1_unitsInWagons_11 : decode cX1_unitsInWagons 11 = .ok (.getfield 34, 3) := by decide +kernel
theorem dX1_unitsInWagons_14 : decode cX1_unitsInWagons 14 = .ok (.iload_n 3, 1) := by decide +kernel
theorem dX1_unitsInWagons_15 : decode cX1_unitsInWagons 15 = .ok (.iaload, 1) := by decide +kernel
theorem dX1_unitsInWagons_16 : decode cX1_unitsInWagons 16 = .ok (.iload_n 1, 1) := by decide +kernel
theorem dX1_unitsInWagons_17 : decode cX1_unitsInWagons 17 = .ok (.if_icmp .ne 15, 3) := by decide +kernel
theorem dX1_unitsInWagons_20 : decode cX1_unitsInWagons 20 = .ok (.iload_n 2, 1) := by decide +kernel
theorem dX1_unitsInWagons_21 : decode cX1_unitsInWagons 21 = .ok (.aload_n 0, 1) := by decide +kernel
theorem dX1_unitsInWagons_22 : decode cX1_unitsInWagons 22 = .ok (.getfield 31, 3) := by decide +kernel
theorem dX1_unitsInWagons_25 : decode cX1_unitsInWagons 25 = .ok (.iload_n 3, 1) := by decide +kernel
theorem dX1_unitsInWagons_26 : decode cX1_unitsInWagons 26 = .ok (.aaload, 1) := by decide +kernel
theorem dX1_unitsInWagons_27 : decode cX1_unitsInWagons 27 = .ok (.invokevirtual 92, 3) := by decide +kernel
theorem dX1_unitsInWagons_30 : decode cX1_unitsInWagons 30 = .ok (.iadd, 1) := by decide +kernel
theorem dX1_unitsInWagons_31 : decode cX1_unitsInWagons 31 = .ok (.istore_n 2, 1) := by decide +kernel
theorem dX1_unitsInWagons_32 : decode cX1_unitsInWagons 32 = .ok (.iinc 3 1, 3) := by decide +kernel
theorem dX1_unitsInWagons_35 : decode cX1_unitsInWagons 35 = .ok (.goto (-31), 3) := by decide +kernel
theorem dX1_unitsInWagons_38 : decode cX1_unitsInWagons 38 = .ok (.iload_n 2, 1) := by decide +kernel
theorem dX1_unitsInWagons_39 : decode cX1_unitsInWagons 39 = .ok (.ireturn, 1) := by decide +kernel
theorem dX1_rowAt_0 : decode cX1_rowAt 0 = .ok (.iload_n 1, 1) := by decide +kernel
theorem dX1_rowAt_1 : decode cX1_rowAt 1 = .ok (.invokestatic 173, 3) := by decide +kernel
theorem dX1_rowAt_4 : decode cX1_rowAt 4 = .ok (.ifCond .eq 25, 3) := by decide +kernel
theorem dX1_rowAt_7 : decode cX1_rowAt 7 = .ok (.iload_n 2, 1) := by decide +kernel
theorem dX1_rowAt_8 : decode cX1_rowAt 8 = .ok (.invokestatic 78, 3) := by decide +kernel
theorem dX1_rowAt_11 : decode cX1_rowAt 11 = .ok (.ifCond .eq 16, 3) := by decide +kernel
theorem dX1_rowAt_14 : decode cX1_rowAt 14 = .ok (.aload_n 0, 1) := by decide +kernel
theorem dX1_rowAt_15 : decode cX1_rowAt 15 = .ok (.getfield 11, 3) := by decide +kernel
theorem dX1_rowAt_18 : decode cX1_rowAt 18 = .ok (.iload_n 1, 1) := by decide +kernel
theorem dX1_rowAt_19 : decode cX1_rowAt 19 = .ok (.iload_n 2, 1) := by decide +kernel
theorem dX1_rowAt_20 : decode cX1_rowAt 20 = .ok (.invokestatic 74, 3) := by decide +kernel
theorem dX1_rowAt_23 : decode cX1_rowAt 23 = .ok (.aaload, 1) := by decide +kernel
theorem dX1_rowAt_24 : decode cX1_rowAt 24 = .ok (.goto 4, 3) := by decide +kernel
theorem dX1_rowAt_27 : decode cX1_rowAt 27 = .ok (.aconst_null, 1) := by decide +kernel
theorem dX1_rowAt_28 : decode cX1_rowAt 28 = .ok (.areturn, 1) := by decide +kernel
theorem dX1_rowAt_29 : decode cX1_rowAt 29 = .ok (.iload_n 1, 1) := by decide +kernel
theorem dX1_rowAt_30 : decode cX1_rowAt 30 = .ok (.bipush 8, 2) := by decide +kernel
theorem dX1_rowAt_32 : decode cX1_rowAt 32 = .ok (.if_icmp .lt 9, 3) := by decide +kernel
theorem dX1_rowAt_35 : decode cX1_rowAt 35 = .ok (.iload_n 1, 1) := by decide +kernel
theorem dX1_rowAt_36 : decode cX1_rowAt 36 = .ok (.bipush 24, 2) := by decide +kernel
theorem dX1_rowAt_38 : decode cX1_rowAt 38 = .ok (.if_icmp .lt 5, 3) := by decide +kernel
theorem dX1_rowAt_41 : decode cX1_rowAt 41 = .ok (.aconst_null, 1) := by decide +kernel
theorem dX1_rowAt_42 : decode cX1_rowAt 42 = .ok (.areturn, 1) := by decide +kernel
theorem dX1_rowAt_43 : decode cX1_rowAt 43 = .ok (.aload_n 0, 1) := by decide +kernel
theorem dX1_rowAt_44 : decode cX1_rowAt 44 = .ok (.getfield 31, 3) := by decide +kernel
theorem dX1_rowAt_47 : decode cX1_rowAt 47 = .ok (.iload_n 1, 1) := by decide +kernel
theorem dX1_rowAt_48 : decode cX1_rowAt 48 = .ok (.bipush 8, 2) := by decide +kernel
theorem dX1_rowAt_50 : decode cX1_rowAt 50 = .ok (.isub, 1) := by decide +kernel
theorem dX1_rowAt_51 : decode cX1_rowAt 51 = .ok (.aaload, 1) := by decide +kernel
theorem dX1_rowAt_52 : decode cX1_rowAt 52 = .ok (.areturn, 1) := by decide +kernel
theorem dX1_checkFellows_0 : decode cX1_checkFellows 0 = .ok (.iload_n 1, 1) := by decide +kernel
theorem dX1_checkFellows_1 : decode cX1_checkFellows 1 = .ok (.iload_n 2, 1) := by decide +kernel
theorem dX1_checkFellows_2 : decode cX1_checkFellows 2 = .ok (.if_icmp .ne 13, 3) := by decide +kernel
theorem dX1_checkFellows_5 : decode cX1_checkFellows 5 = .ok (.new 82, 3) := by decide +kernel
theorem dX1_checkFellows_8 : decode cX1_checkFellows 8 = .ok (.dup, 1) := by decide +kernel
theorem dX1_checkFellows_9 : decode cX1_checkFellows 9 = .ok (.ldc 176, 2) := by decide +kernel
theorem dX1_checkFellows_11 : decode cX1_checkFellows 11 = .ok (.invokespecial 86, 3) := by decide +kernel
theorem dX1_checkFellows_14 : decode cX1_checkFellows 14 = .ok (.athrow, 1) := by decide +kernel
theorem dX1_checkFellows_15 : decode cX1_checkFellows 15 = .ok (.aload_n 0, 1) := by decide +kernel
theorem dX1_checkFellows_16 : decode cX1_checkFellows 16 = .ok (.getfield 34, 3) := by decide +kernel
theorem dX1_checkFellows_19 : decode cX1_checkFellows 19 = .ok (.iload_n 1, 1) := by decide +kernel
theorem dX1_checkFellows_20 : decode cX1_checkFellows 20 = .ok (.iaload, 1) := by decide +kernel
theorem dX1_checkFellows_21 : decode cX1_checkFellows 21 = .ok (.aload_n 0, 1) := by decide +kernel
theorem dX1_checkFellows_22 : decode cX1_checkFellows 22 = .ok (.getfield 34, 3) := by decide +kernel
theorem dX1_checkFellows_25 : decode cX1_checkFellows 25 = .ok (.iload_n 2, 1) := by decide +kernel
theorem dX1_checkFellows_26 : decode cX1_checkFellows 26 = .ok (.iaload, 1) := by decide +kernel
theorem dX1_checkFellows_27 : decode cX1_checkFellows 27 = .ok (.if_icmp .eq 13, 3) := by decide +kernel
theorem dX1_checkFellows_30 : decode cX1_checkFellows 30 = .ok (.new 82, 3) := by decide +kernel
theorem dX1_checkFellows_33 : decode cX1_checkFellows 33 = .ok (.dup, 1) := by decide +kernel
theorem dX1_checkFellows_34 : decode cX1_checkFellows 34 = .ok (.ldc 178, 2) := by decide +kernel
theorem dX1_checkFellows_36 : decode cX1_checkFellows 36 = .ok (.invokespecial 86, 3) := by decide +kernel
theorem dX1_checkFellows_39 : decode cX1_checkFellows 39 = .ok (.athrow, 1) := by decide +kernel
theorem dX1_checkFellows_40 : decode cX1_checkFellows 40 = .ok (.return_, 1) := by decide +kernel
theorem dX1_stockIndex_0 : decode cX1_stockIndex 0 = .ok (.iload_n 0, 1) := by decide +kernel
theorem dX1_stockIndex_1 : decode cX1_stockIndex 1 = .ok (.iconst 4, 1) := by decide +kernel
theorem dX1_stockIndex_2 : decode cX1_stockIndex 2 = .ok (.imul, 1) := by decide +kernel
theorem dX1_stockIndex_3 : decode cX1_stockIndex 3 = .ok (.iload_n 1, 1) := by decide +kernel
theorem dX1_stockIndex_4 : decode cX1_stockIndex 4 = .ok (.iadd, 1) := by decide +kernel
theorem dX1_stockIndex_5 : decode cX1_stockIndex 5 = .ok (.ireturn, 1) := by decide +kernel
theorem dX1_isStation_0 : decode cX1_isStation 0 = .ok (.iload_n 0, 1) := by decide +kernel
theorem dX1_isStation_1 : decode cX1_isStation 1 = .ok (.ifCond .lt 13, 3) := by decide +kernel
theorem dX1_isStation_4 : decode cX1_isStation 4 = .ok (.iload_n 0, 1) := by decide +kernel
theorem dX1_isStation_5 : decode cX1_isStation 5 = .ok (.bipush 8, 2) := by decide +kernel
theorem dX1_isStation_7 : decode cX1_isStation 7 = .ok (.if_icmp .ge 7, 3) := by decide +kernel
theorem dX1_isStation_10 : decode cX1_isStation 10 = .ok (.iconst 1, 1) := by decide +kernel
theorem dX1_isStation_11 : decode cX1_isStation 11 = .ok (.goto 4, 3) := by decide +kernel
theorem dX1_isStation_14 : decode cX1_isStation 14 = .ok (.iconst 0, 1) := by decide +kernel
theorem dX1_isStation_15 : decode cX1_isStation 15 = .ok (.ireturn, 1) := by decide +kernel
theorem dX1_isKind_0 : decode cX1_isKind 0 = .ok (.iload_n 0, 1) := by decide +kernel
theorem dX1_isKind_1 : decode cX1_isKind 1 = .ok (.ifCond .lt 12, 3) := by decide +kernel
theorem dX1_isKind_4 : decode cX1_isKind 4 = .ok (.iload_n 0, 1) := by decide +kernel
theorem dX1_isKind_5 : decode cX1_isKind 5 = .ok (.iconst 4, 1) := by decide +kernel
theorem dX1_isKind_6 : decode cX1_isKind 6 = .ok (.if_icmp .ge 7, 3) := by decide +kernel
theorem dX1_isKind_9 : decode cX1_isKind 9 = .ok (.iconst 1, 1) := by decide +kernel
theorem dX1_isKind_10 : decode cX1_isKind 10 = .ok (.goto 4, 3) := by decide +kernel
theorem dX1_isKind_13 : decode cX1_isKind 13 = .ok (.iconst 0, 1) := by decide +kernel
theorem dX1_isKind_14 : decode cX1_isKind 14 = .ok (.ireturn, 1) := by decide +kernel
theorem dX1_checkStation_0 : decode cX1_checkStation 0 = .ok (.iload_n 0, 1) := by decide +kernel
theorem dX1_checkStation_1 : decode cX1_checkStation 1 = .ok (.invokestatic 173, 3) := by decide +kernel
theorem dX1_checkStation_4 : decode cX1_checkStation 4 = .ok (.ifCond .ne 13, 3) := by decide +kernel
theorem dX1_checkStation_7 : decode cX1_checkStation 7 = .ok (.new 180, 3) := by decide +kernel
theorem dX1_checkStation_10 : decode cX1_checkStation 10 = .ok (.dup, 1) := by decide +kernel
theorem dX1_checkStation_11 : decode cX1_checkStation 11 = .ok (.ldc 182, 2) := by decide +kernel
theorem dX1_checkStation_13 : decode cX1_checkStation 13 = .ok (.invokespecial 184, 3) := by decide +kernel
theorem dX1_checkStation_16 : decode cX1_checkStation 16 = .ok (.athrow, 1) := by decide +kernel
theorem dX1_checkStation_17 : decode cX1_checkStation 17 = .ok (.return_, 1) := by decide +kernel
theorem dX1_checkKind_0 : decode cX1_checkKind 0 = .ok (.iload_n 0, 1) := by decide +kernel
theorem dX1_checkKind_1 : decode cX1_checkKind 1 = .ok (.invokestatic 78, 3) := by decide +kernel
theorem dX1_checkKind_4 : decode cX1_checkKind 4 = .ok (.ifCond .ne 13, 3) := by decide +kernel
theorem dX1_checkKind_7 : decode cX1_checkKind 7 = .ok (.new 180, 3) := by decide +kernel
theorem dX1_checkKind_10 : decode cX1_checkKind 10 = .ok (.dup, 1) := by decide +kernel
theorem dX1_checkKind_11 : decode cX1_checkKind 11 = .ok (.ldc 185, 2) := by decide +kernel
theorem dX1_checkKind_13 : decode cX1_checkKind 13 = .ok (.invokespecial 184, 3) := by decide +kernel
theorem dX1_checkKind_16 : decode cX1_checkKind 16 = .ok (.athrow, 1) := by decide +kernel
theorem dX1_checkKind_17 : decode cX1_checkKind 17 = .ok (.return_, 1) := by decide +kernel
theorem dX1_checkWagon_0 : decode cX1_checkWagon 0 = .ok (.iload_n 0, 1) := by decide +kernel
theorem dX1_checkWagon_1 : decode cX1_checkWagon 1 = .ok (.ifCond .lt 9, 3) := by decide +kernel
theorem dX1_checkWagon_4 : decode cX1_checkWagon 4 = .ok (.iload_n 0, 1) := by decide +kernel
theorem dX1_checkWagon_5 : decode cX1_checkWagon 5 = .ok (.bipush 16, 2) := by decide +kernel
theorem dX1_checkWagon_7 : decode cX1_checkWagon 7 = .ok (.if_icmp .lt 13, 3) := by decide +kernel
theorem dX1_checkWagon_10 : decode cX1_checkWagon 10 = .ok (.new 180, 3) := by decide +kernel
theorem dX1_checkWagon_13 : decode cX1_checkWagon 13 = .ok (.dup, 1) := by decide +kernel
theorem dX1_checkWagon_14 : decode cX1_checkWagon 14 = .ok (.ldc 187, 2) := by decide +kernel
theorem dX1_checkWagon_16 : decode cX1_checkWagon 16 = .ok (.invokespecial 184, 3) := by decide +kernel
theorem dX1_checkWagon_19 : decode cX1_checkWagon 19 = .ok (.athrow, 1) := by decide +kernel
theorem dX1_checkWagon_20 : decode cX1_checkWagon 20 = .ok (.return_, 1) := by decide +kernel
theorem dX1_checkRange_0 : decode cX1_checkRange 0 = .ok (.iload_n 0, 1) := by decide +kernel
theorem dX1_checkRange_1 : decode cX1_checkRange 1 = .ok (.ifCond .lt 8, 3) := by decide +kernel
theorem dX1_checkRange_4 : decode cX1_checkRange 4 = .ok (.iload_n 0, 1) := by decide +kernel
theorem dX1_checkRange_5 : decode cX1_checkRange 5 = .ok (.iload_n 1, 1) := by decide +kernel
theorem dX1_checkRange_6 : decode cX1_checkRange 6 = .ok (.if_icmp .le 13, 3) := by decide +kernel
theorem dX1_checkRange_9 : decode cX1_checkRange 9 = .ok (.new 82, 3) := by decide +kernel
theorem dX1_checkRange_12 : decode cX1_checkRange 12 = .ok (.dup, 1) := by decide +kernel
theorem dX1_checkRange_13 : decode cX1_checkRange 13 = .ok (.ldc 189, 2) := by decide +kernel
theorem dX1_checkRange_15 : decode cX1_checkRange 15 = .ok (.invokespecial 86, 3) := by decide +kernel
theorem dX1_checkRange_18 : decode cX1_checkRange 18 = .ok (.athrow, 1) := by decide +kernel
theorem dX1_checkRange_19 : decode cX1_checkRange 19 = .ok (.return_, 1) := by decide +kernel
theorem dX1_checkNotBelowZero_0 : decode cX1_checkNotBelowZero 0 = .ok (.iload_n 0, 1) := by decide +kernel
theorem dX1_checkNotBelowZero_1 : decode cX1_checkNotBelowZero 1 = .ok (.ifCond .ge 13, 3) := by decide +kernel
theorem dX1_checkNotBelowZero_4 : decode cX1_checkNotBelowZero 4 = .ok (.new 82, 3) := by decide +kernel
theorem dX1_checkNotBelowZero_7 : decode cX1_checkNotBelowZero 7 = .ok (.dup, 1) := by decide +kernel
theorem dX1_checkNotBelowZero_8 : decode cX1_checkNotBelowZero 8 = .ok (.ldc 191, 2) := by decide +kernel
theorem dX1_checkNotBelowZero_10 : decode cX1_checkNotBelowZero 10 = .ok (.invokespecial 86, 3) := by decide +kernel
theorem dX1_checkNotBelowZero_13 : decode cX1_checkNotBelowZero 13 = .ok (.athrow, 1) := by decide +kernel
theorem dX1_checkNotBelowZero_14 : decode cX1_checkNotBelowZero 14 = .ok (.return_, 1) := by decide +kernel
end
section
/-! own rows: guards and binds of the compiled functions; calls with a segment of the world -/
def gd {α : Type} (c : Bool) (x : Option α) : Option α := if c = true then x else none
theorem gd_some {α : Type} {c : Bool} {x : Option α} {r : α} (h : gd c x = some r) : c = true ∧ x = some r := by
  unfold gd at h
  by_cases hc : c = true
  · rw [if_pos hc] at h; exact ⟨hc, h⟩
  · rw [if_neg hc] at h; exact absurd h (by simp)
theorem gd_t {α : Type} {c : Bool} {x : Option α} (h : c = true) : gd c x = x := if_pos h
def inb (i : Int32) (n : Nat) : Bool := decide (¬ (i < 0 ∨ n ≤ i.toNatClampNeg))
theorem inb_in {i : Int32} {n : Nat} (h : inb i n = true) : vp_in i n := show ¬ (i < 0 ∨ n ≤ i.toNatClampNeg) from of_decide_eq_true h
theorem inb_of {i : Int32} {n : Nat} (h : vp_in i n) : inb i n = true := decide_eq_true (show ¬ (i < 0 ∨ n ≤ i.toNatClampNeg) from h)
theorem inb_lt {i : Int32} {n : Nat} (h : inb i n = true) : i.toNatClampNeg < n := by
  have h1 : ¬ (i < 0 ∨ n ≤ i.toNatClampNeg) := of_decide_eq_true h
  exact Nat.lt_of_not_le (fun h2 => h1 (Or.inr h2))
def bi {α β γ : Type} (o : Option (α × β)) (k : α → β → Option γ) : Option γ := match o with
  | none => none
  | some z => k z.1 z.2
theorem bi_some {α β γ : Type} {o : Option (α × β)} {k : α → β → Option γ} {r : γ} (h : bi o k = some r) : ∃ x y, o = some (x, y) ∧ k x y = some r := by
  cases o with
  | none => exact absurd (show (none : Option γ) = some r from h) (by simp)
  | some z => exact ⟨z.1, z.2, rfl, h⟩
def ox {α ρ : Type} (o : Nat ⊕ ρ) (kx : Nat → α) (k : ρ → α) : α := match o with
  | .inl e => kx e
  | .inr r => k r
theorem ox_l {α ρ : Type} {e : Nat} {kx : Nat → α} {k : ρ → α} {z : α} (h : ox (.inl e) kx k = z) : kx e = z := h
theorem ox_r {α ρ : Type} {r : ρ} {kx : Nat → α} {k : ρ → α} {z : α} (h : ox (.inr r) kx k = z) : k r = z := h
def oq {α : Type} (o : Option Nat) (kn : α) (k : Nat → α) : α := match o with
  | none => kn
  | some j => k j
theorem oq_n {α : Type} {kn : α} {k : Nat → α} {z : α} (h : oq none kn k = z) : kn = z := h
theorem oq_s {α : Type} {j : Nat} {kn : α} {k : Nat → α} {z : α} (h : oq (some j) kn k = z) : k j = z := h
def exN (e : Nat) : String := if e = 1 then "java/lang/IndexOutOfBoundsException" else "java/lang/IllegalArgumentException"
def nm {α β : Type} (x : α) (k : α → Option β) : Option β := k x
theorem nm_some {α β : Type} {x : α} {k : α → Option β} {r : β} (h : nm x k = some r) : ∃ v, v = x ∧ k v = some r := ⟨x, rfl, h⟩
theorem i32nz {x y : Int32} {z : Int} (h : ¬ x = y) (hz : y.toInt = z) : x.toInt ≠ z := fun q => h (Int32.toInt_inj.mp (q.trans hz.symm))
theorem i32ne {x y : Int32} (h : ¬ x = y) : x.toInt ≠ y.toInt := fun q => h (Int32.toInt_inj.mp q)
/-- the small world w0 lies in W0 at the places g -/
def Sb (W0 w0 : va_W) (g : Nat → Nat) : Prop := (∀ (k : Nat) (e : Nat × va_E), w0[k]? = some e → W0[g k]? = some e) ∧ (∀ i j : Nat, i < w0.length → j < w0.length → g i = g j → i = j)
/-- W1 is W0 with w1 in w0's places -/
def Jn (W0 w0 w1 W1 : va_W) (g : Nat → Nat) : Prop := (∀ (i : Nat) (e : Nat × va_E), W1[i]? = some e → (∃ k : Nat, w1[k]? = some e) ∨ (W0[i]? = some e ∧ ∀ k : Nat, k < w0.length → g k ≠ i)) ∧ (∀ (i : Nat) (e : Nat × va_E), W1[i]? = some e → ∃ e0 : Nat × va_E, W0[i]? = some e0 ∧ e0.1 = e.1)
section BB1
variable {D : va_G} {cl : List vw_C} {A : Nat → Prop} {W0 w0 w1 W1 : va_W} {g : Nat → Nat} {H0 H H1 : Heap} {locs : List Loc}
theorem sb_P (h : Sb W0 w0 g) (hP : va_P D cl W0 H) : va_P D cl w0 H := hP.by g h.1
theorem sb_D (h : Sb W0 w0 g) (hD : va_D A W0) : va_D A w0 := hD.by g h.1 h.2
theorem sb_F (h : Sb W0 w0 g) (hD : va_D A W0) (hS : va_S A H0 H locs) (hA : ∀ q, H0.size ≤ q → A q) : ∀ q, va_A w0 H.size q → A q := by
  intro q hq
  rcases hq with ⟨k, e, hk⟩ | hq
  · exact hD.2 _ _ (h.1 _ _ hk)
  · exact hA q (Nat.le_trans hS.1 hq)
theorem jn_P (h : Sb W0 w0 g) (j : Jn W0 w0 w1 W1 g) (hP : va_P D cl W0 H) (hD : va_D A W0) (hk : ∀ q : Nat, q < H.size → ¬ va_A w0 H.size q → H1[q]? = H[q]?) (hP1 : va_P D cl w1 H1) : va_P D cl W1 H1 := by
  intro i e hi
  rcases j.1 i e hi with ⟨k, hk1⟩ | ⟨h0, hne⟩
  · exact hP1 k e hk1
  · have h1 := hP i e h0
    refine h1.kept (hk e.1 h1.lt ?_)
    rintro (⟨k, e', hk'⟩ | hsz)
    · exact hne k (List.getElem?_eq_some_iff.mp hk').1 (hD.1 _ _ _ _ (h.1 k _ hk') h0 rfl)
    · exact absurd h1.lt (Nat.not_lt.mpr hsz)
theorem jn_D (j : Jn W0 w0 w1 W1 g) (hD : va_D A W0) : va_D A W1 := by
  refine ⟨fun i i' p q hi hi' e => ?_, fun k q hk => ?_⟩
  · obtain ⟨e0, h0, a0⟩ := j.2 i p hi
    obtain ⟨e1, h1, a1⟩ := j.2 i' q hi'
    exact hD.1 _ _ _ _ h0 h1 (by rw [a0, a1]; exact e)
  · obtain ⟨e0, h0, a0⟩ := j.2 k q hk
    rw [← a0]; exact hD.2 _ _ h0
/-- the whole world -/
theorem sb_id (W0 : va_W) : Sb W0 W0 (fun k => k) := ⟨fun _ _ h => h, fun _ _ _ _ h => h⟩
theorem jn_id {W0 w1 : va_W} (ha : w1.map (·.1) = W0.map (·.1)) : Jn W0 W0 w1 w1 (fun k => k) := by
  refine ⟨fun i e h => Or.inl ⟨i, h⟩, fun i e h => ?_⟩
  have h1 : (w1.map (·.1))[i]? = some e.1 := by rw [List.getElem?_map, h, Option.map_some]
  rw [ha, List.getElem?_map] at h1
  cases h2 : W0[i]? with
  | none => rw [h2] at h1; exact absurd h1 (by simp)
  | some e0 => rw [h2] at h1; exact ⟨e0, rfl, Option.some.inj h1⟩
/-- the small world as it was -/
theorem jn_same (h : Sb W0 w0 g) : Jn W0 w0 w0 W0 g := by
  refine ⟨fun i e hi => ?_, fun i e hi => ⟨e, hi, rfl⟩⟩
  by_cases hk : ∃ k, k < w0.length ∧ g k = i
  · obtain ⟨k, hk, rfl⟩ := hk
    refine Or.inl ⟨k, ?_⟩
    have h1 := h.1 k w0[k] (List.getElem?_eq_getElem hk)
    rw [List.getElem?_eq_getElem hk, ← h1, hi]
  · exact Or.inr ⟨hi, fun k hl hg => hk ⟨k, hl, hg⟩⟩
/-- no world -/
theorem sb_nil (W0 : va_W) : Sb W0 [] (fun k => k) := ⟨fun k e h => by simp at h, fun i j h => by simp at h⟩
theorem jn_nil (W0 : va_W) : Jn W0 [] [] W0 (fun k => k) := ⟨fun i e h => Or.inr ⟨h, fun k hk => by simp at hk⟩, fun i e h => ⟨e, h, rfl⟩⟩
/-- a segment at its place -/
theorem sb_seg (a w b : va_W) : Sb (a ++ (w ++ b)) w (fun k => a.length + k) := by
  refine ⟨fun k e h => ?_, fun i j _ _ h => Nat.add_left_cancel h⟩
  have hk := (List.getElem?_eq_some_iff.mp h).1
  show (a ++ (w ++ b))[a.length + k]? = some e
  rw [List.getElem?_append_right (by omega), Nat.add_sub_cancel_left, List.getElem?_append_left hk]
  exact h
theorem jn_seg (a w w' b : va_W) (ha : w'.map (·.1) = w.map (·.1)) : Jn (a ++ (w ++ b)) w w' (a ++ (w' ++ b)) (fun k => a.length + k) := by
  have hl : w'.length = w.length := by have := congrArg List.length ha; simpa using this
  refine ⟨fun i e h => ?_, fun i e h => ?_⟩
  · by_cases h1 : i < a.length
    · rw [List.getElem?_append_left h1] at h
      exact Or.inr ⟨by rw [List.getElem?_append_left h1]; exact h, fun k _ => by show a.length + k ≠ i; omega⟩
    · rw [List.getElem?_append_right (by omega)] at h
      by_cases h2 : i - a.length < w'.length
      · rw [List.getElem?_append_left h2] at h
        exact Or.inl ⟨_, h⟩
      · rw [List.getElem?_append_right (by omega), hl] at h
        refine Or.inr ⟨?_, fun k hk => by show a.length + k ≠ i; omega⟩
        rw [List.getElem?_append_right (by omega), List.getElem?_append_right (by omega)]
        exact h
  · by_cases h1 : i < a.length
    · rw [List.getElem?_append_left h1] at h
      exact ⟨e, by rw [List.getElem?_append_left h1]; exact h, rfl⟩
    · rw [List.getElem?_append_right (by omega)] at h
      by_cases h2 : i - a.length < w'.length
      · rw [List.getElem?_append_left h2] at h
        have h3 : (w'.map (·.1))[i - a.length]? = some e.1 := by rw [List.getElem?_map, h, Option.map_some]
        rw [ha, List.getElem?_map] at h3
        cases h4 : w[i - a.length]? with
        | none => rw [h4] at h3; exact absurd h3 (by simp)
        | some e0 =>
          rw [h4] at h3
          exact ⟨e0, by rw [List.getElem?_append_right (by omega), List.getElem?_append_left (by omega)]; exact h4, Option.some.inj h3⟩
      · rw [List.getElem?_append_right (by omega), hl] at h
        refine ⟨e, ?_, rfl⟩
        rw [List.getElem?_append_right (by omega), List.getElem?_append_right (by omega)]
        exact h
/-- a segment at the end -/
theorem sb_tail (a w : va_W) : Sb (a ++ w) w (fun k => a.length + k) := by
  have h := sb_seg a w []
  rw [List.append_nil] at h; exact h
theorem jn_tail (a w w' : va_W) (ha : w'.map (·.1) = w.map (·.1)) : Jn (a ++ w) w w' (a ++ w') (fun k => a.length + k) := by
  have h := jn_seg a w w' [] ha
  rw [List.append_nil, List.append_nil] at h; exact h
/-- .. at the beginning -/
theorem sb_head (w b : va_W) : Sb (w ++ b) w (fun k => 0 + k) := sb_seg [] w b
theorem jn_head (w w' b : va_W) (ha : w'.map (·.1) = w.map (·.1)) : Jn (w ++ b) w w' (w' ++ b) (fun k => 0 + k) := jn_seg [] w w' b ha
end BB1
/-- what a contract asks of the heap, and what it leaves -/
abbrev PRE (D : va_G) (tys : List (ClassId × FieldType)) (w : va_W) (sz : Nat) (U : State) : Prop := U.heap.size = sz ∧ va_P D vwCl w U.heap ∧ va_K D vwCl tys U ∧ va_D (fun _ => True) w
abbrev BQ {S : Type} (D : va_G) (tys : List (ClassId × FieldType)) (A : Nat → Prop) (w : S → va_W) (u : S) (t : State) : Prop := va_P D vwCl (w u) t.heap ∧ va_K D vwCl tys t ∧ va_D A (w u)
abbrev QI {S : Type} (D : va_G) (tys : List (ClassId × FieldType)) (A : Nat → Prop) (w : S → va_W) (r : Int32) (u : S) : Array Value → State → Outcome → State → Prop := va_Qi (fun (r9 : Int32) (u9 : S) => r9 = r ∧ u9 = u) (BQ D tys A w) A
abbrev QV {S : Type} (D : va_G) (tys : List (ClassId × FieldType)) (A : Nat → Prop) (w : S → va_W) (u : S) : Array Value → State → Outcome → State → Prop := va_Qv (fun (u9 : S) => u9 = u) (BQ D tys A w) A
abbrev QQ {S : Type} (D : va_G) (tys : List (ClassId × FieldType)) (A : Nat → Prop) (w : S → va_W) (r : Option Nat) (u : S) : Array Value → State → Outcome → State → Prop := va_Qq (fun (r9 : Option Nat) (u9 : S) => r9 = r ∧ u9 = u) (BQ D tys A w) A
/-- .. of one that may throw: o says which -/
abbrev XI {S : Type} (D : va_G) (tys : List (ClassId × FieldType)) (A : Nat → Prop) (w : S → va_W) (o : Nat ⊕ Int32) (u : S) : Array Value → State → Outcome → State → Prop := va_Qi (fun (r9 : Int32) (u9 : S) => o = .inr r9 ∧ u9 = u) (BQ D tys A w) A
abbrev XV {S : Type} (D : va_G) (tys : List (ClassId × FieldType)) (A : Nat → Prop) (w : S → va_W) (o : Nat ⊕ Unit) (u : S) : Array Value → State → Outcome → State → Prop := va_Qv (fun (u9 : S) => o = .inr () ∧ u9 = u) (BQ D tys A w) A
abbrev XX {S ρ : Type} (D : va_G) (tys : List (ClassId × FieldType)) (A : Nat → Prop) (w : S → va_W) (o : Nat ⊕ ρ) (u : S) : String → State → State → Prop := vx_X (fun z : Nat => o = .inl z) (fun E z t => E = exN z ∧ BQ D tys A w u t) A
section BB2
variable {p : Program} {l : Launch} {e : Env} {R : Room} {s : State} {m : MethodId} {args : Array Value} {below : List Frame} {meth : Method} {c : Code} {H : Heap} {locs : List Loc} {cells slots : Nat} {Q : State → Prop}
variable {mc ms : Nat} {A : Nat → Prop} {H0 : Heap} {a : Array Value} {pc : Nat} {ls : Array Slot} {st0 rest : List Value}
variable {D : va_G} {tys : List (ClassId × FieldType)} {W0 w0 W1 : va_W} {g : Nat → Nat} {S : Type} {w : S → va_W} {u' : S}
theorem pre_blind {av : List Value} {sz : Nat} : FrameBlind (va_Pc av (PRE D tys w0 sz)) := by
  intro a U g mk q
  obtain ⟨q0, q1, qP, qK, qD⟩ := q
  exact ⟨q0, q1, qP, va_K.moved (u := U) (U := U.calling g mk a) (Vm.Alike.refl U.vm) qK, qD⟩
theorem kp_S {As : List Value} (hK : va_K D vwCl tys s) (hP : va_P D vwCl W0 H) (hD : va_D A W0) (hsb : Sb W0 w0 g) : PreS s H (va_Pc As (PRE D tys w0 H.size)) As :=
  ⟨pre_blind, fun U hU hW => ⟨rfl, by rw [hU], by rw [hU]; exact sb_P hsb hP, va_K.moved hW.alike hK, (sb_D hsb hD).weaken (fun _ _ _ _ => trivial)⟩⟩
theorem kp_V {As : List Value} {b ci : Nat} {fs : List Value} {q : vw_C} (hK : va_K D vwCl tys s) (hP : va_P D vwCl W0 H) (hD : va_D A W0) (hsb : Sb W0 w0 g) (he : w0[0]? = some (b, .inr (ci, fs))) (hc : vwCl[ci]? = some q) : PreV s H q.1 b (va_Pc (.ref b :: As) (PRE D tys w0 H.size)) As :=
  ⟨pre_blind, va_recv hK (sb_P hsb hP) hc he, fun U hU hW => ⟨rfl, by rw [hU], by rw [hU]; exact sb_P hsb hP, va_K.moved hW.alike hK, (sb_D hsb hD).weaken (fun _ _ _ _ => trivial)⟩⟩
theorem kc_i {r : Int32} (hr : va_Run p l e R s m args below meth c H locs cells slots mc ms (F0 m pc ls st0) rest (QI D tys (va_A w0 H.size) w r u' a) (va_A w0 H.size)) (hP : va_P D vwCl W0 H) (hD : va_D A W0) (hS : va_S A H0 H locs) (hA : ∀ q, H0.size ≤ q → A q) (hsb : Sb W0 w0 g) (hjn : Jn W0 w0 (w u') W1 g)
    (kk : ∀ (H1 : Heap) (locs1 : List Loc), va_P D vwCl W1 H1 → va_D A W1 → va_S A H0 H1 locs1 → W p l e R s m args below meth c H1 locs1 (cells + mc) (slots + ms) Q (F0 m (pc + 3) ls (.int r :: rest))) : W p l e R s m args below meth c H locs cells slots Q (F0 m pc ls st0) := by
  have hF := sb_F hsb hD hS hA
  refine va_calli hr hS (fun q _ h => hF q h) hF (fun r9 u9 t H1 locs1 ht hvm hw hB hz hk hS1 => ?_)
  obtain ⟨rfl, rfl⟩ := hw
  obtain ⟨hP1, hK1, hD1⟩ := hB
  rw [ht] at hP1
  exact kk H1 locs1 (jn_P hsb hjn hP hD hk hP1) (jn_D hjn hD) hS1
theorem kc_v (hr : va_Run p l e R s m args below meth c H locs cells slots mc ms (F0 m pc ls st0) rest (QV D tys (va_A w0 H.size) w u' a) (va_A w0 H.size)) (hP : va_P D vwCl W0 H) (hD : va_D A W0) (hS : va_S A H0 H locs) (hA : ∀ q, H0.size ≤ q → A q) (hsb : Sb W0 w0 g) (hjn : Jn W0 w0 (w u') W1 g)
    (kk : ∀ (H1 : Heap) (locs1 : List Loc), va_P D vwCl W1 H1 → va_D A W1 → va_S A H0 H1 locs1 → W p l e R s m args below meth c H1 locs1 (cells + mc) (slots + ms) Q (F0 m (pc + 3) ls rest)) : W p l e R s m args below meth c H locs cells slots Q (F0 m pc ls st0) := by
  have hF := sb_F hsb hD hS hA
  refine va_callv hr hS (fun q _ h => hF q h) hF (fun u9 t H1 locs1 ht hvm hw hB hz hk hS1 => ?_)
  subst hw
  obtain ⟨hP1, hK1, hD1⟩ := hB
  rw [ht] at hP1
  exact kk H1 locs1 (jn_P hsb hjn hP hD hk hP1) (jn_D hjn hD) hS1
theorem kc_q {r : Option Nat} (hr : va_Run p l e R s m args below meth c H locs cells slots mc ms (F0 m pc ls st0) rest (QQ D tys (va_A w0 H.size) w r u' a) (va_A w0 H.size)) (hP : va_P D vwCl W0 H) (hD : va_D A W0) (hS : va_S A H0 H locs) (hA : ∀ q, H0.size ≤ q → A q) (hsb : Sb W0 w0 g) (hjn : Jn W0 w0 (w u') W1 g)
    (kk : ∀ (H1 : Heap) (locs1 : List Loc), va_P D vwCl W1 H1 → va_D A W1 → va_S A H0 H1 locs1 → W p l e R s m args below meth c H1 locs1 (cells + mc) (slots + ms) Q (F0 m (pc + 3) ls (va_rf r :: rest))) : W p l e R s m args below meth c H locs cells slots Q (F0 m pc ls st0) := by
  have hF := sb_F hsb hD hS hA
  refine va_callq hr hS (fun q _ h => hF q h) hF (fun r9 u9 t H1 locs1 ht hvm hw hB hz hk hS1 => ?_)
  obtain ⟨rfl, rfl⟩ := hw
  obtain ⟨hP1, hK1, hD1⟩ := hB
  rw [ht] at hP1
  exact kk H1 locs1 (jn_P hsb hjn hP hD hk hP1) (jn_D hjn hD) hS1
theorem kx_i {o : Nat ⊕ Int32} (hr : vx_Run p l e R s m args below meth c H locs cells slots mc ms (F0 m pc ls st0) rest (XI D tys (va_A w0 H.size) w o u' a) (XX D tys (va_A w0 H.size) w o u') (va_A w0 H.size)) (hP : va_P D vwCl W0 H) (hD : va_D A W0) (hS : va_S A H0 H locs) (hA : ∀ q, H0.size ≤ q → A q) (hsb : Sb W0 w0 g) (hjn : Jn W0 w0 (w u') W1 g)
    (kx : ∀ (e9 : Nat) (ce : Cell) (q9 : Addr) (H1 : Heap) (locs1 : List Loc), o = .inl e9 → va_P D vwCl W1 H1 → va_D A W1 → va_S A H0 H1 locs1 → H1[q9]? = some ce → ce.vm = .none → s.vm.findClass (exN e9) = some ce.cls → vx_W p l e R s m args below meth c H1 locs1 (cells + mc) (slots + ms) Q (F0 m pc ls rest) q9)
    (kk : ∀ (r : Int32) (H1 : Heap) (locs1 : List Loc), o = .inr r → va_P D vwCl W1 H1 → va_D A W1 → va_S A H0 H1 locs1 → W p l e R s m args below meth c H1 locs1 (cells + mc) (slots + ms) Q (F0 m (pc + 3) ls (.int r :: rest))) : W p l e R s m args below meth c H locs cells slots Q (F0 m pc ls st0) := by
  have hF := sb_F hsb hD hS hA
  refine vx_calli hr hS (fun q _ h => hF q h) hF (fun q _ h => hF q h) (fun E ce q9 z t H1 locs1 ht hvm hw hB hz hk hS1 hce hcv hcl => ?_) (fun r9 u9 t H1 locs1 ht hvm hw hB hz hk hS1 => ?_)
  · obtain ⟨rfl, hP1, hK1, hD1⟩ := hB
    rw [ht] at hP1
    exact kx z ce q9 H1 locs1 hw (jn_P hsb hjn hP hD hk hP1) (jn_D hjn hD) hS1 hce hcv hcl
  · obtain ⟨ho, rfl⟩ := hw
    obtain ⟨hP1, hK1, hD1⟩ := hB
    rw [ht] at hP1
    exact kk r9 H1 locs1 ho (jn_P hsb hjn hP hD hk hP1) (jn_D hjn hD) hS1
theorem kx_v {o : Nat ⊕ Unit} (hr : vx_Run p l e R s m args below meth c H locs cells slots mc ms (F0 m pc ls st0) rest (XV D tys (va_A w0 H.size) w o u' a) (XX D tys (va_A w0 H.size) w o u') (va_A w0 H.size)) (hP : va_P D vwCl W0 H) (hD : va_D A W0) (hS : va_S A H0 H locs) (hA : ∀ q, H0.size ≤ q → A q) (hsb : Sb W0 w0 g) (hjn : Jn W0 w0 (w u') W1 g)
    (kx : ∀ (e9 : Nat) (ce : Cell) (q9 : Addr) (H1 : Heap) (locs1 : List Loc), o = .inl e9 → va_P D vwCl W1 H1 → va_D A W1 → va_S A H0 H1 locs1 → H1[q9]? = some ce → ce.vm = .none → s.vm.findClass (exN e9) = some ce.cls → vx_W p l e R s m args below meth c H1 locs1 (cells + mc) (slots + ms) Q (F0 m pc ls rest) q9)
    (kk : ∀ (H1 : Heap) (locs1 : List Loc), o = .inr () → va_P D vwCl W1 H1 → va_D A W1 → va_S A H0 H1 locs1 → W p l e R s m args below meth c H1 locs1 (cells + mc) (slots + ms) Q (F0 m (pc + 3) ls rest)) : W p l e R s m args below meth c H locs cells slots Q (F0 m pc ls st0) := by
  have hF := sb_F hsb hD hS hA
  refine vx_callv hr hS (fun q _ h => hF q h) hF (fun q _ h => hF q h) (fun E ce q9 z t H1 locs1 ht hvm hw hB hz hk hS1 hce hcv hcl => ?_) (fun u9 t H1 locs1 ht hvm hw hB hz hk hS1 => ?_)
  · obtain ⟨rfl, hP1, hK1, hD1⟩ := hB
    rw [ht] at hP1
    exact kx z ce q9 H1 locs1 hw (jn_P hsb hjn hP hD hk hP1) (jn_D hjn hD) hS1 hce hcv hcl
  · obtain ⟨ho, rfl⟩ := hw
    obtain ⟨hP1, hK1, hD1⟩ := hB
    rw [ht] at hP1
    exact kk H1 locs1 ho (jn_P hsb hjn hP hD hk hP1) (jn_D hjn hD) hS1
/-- past this method: the throw goes on to the caller, the world as it is -/
theorem kx_out {ρ : Type} {Qc : Array Value → State → Outcome → State → Prop} {o : Nat ⊕ ρ} {e9 : Nat} {ce : Cell} {q9 : Addr} {mc' ms' : Nat} (hnx : ∀ x ∈ c.exceptionTable.toList, False) (hlocks : meth.locks = false) (hK : va_K D vwCl tys s) (hP : va_P D vwCl (w u') H) (hD : va_D A (w u')) (hS : va_S A s.heap H locs) (hce : H[q9]? = some ce) (hcv : ce.vm = .none) (hcl : s.vm.findClass (exN e9) = some ce.cls) (ho : o = .inl e9) (h1 : cells ≤ mc') (h2 : slots ≤ ms') :
    vx_W p l e R s m args below meth c H locs cells slots (vx_MQ below Qc (XX D tys A w o u') args s mc' ms' A) (F0 m pc ls rest) q9 :=
  vx_out (fun x hx => (hnx x hx).elim) hlocks hce hcv hcl (fun t ht hvm => ⟨e9, ho, ⟨rfl, by rw [ht]; exact hP, va_K.moved hvm hK, hD⟩, hS.F ht⟩) hS.2.2 h1 h2
end BB2
end
section
abbrev RowS : Type := (Nat → Int32) × (Nat → Int32) × (Nat → Int32) × Int32 × Int32
abbrev CSt : Type := (Nat → Int32) × (Nat → Int32) × (Nat → Int32) × (Nat → Int32) × (Nat → Int32) × (Nat → Int32) × (Nat → Int32) × (Nat → Int32) × (Nat → Int32) × (Nat → Int32) × Int32 × Int32 × Int32 × Int32 × (Nat → RowS)
abbrev TY (cI cR : ClassId) : List (ClassId × FieldType) := [(cI, .int), (cR, .object "PacketStores$Row")]
abbrev RW (cI : ClassId) (q o a b : Nat) (u : RowS) : va_W := [(q, .inr (0, [.ref o, .ref a, .ref b, .int u.2.2.2.1, .int u.2.2.2.2])), (o, .inl (cI, 8, .inl u.1)), (a, .inl (cI, 8, .inl u.2.1)), (b, .inl (cI, 8, .inl u.2.2.1))]
abbrev RW2 (cI : ClassId) (q o a b q2 o2 a2 b2 : Nat) (u : RowS × RowS) : va_W := RW cI q o a b u.1 ++ RW cI q2 o2 a2 b2 u.2
def rcell (cI : ClassId) (qa : Nat → Nat) (rs : Nat → RowS) (k : Nat) : va_E := if k % 4 = 0 then .inr (0, [.ref (qa (k + 1)), .ref (qa (k + 2)), .ref (qa (k + 3)), .int (rs (k / 4)).2.2.2.1, .int (rs (k / 4)).2.2.2.2]) else if k % 4 = 1 then .inl (cI, 8, .inl (rs (k / 4)).1) else if k % 4 = 2 then .inl (cI, 8, .inl (rs (k / 4)).2.1) else .inl (cI, 8, .inl (rs (k / 4)).2.2.1)
def rowsW (cI : ClassId) (qa : Nat → Nat) (rs : Nat → RowS) : va_W := (List.range 192).map (fun k => (qa k, rcell cI qa rs k))
abbrev CX (cI cR : ClassId) (ca qa : Nat → Nat) (u : CSt) : va_W := [(ca 0, .inr (1, [.ref (ca 1), .ref (ca 2), .ref (ca 3), .ref (ca 4), .ref (ca 5), .ref (ca 6), .ref (ca 7), .ref (ca 8), .ref (ca 9), .ref (ca 10), .ref (ca 11), .ref (ca 12), .int u.2.2.2.2.2.2.2.2.2.2.1, .int u.2.2.2.2.2.2.2.2.2.2.2.1, .int u.2.2.2.2.2.2.2.2.2.2.2.2.1, .int u.2.2.2.2.2.2.2.2.2.2.2.2.2.1])), (ca 1, .inl (cR, 32, .inr (.inr (.inr (.inr (fun k => some (qa (4 * k)))))))), (ca 2, .inl (cI, 32, .inl u.1)), (ca 3, .inl (cI, 32, .inl u.2.1)), (ca 4, .inl (cI, 8, .inl u.2.2.1)), (ca 5, .inl (cI, 8, .inl u.2.2.2.1)), (ca 6, .inl (cI, 8, .inl u.2.2.2.2.1)), (ca 7, .inl (cR, 16, .inr (.inr (.inr (.inr (fun k => some (qa (4 * (32 + k))))))))), (ca 8, .inl (cI, 16, .inl u.2.2.2.2.2.1)), (ca 9, .inl (cI, 16, .inl u.2.2.2.2.2.2.1)), (ca 10, .inl (cI, 4, .inl u.2.2.2.2.2.2.2.1)), (ca 11, .inl (cI, 4, .inl u.2.2.2.2.2.2.2.2.1)), (ca 12, .inl (cI, 4, .inl u.2.2.2.2.2.2.2.2.2.1))]
abbrev CW (cI cR : ClassId) (ca qa : Nat → Nat) (u : CSt) : va_W := CX cI cR ca qa u ++ rowsW cI qa u.2.2.2.2.2.2.2.2.2.2.2.2.2.2
section WW
variable {cI cR : ClassId} {ca qa : Nat → Nat} {rs : Nat → RowS} {u : CSt} {j j1 j2 k : Nat} {r' r1 r2 : RowS}
theorem rc0 : rcell cI qa rs (4 * j) = .inr (0, [.ref (qa (4 * j + 1)), .ref (qa (4 * j + 2)), .ref (qa (4 * j + 3)), .int (rs j).2.2.2.1, .int (rs j).2.2.2.2]) := by
  unfold rcell
  rw [if_pos (by omega), show 4 * j / 4 = j by omega]
theorem rc1 : rcell cI qa rs (4 * j + 1) = .inl (cI, 8, .inl (rs j).1) := by
  unfold rcell
  rw [if_neg (by omega), if_pos (by omega), show (4 * j + 1) / 4 = j by omega]
theorem rc2 : rcell cI qa rs (4 * j + 2) = .inl (cI, 8, .inl (rs j).2.1) := by
  unfold rcell
  rw [if_neg (by omega), if_neg (by omega), if_pos (by omega), show (4 * j + 2) / 4 = j by omega]
theorem rc3 : rcell cI qa rs (4 * j + 3) = .inl (cI, 8, .inl (rs j).2.2.1) := by
  unfold rcell
  rw [if_neg (by omega), if_neg (by omega), if_neg (by omega), show (4 * j + 3) / 4 = j by omega]
theorem rc_ne (h : ¬ k / 4 = j) : rcell cI qa (va_up rs j r') k = rcell cI qa rs k := by
  unfold rcell
  rw [va_up_ne rs r' h]
theorem rows_get (h : k < 192) : (rowsW cI qa rs)[k]? = some (qa k, rcell cI qa rs k) := by
  unfold rowsW
  rw [List.getElem?_map, List.getElem?_range h]; rfl
theorem rows_lt {e : Nat × va_E} (h : (rowsW cI qa rs)[k]? = some e) : k < 192 := by
  have h1 := (List.getElem?_eq_some_iff.mp h).1
  unfold rowsW at h1
  simpa using h1
theorem cw_get : (CW cI cR ca qa u)[13 + k]? = (rowsW cI qa u.2.2.2.2.2.2.2.2.2.2.2.2.2.2)[k]? := by
  show (CX cI cR ca qa u ++ rowsW cI qa u.2.2.2.2.2.2.2.2.2.2.2.2.2.2)[13 + k]? = _
  rw [List.getElem?_append_right (show 13 ≤ 13 + k by omega)]
  rw [show 13 + k - (CX cI cR ca qa u).length = k from (show 13 + k - 13 = k by omega)]
theorem cw_lo {i : Nat} (h : i < 13) : (CW cI cR ca qa u)[i]? = (CX cI cR ca qa u)[i]? := List.getElem?_append_left (show i < 13 from h)
theorem cw_ad (u v : CSt) : (CW cI cR ca qa u).map (·.1) = (CW cI cR ca qa v).map (·.1) := by
  show (CX cI cR ca qa u ++ rowsW cI qa _).map _ = (CX cI cR ca qa v ++ rowsW cI qa _).map _
  rw [List.map_append, List.map_append]
  unfold rowsW
  rw [List.map_map, List.map_map]; rfl
theorem cw_sb (hj : j < 48) : Sb (CW cI cR ca qa u) (RW cI (qa (4 * j)) (qa (4 * j + 1)) (qa (4 * j + 2)) (qa (4 * j + 3)) (u.2.2.2.2.2.2.2.2.2.2.2.2.2.2 j)) (fun k => 13 + (4 * j + k)) := by
  refine ⟨fun k e h => ?_, fun i i' _ _ h => by
    have h9 : 13 + (4 * j + i) = 13 + (4 * j + i') := h
    omega⟩
  have hk : k < 4 := (List.getElem?_eq_some_iff.mp h).1
  show (CW cI cR ca qa u)[13 + (4 * j + k)]? = some e
  rw [cw_get, rows_get (by omega), ← h]
  rcases (by omega : k = 0 ∨ k = 1 ∨ k = 2 ∨ k = 3) with rfl | rfl | rfl | rfl
  · rw [Nat.add_zero, rc0]; rfl
  · rw [rc1]; rfl
  · rw [rc2]; rfl
  · rw [rc3]; rfl
theorem cw_jn (hj : j < 48) : Jn (CW cI cR ca qa u) (RW cI (qa (4 * j)) (qa (4 * j + 1)) (qa (4 * j + 2)) (qa (4 * j + 3)) (u.2.2.2.2.2.2.2.2.2.2.2.2.2.2 j)) (RW cI (qa (4 * j)) (qa (4 * j + 1)) (qa (4 * j + 2)) (qa (4 * j + 3)) r') (CW cI cR ca qa (u.1, u.2.1, u.2.2.1, u.2.2.2.1, u.2.2.2.2.1, u.2.2.2.2.2.1, u.2.2.2.2.2.2.1, u.2.2.2.2.2.2.2.1, u.2.2.2.2.2.2.2.2.1, u.2.2.2.2.2.2.2.2.2.1, u.2.2.2.2.2.2.2.2.2.2.1, u.2.2.2.2.2.2.2.2.2.2.2.1, u.2.2.2.2.2.2.2.2.2.2.2.2.1, u.2.2.2.2.2.2.2.2.2.2.2.2.2.1, va_up u.2.2.2.2.2.2.2.2.2.2.2.2.2.2 j r')) (fun k => 13 + (4 * j + k)) := by
  refine ⟨fun i e h => ?_, fun i e h => ?_⟩
  · by_cases hi : i < 13
    · rw [cw_lo hi] at h
      exact Or.inr ⟨by rw [cw_lo hi]; exact h, fun k _ => by show 13 + (4 * j + k) ≠ i; omega⟩
    · obtain ⟨k, rfl⟩ : ∃ k, i = 13 + k := ⟨i - 13, by omega⟩
      rw [cw_get] at h
      replace h : (rowsW cI qa (va_up u.2.2.2.2.2.2.2.2.2.2.2.2.2.2 j r'))[k]? = some e := h
      have hk := rows_lt h
      rw [rows_get hk] at h
      by_cases hkj : k / 4 = j
      · refine Or.inl ⟨k % 4, ?_⟩
        rw [← h]
        rcases (by omega : k = 4 * j ∨ k = 4 * j + 1 ∨ k = 4 * j + 2 ∨ k = 4 * j + 3) with rfl | rfl | rfl | rfl
        · rw [rc0, show 4 * j % 4 = 0 by omega, va_up_self]; rfl
        · rw [rc1, show (4 * j + 1) % 4 = 1 by omega, va_up_self]; rfl
        · rw [rc2, show (4 * j + 2) % 4 = 2 by omega, va_up_self]; rfl
        · rw [rc3, show (4 * j + 3) % 4 = 3 by omega, va_up_self]; rfl
      · refine Or.inr ⟨?_, fun k' hk' => ?_⟩
        · rw [cw_get, rows_get hk, ← h]
          rw [rc_ne hkj]
        · have : k' < 4 := hk'
          show 13 + (4 * j + k') ≠ 13 + k
          omega
  · by_cases hi : i < 13
    · rw [cw_lo hi] at h
      exact ⟨e, by rw [cw_lo hi]; exact h, rfl⟩
    · obtain ⟨k, rfl⟩ : ∃ k, i = 13 + k := ⟨i - 13, by omega⟩
      rw [cw_get] at h
      have hk := rows_lt h
      rw [rows_get hk] at h
      exact ⟨_, by rw [cw_get, rows_get hk], by rw [← Option.some.inj h]⟩
def g2 (j1 j2 k : Nat) : Nat := if k < 4 then 13 + (4 * j1 + k) else 13 + (4 * j2 + (k - 4))
theorem cw_sb2 (h1 : j1 < 48) (h2 : j2 < 48) (hn : ¬ j1 = j2) : Sb (CW cI cR ca qa u) (RW2 cI (qa (4 * j1)) (qa (4 * j1 + 1)) (qa (4 * j1 + 2)) (qa (4 * j1 + 3)) (qa (4 * j2)) (qa (4 * j2 + 1)) (qa (4 * j2 + 2)) (qa (4 * j2 + 3)) (u.2.2.2.2.2.2.2.2.2.2.2.2.2.2 j1, u.2.2.2.2.2.2.2.2.2.2.2.2.2.2 j2)) (g2 j1 j2) := by
  refine ⟨fun k e h => ?_, fun i i' hi hi' h => ?_⟩
  · have hk : k < 8 := (List.getElem?_eq_some_iff.mp h).1
    unfold g2
    by_cases h4 : k < 4
    · rw [if_pos h4]
      refine (cw_sb h1).1 k e ?_
      have h5 : (RW cI (qa (4 * j1)) (qa (4 * j1 + 1)) (qa (4 * j1 + 2)) (qa (4 * j1 + 3)) (u.2.2.2.2.2.2.2.2.2.2.2.2.2.2 j1) ++ RW cI (qa (4 * j2)) (qa (4 * j2 + 1)) (qa (4 * j2 + 2)) (qa (4 * j2 + 3)) (u.2.2.2.2.2.2.2.2.2.2.2.2.2.2 j2))[k]? = some e := h
      rw [List.getElem?_append_left (show k < 4 from h4)] at h5
      exact h5
    · rw [if_neg h4]
      refine (cw_sb h2).1 (k - 4) e ?_
      have h5 : (RW cI (qa (4 * j1)) (qa (4 * j1 + 1)) (qa (4 * j1 + 2)) (qa (4 * j1 + 3)) (u.2.2.2.2.2.2.2.2.2.2.2.2.2.2 j1) ++ RW cI (qa (4 * j2)) (qa (4 * j2 + 1)) (qa (4 * j2 + 2)) (qa (4 * j2 + 3)) (u.2.2.2.2.2.2.2.2.2.2.2.2.2.2 j2))[k]? = some e := h
      rw [List.getElem?_append_right (show 4 ≤ k by omega)] at h5
      exact h5
  · have hi8 : i < 8 := hi
    have hi8' : i' < 8 := hi'
    unfold g2 at h
    split at h <;> split at h <;> omega
theorem cw_jn2 (h1 : j1 < 48) (h2 : j2 < 48) (hn : ¬ j1 = j2) : Jn (CW cI cR ca qa u) (RW2 cI (qa (4 * j1)) (qa (4 * j1 + 1)) (qa (4 * j1 + 2)) (qa (4 * j1 + 3)) (qa (4 * j2)) (qa (4 * j2 + 1)) (qa (4 * j2 + 2)) (qa (4 * j2 + 3)) (u.2.2.2.2.2.2.2.2.2.2.2.2.2.2 j1, u.2.2.2.2.2.2.2.2.2.2.2.2.2.2 j2)) (RW2 cI (qa (4 * j1)) (qa (4 * j1 + 1)) (qa (4 * j1 + 2)) (qa (4 * j1 + 3)) (qa (4 * j2)) (qa (4 * j2 + 1)) (qa (4 * j2 + 2)) (qa (4 * j2 + 3)) (r1, r2)) (CW cI cR ca qa (u.1, u.2.1, u.2.2.1, u.2.2.2.1, u.2.2.2.2.1, u.2.2.2.2.2.1, u.2.2.2.2.2.2.1, u.2.2.2.2.2.2.2.1, u.2.2.2.2.2.2.2.2.1, u.2.2.2.2.2.2.2.2.2.1, u.2.2.2.2.2.2.2.2.2.2.1, u.2.2.2.2.2.2.2.2.2.2.2.1, u.2.2.2.2.2.2.2.2.2.2.2.2.1, u.2.2.2.2.2.2.2.2.2.2.2.2.2.1, va_up (va_up u.2.2.2.2.2.2.2.2.2.2.2.2.2.2 j1 r1) j2 r2)) (g2 j1 j2) := by
  refine ⟨fun i e h => ?_, fun i e h => ?_⟩
  · by_cases hi : i < 13
    · rw [cw_lo hi] at h
      exact Or.inr ⟨by rw [cw_lo hi]; exact h, fun k _ => by unfold g2; split <;> omega⟩
    · obtain ⟨k, rfl⟩ : ∃ k, i = 13 + k := ⟨i - 13, by omega⟩
      rw [cw_get] at h
      replace h : (rowsW cI qa (va_up (va_up u.2.2.2.2.2.2.2.2.2.2.2.2.2.2 j1 r1) j2 r2))[k]? = some e := h
      have hk := rows_lt h
      rw [rows_get hk] at h
      by_cases hkj : k / 4 = j2
      · refine Or.inl ⟨4 + k % 4, ?_⟩
        rw [← h]
        rcases (by omega : k = 4 * j2 ∨ k = 4 * j2 + 1 ∨ k = 4 * j2 + 2 ∨ k = 4 * j2 + 3) with rfl | rfl | rfl | rfl
        · rw [rc0, show 4 * j2 % 4 = 0 by omega, va_up_self]; rfl
        · rw [rc1, show (4 * j2 + 1) % 4 = 1 by omega, va_up_self]; rfl
        · rw [rc2, show (4 * j2 + 2) % 4 = 2 by omega, va_up_self]; rfl
        · rw [rc3, show (4 * j2 + 3) % 4 = 3 by omega, va_up_self]; rfl
      · have h' : some (qa k, rcell cI qa (va_up u.2.2.2.2.2.2.2.2.2.2.2.2.2.2 j1 r1) k) = some e := by
          rw [← h, rc_ne hkj]
        by_cases hkj1 : k / 4 = j1
        · refine Or.inl ⟨k % 4, ?_⟩
          rw [← h']
          rcases (by omega : k = 4 * j1 ∨ k = 4 * j1 + 1 ∨ k = 4 * j1 + 2 ∨ k = 4 * j1 + 3) with rfl | rfl | rfl | rfl
          · rw [rc0, show 4 * j1 % 4 = 0 by omega, va_up_self]; rfl
          · rw [rc1, show (4 * j1 + 1) % 4 = 1 by omega, va_up_self]; rfl
          · rw [rc2, show (4 * j1 + 2) % 4 = 2 by omega, va_up_self]; rfl
          · rw [rc3, show (4 * j1 + 3) % 4 = 3 by omega, va_up_self]; rfl
        · refine Or.inr ⟨?_, fun k' hk' => ?_⟩
          · rw [cw_get, rows_get hk, ← h', rc_ne hkj1]
          · have : k' < 8 := hk'
            unfold g2
            split <;> omega
  · by_cases hi : i < 13
    · rw [cw_lo hi] at h
      exact ⟨e, by rw [cw_lo hi]; exact h, rfl⟩
    · obtain ⟨k, rfl⟩ : ∃ k, i = 13 + k := ⟨i - 13, by omega⟩
      rw [cw_get] at h
      have hk := rows_lt h
      rw [rows_get hk] at h
      exact ⟨_, by rw [cw_get, rows_get hk], by rw [← Option.some.inj h]⟩
end WW
end
section
def XK (sa : Nat → Nat) (A : Nat → Prop) (U : State) : Prop := vx_Zq Bundle.tN "UNASSIGNED_STACK" Bundle.steD A U U.heap ∧ vx_Zq Bundle.tN "SUPPRESSED_SENTINEL" Bundle.listD A U U.heap ∧ va_Nw (.castable "java/lang/IndexOutOfBoundsException" "java/lang/IndexOutOfBoundsException") U ∧ va_Nw (.castable "java/lang/IllegalArgumentException" "java/lang/IllegalArgumentException") U ∧ va_Nw (.declares ⟨"java/lang/RuntimeException", "<init>", "(Ljava/lang/String;)V"⟩) U ∧ va_Nw (.declares ⟨"java/lang/Exception", "<init>", "(Ljava/lang/String;)V"⟩) U ∧ va_Nw (.declares ⟨"java/lang/Throwable", "<init>", "(Ljava/lang/String;)V"⟩) U ∧ va_Nc "java/lang/IllegalArgumentException" "java/lang/IndexOutOfBoundsException" U ∧ vk_R RX1 84 "what is made is no kind" (sa 84) U ∧ vk_R RX1 96 "more units are aboard" (sa 96) U ∧ vk_R RX1 98 "units of another kind are aboard" (sa 98) U ∧ vk_R RX1 101 "time would be too great" (sa 101) U ∧ vk_R RX1 120 "there is no room for all" (sa 120) U ∧ vk_R RX1 122 "the second wagon has units" (sa 122) U ∧ vk_R RX1 176 "the wagons are the same" (sa 176) U ∧ vk_R RX1 178 "the wagons are of different kinds" (sa 178) U ∧ vk_R RX1 182 "no such station" (sa 182) U ∧ vk_R RX1 185 "no such kind" (sa 185) U ∧ vk_R RX1 187 "no such wagon" (sa 187) U ∧ vk_R RX1 189 "a number is below 0 or too great" (sa 189) U ∧ vk_R RX1 191 "n is below 0" (sa 191) U
theorem XK_s84 {sa : Nat → Nat} {A : Nat → Prop} {U : State} (h : XK sa A U) : vk_R RX1 84 "what is made is no kind" (sa 84) U := by
  obtain ⟨-, -, -, -, -, -, -, -, h, -, -, -, -, -, -, -, -, -, -, -, -⟩ := h
  exact h
theorem XK_s96 {sa : Nat → Nat} {A : Nat → Prop} {U : State} (h : XK sa A U) : vk_R RX1 96 "more units are aboard" (sa 96) U := by
  obtain ⟨-, -, -, -, -, -, -, -, -, h, -, -, -, -, -, -, -, -, -, -, -⟩ := h
  exact h
theorem XK_s98 {sa : Nat → Nat} {A : Nat → Prop} {U : State} (h : XK sa A U) : vk_R RX1 98 "units of another kind are aboard" (sa 98) U := by
  obtain ⟨-, -, -, -, -, -, -, -, -, -, h, -, -, -, -, -, -, -, -, -, -⟩ := h
  exact h
theorem XK_s101 {sa : Nat → Nat} {A : Nat → Prop} {U : State} (h : XK sa A U) : vk_R RX1 101 "time would be too great" (sa 101) U := by
  obtain ⟨-, -, -, -, -, -, -, -, -, -, -, h, -, -, -, -, -, -, -, -, -⟩ := h
  exact h
theorem XK_s120 {sa : Nat → Nat} {A : Nat → Prop} {U : State} (h : XK sa A U) : vk_R RX1 120 "there is no room for all" (sa 120) U := by
  obtain ⟨-, -, -, -, -, -, -, -, -, -, -, -, h, -, -, -, -, -, -, -, -⟩ := h
  exact h
theorem XK_s122 {sa : Nat → Nat} {A : Nat → Prop} {U : State} (h : XK sa A U) : vk_R RX1 122 "the second wagon has units" (sa 122) U := by
  obtain ⟨-, -, -, -, -, -, -, -, -, -, -, -, -, h, -, -, -, -, -, -, -⟩ := h
  exact h
theorem XK_s176 {sa : Nat → Nat} {A : Nat → Prop} {U : State} (h : XK sa A U) : vk_R RX1 176 "the wagons are the same" (sa 176) U := by
  obtain ⟨-, -, -, -, -, -, -, -, -, -, -, -, -, -, h, -, -, -, -, -, -⟩ := h
  exact h
theorem XK_s178 {sa : Nat → Nat} {A : Nat → Prop} {U : State} (h : XK sa A U) : vk_R RX1 178 "the wagons are of different kinds" (sa 178) U := by
  obtain ⟨-, -, -, -, -, -, -, -, -, -, -, -, -, -, -, h, -, -, -, -, -⟩ := h
  exact h
theorem XK_s182 {sa : Nat → Nat} {A : Nat → Prop} {U : State} (h : XK sa A U) : vk_R RX1 182 "no such station" (sa 182) U := by
  obtain ⟨-, -, -, -, -, -, -, -, -, -, -, -, -, -, -, -, h, -, -, -, -⟩ := h
  exact h
theorem XK_s185 {sa : Nat → Nat} {A : Nat → Prop} {U : State} (h : XK sa A U) : vk_R RX1 185 "no such kind" (sa 185) U := by
  obtain ⟨-, -, -, -, -, -, -, -, -, -, -, -, -, -, -, -, -, h, -, -, -⟩ := h
  exact h
theorem XK_s187 {sa : Nat → Nat} {A : Nat → Prop} {U : State} (h : XK sa A U) : vk_R RX1 187 "no such wagon" (sa 187) U := by
  obtain ⟨-, -, -, -, -, -, -, -, -, -, -, -, -, -, -, -, -, -, h, -, -⟩ := h
  exact h
theorem XK_s189 {sa : Nat → Nat} {A : Nat → Prop} {U : State} (h : XK sa A U) : vk_R RX1 189 "a number is below 0 or too great" (sa 189) U := by
  obtain ⟨-, -, -, -, -, -, -, -, -, -, -, -, -, -, -, -, -, -, -, h, -⟩ := h
  exact h
theorem XK_s191 {sa : Nat → Nat} {A : Nat → Prop} {U : State} (h : XK sa A U) : vk_R RX1 191 "n is below 0" (sa 191) U := by
  obtain ⟨-, -, -, -, -, -, -, -, -, -, -, -, -, -, -, -, -, -, -, -, h⟩ := h
  exact h
theorem XK_to {sa : Nat → Nat} {A B : Nat → Prop} {s U : State} {H : Heap} {locs : List Loc} (h : XK sa A s) (hS : va_S A s.heap H locs) (hU : U.heap = H) (hW : s.WarmedH U.vm) (hF : ∀ q, B q → A q) : XK sa B U := by
  obtain ⟨h0, h1, h2, h3, h4, h5, h6, h7, h8, h9, h10, h11, h12, h13, h14, h15, h16, h17, h18, h19, h20⟩ := h
  exact ⟨by rw [hU]; exact (vx_Zq.moved hW.alike (vx_Zq.kept h0 hS.2.1)).narrow hF, by rw [hU]; exact (vx_Zq.moved hW.alike (vx_Zq.kept h1 hS.2.1)).narrow hF, va_Nw.warmC hW h2, va_Nw.warmC hW h3, va_Nw.warmD hW h4, va_Nw.warmD hW h5, va_Nw.warmD hW h6, va_Nc.moved hW.alike h7, vk_R.warm hW h8, vk_R.warm hW h9, vk_R.warm hW h10, vk_R.warm hW h11, vk_R.warm hW h12, vk_R.warm hW h13, vk_R.warm hW h14, vk_R.warm hW h15, vk_R.warm hW h16, vk_R.warm hW h17, vk_R.warm hW h18, vk_R.warm hW h19, vk_R.warm hW h20⟩
theorem XK_blind {sa : Nat → Nat} {A : Nat → Prop} {U : State} {g : JFrame} {mk : MethodId} {a : Array Value} (h : XK sa A U) : XK sa A (U.calling g mk a) := by
  obtain ⟨h0, h1, h2, h3, h4, h5, h6, h7, h8, h9, h10, h11, h12, h13, h14, h15, h16, h17, h18, h19, h20⟩ := h
  exact ⟨vx_Zq.moved (u := U) (U := U.calling g mk a) (Vm.Alike.refl U.vm) h0, vx_Zq.moved (u := U) (U := U.calling g mk a) (Vm.Alike.refl U.vm) h1, va_Nw.same rfl rfl h2, va_Nw.same rfl rfl h3, va_Nw.same rfl rfl h4, va_Nw.same rfl rfl h5, va_Nw.same rfl rfl h6, va_Nc.moved (u := U) (U := U.calling g mk a) (Vm.Alike.refl U.vm) h7, vk_R.same rfl h8, vk_R.same rfl h9, vk_R.same rfl h10, vk_R.same rfl h11, vk_R.same rfl h12, vk_R.same rfl h13, vk_R.same rfl h14, vk_R.same rfl h15, vk_R.same rfl h16, vk_R.same rfl h17, vk_R.same rfl h18, vk_R.same rfl h19, vk_R.same rfl h20⟩
abbrev PREX (D : va_G) (tys : List (ClassId × FieldType)) (w : va_W) (sz : Nat) (sa : Nat → Nat) (U : State) : Prop := PRE D tys w sz U ∧ XK sa (va_A w sz) U
section BX
variable {s : State} {H : Heap} {locs : List Loc} {A : Nat → Prop} {D : va_G} {tys : List (ClassId × FieldType)} {W0 w0 : va_W} {g : Nat → Nat} {sa : Nat → Nat}
theorem preX_blind {av : List Value} {sz : Nat} : FrameBlind (va_Pc av (PREX D tys w0 sz sa)) := by
  intro a U g mk q
  obtain ⟨q0, q1, qX⟩ := q
  exact ⟨q0, (pre_blind (av := av) a U g mk ⟨q0, q1⟩).2, XK_blind qX⟩
theorem kpX_S {As : List Value} (hXK : XK sa A s) (hK : va_K D vwCl tys s) (hP : va_P D vwCl W0 H) (hD : va_D A W0) (hS : va_S A s.heap H locs) (hA : ∀ q, s.heap.size ≤ q → A q) (hsb : Sb W0 w0 g) : PreS s H (va_Pc As (PREX D tys w0 H.size sa)) As :=
  ⟨preX_blind, fun U hU hW => ⟨rfl, ⟨by rw [hU], by rw [hU]; exact sb_P hsb hP, va_K.moved hW.alike hK, (sb_D hsb hD).weaken (fun _ _ _ _ => trivial)⟩, XK_to hXK hS hU hW (sb_F hsb hD hS hA)⟩⟩
theorem kpX_V {As : List Value} {b ci : Nat} {fs : List Value} {q : vw_C} (hXK : XK sa A s) (hK : va_K D vwCl tys s) (hP : va_P D vwCl W0 H) (hD : va_D A W0) (hS : va_S A s.heap H locs) (hA : ∀ q, s.heap.size ≤ q → A q) (hsb : Sb W0 w0 g) (he : w0[0]? = some (b, .inr (ci, fs))) (hc : vwCl[ci]? = some q) : PreV s H q.1 b (va_Pc (.ref b :: As) (PREX D tys w0 H.size sa)) As :=
  ⟨preX_blind, va_recv hK (sb_P hsb hP) hc he, fun U hU hW => ⟨rfl, ⟨by rw [hU], by rw [hU]; exact sb_P hsb hP, va_K.moved hW.alike hK, (sb_D hsb hD).weaken (fun _ _ _ _ => trivial)⟩, XK_to hXK hS hU hW (sb_F hsb hD hS hA)⟩⟩
end BX
set_option maxRecDepth 20000 in
theorem hatA_1 : ∀ w ∈ (vx_atS RX1 184 "java/lang/IndexOutOfBoundsException" ["java/lang/RuntimeException", "java/lang/Exception"]).filter goodWord, w ∈ cwL := by decide +kernel
set_option maxRecDepth 20000 in
theorem hatB_1 : ∀ w ∈ (vx_atS RX1 184 "java/lang/IndexOutOfBoundsException" ["java/lang/RuntimeException", "java/lang/Exception"]).filter (fun w => !goodWord w), w ∈ ([.castable "java/lang/IndexOutOfBoundsException" "java/lang/IndexOutOfBoundsException", .declares ⟨"java/lang/RuntimeException", "<init>", "(Ljava/lang/String;)V"⟩, .declares ⟨"java/lang/Exception", "<init>", "(Ljava/lang/String;)V"⟩, .declares ⟨"java/lang/Throwable", "<init>", "(Ljava/lang/String;)V"⟩] : List Cond) := by decide +kernel
set_option maxRecDepth 20000 in
theorem hatC_1 : ∀ w ∈ Cond.classLink RX1 180 "java/lang/IndexOutOfBoundsException" :: Cond.initialized "java/lang/IndexOutOfBoundsException" :: vx_atS RX1 184 "java/lang/IndexOutOfBoundsException" ["java/lang/RuntimeException", "java/lang/Exception"], vx_ot w = true := by decide +kernel
set_option maxRecDepth 20000 in
theorem hatA_2 : ∀ w ∈ (vx_atS RX1 86 "java/lang/IllegalArgumentException" ["java/lang/RuntimeException", "java/lang/Exception"]).filter goodWord, w ∈ cwL := by decide +kernel
set_option maxRecDepth 20000 in
theorem hatB_2 : ∀ w ∈ (vx_atS RX1 86 "java/lang/IllegalArgumentException" ["java/lang/RuntimeException", "java/lang/Exception"]).filter (fun w => !goodWord w), w ∈ ([.castable "java/lang/IllegalArgumentException" "java/lang/IllegalArgumentException", .declares ⟨"java/lang/RuntimeException", "<init>", "(Ljava/lang/String;)V"⟩, .declares ⟨"java/lang/Exception", "<init>", "(Ljava/lang/String;)V"⟩, .declares ⟨"java/lang/Throwable", "<init>", "(Ljava/lang/String;)V"⟩] : List Cond) := by decide +kernel
set_option maxRecDepth 20000 in
theorem hatC_2 : ∀ w ∈ Cond.classLink RX1 82 "java/lang/IllegalArgumentException" :: Cond.initialized "java/lang/IllegalArgumentException" :: vx_atS RX1 86 "java/lang/IllegalArgumentException" ["java/lang/RuntimeException", "java/lang/Exception"], vx_ot w = true := by decide +kernel
end
section
def F_Row_total  (u : RowS) : Option ((Int32) × Unit) := some (u.2.2.2.2, ())
set_option maxHeartbeats 4000000 in
set_option maxRecDepth 100000 in
theorem c_Row_total (l : Launch) (D : va_G) (cI cR : ClassId) (q o a b : Nat) (sz : Nat)  (u : RowS) (r : Int32) (u' : Unit) (hF : F_Row_total  u = some (r, u')) : Met l yX0_total wsX0_total ({ frames := 0, cells := 0, slots := 0, locals := 0 }) (va_Pc [.ref q] (PRE D (TY cI cR) (RW cI q o a b u) sz)) (QI D (TY cI cR) (va_A (RW cI q o a b u) sz) (fun v => RW cI q o a b v) r u) 0 0 (va_A (RW cI q o a b u) sz) := by
  refine Met.ofW (cc := cX0_total) (maxL := 1) (ret := (some .int)) (by decide) rfl ?_
  intro p e s m args below meth c s₁ B hml hv
  obtain ⟨rfl, hsz, hP, hK, hD0⟩ := hv
  have hx := B.exec
  have hb := B.bytes
  have hr := B.returns
  have hts := atoms_spec (ws := wsX0_total) B.pre
  have hown : s.vm.findClass RX0 = some m.cls := findClass_of_methodNamed B.named
  have hlocks := B.notSynchronized
  subst hsz
  have hD := hD0.self (sz := s.heap.size)
  generalize hAe : va_A (RW cI q o a b u) s.heap.size = A at hD ⊢
  have hA : ∀ q : Nat, s.heap.size ≤ q → A q := fun q h => by rw [← hAe]; exact Or.inr h
  have hS : va_S A s.heap s.heap [] := va_S.rf
  replace hP : va_P D vwCl (RW cI q o a b u) s.heap := hP
  have hl := lv_entry ([.ref q]) (n := 1) (Nat.le_of_ble_eq_true rfl)
  rw [lg_entry_eq]
  generalize (lg_sl ([.ref q]) ++ List.replicate (1 - (lg_sl ([.ref q])).length) Slot.unset).toArray = ls at hl ⊢
  replace hl : lv_has ls 1 [(0, .ref q)] := hl
  have hk_25 := (hts _ (cwc _ mw_27))
  unfold F_Row_total at hF
  refine (?_ : ∀ (H : Heap) (locs : List Loc), va_P D vwCl (RW cI q o a b u) H → va_S A s.heap H locs → W p l e _ s m _ below meth c H locs 0 0 _ (F0 m 0 ls [])) s.heap [] hP hS
  intro H locs hP hS
  refine lv_aload_n hx hb dX0_total_0 rfl (lv_at hl 0 rfl) ?_
  refine va_get (D := D) (ci := 0) (v := .int u.2.2.2.2) (C := RX0) (T := TX0) (N := 5) hx hb hts (fun w h => cwc w (in_X0 w h)) hown hK hP 0 rfl rfl 4 (by decide) hk_25 (fun _ h9 => h9) rfl dX0_total_1 ?_
  cases hF
  refine W.widen (k := 0) (n := 0) (Nat.le_of_ble_eq_true rfl) (Nat.le_of_ble_eq_true rfl) ?_
  exact W.iret hx hb hr (fun t ht hW => ⟨⟨_, _, rfl, ⟨rfl, rfl⟩, by rw [ht]; exact hP, va_K.moved hW.alike hK, hD⟩, hS.F ht⟩) hS.2.2 dX0_total_4
def F_Row_look (p1 : Int32) (p2 : Int32) (u : RowS) : Option ((Int32) × Unit) := (if p1 < (0 : Int32) then some ((-1 : Int32), ()) else (if p1 < u.2.2.2.1 then (if p2 = (0 : Int32) then gd (inb p1 8) (some ((u.1 p1.toNatClampNeg), ())) else (if p2 = (1 : Int32) then gd (inb p1 8) (some ((u.2.1 p1.toNatClampNeg), ())) else (if p2 = (2 : Int32) then gd (inb p1 8) (some ((u.2.2.1 p1.toNatClampNeg), ())) else some ((-1 : Int32), ())))) else some ((-1 : Int32), ())))
set_option maxHeartbeats 4000000 in
set_option maxRecDepth 100000 in
theorem c_Row_look (l : Launch) (D : va_G) (cI cR : ClassId) (q o a b : Nat) (sz : Nat) (p1 : Int32) (p2 : Int32) (u : RowS) (r : Int32) (u' : Unit) (hF : F_Row_look p1 p2 u = some (r, u')) : Met l yX0_look wsX0_look ({ frames := 0, cells := 0, slots := 0, locals := 0 }) (va_Pc [.ref q, .int p1, .int p2] (PRE D (TY cI cR) (RW cI q o a b u) sz)) (QI D (TY cI cR) (va_A (RW cI q o a b u) sz) (fun v => RW cI q o a b v) r u) 0 0 (va_A (RW cI q o a b u) sz) := by
  refine Met.ofW (cc := cX0_look) (maxL := 3) (ret := (some .int)) (by decide) rfl ?_
  intro p e s m args below meth c s₁ B hml hv
  obtain ⟨rfl, hsz, hP, hK, hD0⟩ := hv
  have hx := B.exec
  have hb := B.bytes
  have hr := B.returns
  have hts := atoms_spec (ws := wsX0_look) B.pre
  have hown : s.vm.findClass RX0 = some m.cls := findClass_of_methodNamed B.named
  have hlocks := B.notSynchronized
  subst hsz
  have hD := hD0.self (sz := s.heap.size)
  generalize hAe : va_A (RW cI q o a b u) s.heap.size = A at hD ⊢
  have hA : ∀ q : Nat, s.heap.size ≤ q → A q := fun q h => by rw [← hAe]; exact Or.inr h
  have hS : va_S A s.heap s.heap [] := va_S.rf
  replace hP : va_P D vwCl (RW cI q o a b u) s.heap := hP
  have hl := lv_entry ([.ref q, .int p1, .int p2]) (n := 3) (Nat.le_of_ble_eq_true rfl)
  rw [lg_entry_eq]
  generalize (lg_sl ([.ref q, .int p1, .int p2]) ++ List.replicate (3 - (lg_sl ([.ref q, .int p1, .int p2])).length) Slot.unset).toArray = ls at hl ⊢
  replace hl : lv_has ls 3 [(0, .ref q), (1, .int p1), (2, .int p2)] := hl
  have hk_21 := (hts _ (cwc _ mw_26))
  have hk_9 := (hts _ (cwc _ mw_23))
  have hk_15 := (hts _ (cwc _ mw_24))
  have hk_18 := (hts _ (cwc _ mw_25))
  unfold F_Row_look at hF
  refine (?_ : ∀ (H : Heap) (locs : List Loc), va_P D vwCl (RW cI q o a b u) H → va_S A s.heap H locs → W p l e _ s m _ below meth c H locs 0 0 _ (F0 m 0 ls [])) s.heap [] hP hS
  intro H locs hP hS
  refine lv_iload_n hx hb dX0_look_0 rfl (lv_at hl 1 rfl) ?_
  refine lv_if_lt (tgt := 12) hx hb dX0_look_1 (by decide) (fun c_1 => ?_) (fun c_1 => ?_)
  · replace hF := (if_pos c_1).symm.trans hF
    refine lv_iconst (v := (-1 : Int32)) hx hb dX0_look_12 (by decide +kernel) ?_
    cases hF
    refine W.widen (k := 0) (n := 0) (Nat.le_of_ble_eq_true rfl) (Nat.le_of_ble_eq_true rfl) ?_
    exact W.iret hx hb hr (fun t ht hW => ⟨⟨_, _, rfl, ⟨rfl, rfl⟩, by rw [ht]; exact hP, va_K.moved hW.alike hK, hD⟩, hS.F ht⟩) hS.2.2 dX0_look_13
  · replace hF := (if_neg c_1).symm.trans hF
    refine lv_iload_n hx hb dX0_look_4 rfl (lv_at hl 1 rfl) ?_
    refine lv_aload_n hx hb dX0_look_5 rfl (lv_at hl 0 rfl) ?_
    refine va_get (D := D) (ci := 0) (v := .int u.2.2.2.1) (C := RX0) (T := TX0) (N := 5) hx hb hts (fun w h => cwc w (in_X0 w h)) hown hK hP 0 rfl rfl 3 (by decide) hk_21 (fun _ h9 => h9) rfl dX0_look_6 ?_
    refine lv_icmp_lt (tgt := 14) hx hb dX0_look_9 (by decide) (fun c_2 => ?_) (fun c_2 => ?_)
    · replace hF := (if_pos c_2).symm.trans hF
      refine lv_iload_n hx hb dX0_look_14 rfl (lv_at hl 2 rfl) ?_
      by_cases c_3 : p2 = (0 : Int32)
      · replace hF := (if_pos c_3).symm.trans hF
        refine lv_tableIn (off := 25) (tgt := 40) hx hb dX0_look_15 (by rw [c_3]; decide +kernel) (by rw [c_3]; decide +kernel) (by rw [c_3]; rfl) (by decide) ?_
        refine lv_aload_n hx hb dX0_look_40 rfl (lv_at hl 0 rfl) ?_
        refine va_get (D := D) (ci := 0) (v := .ref o) (C := RX0) (T := TX0) (N := 5) hx hb hts (fun w h => cwc w (in_X0 w h)) hown hK hP 0 rfl rfl 0 (by decide) hk_9 (fun _ h9 => h9) rfl dX0_look_41 ?_
        refine lv_iload_n hx hb dX0_look_44 rfl (lv_at hl 1 rfl) ?_
        obtain ⟨h_4, hF⟩ := gd_some hF
        refine va_iald (f := u.1) hx hb hK hP 1 0 rfl rfl (inb_in h_4) dX0_look_45 ?_
        cases hF
        refine W.widen (k := 0) (n := 0) (Nat.le_of_ble_eq_true rfl) (Nat.le_of_ble_eq_true rfl) ?_
        exact W.iret hx hb hr (fun t ht hW => ⟨⟨_, _, rfl, ⟨rfl, rfl⟩, by rw [ht]; exact hP, va_K.moved hW.alike hK, hD⟩, hS.F ht⟩) hS.2.2 dX0_look_46
      · replace hF := (if_neg c_3).symm.trans hF
        by_cases c_5 : p2 = (1 : Int32)
        · replace hF := (if_pos c_5).symm.trans hF
          refine lv_tableIn (off := 32) (tgt := 47) hx hb dX0_look_15 (by rw [c_5]; decide +kernel) (by rw [c_5]; decide +kernel) (by rw [c_5]; rfl) (by decide) ?_
          refine lv_aload_n hx hb dX0_look_47 rfl (lv_at hl 0 rfl) ?_
          refine va_get (D := D) (ci := 0) (v := .ref a) (C := RX0) (T := TX0) (N := 5) hx hb hts (fun w h => cwc w (in_X0 w h)) hown hK hP 0 rfl rfl 1 (by decide) hk_15 (fun _ h9 => h9) rfl dX0_look_48 ?_
          refine lv_iload_n hx hb dX0_look_51 rfl (lv_at hl 1 rfl) ?_
          obtain ⟨h_6, hF⟩ := gd_some hF
          refine va_iald (f := u.2.1) hx hb hK hP 2 0 rfl rfl (inb_in h_6) dX0_look_52 ?_
          cases hF
          refine W.widen (k := 0) (n := 0) (Nat.le_of_ble_eq_true rfl) (Nat.le_of_ble_eq_true rfl) ?_
          exact W.iret hx hb hr (fun t ht hW => ⟨⟨_, _, rfl, ⟨rfl, rfl⟩, by rw [ht]; exact hP, va_K.moved hW.alike hK, hD⟩, hS.F ht⟩) hS.2.2 dX0_look_53
        · replace hF := (if_neg c_5).symm.trans hF
          by_cases c_7 : p2 = (2 : Int32)
          · replace hF := (if_pos c_7).symm.trans hF
            refine lv_tableIn (off := 39) (tgt := 54) hx hb dX0_look_15 (by rw [c_7]; decide +kernel) (by rw [c_7]; decide +kernel) (by rw [c_7]; rfl) (by decide) ?_
            refine lv_aload_n hx hb dX0_look_54 rfl (lv_at hl 0 rfl) ?_
            refine va_get (D := D) (ci := 0) (v := .ref b) (C := RX0) (T := TX0) (N := 5) hx hb hts (fun w h => cwc w (in_X0 w h)) hown hK hP 0 rfl rfl 2 (by decide) hk_18 (fun _ h9 => h9) rfl dX0_look_55 ?_
            refine lv_iload_n hx hb dX0_look_58 rfl (lv_at hl 1 rfl) ?_
            obtain ⟨h_8, hF⟩ := gd_some hF
            refine va_iald (f := u.2.2.1) hx hb hK hP 3 0 rfl rfl (inb_in h_8) dX0_look_59 ?_
            cases hF
            refine W.widen (k := 0) (n := 0) (Nat.le_of_ble_eq_true rfl) (Nat.le_of_ble_eq_true rfl) ?_
            exact W.iret hx hb hr (fun t ht hW => ⟨⟨_, _, rfl, ⟨rfl, rfl⟩, by rw [ht]; exact hP, va_K.moved hW.alike hK, hD⟩, hS.F ht⟩) hS.2.2 dX0_look_60
          · replace hF := (if_neg c_7).symm.trans hF
            refine lv_tableOut (tgt := 61) hx hb dX0_look_15 (by have := i32nz c_3 (show (0 : Int32).toInt = 0 by decide +kernel); have := i32nz c_5 (show (1 : Int32).toInt = 1 by decide +kernel); have := i32nz c_7 (show (2 : Int32).toInt = 2 by decide +kernel); omega) (by decide) ?_
            refine lv_iconst (v := (-1 : Int32)) hx hb dX0_look_61 (by decide +kernel) ?_
            cases hF
            refine W.widen (k := 0) (n := 0) (Nat.le_of_ble_eq_true rfl) (Nat.le_of_ble_eq_true rfl) ?_
            exact W.iret hx hb hr (fun t ht hW => ⟨⟨_, _, rfl, ⟨rfl, rfl⟩, by rw [ht]; exact hP, va_K.moved hW.alike hK, hD⟩, hS.F ht⟩) hS.2.2 dX0_look_62
    · replace hF := (if_neg c_2).symm.trans hF
      refine lv_iconst (v := (-1 : Int32)) hx hb dX0_look_12 (by decide +kernel) ?_
      cases hF
      refine W.widen (k := 0) (n := 0) (Nat.le_of_ble_eq_true rfl) (Nat.le_of_ble_eq_true rfl) ?_
      exact W.iret hx hb hr (fun t ht hW => ⟨⟨_, _, rfl, ⟨rfl, rfl⟩, by rw [ht]; exact hP, va_K.moved hW.alike hK, hD⟩, hS.F ht⟩) hS.2.2 dX0_look_13
def F_Row_clear  (u : RowS) : Option ((Unit) × RowS) := some ((), (u.1, u.2.1, u.2.2.1, (0 : Int32), (0 : Int32)))
set_option maxHeartbeats 4000000 in
set_option maxRecDepth 100000 in
theorem c_Row_clear (l : Launch) (D : va_G) (cI cR : ClassId) (q o a b : Nat) (sz : Nat)  (u : RowS) (r : Unit) (u' : RowS) (hF : F_Row_clear  u = some (r, u')) : Met l yX0_clear wsX0_clear ({ frames := 0, cells := 0, slots := 0, locals := 0 }) (va_Pc [.ref q] (PRE D (TY cI cR) (RW cI q o a b u) sz)) (QV D (TY cI cR) (va_A (RW cI q o a b u) sz) (fun v => RW cI q o a b v) u') 0 0 (va_A (RW cI q o a b u) sz) := by
  refine Met.ofW (cc := cX0_clear) (maxL := 1) (ret := none) (by decide) rfl ?_
  intro p e s m args below meth c s₁ B hml hv
  obtain ⟨rfl, hsz, hP, hK, hD0⟩ := hv
  have hx := B.exec
  have hb := B.bytes
  have hr := B.returns
  have hts := atoms_spec (ws := wsX0_clear) B.pre
  have hown : s.vm.findClass RX0 = some m.cls := findClass_of_methodNamed B.named
  have hlocks := B.notSynchronized
  subst hsz
  have hD := hD0.self (sz := s.heap.size)
  generalize hAe : va_A (RW cI q o a b u) s.heap.size = A at hD ⊢
  have hA : ∀ q : Nat, s.heap.size ≤ q → A q := fun q h => by rw [← hAe]; exact Or.inr h
  have hS : va_S A s.heap s.heap [] := va_S.rf
  replace hP : va_P D vwCl (RW cI q o a b u) s.heap := hP
  have hl := lv_entry ([.ref q]) (n := 1) (Nat.le_of_ble_eq_true rfl)
  rw [lg_entry_eq]
  generalize (lg_sl ([.ref q]) ++ List.replicate (1 - (lg_sl ([.ref q])).length) Slot.unset).toArray = ls at hl ⊢
  replace hl : lv_has ls 1 [(0, .ref q)] := hl
  have hk_21 := (hts _ (cwc _ mw_26))
  have hk_25 := (hts _ (cwc _ mw_27))
  unfold F_Row_clear at hF
  refine (?_ : ∀ (H : Heap) (locs : List Loc), va_P D vwCl (RW cI q o a b u) H → va_S A s.heap H locs → W p l e _ s m _ below meth c H locs 0 0 _ (F0 m 0 ls [])) s.heap [] hP hS
  intro H locs hP hS
  refine lv_aload_n hx hb dX0_clear_0 rfl (lv_at hl 0 rfl) ?_
  refine lv_iconst (v := (0 : Int32)) hx hb dX0_clear_1 (by decide +kernel) ?_
  refine va_put (D := D) (ci := 0) (v := .int (0 : Int32)) (ty := .int) (C := RX0) (T := TX0) (N := 5) hx hb hts (fun w h => cwc w (in_X0 w h)) tyX0 tyX0_ok nmX0 hown hK hP hD hS 0 rfl rfl 3 (by decide) hk_21 (fun _ h9 => h9) rfl (by decide +kernel) rfl rfl (Nat.le_of_ble_eq_true rfl) dX0_clear_2 (fun H locs hP hD hS => ?_)
  replace hP : va_P D vwCl (RW cI q o a b (u.1, u.2.1, u.2.2.1, (0 : Int32), u.2.2.2.2)) H := hP
  replace hD : va_D A (RW cI q o a b (u.1, u.2.1, u.2.2.1, (0 : Int32), u.2.2.2.2)) := hD
  refine lv_aload_n hx hb dX0_clear_5 rfl (lv_at hl 0 rfl) ?_
  refine lv_iconst (v := (0 : Int32)) hx hb dX0_clear_6 (by decide +kernel) ?_
  refine va_put (D := D) (ci := 0) (v := .int (0 : Int32)) (ty := .int) (C := RX0) (T := TX0) (N := 5) hx hb hts (fun w h => cwc w (in_X0 w h)) tyX0 tyX0_ok nmX0 hown hK hP hD hS 0 rfl rfl 4 (by decide) hk_25 (fun _ h9 => h9) rfl (by decide +kernel) rfl rfl (Nat.le_of_ble_eq_true rfl) dX0_clear_7 (fun H locs hP hD hS => ?_)
  replace hP : va_P D vwCl (RW cI q o a b (u.1, u.2.1, u.2.2.1, (0 : Int32), (0 : Int32))) H := hP
  replace hD : va_D A (RW cI q o a b (u.1, u.2.1, u.2.2.1, (0 : Int32), (0 : Int32))) := hD
  cases hF
  refine W.widen (k := 0) (n := 0) (Nat.le_of_ble_eq_true rfl) (Nat.le_of_ble_eq_true rfl) ?_
  exact W.vret hx hb hr (fun t ht hW => ⟨⟨_, rfl, rfl, by rw [ht]; exact hP, va_K.moved hW.alike hK, hD⟩, hS.F ht⟩) hS.2.2 dX0_clear_10
def F_Row_lastIs (p1 : Int32) (p2 : Int32) (u : RowS) : Option ((Int32) × Unit) := nm ((u.2.2.2.1 - (1 : Int32))) (fun v1 => (if v1 < (0 : Int32) then some ((0 : Int32), ()) else gd (inb v1 8) ((if (u.1 v1.toNatClampNeg) = p1 then gd (inb v1 8) ((if (u.2.2.1 v1.toNatClampNeg) = p2 then some ((1 : Int32), ()) else some ((0 : Int32), ()))) else some ((0 : Int32), ())))))
set_option maxHeartbeats 4000000 in
set_option maxRecDepth 100000 in
theorem c_Row_lastIs (l : Launch) (D : va_G) (cI cR : ClassId) (q o a b : Nat) (sz : Nat) (p1 : Int32) (p2 : Int32) (u : RowS) (r : Int32) (u' : Unit) (hF : F_Row_lastIs p1 p2 u = some (r, u')) : Met l yX0_lastIs wsX0_lastIs ({ frames := 0, cells := 0, slots := 0, locals := 0 }) (va_Pc [.ref q, .int p1, .int p2] (PRE D (TY cI cR) (RW cI q o a b u) sz)) (QI D (TY cI cR) (va_A (RW cI q o a b u) sz) (fun v => RW cI q o a b v) r u) 0 0 (va_A (RW cI q o a b u) sz) := by
  refine Met.ofW (cc := cX0_lastIs) (maxL := 4) (ret := (some .boolean)) (by decide) rfl ?_
  intro p e s m args below meth c s₁ B hml hv
  obtain ⟨rfl, hsz, hP, hK, hD0⟩ := hv
  have hx := B.exec
  have hb := B.bytes
  have hr := B.returns
  have hts := atoms_spec (ws := wsX0_lastIs) B.pre
  have hown : s.vm.findClass RX0 = some m.cls := findClass_of_methodNamed B.named
  have hlocks := B.notSynchronized
  subst hsz
  have hD := hD0.self (sz := s.heap.size)
  generalize hAe : va_A (RW cI q o a b u) s.heap.size = A at hD ⊢
  have hA : ∀ q : Nat, s.heap.size ≤ q → A q := fun q h => by rw [← hAe]; exact Or.inr h
  have hS : va_S A s.heap s.heap [] := va_S.rf
  replace hP : va_P D vwCl (RW cI q o a b u) s.heap := hP
  have hl := lv_entry ([.ref q, .int p1, .int p2]) (n := 4) (Nat.le_of_ble_eq_true rfl)
  rw [lg_entry_eq]
  generalize (lg_sl ([.ref q, .int p1, .int p2]) ++ List.replicate (4 - (lg_sl ([.ref q, .int p1, .int p2])).length) Slot.unset).toArray = ls at hl ⊢
  replace hl : lv_has ls 4 [(0, .ref q), (1, .int p1), (2, .int p2)] := hl
  have hk_21 := (hts _ (cwc _ mw_26))
  have hk_9 := (hts _ (cwc _ mw_23))
  have hk_18 := (hts _ (cwc _ mw_25))
  unfold F_Row_lastIs at hF
  refine (?_ : ∀ (H : Heap) (locs : List Loc), va_P D vwCl (RW cI q o a b u) H → va_S A s.heap H locs → W p l e _ s m _ below meth c H locs 0 0 _ (F0 m 0 ls [])) s.heap [] hP hS
  intro H locs hP hS
  refine lv_aload_n hx hb dX0_lastIs_0 rfl (lv_at hl 0 rfl) ?_
  refine va_get (D := D) (ci := 0) (v := .int u.2.2.2.1) (C := RX0) (T := TX0) (N := 5) hx hb hts (fun w h => cwc w (in_X0 w h)) hown hK hP 0 rfl rfl 3 (by decide) hk_21 (fun _ h9 => h9) rfl dX0_lastIs_1 ?_
  refine lv_iconst (v := (1 : Int32)) hx hb dX0_lastIs_4 (by decide +kernel) ?_
  refine lv_isub hx hb dX0_lastIs_5 ?_
  obtain ⟨v1, ev1, hF⟩ := nm_some hF
  refine W.eq (g2 := F0 m 6 ls (.int v1 :: [])) (congrArg (fun z => F0 m 6 ls (.int z :: [])) ev1.symm) ?_
  refine lv_istore_n (lv' := [(3, .int v1), (0, .ref q), (1, .int p1), (2, .int p2)]) hx hb dX0_lastIs_6 rfl hl (by decide) rfl (fun ls hl => ?_)
  refine lv_iload_n hx hb dX0_lastIs_7 rfl (lv_at hl 0 rfl) ?_
  refine lv_if_lt (tgt := 35) hx hb dX0_lastIs_8 (by decide) (fun c_2 => ?_) (fun c_2 => ?_)
  · replace hF := (if_pos c_2).symm.trans hF
    refine lv_iconst (v := (0 : Int32)) hx hb dX0_lastIs_35 (by decide +kernel) ?_
    cases hF
    refine W.widen (k := 0) (n := 0) (Nat.le_of_ble_eq_true rfl) (Nat.le_of_ble_eq_true rfl) ?_
    exact W.zret hx hb hr rfl (fun t ht hW => ⟨⟨_, _, rfl, ⟨rfl, rfl⟩, by rw [ht]; exact hP, va_K.moved hW.alike hK, hD⟩, hS.F ht⟩) hS.2.2 dX0_lastIs_36
  · replace hF := (if_neg c_2).symm.trans hF
    refine lv_aload_n hx hb dX0_lastIs_11 rfl (lv_at hl 1 rfl) ?_
    refine va_get (D := D) (ci := 0) (v := .ref o) (C := RX0) (T := TX0) (N := 5) hx hb hts (fun w h => cwc w (in_X0 w h)) hown hK hP 0 rfl rfl 0 (by decide) hk_9 (fun _ h9 => h9) rfl dX0_lastIs_12 ?_
    refine lv_iload_n hx hb dX0_lastIs_15 rfl (lv_at hl 0 rfl) ?_
    obtain ⟨h_3, hF⟩ := gd_some hF
    refine va_iald (f := u.1) hx hb hK hP 1 0 rfl rfl (inb_in h_3) dX0_lastIs_16 ?_
    refine lv_iload_n hx hb dX0_lastIs_17 rfl (lv_at hl 2 rfl) ?_
    refine lv_icmp_ne (tgt := 35) hx hb dX0_lastIs_18 (by decide) (fun c_4 => ?_) (fun c_4 => ?_)
    · replace hF := (if_neg c_4).symm.trans hF
      refine lv_iconst (v := (0 : Int32)) hx hb dX0_lastIs_35 (by decide +kernel) ?_
      cases hF
      refine W.widen (k := 0) (n := 0) (Nat.le_of_ble_eq_true rfl) (Nat.le_of_ble_eq_true rfl) ?_
      exact W.zret hx hb hr rfl (fun t ht hW => ⟨⟨_, _, rfl, ⟨rfl, rfl⟩, by rw [ht]; exact hP, va_K.moved hW.alike hK, hD⟩, hS.F ht⟩) hS.2.2 dX0_lastIs_36
    · replace hF := (if_pos c_4).symm.trans hF
      refine lv_aload_n hx hb dX0_lastIs_21 rfl (lv_at hl 1 rfl) ?_
      refine va_get (D := D) (ci := 0) (v := .ref b) (C := RX0) (T := TX0) (N := 5) hx hb hts (fun w h => cwc w (in_X0 w h)) hown hK hP 0 rfl rfl 2 (by decide) hk_18 (fun _ h9 => h9) rfl dX0_lastIs_22 ?_
      refine lv_iload_n hx hb dX0_lastIs_25 rfl (lv_at hl 0 rfl) ?_
      obtain ⟨h_5, hF⟩ := gd_some hF
      refine va_iald (f := u.2.2.1) hx hb hK hP 3 0 rfl rfl (inb_in h_5) dX0_lastIs_26 ?_
      refine lv_iload_n hx hb dX0_lastIs_27 rfl (lv_at hl 3 rfl) ?_
      refine lv_icmp_ne (tgt := 35) hx hb dX0_lastIs_28 (by decide) (fun c_6 => ?_) (fun c_6 => ?_)
      · replace hF := (if_neg c_6).symm.trans hF
        refine lv_iconst (v := (0 : Int32)) hx hb dX0_lastIs_35 (by decide +kernel) ?_
        cases hF
        refine W.widen (k := 0) (n := 0) (Nat.le_of_ble_eq_true rfl) (Nat.le_of_ble_eq_true rfl) ?_
        exact W.zret hx hb hr rfl (fun t ht hW => ⟨⟨_, _, rfl, ⟨rfl, rfl⟩, by rw [ht]; exact hP, va_K.moved hW.alike hK, hD⟩, hS.F ht⟩) hS.2.2 dX0_lastIs_36
      · replace hF := (if_pos c_6).symm.trans hF
        refine lv_iconst (v := (1 : Int32)) hx hb dX0_lastIs_31 (by decide +kernel) ?_
        refine lv_goto (tgt := 36) hx hb dX0_lastIs_32 (by decide) ?_
        cases hF
        refine W.widen (k := 0) (n := 0) (Nat.le_of_ble_eq_true rfl) (Nat.le_of_ble_eq_true rfl) ?_
        exact W.zret hx hb hr rfl (fun t ht hW => ⟨⟨_, _, rfl, ⟨rfl, rfl⟩, by rw [ht]; exact hP, va_K.moved hW.alike hK, hD⟩, hS.F ht⟩) hS.2.2 dX0_lastIs_36
def F_Row_putBehind (p1 : Int32) (p2 : Int32) (p3 : Int32) (u : RowS) : Option ((Unit) × RowS) := (if (0 : Int32) < p3 then (if (8 : Int32) ≤ u.2.2.2.1 then gd (inb (u.2.2.2.1 - (1 : Int32)) 8) (gd (inb (u.2.2.2.1 - (1 : Int32)) 8) (some ((), (u.1, (upd u.2.1 (u.2.2.2.1 - (1 : Int32)).toNatClampNeg ((u.2.1 (u.2.2.2.1 - (1 : Int32)).toNatClampNeg) + p3)), u.2.2.1, u.2.2.2.1, (u.2.2.2.2 + p3))))) else bi (F_Row_lastIs p1 p2 u) (fun r6 u5 => (if r6 = (0 : Int32) then gd (inb u.2.2.2.1 8) (gd (inb u.2.2.2.1 8) (gd (inb u.2.2.2.1 8) (gd (inb ((u.2.2.2.1 + (1 : Int32)) - (1 : Int32)) 8) (gd (inb ((u.2.2.2.1 + (1 : Int32)) - (1 : Int32)) 8) (some ((), ((upd u.1 u.2.2.2.1.toNatClampNeg p1), (upd (upd u.2.1 u.2.2.2.1.toNatClampNeg (0 : Int32)) ((u.2.2.2.1 + (1 : Int32)) - (1 : Int32)).toNatClampNeg (((upd u.2.1 u.2.2.2.1.toNatClampNeg (0 : Int32)) ((u.2.2.2.1 + (1 : Int32)) - (1 : Int32)).toNatClampNeg) + p3)), (upd u.2.2.1 u.2.2.2.1.toNatClampNeg p2), (u.2.2.2.1 + (1 : Int32)), (u.2.2.2.2 + p3)))))))) else gd (inb (u.2.2.2.1 - (1 : Int32)) 8) (gd (inb (u.2.2.2.1 - (1 : Int32)) 8) (some ((), (u.1, (upd u.2.1 (u.2.2.2.1 - (1 : Int32)).toNatClampNeg ((u.2.1 (u.2.2.2.1 - (1 : Int32)).toNatClampNeg) + p3)), u.2.2.1, u.2.2.2.1, (u.2.2.2.2 + p3)))))))) else some ((), u))
set_option maxHeartbeats 4000000 in
set_option maxRecDepth 100000 in
theorem c_Row_putBehind (l : Launch) (D : va_G) (cI cR : ClassId) (q o a b : Nat) (sz : Nat) (p1 : Int32) (p2 : Int32) (p3 : Int32) (u : RowS) (r : Unit) (u' : RowS) (hF : F_Row_putBehind p1 p2 p3 u = some (r, u')) : Met l yX0_putBehind wsX0_putBehind ({ frames := 1, cells := 0, slots := 0, locals := 23 }) (va_Pc [.ref q, .int p1, .int p2, .int p3] (PRE D (TY cI cR) (RW cI q o a b u) sz)) (QV D (TY cI cR) (va_A (RW cI q o a b u) sz) (fun v => RW cI q o a b v) u') 0 0 (va_A (RW cI q o a b u) sz) := by
  refine Met.ofW (cc := cX0_putBehind) (maxL := 4) (ret := none) (by decide) rfl ?_
  intro p e s m args below meth c s₁ B hml hv
  obtain ⟨rfl, hsz, hP, hK, hD0⟩ := hv
  have hx := B.exec
  have hb := B.bytes
  have hr := B.returns
  have hts := atoms_spec (ws := wsX0_putBehind) B.pre
  have hown : s.vm.findClass RX0 = some m.cls := findClass_of_methodNamed B.named
  have hlocks := B.notSynchronized
  subst hsz
  have hD := hD0.self (sz := s.heap.size)
  generalize hAe : va_A (RW cI q o a b u) s.heap.size = A at hD ⊢
  have hA : ∀ q : Nat, s.heap.size ≤ q → A q := fun q h => by rw [← hAe]; exact Or.inr h
  have hS : va_S A s.heap s.heap [] := va_S.rf
  replace hP : va_P D vwCl (RW cI q o a b u) s.heap := hP
  have hl := lv_entry ([.ref q, .int p1, .int p2, .int p3]) (n := 4) (Nat.le_of_ble_eq_true rfl)
  rw [lg_entry_eq]
  generalize (lg_sl ([.ref q, .int p1, .int p2, .int p3]) ++ List.replicate (4 - (lg_sl ([.ref q, .int p1, .int p2, .int p3])).length) Slot.unset).toArray = ls at hl ⊢
  replace hl : lv_has ls 4 [(0, .ref q), (1, .int p1), (2, .int p2), (3, .int p3)] := hl
  have hk_21 := (hts _ (cwc _ mw_26))
  have hk_15 := (hts _ (cwc _ mw_24))
  have hk_25 := (hts _ (cwc _ mw_27))
  have hk_9 := (hts _ (cwc _ mw_23))
  have hk_18 := (hts _ (cwc _ mw_25))
  unfold F_Row_putBehind at hF
  refine (?_ : ∀ (H : Heap) (locs : List Loc), va_P D vwCl (RW cI q o a b u) H → va_S A s.heap H locs → W p l e _ s m _ below meth c H locs 0 0 _ (F0 m 0 ls [])) s.heap [] hP hS
  intro H locs hP hS
  refine lv_iload_n hx hb dX0_putBehind_0 rfl (lv_at hl 3 rfl) ?_
  refine lv_if_gt (tgt := 5) hx hb dX0_putBehind_1 (by decide) (fun c_1 => ?_) (fun c_1 => ?_)
  · replace hF := (if_pos c_1).symm.trans hF
    refine lv_aload_n hx hb dX0_putBehind_5 rfl (lv_at hl 0 rfl) ?_
    refine va_get (D := D) (ci := 0) (v := .int u.2.2.2.1) (C := RX0) (T := TX0) (N := 5) hx hb hts (fun w h => cwc w (in_X0 w h)) hown hK hP 0 rfl rfl 3 (by decide) hk_21 (fun _ h9 => h9) rfl dX0_putBehind_6 ?_
    refine lv_bipush (v := (8 : Int32)) hx hb dX0_putBehind_9 (by decide +kernel) ?_
    refine lv_icmp_ge (tgt := 63) hx hb dX0_putBehind_11 (by decide) (fun c_2 => ?_) (fun c_2 => ?_)
    · replace hF := (if_pos c_2).symm.trans hF
      refine lv_aload_n hx hb dX0_putBehind_63 rfl (lv_at hl 0 rfl) ?_
      refine va_get (D := D) (ci := 0) (v := .ref a) (C := RX0) (T := TX0) (N := 5) hx hb hts (fun w h => cwc w (in_X0 w h)) hown hK hP 0 rfl rfl 1 (by decide) hk_15 (fun _ h9 => h9) rfl dX0_putBehind_64 ?_
      refine lv_aload_n hx hb dX0_putBehind_67 rfl (lv_at hl 0 rfl) ?_
      refine va_get (D := D) (ci := 0) (v := .int u.2.2.2.1) (C := RX0) (T := TX0) (N := 5) hx hb hts (fun w h => cwc w (in_X0 w h)) hown hK hP 0 rfl rfl 3 (by decide) hk_21 (fun _ h9 => h9) rfl dX0_putBehind_68 ?_
      refine lv_iconst (v := (1 : Int32)) hx hb dX0_putBehind_71 (by decide +kernel) ?_
      refine lv_isub hx hb dX0_putBehind_72 ?_
      refine lv_dup2_11 hx hb dX0_putBehind_73 rfl rfl ?_
      obtain ⟨h_3, hF⟩ := gd_some hF
      refine va_iald (f := u.2.1) hx hb hK hP 2 0 rfl rfl (inb_in h_3) dX0_putBehind_74 ?_
      refine lv_iload_n hx hb dX0_putBehind_75 rfl (lv_at hl 3 rfl) ?_
      refine lv_iadd hx hb dX0_putBehind_76 ?_
      obtain ⟨h_4, hF⟩ := gd_some hF
      refine va_iast (f := u.2.1) hx hb hK hP hD hS 2 0 rfl rfl (inb_in h_4) dX0_putBehind_77 (fun H locs hP hD hS => ?_)
      replace hP : va_P D vwCl (RW cI q o a b (u.1, (upd u.2.1 (u.2.2.2.1 - (1 : Int32)).toNatClampNeg ((u.2.1 (u.2.2.2.1 - (1 : Int32)).toNatClampNeg) + p3)), u.2.2.1, u.2.2.2.1, u.2.2.2.2)) H := hP
      replace hD : va_D A (RW cI q o a b (u.1, (upd u.2.1 (u.2.2.2.1 - (1 : Int32)).toNatClampNeg ((u.2.1 (u.2.2.2.1 - (1 : Int32)).toNatClampNeg) + p3)), u.2.2.1, u.2.2.2.1, u.2.2.2.2)) := hD
      refine lv_aload_n hx hb dX0_putBehind_78 rfl (lv_at hl 0 rfl) ?_
      refine lv_dup hx hb dX0_putBehind_79 rfl ?_
      refine va_get (D := D) (ci := 0) (v := .int u.2.2.2.2) (C := RX0) (T := TX0) (N := 5) hx hb hts (fun w h => cwc w (in_X0 w h)) hown hK hP 0 rfl rfl 4 (by decide) hk_25 (fun _ h9 => h9) rfl dX0_putBehind_80 ?_
      refine lv_iload_n hx hb dX0_putBehind_83 rfl (lv_at hl 3 rfl) ?_
      refine lv_iadd hx hb dX0_putBehind_84 ?_
      refine va_put (D := D) (ci := 0) (v := .int (u.2.2.2.2 + p3)) (ty := .int) (C := RX0) (T := TX0) (N := 5) hx hb hts (fun w h => cwc w (in_X0 w h)) tyX0 tyX0_ok nmX0 hown hK hP hD hS 0 rfl rfl 4 (by decide) hk_25 (fun _ h9 => h9) rfl (by decide +kernel) rfl rfl (Nat.le_of_ble_eq_true rfl) dX0_putBehind_85 (fun H locs hP hD hS => ?_)
      replace hP : va_P D vwCl (RW cI q o a b (u.1, (upd u.2.1 (u.2.2.2.1 - (1 : Int32)).toNatClampNeg ((u.2.1 (u.2.2.2.1 - (1 : Int32)).toNatClampNeg) + p3)), u.2.2.1, u.2.2.2.1, (u.2.2.2.2 + p3))) H := hP
      replace hD : va_D A (RW cI q o a b (u.1, (upd u.2.1 (u.2.2.2.1 - (1 : Int32)).toNatClampNeg ((u.2.1 (u.2.2.2.1 - (1 : Int32)).toNatClampNeg) + p3)), u.2.2.1, u.2.2.2.1, (u.2.2.2.2 + p3))) := hD
      cases hF
      refine W.widen (k := 0) (n := 0) (Nat.le_of_ble_eq_true rfl) (Nat.le_of_ble_eq_true rfl) ?_
      exact W.vret hx hb hr (fun t ht hW => ⟨⟨_, rfl, rfl, by rw [ht]; exact hP, va_K.moved hW.alike hK, hD⟩, hS.F ht⟩) hS.2.2 dX0_putBehind_88
    · replace hF := (if_neg c_2).symm.trans hF
      refine lv_aload_n hx hb dX0_putBehind_14 rfl (lv_at hl 0 rfl) ?_
      refine lv_iload_n hx hb dX0_putBehind_15 rfl (lv_at hl 1 rfl) ?_
      refine lv_iload_n hx hb dX0_putBehind_16 rfl (lv_at hl 2 rfl) ?_
      obtain ⟨r6, u5, hc_7, hF⟩ := bi_some hF
      refine kc_i (W1 := RW cI q o a b u) (va_runV (As := [.int p1, .int p2]) (rest := []) ⟨hx, hb, hml, hown, hts⟩ (c_Row_lastIs l D cI cR q o a b H.size p1 p2 u r6 u5 hc_7) (cwV 2 hts (gV cwc mw_247 mw_248 mw_479 mw_2 mw_249) rfl rfl rfl (by decide +kernel) ⟨(Nat.le_of_ble_eq_true rfl), (Nat.le_of_ble_eq_true rfl)⟩) (kp_V (ci := 0) (q := (RX0, TX0, 5)) hK hP hD (sb_id _) rfl rfl) rfl rfl hl.1 rfl (lv_room (Nat.le_of_ble_eq_true rfl)) dX0_putBehind_17 ⟨(Nat.le_of_ble_eq_true rfl), (Nat.le_of_ble_eq_true rfl)⟩) hP hD hS hA (sb_id _) (jn_same (sb_id _)) (fun H locs hP hD hS => ?_)
      refine lv_if_ne (tgt := 63) hx hb dX0_putBehind_20 (by decide) (fun c_8 => ?_) (fun c_8 => ?_)
      · replace hF := (if_neg c_8).symm.trans hF
        refine lv_aload_n hx hb dX0_putBehind_63 rfl (lv_at hl 0 rfl) ?_
        refine va_get (D := D) (ci := 0) (v := .ref a) (C := RX0) (T := TX0) (N := 5) hx hb hts (fun w h => cwc w (in_X0 w h)) hown hK hP 0 rfl rfl 1 (by decide) hk_15 (fun _ h9 => h9) rfl dX0_putBehind_64 ?_
        refine lv_aload_n hx hb dX0_putBehind_67 rfl (lv_at hl 0 rfl) ?_
        refine va_get (D := D) (ci := 0) (v := .int u.2.2.2.1) (C := RX0) (T := TX0) (N := 5) hx hb hts (fun w h => cwc w (in_X0 w h)) hown hK hP 0 rfl rfl 3 (by decide) hk_21 (fun _ h9 => h9) rfl dX0_putBehind_68 ?_
        refine lv_iconst (v := (1 : Int32)) hx hb dX0_putBehind_71 (by decide +kernel) ?_
        refine lv_isub hx hb dX0_putBehind_72 ?_
        refine lv_dup2_11 hx hb dX0_putBehind_73 rfl rfl ?_
        obtain ⟨h_9, hF⟩ := gd_some hF
        refine va_iald (f := u.2.1) hx hb hK hP 2 0 rfl rfl (inb_in h_9) dX0_putBehind_74 ?_
        refine lv_iload_n hx hb dX0_putBehind_75 rfl (lv_at hl 3 rfl) ?_
        refine lv_iadd hx hb dX0_putBehind_76 ?_
        obtain ⟨h_10, hF⟩ := gd_some hF
        refine va_iast (f := u.2.1) hx hb hK hP hD hS 2 0 rfl rfl (inb_in h_10) dX0_putBehind_77 (fun H locs hP hD hS => ?_)
        replace hP : va_P D vwCl (RW cI q o a b (u.1, (upd u.2.1 (u.2.2.2.1 - (1 : Int32)).toNatClampNeg ((u.2.1 (u.2.2.2.1 - (1 : Int32)).toNatClampNeg) + p3)), u.2.2.1, u.2.2.2.1, u.2.2.2.2)) H := hP
        replace hD : va_D A (RW cI q o a b (u.1, (upd u.2.1 (u.2.2.2.1 - (1 : Int32)).toNatClampNeg ((u.2.1 (u.2.2.2.1 - (1 : Int32)).toNatClampNeg) + p3)), u.2.2.1, u.2.2.2.1, u.2.2.2.2)) := hD
        refine lv_aload_n hx hb dX0_putBehind_78 rfl (lv_at hl 0 rfl) ?_
        refine lv_dup hx hb dX0_putBehind_79 rfl ?_
        refine va_get (D := D) (ci := 0) (v := .int u.2.2.2.2) (C := RX0) (T := TX0) (N := 5) hx hb hts (fun w h => cwc w (in_X0 w h)) hown hK hP 0 rfl rfl 4 (by decide) hk_25 (fun _ h9 => h9) rfl dX0_putBehind_80 ?_
        refine lv_iload_n hx hb dX0_putBehind_83 rfl (lv_at hl 3 rfl) ?_
        refine lv_iadd hx hb dX0_putBehind_84 ?_
        refine va_put (D := D) (ci := 0) (v := .int (u.2.2.2.2 + p3)) (ty := .int) (C := RX0) (T := TX0) (N := 5) hx hb hts (fun w h => cwc w (in_X0 w h)) tyX0 tyX0_ok nmX0 hown hK hP hD hS 0 rfl rfl 4 (by decide) hk_25 (fun _ h9 => h9) rfl (by decide +kernel) rfl rfl (Nat.le_of_ble_eq_true rfl) dX0_putBehind_85 (fun H locs hP hD hS => ?_)
        replace hP : va_P D vwCl (RW cI q o a b (u.1, (upd u.2.1 (u.2.2.2.1 - (1 : Int32)).toNatClampNeg ((u.2.1 (u.2.2.2.1 - (1 : Int32)).toNatClampNeg) + p3)), u.2.2.1, u.2.2.2.1, (u.2.2.2.2 + p3))) H := hP
        replace hD : va_D A (RW cI q o a b (u.1, (upd u.2.1 (u.2.2.2.1 - (1 : Int32)).toNatClampNeg ((u.2.1 (u.2.2.2.1 - (1 : Int32)).toNatClampNeg) + p3)), u.2.2.1, u.2.2.2.1, (u.2.2.2.2 + p3))) := hD
        cases hF
        refine W.widen (k := 0) (n := 0) (Nat.le_of_ble_eq_true rfl) (Nat.le_of_ble_eq_true rfl) ?_
        exact W.vret hx hb hr (fun t ht hW => ⟨⟨_, rfl, rfl, by rw [ht]; exact hP, va_K.moved hW.alike hK, hD⟩, hS.F ht⟩) hS.2.2 dX0_putBehind_88
      · replace hF := (if_pos c_8).symm.trans hF
        refine lv_aload_n hx hb dX0_putBehind_23 rfl (lv_at hl 0 rfl) ?_
        refine va_get (D := D) (ci := 0) (v := .ref o) (C := RX0) (T := TX0) (N := 5) hx hb hts (fun w h => cwc w (in_X0 w h)) hown hK hP 0 rfl rfl 0 (by decide) hk_9 (fun _ h9 => h9) rfl dX0_putBehind_24 ?_
        refine lv_aload_n hx hb dX0_putBehind_27 rfl (lv_at hl 0 rfl) ?_
        refine va_get (D := D) (ci := 0) (v := .int u.2.2.2.1) (C := RX0) (T := TX0) (N := 5) hx hb hts (fun w h => cwc w (in_X0 w h)) hown hK hP 0 rfl rfl 3 (by decide) hk_21 (fun _ h9 => h9) rfl dX0_putBehind_28 ?_
        refine lv_iload_n hx hb dX0_putBehind_31 rfl (lv_at hl 1 rfl) ?_
        obtain ⟨h_11, hF⟩ := gd_some hF
        refine va_iast (f := u.1) hx hb hK hP hD hS 1 0 rfl rfl (inb_in h_11) dX0_putBehind_32 (fun H locs hP hD hS => ?_)
        replace hP : va_P D vwCl (RW cI q o a b ((upd u.1 u.2.2.2.1.toNatClampNeg p1), u.2.1, u.2.2.1, u.2.2.2.1, u.2.2.2.2)) H := hP
        replace hD : va_D A (RW cI q o a b ((upd u.1 u.2.2.2.1.toNatClampNeg p1), u.2.1, u.2.2.1, u.2.2.2.1, u.2.2.2.2)) := hD
        refine lv_aload_n hx hb dX0_putBehind_33 rfl (lv_at hl 0 rfl) ?_
        refine va_get (D := D) (ci := 0) (v := .ref b) (C := RX0) (T := TX0) (N := 5) hx hb hts (fun w h => cwc w (in_X0 w h)) hown hK hP 0 rfl rfl 2 (by decide) hk_18 (fun _ h9 => h9) rfl dX0_putBehind_34 ?_
        refine lv_aload_n hx hb dX0_putBehind_37 rfl (lv_at hl 0 rfl) ?_
        refine va_get (D := D) (ci := 0) (v := .int u.2.2.2.1) (C := RX0) (T := TX0) (N := 5) hx hb hts (fun w h => cwc w (in_X0 w h)) hown hK hP 0 rfl rfl 3 (by decide) hk_21 (fun _ h9 => h9) rfl dX0_putBehind_38 ?_
        refine lv_iload_n hx hb dX0_putBehind_41 rfl (lv_at hl 2 rfl) ?_
        obtain ⟨h_12, hF⟩ := gd_some hF
        refine va_iast (f := u.2.2.1) hx hb hK hP hD hS 3 0 rfl rfl (inb_in h_12) dX0_putBehind_42 (fun H locs hP hD hS => ?_)
        replace hP : va_P D vwCl (RW cI q o a b ((upd u.1 u.2.2.2.1.toNatClampNeg p1), u.2.1, (upd u.2.2.1 u.2.2.2.1.toNatClampNeg p2), u.2.2.2.1, u.2.2.2.2)) H := hP
        replace hD : va_D A (RW cI q o a b ((upd u.1 u.2.2.2.1.toNatClampNeg p1), u.2.1, (upd u.2.2.1 u.2.2.2.1.toNatClampNeg p2), u.2.2.2.1, u.2.2.2.2)) := hD
        refine lv_aload_n hx hb dX0_putBehind_43 rfl (lv_at hl 0 rfl) ?_
        refine va_get (D := D) (ci := 0) (v := .ref a) (C := RX0) (T := TX0) (N := 5) hx hb hts (fun w h => cwc w (in_X0 w h)) hown hK hP 0 rfl rfl 1 (by decide) hk_15 (fun _ h9 => h9) rfl dX0_putBehind_44 ?_
        refine lv_aload_n hx hb dX0_putBehind_47 rfl (lv_at hl 0 rfl) ?_
        refine va_get (D := D) (ci := 0) (v := .int u.2.2.2.1) (C := RX0) (T := TX0) (N := 5) hx hb hts (fun w h => cwc w (in_X0 w h)) hown hK hP 0 rfl rfl 3 (by decide) hk_21 (fun _ h9 => h9) rfl dX0_putBehind_48 ?_
        refine lv_iconst (v := (0 : Int32)) hx hb dX0_putBehind_51 (by decide +kernel) ?_
        obtain ⟨h_13, hF⟩ := gd_some hF
        refine va_iast (f := u.2.1) hx hb hK hP hD hS 2 0 rfl rfl (inb_in h_13) dX0_putBehind_52 (fun H locs hP hD hS => ?_)
        replace hP : va_P D vwCl (RW cI q o a b ((upd u.1 u.2.2.2.1.toNatClampNeg p1), (upd u.2.1 u.2.2.2.1.toNatClampNeg (0 : Int32)), (upd u.2.2.1 u.2.2.2.1.toNatClampNeg p2), u.2.2.2.1, u.2.2.2.2)) H := hP
        replace hD : va_D A (RW cI q o a b ((upd u.1 u.2.2.2.1.toNatClampNeg p1), (upd u.2.1 u.2.2.2.1.toNatClampNeg (0 : Int32)), (upd u.2.2.1 u.2.2.2.1.toNatClampNeg p2), u.2.2.2.1, u.2.2.2.2)) := hD
        refine lv_aload_n hx hb dX0_putBehind_53 rfl (lv_at hl 0 rfl) ?_
        refine lv_dup hx hb dX0_putBehind_54 rfl ?_
        refine va_get (D := D) (ci := 0) (v := .int u.2.2.2.1) (C := RX0) (T := TX0) (N := 5) hx hb hts (fun w h => cwc w (in_X0 w h)) hown hK hP 0 rfl rfl 3 (by decide) hk_21 (fun _ h9 => h9) rfl dX0_putBehind_55 ?_
        refine lv_iconst (v := (1 : Int32)) hx hb dX0_putBehind_58 (by decide +kernel) ?_
        refine lv_iadd hx hb dX0_putBehind_59 ?_
        refine va_put (D := D) (ci := 0) (v := .int (u.2.2.2.1 + (1 : Int32))) (ty := .int) (C := RX0) (T := TX0) (N := 5) hx hb hts (fun w h => cwc w (in_X0 w h)) tyX0 tyX0_ok nmX0 hown hK hP hD hS 0 rfl rfl 3 (by decide) hk_21 (fun _ h9 => h9) rfl (by decide +kernel) rfl rfl (Nat.le_of_ble_eq_true rfl) dX0_putBehind_60 (fun H locs hP hD hS => ?_)
        replace hP : va_P D vwCl (RW cI q o a b ((upd u.1 u.2.2.2.1.toNatClampNeg p1), (upd u.2.1 u.2.2.2.1.toNatClampNeg (0 : Int32)), (upd u.2.2.1 u.2.2.2.1.toNatClampNeg p2), (u.2.2.2.1 + (1 : Int32)), u.2.2.2.2)) H := hP
        replace hD : va_D A (RW cI q o a b ((upd u.1 u.2.2.2.1.toNatClampNeg p1), (upd u.2.1 u.2.2.2.1.toNatClampNeg (0 : Int32)), (upd u.2.2.1 u.2.2.2.1.toNatClampNeg p2), (u.2.2.2.1 + (1 : Int32)), u.2.2.2.2)) := hD
        refine lv_aload_n hx hb dX0_putBehind_63 rfl (lv_at hl 0 rfl) ?_
        refine va_get (D := D) (ci := 0) (v := .ref a) (C := RX0) (T := TX0) (N := 5) hx hb hts (fun w h => cwc w (in_X0 w h)) hown hK hP 0 rfl rfl 1 (by decide) hk_15 (fun _ h9 => h9) rfl dX0_putBehind_64 ?_
        refine lv_aload_n hx hb dX0_putBehind_67 rfl (lv_at hl 0 rfl) ?_
        refine va_get (D := D) (ci := 0) (v := .int (u.2.2.2.1 + (1 : Int32))) (C := RX0) (T := TX0) (N := 5) hx hb hts (fun w h => cwc w (in_X0 w h)) hown hK hP 0 rfl rfl 3 (by decide) hk_21 (fun _ h9 => h9) rfl dX0_putBehind_68 ?_
        refine lv_iconst (v := (1 : Int32)) hx hb dX0_putBehind_71 (by decide +kernel) ?_
        refine lv_isub hx hb dX0_putBehind_72 ?_
        refine lv_dup2_11 hx hb dX0_putBehind_73 rfl rfl ?_
        obtain ⟨h_14, hF⟩ := gd_some hF
        refine va_iald (f := (upd u.2.1 u.2.2.2.1.toNatClampNeg (0 : Int32))) hx hb hK hP 2 0 rfl rfl (inb_in h_14) dX0_putBehind_74 ?_
        refine lv_iload_n hx hb dX0_putBehind_75 rfl (lv_at hl 3 rfl) ?_
        refine lv_iadd hx hb dX0_putBehind_76 ?_
        obtain ⟨h_15, hF⟩ := gd_some hF
        refine va_iast (f := (upd u.2.1 u.2.2.2.1.toNatClampNeg (0 : Int32))) hx hb hK hP hD hS 2 0 rfl rfl (inb_in h_15) dX0_putBehind_77 (fun H locs hP hD hS => ?_)
        replace hP : va_P D vwCl (RW cI q o a b ((upd u.1 u.2.2.2.1.toNatClampNeg p1), (upd (upd u.2.1 u.2.2.2.1.toNatClampNeg (0 : Int32)) ((u.2.2.2.1 + (1 : Int32)) - (1 : Int32)).toNatClampNeg (((upd u.2.1 u.2.2.2.1.toNatClampNeg (0 : Int32)) ((u.2.2.2.1 + (1 : Int32)) - (1 : Int32)).toNatClampNeg) + p3)), (upd u.2.2.1 u.2.2.2.1.toNatClampNeg p2), (u.2.2.2.1 + (1 : Int32)), u.2.2.2.2)) H := hP
        replace hD : va_D A (RW cI q o a b ((upd u.1 u.2.2.2.1.toNatClampNeg p1), (upd (upd u.2.1 u.2.2.2.1.toNatClampNeg (0 : Int32)) ((u.2.2.2.1 + (1 : Int32)) - (1 : Int32)).toNatClampNeg (((upd u.2.1 u.2.2.2.1.toNatClampNeg (0 : Int32)) ((u.2.2.2.1 + (1 : Int32)) - (1 : Int32)).toNatClampNeg) + p3)), (upd u.2.2.1 u.2.2.2.1.toNatClampNeg p2), (u.2.2.2.1 + (1 : Int32)), u.2.2.2.2)) := hD
        refine lv_aload_n hx hb dX0_putBehind_78 rfl (lv_at hl 0 rfl) ?_
        refine lv_dup hx hb dX0_putBehind_79 rfl ?_
        refine va_get (D := D) (ci := 0) (v := .int u.2.2.2.2) (C := RX0) (T := TX0) (N := 5) hx hb hts (fun w h => cwc w (in_X0 w h)) hown hK hP 0 rfl rfl 4 (by decide) hk_25 (fun _ h9 => h9) rfl dX0_putBehind_80 ?_
        refine lv_iload_n hx hb dX0_putBehind_83 rfl (lv_at hl 3 rfl) ?_
        refine lv_iadd hx hb dX0_putBehind_84 ?_
        refine va_put (D := D) (ci := 0) (v := .int (u.2.2.2.2 + p3)) (ty := .int) (C := RX0) (T := TX0) (N := 5) hx hb hts (fun w h => cwc w (in_X0 w h)) tyX0 tyX0_ok nmX0 hown hK hP hD hS 0 rfl rfl 4 (by decide) hk_25 (fun _ h9 => h9) rfl (by decide +kernel) rfl rfl (Nat.le_of_ble_eq_true rfl) dX0_putBehind_85 (fun H locs hP hD hS => ?_)
        replace hP : va_P D vwCl (RW cI q o a b ((upd u.1 u.2.2.2.1.toNatClampNeg p1), (upd (upd u.2.1 u.2.2.2.1.toNatClampNeg (0 : Int32)) ((u.2.2.2.1 + (1 : Int32)) - (1 : Int32)).toNatClampNeg (((upd u.2.1 u.2.2.2.1.toNatClampNeg (0 : Int32)) ((u.2.2.2.1 + (1 : Int32)) - (1 : Int32)).toNatClampNeg) + p3)), (upd u.2.2.1 u.2.2.2.1.toNatClampNeg p2), (u.2.2.2.1 + (1 : Int32)), (u.2.2.2.2 + p3))) H := hP
        replace hD : va_D A (RW cI q o a b ((upd u.1 u.2.2.2.1.toNatClampNeg p1), (upd (upd u.2.1 u.2.2.2.1.toNatClampNeg (0 : Int32)) ((u.2.2.2.1 + (1 : Int32)) - (1 : Int32)).toNatClampNeg (((upd u.2.1 u.2.2.2.1.toNatClampNeg (0 : Int32)) ((u.2.2.2.1 + (1 : Int32)) - (1 : Int32)).toNatClampNeg) + p3)), (upd u.2.2.1 u.2.2.2.1.toNatClampNeg p2), (u.2.2.2.1 + (1 : Int32)), (u.2.2.2.2 + p3))) := hD
        cases hF
        refine W.widen (k := 0) (n := 0) (Nat.le_of_ble_eq_true rfl) (Nat.le_of_ble_eq_true rfl) ?_
        exact W.vret hx hb hr (fun t ht hW => ⟨⟨_, rfl, rfl, by rw [ht]; exact hP, va_K.moved hW.alike hK, hD⟩, hS.F ht⟩) hS.2.2 dX0_putBehind_88
  · replace hF := (if_neg c_1).symm.trans hF
    cases hF
    refine W.widen (k := 0) (n := 0) (Nat.le_of_ble_eq_true rfl) (Nat.le_of_ble_eq_true rfl) ?_
    exact W.vret hx hb hr (fun t ht hW => ⟨⟨_, rfl, rfl, by rw [ht]; exact hP, va_K.moved hW.alike hK, hD⟩, hS.F ht⟩) hS.2.2 dX0_putBehind_4
def F_Row_dropFirst_L2 : Nat → Int32 → RowS → Option ((Unit) × RowS)
  | 0, _, _ => none
  | n + 1, x1, u => (if u.2.2.2.1 ≤ x1 then some ((), (u.1, u.2.1, u.2.2.1, (u.2.2.2.1 - (1 : Int32)), u.2.2.2.2)) else gd (inb x1 8) (gd (inb (x1 - (1 : Int32)) 8) (gd (inb x1 8) (gd (inb (x1 - (1 : Int32)) 8) (gd (inb x1 8) (gd (inb (x1 - (1 : Int32)) 8) (F_Row_dropFirst_L2 n (x1 + (1 : Int32)) ((upd u.1 (x1 - (1 : Int32)).toNatClampNeg (u.1 x1.toNatClampNeg)), (upd u.2.1 (x1 - (1 : Int32)).toNatClampNeg (u.2.1 x1.toNatClampNeg)), (upd u.2.2.1 (x1 - (1 : Int32)).toNatClampNeg (u.2.2.1 x1.toNatClampNeg)), u.2.2.2.1, u.2.2.2.2))))))))
def F_Row_dropFirst  (u : RowS) : Option ((Unit) × RowS) := F_Row_dropFirst_L2 9 (1 : Int32) u
set_option maxHeartbeats 4000000 in
set_option maxRecDepth 100000 in
theorem w_Row_dropFirst_L2 {p : Program} {l : Launch} {e : Env} {s : State} {m : MethodId} {args : Array Value} {below : List Frame} {meth : Method} {c : Code} {A : Nat → Prop} {D : va_G} {cI cR : ClassId} {q o a b : Nat} (hx : p.tables.exec = Jvm.exec) (hb : c.code = cX0_dropFirst) (hr : meth.sig.returnType = none) (hml : c.maxLocals = 2) (hown : s.vm.findClass RX0 = some m.cls) (hts : ∀ w ∈ wsX0_dropFirst, w.before args s = true) (hlocks : meth.locks = false) (hA : ∀ q : Nat, s.heap.size ≤ q → A q) (hK : va_K D vwCl (TY cI cR) s) : ∀ (n : Nat) (x1 : Int32) (u : RowS) (r : Unit) (u' : RowS), F_Row_dropFirst_L2 n x1 u = some (r, u') → ∀ (H : Heap) (locs : List Loc) (ls : Array Slot), va_P D vwCl (RW cI q o a b u) H → va_D A (RW cI q o a b u) → va_S A s.heap H locs → lv_has ls 2 [(0, .ref q), (1, .int x1)] → W p l e (headSpec wsX0_dropFirst ({ frames := 0, cells := 0, slots := 0, locals := 0 })).room s m args below meth c H locs 0 0 (MQ below (QV D (TY cI cR) A (fun v => RW cI q o a b v) u') args s 0 0 A) (F0 m 2 ls []) := by
  have hk_21 := (hts _ (cwc _ mw_26))
  have hk_9 := (hts _ (cwc _ mw_23))
  have hk_15 := (hts _ (cwc _ mw_24))
  have hk_18 := (hts _ (cwc _ mw_25))
  intro n
  induction n with
  | zero =>
    intro x1 u r u' hF
    rw [F_Row_dropFirst_L2] at hF
    exact absurd hF (by simp)
  | succ n ih =>
    intro x1 u r u' hF H locs ls hP hD hS hl
    rw [F_Row_dropFirst_L2] at hF
    refine lv_iload_n hx hb dX0_dropFirst_2 rfl (lv_at hl 1 rfl) ?_
    refine lv_aload_n hx hb dX0_dropFirst_3 rfl (lv_at hl 0 rfl) ?_
    refine va_get (D := D) (ci := 0) (v := .int u.2.2.2.1) (C := RX0) (T := TX0) (N := 5) hx hb hts (fun w h => cwc w (in_X0 w h)) hown hK hP 0 rfl rfl 3 (by decide) hk_21 (fun _ h9 => h9) rfl dX0_dropFirst_4 ?_
    refine lv_icmp_ge (tgt := 58) hx hb dX0_dropFirst_7 (by decide) (fun c_1 => ?_) (fun c_1 => ?_)
    · replace hF := (if_pos c_1).symm.trans hF
      refine lv_aload_n hx hb dX0_dropFirst_58 rfl (lv_at hl 0 rfl) ?_
      refine lv_dup hx hb dX0_dropFirst_59 rfl ?_
      refine va_get (D := D) (ci := 0) (v := .int u.2.2.2.1) (C := RX0) (T := TX0) (N := 5) hx hb hts (fun w h => cwc w (in_X0 w h)) hown hK hP 0 rfl rfl 3 (by decide) hk_21 (fun _ h9 => h9) rfl dX0_dropFirst_60 ?_
      refine lv_iconst (v := (1 : Int32)) hx hb dX0_dropFirst_63 (by decide +kernel) ?_
      refine lv_isub hx hb dX0_dropFirst_64 ?_
      refine va_put (D := D) (ci := 0) (v := .int (u.2.2.2.1 - (1 : Int32))) (ty := .int) (C := RX0) (T := TX0) (N := 5) hx hb hts (fun w h => cwc w (in_X0 w h)) tyX0 tyX0_ok nmX0 hown hK hP hD hS 0 rfl rfl 3 (by decide) hk_21 (fun _ h9 => h9) rfl (by decide +kernel) rfl rfl (Nat.le_of_ble_eq_true rfl) dX0_dropFirst_65 (fun H locs hP hD hS => ?_)
      replace hP : va_P D vwCl (RW cI q o a b (u.1, u.2.1, u.2.2.1, (u.2.2.2.1 - (1 : Int32)), u.2.2.2.2)) H := hP
      replace hD : va_D A (RW cI q o a b (u.1, u.2.1, u.2.2.1, (u.2.2.2.1 - (1 : Int32)), u.2.2.2.2)) := hD
      cases hF
      refine W.widen (k := 0) (n := 0) (Nat.le_of_ble_eq_true rfl) (Nat.le_of_ble_eq_true rfl) ?_
      exact W.vret hx hb hr (fun t ht hW => ⟨⟨_, rfl, rfl, by rw [ht]; exact hP, va_K.moved hW.alike hK, hD⟩, hS.F ht⟩) hS.2.2 dX0_dropFirst_68
    · replace hF := (if_neg c_1).symm.trans hF
      refine lv_aload_n hx hb dX0_dropFirst_10 rfl (lv_at hl 0 rfl) ?_
      refine va_get (D := D) (ci := 0) (v := .ref o) (C := RX0) (T := TX0) (N := 5) hx hb hts (fun w h => cwc w (in_X0 w h)) hown hK hP 0 rfl rfl 0 (by decide) hk_9 (fun _ h9 => h9) rfl dX0_dropFirst_11 ?_
      refine lv_iload_n hx hb dX0_dropFirst_14 rfl (lv_at hl 1 rfl) ?_
      refine lv_iconst (v := (1 : Int32)) hx hb dX0_dropFirst_15 (by decide +kernel) ?_
      refine lv_isub hx hb dX0_dropFirst_16 ?_
      refine lv_aload_n hx hb dX0_dropFirst_17 rfl (lv_at hl 0 rfl) ?_
      refine va_get (D := D) (ci := 0) (v := .ref o) (C := RX0) (T := TX0) (N := 5) hx hb hts (fun w h => cwc w (in_X0 w h)) hown hK hP 0 rfl rfl 0 (by decide) hk_9 (fun _ h9 => h9) rfl dX0_dropFirst_18 ?_
      refine lv_iload_n hx hb dX0_dropFirst_21 rfl (lv_at hl 1 rfl) ?_
      obtain ⟨h_2, hF⟩ := gd_some hF
      refine va_iald (f := u.1) hx hb hK hP 1 0 rfl rfl (inb_in h_2) dX0_dropFirst_22 ?_
      obtain ⟨h_3, hF⟩ := gd_some hF
      refine va_iast (f := u.1) hx hb hK hP hD hS 1 0 rfl rfl (inb_in h_3) dX0_dropFirst_23 (fun H locs hP hD hS => ?_)
      replace hP : va_P D vwCl (RW cI q o a b ((upd u.1 (x1 - (1 : Int32)).toNatClampNeg (u.1 x1.toNatClampNeg)), u.2.1, u.2.2.1, u.2.2.2.1, u.2.2.2.2)) H := hP
      replace hD : va_D A (RW cI q o a b ((upd u.1 (x1 - (1 : Int32)).toNatClampNeg (u.1 x1.toNatClampNeg)), u.2.1, u.2.2.1, u.2.2.2.1, u.2.2.2.2)) := hD
      refine lv_aload_n hx hb dX0_dropFirst_24 rfl (lv_at hl 0 rfl) ?_
      refine va_get (D := D) (ci := 0) (v := .ref a) (C := RX0) (T := TX0) (N := 5) hx hb hts (fun w h => cwc w (in_X0 w h)) hown hK hP 0 rfl rfl 1 (by decide) hk_15 (fun _ h9 => h9) rfl dX0_dropFirst_25 ?_
      refine lv_iload_n hx hb dX0_dropFirst_28 rfl (lv_at hl 1 rfl) ?_
      refine lv_iconst (v := (1 : Int32)) hx hb dX0_dropFirst_29 (by decide +kernel) ?_
      refine lv_isub hx hb dX0_dropFirst_30 ?_
      refine lv_aload_n hx hb dX0_dropFirst_31 rfl (lv_at hl 0 rfl) ?_
      refine va_get (D := D) (ci := 0) (v := .ref a) (C := RX0) (T := TX0) (N := 5) hx hb hts (fun w h => cwc w (in_X0 w h)) hown hK hP 0 rfl rfl 1 (by decide) hk_15 (fun _ h9 => h9) rfl dX0_dropFirst_32 ?_
      refine lv_iload_n hx hb dX0_dropFirst_35 rfl (lv_at hl 1 rfl) ?_
      obtain ⟨h_4, hF⟩ := gd_some hF
      refine va_iald (f := u.2.1) hx hb hK hP 2 0 rfl rfl (inb_in h_4) dX0_dropFirst_36 ?_
      obtain ⟨h_5, hF⟩ := gd_some hF
      refine va_iast (f := u.2.1) hx hb hK hP hD hS 2 0 rfl rfl (inb_in h_5) dX0_dropFirst_37 (fun H locs hP hD hS => ?_)
      replace hP : va_P D vwCl (RW cI q o a b ((upd u.1 (x1 - (1 : Int32)).toNatClampNeg (u.1 x1.toNatClampNeg)), (upd u.2.1 (x1 - (1 : Int32)).toNatClampNeg (u.2.1 x1.toNatClampNeg)), u.2.2.1, u.2.2.2.1, u.2.2.2.2)) H := hP
      replace hD : va_D A (RW cI q o a b ((upd u.1 (x1 - (1 : Int32)).toNatClampNeg (u.1 x1.toNatClampNeg)), (upd u.2.1 (x1 - (1 : Int32)).toNatClampNeg (u.2.1 x1.toNatClampNeg)), u.2.2.1, u.2.2.2.1, u.2.2.2.2)) := hD
      refine lv_aload_n hx hb dX0_dropFirst_38 rfl (lv_at hl 0 rfl) ?_
      refine va_get (D := D) (ci := 0) (v := .ref b) (C := RX0) (T := TX0) (N := 5) hx hb hts (fun w h => cwc w (in_X0 w h)) hown hK hP 0 rfl rfl 2 (by decide) hk_18 (fun _ h9 => h9) rfl dX0_dropFirst_39 ?_
      refine lv_iload_n hx hb dX0_dropFirst_42 rfl (lv_at hl 1 rfl) ?_
      refine lv_iconst (v := (1 : Int32)) hx hb dX0_dropFirst_43 (by decide +kernel) ?_
      refine lv_isub hx hb dX0_dropFirst_44 ?_
      refine lv_aload_n hx hb dX0_dropFirst_45 rfl (lv_at hl 0 rfl) ?_
      refine va_get (D := D) (ci := 0) (v := .ref b) (C := RX0) (T := TX0) (N := 5) hx hb hts (fun w h => cwc w (in_X0 w h)) hown hK hP 0 rfl rfl 2 (by decide) hk_18 (fun _ h9 => h9) rfl dX0_dropFirst_46 ?_
      refine lv_iload_n hx hb dX0_dropFirst_49 rfl (lv_at hl 1 rfl) ?_
      obtain ⟨h_6, hF⟩ := gd_some hF
      refine va_iald (f := u.2.2.1) hx hb hK hP 3 0 rfl rfl (inb_in h_6) dX0_dropFirst_50 ?_
      obtain ⟨h_7, hF⟩ := gd_some hF
      refine va_iast (f := u.2.2.1) hx hb hK hP hD hS 3 0 rfl rfl (inb_in h_7) dX0_dropFirst_51 (fun H locs hP hD hS => ?_)
      replace hP : va_P D vwCl (RW cI q o a b ((upd u.1 (x1 - (1 : Int32)).toNatClampNeg (u.1 x1.toNatClampNeg)), (upd u.2.1 (x1 - (1 : Int32)).toNatClampNeg (u.2.1 x1.toNatClampNeg)), (upd u.2.2.1 (x1 - (1 : Int32)).toNatClampNeg (u.2.2.1 x1.toNatClampNeg)), u.2.2.2.1, u.2.2.2.2)) H := hP
      replace hD : va_D A (RW cI q o a b ((upd u.1 (x1 - (1 : Int32)).toNatClampNeg (u.1 x1.toNatClampNeg)), (upd u.2.1 (x1 - (1 : Int32)).toNatClampNeg (u.2.1 x1.toNatClampNeg)), (upd u.2.2.1 (x1 - (1 : Int32)).toNatClampNeg (u.2.2.1 x1.toNatClampNeg)), u.2.2.2.1, u.2.2.2.2)) := hD
      refine lv_iinc (v := (x1 + (1 : Int32))) (lv' := [(1, .int (x1 + (1 : Int32))), (0, .ref q)]) hx hb dX0_dropFirst_52 hl (k := 1) rfl rfl (by decide) rfl (fun ls hl => ?_)
      refine lv_goto (tgt := 2) hx hb dX0_dropFirst_55 (by decide) ?_
      exact ih (x1 + (1 : Int32)) ((upd u.1 (x1 - (1 : Int32)).toNatClampNeg (u.1 x1.toNatClampNeg)), (upd u.2.1 (x1 - (1 : Int32)).toNatClampNeg (u.2.1 x1.toNatClampNeg)), (upd u.2.2.1 (x1 - (1 : Int32)).toNatClampNeg (u.2.2.1 x1.toNatClampNeg)), u.2.2.2.1, u.2.2.2.2) _ _ hF H locs ls hP hD hS (lv_sub hl [1, 0] rfl)
set_option maxHeartbeats 4000000 in
set_option maxRecDepth 100000 in
theorem c_Row_dropFirst (l : Launch) (D : va_G) (cI cR : ClassId) (q o a b : Nat) (sz : Nat)  (u : RowS) (r : Unit) (u' : RowS) (hF : F_Row_dropFirst  u = some (r, u')) : Met l yX0_dropFirst wsX0_dropFirst ({ frames := 0, cells := 0, slots := 0, locals := 0 }) (va_Pc [.ref q] (PRE D (TY cI cR) (RW cI q o a b u) sz)) (QV D (TY cI cR) (va_A (RW cI q o a b u) sz) (fun v => RW cI q o a b v) u') 0 0 (va_A (RW cI q o a b u) sz) := by
  refine Met.ofW (cc := cX0_dropFirst) (maxL := 2) (ret := none) (by decide) rfl ?_
  intro p e s m args below meth c s₁ B hml hv
  obtain ⟨rfl, hsz, hP, hK, hD0⟩ := hv
  have hx := B.exec
  have hb := B.bytes
  have hr := B.returns
  have hts := atoms_spec (ws := wsX0_dropFirst) B.pre
  have hown : s.vm.findClass RX0 = some m.cls := findClass_of_methodNamed B.named
  have hlocks := B.notSynchronized
  subst hsz
  have hD := hD0.self (sz := s.heap.size)
  generalize hAe : va_A (RW cI q o a b u) s.heap.size = A at hD ⊢
  have hA : ∀ q : Nat, s.heap.size ≤ q → A q := fun q h => by rw [← hAe]; exact Or.inr h
  have hS : va_S A s.heap s.heap [] := va_S.rf
  replace hP : va_P D vwCl (RW cI q o a b u) s.heap := hP
  have hl := lv_entry ([.ref q]) (n := 2) (Nat.le_of_ble_eq_true rfl)
  rw [lg_entry_eq]
  generalize (lg_sl ([.ref q]) ++ List.replicate (2 - (lg_sl ([.ref q])).length) Slot.unset).toArray = ls at hl ⊢
  replace hl : lv_has ls 2 [(0, .ref q)] := hl
  have hk_21 := (hts _ (cwc _ mw_26))
  have hk_9 := (hts _ (cwc _ mw_23))
  have hk_15 := (hts _ (cwc _ mw_24))
  have hk_18 := (hts _ (cwc _ mw_25))
  unfold F_Row_dropFirst at hF
  refine (?_ : ∀ (H : Heap) (locs : List Loc), va_P D vwCl (RW cI q o a b u) H → va_S A s.heap H locs → W p l e _ s m _ below meth c H locs 0 0 _ (F0 m 0 ls [])) s.heap [] hP hS
  intro H locs hP hS
  refine lv_iconst (v := (1 : Int32)) hx hb dX0_dropFirst_0 (by decide +kernel) ?_
  refine lv_istore_n (lv' := [(1, .int (1 : Int32)), (0, .ref q)]) hx hb dX0_dropFirst_1 rfl hl (by decide) rfl (fun ls hl => ?_)
  exact w_Row_dropFirst_L2 hx hb hr hml hown hts hlocks hA hK 9 (1 : Int32) u _ _ hF H locs ls hP hD hS (lv_sub hl [1, 0] rfl)
def F_Row_takeFromFirst (p1 : Int32) (u : RowS) : Option ((Unit) × RowS) := gd (inb (0 : Int32) 8) (gd (inb (0 : Int32) 8) (gd (inb (0 : Int32) 8) ((if ((upd u.2.1 (0 : Int32).toNatClampNeg ((u.2.1 (0 : Int32).toNatClampNeg) - p1)) (0 : Int32).toNatClampNeg) = (0 : Int32) then bi (F_Row_dropFirst (u.1, (upd u.2.1 (0 : Int32).toNatClampNeg ((u.2.1 (0 : Int32).toNatClampNeg) - p1)), u.2.2.1, u.2.2.2.1, (u.2.2.2.2 - p1))) (fun r6 u5 => some ((), u5)) else some ((), (u.1, (upd u.2.1 (0 : Int32).toNatClampNeg ((u.2.1 (0 : Int32).toNatClampNeg) - p1)), u.2.2.1, u.2.2.2.1, (u.2.2.2.2 - p1)))))))
set_option maxHeartbeats 4000000 in
set_option maxRecDepth 100000 in
theorem c_Row_takeFromFirst (l : Launch) (D : va_G) (cI cR : ClassId) (q o a b : Nat) (sz : Nat) (p1 : Int32) (u : RowS) (r : Unit) (u' : RowS) (hF : F_Row_takeFromFirst p1 u = some (r, u')) : Met l yX0_takeFromFirst wsX0_takeFromFirst ({ frames := 1, cells := 0, slots := 0, locals := 21 }) (va_Pc [.ref q, .int p1] (PRE D (TY cI cR) (RW cI q o a b u) sz)) (QV D (TY cI cR) (va_A (RW cI q o a b u) sz) (fun v => RW cI q o a b v) u') 0 0 (va_A (RW cI q o a b u) sz) := by
  refine Met.ofW (cc := cX0_takeFromFirst) (maxL := 2) (ret := none) (by decide) rfl ?_
  intro p e s m args below meth c s₁ B hml hv
  obtain ⟨rfl, hsz, hP, hK, hD0⟩ := hv
  have hx := B.exec
  have hb := B.bytes
  have hr := B.returns
  have hts := atoms_spec (ws := wsX0_takeFromFirst) B.pre
  have hown : s.vm.findClass RX0 = some m.cls := findClass_of_methodNamed B.named
  have hlocks := B.notSynchronized
  subst hsz
  have hD := hD0.self (sz := s.heap.size)
  generalize hAe : va_A (RW cI q o a b u) s.heap.size = A at hD ⊢
  have hA : ∀ q : Nat, s.heap.size ≤ q → A q := fun q h => by rw [← hAe]; exact Or.inr h
  have hS : va_S A s.heap s.heap [] := va_S.rf
  replace hP : va_P D vwCl (RW cI q o a b u) s.heap := hP
  have hl := lv_entry ([.ref q, .int p1]) (n := 2) (Nat.le_of_ble_eq_true rfl)
  rw [lg_entry_eq]
  generalize (lg_sl ([.ref q, .int p1]) ++ List.replicate (2 - (lg_sl ([.ref q, .int p1])).length) Slot.unset).toArray = ls at hl ⊢
  replace hl : lv_has ls 2 [(0, .ref q), (1, .int p1)] := hl
  have hk_15 := (hts _ (cwc _ mw_24))
  have hk_25 := (hts _ (cwc _ mw_27))
  unfold F_Row_takeFromFirst at hF
  refine (?_ : ∀ (H : Heap) (locs : List Loc), va_P D vwCl (RW cI q o a b u) H → va_S A s.heap H locs → W p l e _ s m _ below meth c H locs 0 0 _ (F0 m 0 ls [])) s.heap [] hP hS
  intro H locs hP hS
  refine lv_aload_n hx hb dX0_takeFromFirst_0 rfl (lv_at hl 0 rfl) ?_
  refine va_get (D := D) (ci := 0) (v := .ref a) (C := RX0) (T := TX0) (N := 5) hx hb hts (fun w h => cwc w (in_X0 w h)) hown hK hP 0 rfl rfl 1 (by decide) hk_15 (fun _ h9 => h9) rfl dX0_takeFromFirst_1 ?_
  refine lv_iconst (v := (0 : Int32)) hx hb dX0_takeFromFirst_4 (by decide +kernel) ?_
  refine lv_dup2_11 hx hb dX0_takeFromFirst_5 rfl rfl ?_
  obtain ⟨h_1, hF⟩ := gd_some hF
  refine va_iald (f := u.2.1) hx hb hK hP 2 0 rfl rfl (inb_in h_1) dX0_takeFromFirst_6 ?_
  refine lv_iload_n hx hb dX0_takeFromFirst_7 rfl (lv_at hl 1 rfl) ?_
  refine lv_isub hx hb dX0_takeFromFirst_8 ?_
  obtain ⟨h_2, hF⟩ := gd_some hF
  refine va_iast (f := u.2.1) hx hb hK hP hD hS 2 0 rfl rfl (inb_in h_2) dX0_takeFromFirst_9 (fun H locs hP hD hS => ?_)
  replace hP : va_P D vwCl (RW cI q o a b (u.1, (upd u.2.1 (0 : Int32).toNatClampNeg ((u.2.1 (0 : Int32).toNatClampNeg) - p1)), u.2.2.1, u.2.2.2.1, u.2.2.2.2)) H := hP
  replace hD : va_D A (RW cI q o a b (u.1, (upd u.2.1 (0 : Int32).toNatClampNeg ((u.2.1 (0 : Int32).toNatClampNeg) - p1)), u.2.2.1, u.2.2.2.1, u.2.2.2.2)) := hD
  refine lv_aload_n hx hb dX0_takeFromFirst_10 rfl (lv_at hl 0 rfl) ?_
  refine lv_dup hx hb dX0_takeFromFirst_11 rfl ?_
  refine va_get (D := D) (ci := 0) (v := .int u.2.2.2.2) (C := RX0) (T := TX0) (N := 5) hx hb hts (fun w h => cwc w (in_X0 w h)) hown hK hP 0 rfl rfl 4 (by decide) hk_25 (fun _ h9 => h9) rfl dX0_takeFromFirst_12 ?_
  refine lv_iload_n hx hb dX0_takeFromFirst_15 rfl (lv_at hl 1 rfl) ?_
  refine lv_isub hx hb dX0_takeFromFirst_16 ?_
  refine va_put (D := D) (ci := 0) (v := .int (u.2.2.2.2 - p1)) (ty := .int) (C := RX0) (T := TX0) (N := 5) hx hb hts (fun w h => cwc w (in_X0 w h)) tyX0 tyX0_ok nmX0 hown hK hP hD hS 0 rfl rfl 4 (by decide) hk_25 (fun _ h9 => h9) rfl (by decide +kernel) rfl rfl (Nat.le_of_ble_eq_true rfl) dX0_takeFromFirst_17 (fun H locs hP hD hS => ?_)
  replace hP : va_P D vwCl (RW cI q o a b (u.1, (upd u.2.1 (0 : Int32).toNatClampNeg ((u.2.1 (0 : Int32).toNatClampNeg) - p1)), u.2.2.1, u.2.2.2.1, (u.2.2.2.2 - p1))) H := hP
  replace hD : va_D A (RW cI q o a b (u.1, (upd u.2.1 (0 : Int32).toNatClampNeg ((u.2.1 (0 : Int32).toNatClampNeg) - p1)), u.2.2.1, u.2.2.2.1, (u.2.2.2.2 - p1))) := hD
  refine lv_aload_n hx hb dX0_takeFromFirst_20 rfl (lv_at hl 0 rfl) ?_
  refine va_get (D := D) (ci := 0) (v := .ref a) (C := RX0) (T := TX0) (N := 5) hx hb hts (fun w h => cwc w (in_X0 w h)) hown hK hP 0 rfl rfl 1 (by decide) hk_15 (fun _ h9 => h9) rfl dX0_takeFromFirst_21 ?_
  refine lv_iconst (v := (0 : Int32)) hx hb dX0_takeFromFirst_24 (by decide +kernel) ?_
  obtain ⟨h_3, hF⟩ := gd_some hF
  refine va_iald (f := (upd u.2.1 (0 : Int32).toNatClampNeg ((u.2.1 (0 : Int32).toNatClampNeg) - p1))) hx hb hK hP 2 0 rfl rfl (inb_in h_3) dX0_takeFromFirst_25 ?_
  refine lv_if_ne (tgt := 33) hx hb dX0_takeFromFirst_26 (by decide) (fun c_4 => ?_) (fun c_4 => ?_)
  · replace hF := (if_neg c_4).symm.trans hF
    cases hF
    refine W.widen (k := 0) (n := 0) (Nat.le_of_ble_eq_true rfl) (Nat.le_of_ble_eq_true rfl) ?_
    exact W.vret hx hb hr (fun t ht hW => ⟨⟨_, rfl, rfl, by rw [ht]; exact hP, va_K.moved hW.alike hK, hD⟩, hS.F ht⟩) hS.2.2 dX0_takeFromFirst_33
  · replace hF := (if_pos c_4).symm.trans hF
    refine lv_aload_n hx hb dX0_takeFromFirst_29 rfl (lv_at hl 0 rfl) ?_
    obtain ⟨r6, u5, hc_7, hF⟩ := bi_some hF
    refine kc_v (W1 := RW cI q o a b u5) (va_runV (As := []) (rest := []) ⟨hx, hb, hml, hown, hts⟩ (c_Row_dropFirst l D cI cR q o a b H.size  (u.1, (upd u.2.1 (0 : Int32).toNatClampNeg ((u.2.1 (0 : Int32).toNatClampNeg) - p1)), u.2.2.1, u.2.2.2.1, (u.2.2.2.2 - p1)) r6 u5 hc_7) (cwV 0 hts (gV cwc mw_270 mw_271 mw_480 mw_2 mw_272) rfl rfl rfl (by decide +kernel) ⟨(Nat.le_of_ble_eq_true rfl), (Nat.le_of_ble_eq_true rfl)⟩) (kp_V (ci := 0) (q := (RX0, TX0, 5)) hK hP hD (sb_id _) rfl rfl) rfl rfl hl.1 rfl (lv_room (Nat.le_of_ble_eq_true rfl)) dX0_takeFromFirst_30 ⟨(Nat.le_of_ble_eq_true rfl), (Nat.le_of_ble_eq_true rfl)⟩) hP hD hS hA (sb_id _) (jn_id rfl) (fun H locs hP hD hS => ?_)
    cases hF
    refine W.widen (k := 0) (n := 0) (Nat.le_of_ble_eq_true rfl) (Nat.le_of_ble_eq_true rfl) ?_
    exact W.vret hx hb hr (fun t ht hW => ⟨⟨_, rfl, rfl, by rw [ht]; exact hP, va_K.moved hW.alike hK, hD⟩, hS.F ht⟩) hS.2.2 dX0_takeFromFirst_33
def F_Row_moveTo_L26 : Nat → Int32 → Int32 → Int32 → Int32 → Int32 → (RowS × RowS) → Option ((Int32) × (RowS × RowS))
  | 0, _, _, _, _, _, _ => none
  | n + 1, x2, x3, x4, x5, x6, u => (if (8 : Int32) ≤ x6 then some (x4, u) else (if x5 ≤ (0 : Int32) then some (x4, u) else gd (inb (0 : Int32) 8) (nm ((if (u.1.2.1 (0 : Int32).toNatClampNeg) < x5 then (u.1.2.1 (0 : Int32).toNatClampNeg) else x5)) (fun v6 => gd (inb (0 : Int32) 8) (gd (inb (0 : Int32) 8) (bi (F_Row_putBehind (u.1.1 (0 : Int32).toNatClampNeg) (u.1.2.2.1 (0 : Int32).toNatClampNeg) v6 u.2) (fun r10 u9 => bi (F_Row_takeFromFirst v6 u.1) (fun r13 u12 => nm ((x5 - v6)) (fun v15 => F_Row_moveTo_L26 n x2 x3 x4 v15 (x6 + (1 : Int32)) (u12, u9))))))))))
def F_Row_moveTo (p2 : Int32) (p3 : Int32) (u : (RowS × RowS)) : Option ((Int32) × (RowS × RowS)) := nm ((if (p3 - u.2.2.2.2.2) < u.1.2.2.2.2 then (p3 - u.2.2.2.2.2) else u.1.2.2.2.2)) (fun v1 => nm ((if v1 < p2 then v1 else p2)) (fun v2 => F_Row_moveTo_L26 9 p2 p3 v2 v2 (0 : Int32) u))
set_option maxHeartbeats 4000000 in
set_option maxRecDepth 100000 in
theorem w_Row_moveTo_L26 {p : Program} {l : Launch} {e : Env} {s : State} {m : MethodId} {args : Array Value} {below : List Frame} {meth : Method} {c : Code} {A : Nat → Prop} {D : va_G} {cI cR : ClassId} {q o a b q2 o2 a2 b2 : Nat} (hx : p.tables.exec = Jvm.exec) (hb : c.code = cX0_moveTo) (hr : meth.sig.returnType = (some .int)) (hml : c.maxLocals = 8) (hown : s.vm.findClass RX0 = some m.cls) (hts : ∀ w ∈ wsX0_moveTo, w.before args s = true) (hlocks : meth.locks = false) (hA : ∀ q : Nat, s.heap.size ≤ q → A q) (hK : va_K D vwCl (TY cI cR) s) : ∀ (n : Nat) (x2 x3 x4 x5 x6 : Int32) (u : (RowS × RowS)) (r : Int32) (u' : (RowS × RowS)), F_Row_moveTo_L26 n x2 x3 x4 x5 x6 u = some (r, u') → ∀ (H : Heap) (locs : List Loc) (ls : Array Slot), va_P D vwCl (RW2 cI q o a b q2 o2 a2 b2 u) H → va_D A (RW2 cI q o a b q2 o2 a2 b2 u) → va_S A s.heap H locs → lv_has ls 8 [(0, .ref q), (1, .ref q2), (2, .int x2), (3, .int x3), (4, .int x4), (5, .int x5), (6, .int x6)] → W p l e (headSpec wsX0_moveTo ({ frames := 2, cells := 0, slots := 0, locals := 46 })).room s m args below meth c H locs 0 0 (MQ below (QI D (TY cI cR) A (fun v => RW2 cI q o a b q2 o2 a2 b2 v) r u') args s 0 0 A) (F0 m 26 ls []) := by
  have hk_25 := (hts _ (cwc _ mw_27))
  have hmmin_l35 := (hts _ (cwc _ mw_264))
  have hmmin_s := (hts _ (cwc _ mw_241))
  have hm_i := (hts _ (cwc _ mw_9))
  have hmmin_c := (hts _ (cwc _ mw_242))
  have hk_15 := (hts _ (cwc _ mw_24))
  have hk_9 := (hts _ (cwc _ mw_23))
  have hk_18 := (hts _ (cwc _ mw_25))
  intro n
  induction n with
  | zero =>
    intro x2 x3 x4 x5 x6 u r u' hF
    rw [F_Row_moveTo_L26] at hF
    exact absurd hF (by simp)
  | succ n ih =>
    intro x2 x3 x4 x5 x6 u r u' hF H locs ls hP hD hS hl
    rw [F_Row_moveTo_L26] at hF
    refine lv_iload hx hb dX0_moveTo_26 (lv_at hl 6 rfl) ?_
    refine lv_bipush (v := (8 : Int32)) hx hb dX0_moveTo_28 (by decide +kernel) ?_
    refine lv_icmp_ge (tgt := 88) hx hb dX0_moveTo_30 (by decide) (fun c_3 => ?_) (fun c_3 => ?_)
    · replace hF := (if_pos c_3).symm.trans hF
      refine lv_iload hx hb dX0_moveTo_88 (lv_at hl 4 rfl) ?_
      cases hF
      refine W.widen (k := 0) (n := 0) (Nat.le_of_ble_eq_true rfl) (Nat.le_of_ble_eq_true rfl) ?_
      exact W.iret hx hb hr (fun t ht hW => ⟨⟨_, _, rfl, ⟨rfl, rfl⟩, by rw [ht]; exact hP, va_K.moved hW.alike hK, hD⟩, hS.F ht⟩) hS.2.2 dX0_moveTo_90
    · replace hF := (if_neg c_3).symm.trans hF
      refine lv_iload hx hb dX0_moveTo_33 (lv_at hl 5 rfl) ?_
      refine lv_if_le (tgt := 88) hx hb dX0_moveTo_35 (by decide) (fun c_4 => ?_) (fun c_4 => ?_)
      · replace hF := (if_pos c_4).symm.trans hF
        refine lv_iload hx hb dX0_moveTo_88 (lv_at hl 4 rfl) ?_
        cases hF
        refine W.widen (k := 0) (n := 0) (Nat.le_of_ble_eq_true rfl) (Nat.le_of_ble_eq_true rfl) ?_
        exact W.iret hx hb hr (fun t ht hW => ⟨⟨_, _, rfl, ⟨rfl, rfl⟩, by rw [ht]; exact hP, va_K.moved hW.alike hK, hD⟩, hS.F ht⟩) hS.2.2 dX0_moveTo_90
      · replace hF := (if_neg c_4).symm.trans hF
        refine lv_iload hx hb dX0_moveTo_38 (lv_at hl 5 rfl) ?_
        refine lv_aload_n hx hb dX0_moveTo_40 rfl (lv_at hl 0 rfl) ?_
        refine va_get (D := D) (ci := 0) (v := .ref a) (C := RX0) (T := TX0) (N := 5) hx hb hts (fun w h => cwc w (in_X0 w h)) hown hK hP 0 rfl rfl 1 (by decide) hk_15 (fun _ h9 => h9) rfl dX0_moveTo_41 ?_
        refine lv_iconst (v := (0 : Int32)) hx hb dX0_moveTo_44 (by decide +kernel) ?_
        obtain ⟨h_5, hF⟩ := gd_some hF
        refine va_iald (f := u.1.2.1) hx hb hK hP 2 0 rfl rfl (inb_in h_5) dX0_moveTo_45 ?_
        refine va_mmin hx hb (hml.trans hl.1.symm) hown hmmin_l35 hmmin_s hm_i hmmin_c (Nat.le_of_ble_eq_true rfl) (Nat.le_of_ble_eq_true rfl) (Nat.zero_le _) (Nat.zero_le _) dX0_moveTo_46 ?_
        obtain ⟨v6, ev6, hF⟩ := nm_some hF
        refine W.eq (g2 := F0 m 49 ls (.int v6 :: [])) (congrArg (fun z => F0 m 49 ls (.int z :: [])) ev6.symm) ?_
        refine lv_istore (lv' := [(7, .int v6), (0, .ref q), (1, .ref q2), (2, .int x2), (3, .int x3), (4, .int x4), (5, .int x5), (6, .int x6)]) hx hb dX0_moveTo_49 hl (by decide) rfl (fun ls hl => ?_)
        refine lv_aload_n hx hb dX0_moveTo_51 rfl (lv_at hl 2 rfl) ?_
        refine lv_aload_n hx hb dX0_moveTo_52 rfl (lv_at hl 1 rfl) ?_
        refine va_get (D := D) (ci := 0) (v := .ref o) (C := RX0) (T := TX0) (N := 5) hx hb hts (fun w h => cwc w (in_X0 w h)) hown hK hP 0 rfl rfl 0 (by decide) hk_9 (fun _ h9 => h9) rfl dX0_moveTo_53 ?_
        refine lv_iconst (v := (0 : Int32)) hx hb dX0_moveTo_56 (by decide +kernel) ?_
        obtain ⟨h_7, hF⟩ := gd_some hF
        refine va_iald (f := u.1.1) hx hb hK hP 1 0 rfl rfl (inb_in h_7) dX0_moveTo_57 ?_
        refine lv_aload_n hx hb dX0_moveTo_58 rfl (lv_at hl 1 rfl) ?_
        refine va_get (D := D) (ci := 0) (v := .ref b) (C := RX0) (T := TX0) (N := 5) hx hb hts (fun w h => cwc w (in_X0 w h)) hown hK hP 0 rfl rfl 2 (by decide) hk_18 (fun _ h9 => h9) rfl dX0_moveTo_59 ?_
        refine lv_iconst (v := (0 : Int32)) hx hb dX0_moveTo_62 (by decide +kernel) ?_
        obtain ⟨h_8, hF⟩ := gd_some hF
        refine va_iald (f := u.1.2.2.1) hx hb hK hP 3 0 rfl rfl (inb_in h_8) dX0_moveTo_63 ?_
        refine lv_iload hx hb dX0_moveTo_64 (lv_at hl 0 rfl) ?_
        obtain ⟨r10, u9, hc_11, hF⟩ := bi_some hF
        refine kc_v (W1 := RW2 cI q o a b q2 o2 a2 b2 (u.1, u9)) (va_runV (As := [.int (u.1.1 (0 : Int32).toNatClampNeg), .int (u.1.2.2.1 (0 : Int32).toNatClampNeg), .int v6]) (rest := []) ⟨hx, hb, hml, hown, hts⟩ (c_Row_putBehind l D cI cR q2 o2 a2 b2 H.size (u.1.1 (0 : Int32).toNatClampNeg) (u.1.2.2.1 (0 : Int32).toNatClampNeg) v6 u.2 r10 u9 hc_11) (cwV 3 hts (gV cwc mw_265 mw_244 mw_245 mw_2 mw_246) rfl rfl rfl (by decide +kernel) ⟨(Nat.le_of_ble_eq_true rfl), (Nat.le_of_ble_eq_true rfl)⟩) (kp_V (ci := 0) (q := (RX0, TX0, 5)) hK hP hD (sb_seg (RW cI q o a b u.1) (RW cI q2 o2 a2 b2 u.2) []) rfl rfl) rfl rfl hl.1 rfl (lv_room (Nat.le_of_ble_eq_true rfl)) dX0_moveTo_66 ⟨(Nat.le_of_ble_eq_true rfl), (Nat.le_of_ble_eq_true rfl)⟩) hP hD hS hA (sb_seg (RW cI q o a b u.1) (RW cI q2 o2 a2 b2 u.2) []) (jn_seg (RW cI q o a b u.1) (RW cI q2 o2 a2 b2 u.2) (RW cI q2 o2 a2 b2 u9) [] rfl) (fun H locs hP hD hS => ?_)
        refine lv_aload_n hx hb dX0_moveTo_69 rfl (lv_at hl 1 rfl) ?_
        refine lv_iload hx hb dX0_moveTo_70 (lv_at hl 0 rfl) ?_
        obtain ⟨r13, u12, hc_14, hF⟩ := bi_some hF
        refine kc_v (W1 := RW2 cI q o a b q2 o2 a2 b2 (u12, u9)) (va_runV (As := [.int v6]) (rest := []) ⟨hx, hb, hml, hown, hts⟩ (c_Row_takeFromFirst l D cI cR q o a b H.size v6 u.1 r13 u12 hc_14) (cwV 1 hts (gV cwc mw_266 mw_267 mw_268 mw_2 mw_269) rfl rfl rfl (by decide +kernel) ⟨(Nat.le_of_ble_eq_true rfl), (Nat.le_of_ble_eq_true rfl)⟩) (kp_V (ci := 0) (q := (RX0, TX0, 5)) hK hP hD (sb_seg [] (RW cI q o a b u.1) (RW cI q2 o2 a2 b2 u9)) rfl rfl) rfl rfl hl.1 rfl (lv_room (Nat.le_of_ble_eq_true rfl)) dX0_moveTo_72 ⟨(Nat.le_of_ble_eq_true rfl), (Nat.le_of_ble_eq_true rfl)⟩) hP hD hS hA (sb_seg [] (RW cI q o a b u.1) (RW cI q2 o2 a2 b2 u9)) (jn_seg [] (RW cI q o a b u.1) (RW cI q o a b u12) (RW cI q2 o2 a2 b2 u9) rfl) (fun H locs hP hD hS => ?_)
        refine lv_iload hx hb dX0_moveTo_75 (lv_at hl 6 rfl) ?_
        refine lv_iload hx hb dX0_moveTo_77 (lv_at hl 0 rfl) ?_
        refine lv_isub hx hb dX0_moveTo_79 ?_
        obtain ⟨v15, ev15, hF⟩ := nm_some hF
        refine W.eq (g2 := F0 m 80 ls (.int v15 :: [])) (congrArg (fun z => F0 m 80 ls (.int z :: [])) ev15.symm) ?_
        refine lv_istore (lv' := [(5, .int v15), (7, .int v6), (0, .ref q), (1, .ref q2), (2, .int x2), (3, .int x3), (4, .int x4), (6, .int x6)]) hx hb dX0_moveTo_80 hl (by decide) rfl (fun ls hl => ?_)
        refine lv_iinc (v := (x6 + (1 : Int32))) (lv' := [(6, .int (x6 + (1 : Int32))), (5, .int v15), (7, .int v6), (0, .ref q), (1, .ref q2), (2, .int x2), (3, .int x3), (4, .int x4)]) hx hb dX0_moveTo_82 hl (k := 7) rfl rfl (by decide) rfl (fun ls hl => ?_)
        refine lv_goto (tgt := 26) hx hb dX0_moveTo_85 (by decide) ?_
        exact ih x2 x3 x4 v15 (x6 + (1 : Int32)) (u12, u9) _ _ hF H locs ls hP hD hS (lv_sub hl [3, 4, 5, 6, 7, 1, 0] rfl)
set_option maxHeartbeats 4000000 in
set_option maxRecDepth 100000 in
theorem c_Row_moveTo (l : Launch) (D : va_G) (cI cR : ClassId) (q o a b q2 o2 a2 b2 : Nat) (sz : Nat) (p2 : Int32) (p3 : Int32) (u : (RowS × RowS)) (r : Int32) (u' : (RowS × RowS)) (hF : F_Row_moveTo p2 p3 u = some (r, u')) : Met l yX0_moveTo wsX0_moveTo ({ frames := 2, cells := 0, slots := 0, locals := 46 }) (va_Pc [.ref q, .ref q2, .int p2, .int p3] (PRE D (TY cI cR) (RW2 cI q o a b q2 o2 a2 b2 u) sz)) (QI D (TY cI cR) (va_A (RW2 cI q o a b q2 o2 a2 b2 u) sz) (fun v => RW2 cI q o a b q2 o2 a2 b2 v) r u') 0 0 (va_A (RW2 cI q o a b q2 o2 a2 b2 u) sz) := by
  refine Met.ofW (cc := cX0_moveTo) (maxL := 8) (ret := (some .int)) (by decide) rfl ?_
  intro p e s m args below meth c s₁ B hml hv
  obtain ⟨rfl, hsz, hP, hK, hD0⟩ := hv
  have hx := B.exec
  have hb := B.bytes
  have hr := B.returns
  have hts := atoms_spec (ws := wsX0_moveTo) B.pre
  have hown : s.vm.findClass RX0 = some m.cls := findClass_of_methodNamed B.named
  have hlocks := B.notSynchronized
  subst hsz
  have hD := hD0.self (sz := s.heap.size)
  generalize hAe : va_A (RW2 cI q o a b q2 o2 a2 b2 u) s.heap.size = A at hD ⊢
  have hA : ∀ q : Nat, s.heap.size ≤ q → A q := fun q h => by rw [← hAe]; exact Or.inr h
  have hS : va_S A s.heap s.heap [] := va_S.rf
  replace hP : va_P D vwCl (RW2 cI q o a b q2 o2 a2 b2 u) s.heap := hP
  have hl := lv_entry ([.ref q, .ref q2, .int p2, .int p3]) (n := 8) (Nat.le_of_ble_eq_true rfl)
  rw [lg_entry_eq]
  generalize (lg_sl ([.ref q, .ref q2, .int p2, .int p3]) ++ List.replicate (8 - (lg_sl ([.ref q, .ref q2, .int p2, .int p3])).length) Slot.unset).toArray = ls at hl ⊢
  replace hl : lv_has ls 8 [(0, .ref q), (1, .ref q2), (2, .int p2), (3, .int p3)] := hl
  have hk_25 := (hts _ (cwc _ mw_27))
  have hmmin_l35 := (hts _ (cwc _ mw_264))
  have hmmin_s := (hts _ (cwc _ mw_241))
  have hm_i := (hts _ (cwc _ mw_9))
  have hmmin_c := (hts _ (cwc _ mw_242))
  have hk_15 := (hts _ (cwc _ mw_24))
  have hk_9 := (hts _ (cwc _ mw_23))
  have hk_18 := (hts _ (cwc _ mw_25))
  unfold F_Row_moveTo at hF
  refine (?_ : ∀ (H : Heap) (locs : List Loc), va_P D vwCl (RW2 cI q o a b q2 o2 a2 b2 u) H → va_S A s.heap H locs → W p l e _ s m _ below meth c H locs 0 0 _ (F0 m 0 ls [])) s.heap [] hP hS
  intro H locs hP hS
  refine lv_iload_n hx hb dX0_moveTo_0 rfl (lv_at hl 2 rfl) ?_
  refine lv_aload_n hx hb dX0_moveTo_1 rfl (lv_at hl 0 rfl) ?_
  refine va_get (D := D) (ci := 0) (v := .int u.1.2.2.2.2) (C := RX0) (T := TX0) (N := 5) hx hb hts (fun w h => cwc w (in_X0 w h)) hown hK hP 0 rfl rfl 4 (by decide) hk_25 (fun _ h9 => h9) rfl dX0_moveTo_2 ?_
  refine lv_iload_n hx hb dX0_moveTo_5 rfl (lv_at hl 3 rfl) ?_
  refine lv_aload_n hx hb dX0_moveTo_6 rfl (lv_at hl 1 rfl) ?_
  refine va_get (D := D) (ci := 0) (v := .int u.2.2.2.2.2) (C := RX0) (T := TX0) (N := 5) hx hb hts (fun w h => cwc w (in_X0 w h)) hown hK hP 4 rfl rfl 4 (by decide) hk_25 (fun _ h9 => h9) rfl dX0_moveTo_7 ?_
  refine lv_isub hx hb dX0_moveTo_10 ?_
  refine va_mmin hx hb (hml.trans hl.1.symm) hown hmmin_l35 hmmin_s hm_i hmmin_c (Nat.le_of_ble_eq_true rfl) (Nat.le_of_ble_eq_true rfl) (Nat.zero_le _) (Nat.zero_le _) dX0_moveTo_11 ?_
  obtain ⟨v1, ev1, hF⟩ := nm_some hF
  refine W.eq (g2 := F0 m 14 ls (.int v1 :: [.int p2])) (congrArg (fun z => F0 m 14 ls (.int z :: [.int p2])) ev1.symm) ?_
  refine va_mmin hx hb (hml.trans hl.1.symm) hown hmmin_l35 hmmin_s hm_i hmmin_c (Nat.le_of_ble_eq_true rfl) (Nat.le_of_ble_eq_true rfl) (Nat.zero_le _) (Nat.zero_le _) dX0_moveTo_14 ?_
  obtain ⟨v2, ev2, hF⟩ := nm_some hF
  refine W.eq (g2 := F0 m 17 ls (.int v2 :: [])) (congrArg (fun z => F0 m 17 ls (.int z :: [])) ev2.symm) ?_
  refine lv_istore (lv' := [(4, .int v2), (0, .ref q), (1, .ref q2), (2, .int p2), (3, .int p3)]) hx hb dX0_moveTo_17 hl (by decide) rfl (fun ls hl => ?_)
  refine lv_iload hx hb dX0_moveTo_19 (lv_at hl 0 rfl) ?_
  refine lv_istore (lv' := [(5, .int v2), (4, .int v2), (0, .ref q), (1, .ref q2), (2, .int p2), (3, .int p3)]) hx hb dX0_moveTo_21 hl (by decide) rfl (fun ls hl => ?_)
  refine lv_iconst (v := (0 : Int32)) hx hb dX0_moveTo_23 (by decide +kernel) ?_
  refine lv_istore (lv' := [(6, .int (0 : Int32)), (5, .int v2), (4, .int v2), (0, .ref q), (1, .ref q2), (2, .int p2), (3, .int p3)]) hx hb dX0_moveTo_24 hl (by decide) rfl (fun ls hl => ?_)
  exact w_Row_moveTo_L26 hx hb hr hml hown hts hlocks hA hK 9 p2 p3 v2 v2 (0 : Int32) u _ _ hF H locs ls hP hD hS (lv_sub hl [3, 4, 5, 6, 2, 1, 0] rfl)
def F_Row_moveAllBehind_L18 : Nat → Int32 → Int32 → Int32 → Int32 → Int32 → (RowS × RowS) → Option ((Unit) × (RowS × RowS))
  | 0, _, _, _, _, _, _ => none
  | n + 1, x1, x3, x4, x5, x6, u => (if u.1.2.2.2.1 ≤ x6 then some ((), ((u.1.1, u.1.2.1, u.1.2.2.1, x5, x3), u.2)) else gd (inb x6 8) (nm ((if (u.1.2.1 x6.toNatClampNeg) < x4 then (u.1.2.1 x6.toNatClampNeg) else x4)) (fun v4 => gd (inb x6 8) (gd (inb x6 8) (gd (inb x6 8) (bi (F_Row_putBehind (u.1.1 x6.toNatClampNeg) (u.1.2.2.1 x6.toNatClampNeg) ((u.1.2.1 x6.toNatClampNeg) - v4) u.2) (fun r9 u8 => gd (inb x6 8) (nm ((x4 - v4)) (fun v12 => (if v4 ≤ (0 : Int32) then F_Row_moveAllBehind_L18 n x1 x3 v12 x5 (x6 + (1 : Int32)) ((u.1.1, (upd u.1.2.1 x6.toNatClampNeg v4), u.1.2.2.1, u.1.2.2.2.1, u.1.2.2.2.2), u8) else nm ((x6 + (1 : Int32))) (fun v14 => F_Row_moveAllBehind_L18 n x1 x3 v12 v14 (x6 + (1 : Int32)) ((u.1.1, (upd u.1.2.1 x6.toNatClampNeg v4), u.1.2.2.1, u.1.2.2.2.1, u.1.2.2.2.2), u8))))))))))))
def F_Row_moveAllBehind (p1 : Int32) (u : (RowS × RowS)) : Option ((Unit) × (RowS × RowS)) := nm ((if u.1.2.2.2.2 < p1 then u.1.2.2.2.2 else p1)) (fun v1 => F_Row_moveAllBehind_L18 9 p1 v1 v1 (0 : Int32) (0 : Int32) u)
set_option maxHeartbeats 4000000 in
set_option maxRecDepth 100000 in
theorem w_Row_moveAllBehind_L18 {p : Program} {l : Launch} {e : Env} {s : State} {m : MethodId} {args : Array Value} {below : List Frame} {meth : Method} {c : Code} {A : Nat → Prop} {D : va_G} {cI cR : ClassId} {q o a b q2 o2 a2 b2 : Nat} (hx : p.tables.exec = Jvm.exec) (hb : c.code = cX0_moveAllBehind) (hr : meth.sig.returnType = none) (hml : c.maxLocals = 8) (hown : s.vm.findClass RX0 = some m.cls) (hts : ∀ w ∈ wsX0_moveAllBehind, w.before args s = true) (hlocks : meth.locks = false) (hA : ∀ q : Nat, s.heap.size ≤ q → A q) (hK : va_K D vwCl (TY cI cR) s) : ∀ (n : Nat) (x1 x3 x4 x5 x6 : Int32) (u : (RowS × RowS)) (r : Unit) (u' : (RowS × RowS)), F_Row_moveAllBehind_L18 n x1 x3 x4 x5 x6 u = some (r, u') → ∀ (H : Heap) (locs : List Loc) (ls : Array Slot), va_P D vwCl (RW2 cI q o a b q2 o2 a2 b2 u) H → va_D A (RW2 cI q o a b q2 o2 a2 b2 u) → va_S A s.heap H locs → lv_has ls 8 [(0, .ref q), (1, .int x1), (2, .ref q2), (3, .int x3), (4, .int x4), (5, .int x5), (6, .int x6)] → W p l e (headSpec wsX0_moveAllBehind ({ frames := 2, cells := 0, slots := 0, locals := 46 })).room s m args below meth c H locs 0 0 (MQ below (QV D (TY cI cR) A (fun v => RW2 cI q o a b q2 o2 a2 b2 v) u') args s 0 0 A) (F0 m 18 ls []) := by
  have hk_25 := (hts _ (cwc _ mw_27))
  have hmmin_l35 := (hts _ (cwc _ mw_264))
  have hmmin_s := (hts _ (cwc _ mw_241))
  have hm_i := (hts _ (cwc _ mw_9))
  have hmmin_c := (hts _ (cwc _ mw_242))
  have hk_21 := (hts _ (cwc _ mw_26))
  have hk_15 := (hts _ (cwc _ mw_24))
  have hk_9 := (hts _ (cwc _ mw_23))
  have hk_18 := (hts _ (cwc _ mw_25))
  intro n
  induction n with
  | zero =>
    intro x1 x3 x4 x5 x6 u r u' hF
    rw [F_Row_moveAllBehind_L18] at hF
    exact absurd hF (by simp)
  | succ n ih =>
    intro x1 x3 x4 x5 x6 u r u' hF H locs ls hP hD hS hl
    rw [F_Row_moveAllBehind_L18] at hF
    refine lv_iload hx hb dX0_moveAllBehind_18 (lv_at hl 6 rfl) ?_
    refine lv_aload_n hx hb dX0_moveAllBehind_20 rfl (lv_at hl 0 rfl) ?_
    refine va_get (D := D) (ci := 0) (v := .int u.1.2.2.2.1) (C := RX0) (T := TX0) (N := 5) hx hb hts (fun w h => cwc w (in_X0 w h)) hown hK hP 0 rfl rfl 3 (by decide) hk_21 (fun _ h9 => h9) rfl dX0_moveAllBehind_21 ?_
    refine lv_icmp_ge (tgt := 102) hx hb dX0_moveAllBehind_24 (by decide) (fun c_2 => ?_) (fun c_2 => ?_)
    · replace hF := (if_pos c_2).symm.trans hF
      refine lv_aload_n hx hb dX0_moveAllBehind_102 rfl (lv_at hl 0 rfl) ?_
      refine lv_iload hx hb dX0_moveAllBehind_103 (lv_at hl 5 rfl) ?_
      refine va_put (D := D) (ci := 0) (v := .int x5) (ty := .int) (C := RX0) (T := TX0) (N := 5) hx hb hts (fun w h => cwc w (in_X0 w h)) tyX0 tyX0_ok nmX0 hown hK hP hD hS 0 rfl rfl 3 (by decide) hk_21 (fun _ h9 => h9) rfl (by decide +kernel) rfl rfl (Nat.le_of_ble_eq_true rfl) dX0_moveAllBehind_105 (fun H locs hP hD hS => ?_)
      replace hP : va_P D vwCl (RW2 cI q o a b q2 o2 a2 b2 ((u.1.1, u.1.2.1, u.1.2.2.1, x5, u.1.2.2.2.2), u.2)) H := hP
      replace hD : va_D A (RW2 cI q o a b q2 o2 a2 b2 ((u.1.1, u.1.2.1, u.1.2.2.1, x5, u.1.2.2.2.2), u.2)) := hD
      refine lv_aload_n hx hb dX0_moveAllBehind_108 rfl (lv_at hl 0 rfl) ?_
      refine lv_iload_n hx hb dX0_moveAllBehind_109 rfl (lv_at hl 3 rfl) ?_
      refine va_put (D := D) (ci := 0) (v := .int x3) (ty := .int) (C := RX0) (T := TX0) (N := 5) hx hb hts (fun w h => cwc w (in_X0 w h)) tyX0 tyX0_ok nmX0 hown hK hP hD hS 0 rfl rfl 4 (by decide) hk_25 (fun _ h9 => h9) rfl (by decide +kernel) rfl rfl (Nat.le_of_ble_eq_true rfl) dX0_moveAllBehind_110 (fun H locs hP hD hS => ?_)
      replace hP : va_P D vwCl (RW2 cI q o a b q2 o2 a2 b2 ((u.1.1, u.1.2.1, u.1.2.2.1, x5, x3), u.2)) H := hP
      replace hD : va_D A (RW2 cI q o a b q2 o2 a2 b2 ((u.1.1, u.1.2.1, u.1.2.2.1, x5, x3), u.2)) := hD
      cases hF
      refine W.widen (k := 0) (n := 0) (Nat.le_of_ble_eq_true rfl) (Nat.le_of_ble_eq_true rfl) ?_
      exact W.vret hx hb hr (fun t ht hW => ⟨⟨_, rfl, rfl, by rw [ht]; exact hP, va_K.moved hW.alike hK, hD⟩, hS.F ht⟩) hS.2.2 dX0_moveAllBehind_113
    · replace hF := (if_neg c_2).symm.trans hF
      refine lv_iload hx hb dX0_moveAllBehind_27 (lv_at hl 4 rfl) ?_
      refine lv_aload_n hx hb dX0_moveAllBehind_29 rfl (lv_at hl 0 rfl) ?_
      refine va_get (D := D) (ci := 0) (v := .ref a) (C := RX0) (T := TX0) (N := 5) hx hb hts (fun w h => cwc w (in_X0 w h)) hown hK hP 0 rfl rfl 1 (by decide) hk_15 (fun _ h9 => h9) rfl dX0_moveAllBehind_30 ?_
      refine lv_iload hx hb dX0_moveAllBehind_33 (lv_at hl 6 rfl) ?_
      obtain ⟨h_3, hF⟩ := gd_some hF
      refine va_iald (f := u.1.2.1) hx hb hK hP 2 0 rfl rfl (inb_in h_3) dX0_moveAllBehind_35 ?_
      refine va_mmin hx hb (hml.trans hl.1.symm) hown hmmin_l35 hmmin_s hm_i hmmin_c (Nat.le_of_ble_eq_true rfl) (Nat.le_of_ble_eq_true rfl) (Nat.zero_le _) (Nat.zero_le _) dX0_moveAllBehind_36 ?_
      obtain ⟨v4, ev4, hF⟩ := nm_some hF
      refine W.eq (g2 := F0 m 39 ls (.int v4 :: [])) (congrArg (fun z => F0 m 39 ls (.int z :: [])) ev4.symm) ?_
      refine lv_istore (lv' := [(7, .int v4), (0, .ref q), (1, .int x1), (2, .ref q2), (3, .int x3), (4, .int x4), (5, .int x5), (6, .int x6)]) hx hb dX0_moveAllBehind_39 hl (by decide) rfl (fun ls hl => ?_)
      refine lv_aload_n hx hb dX0_moveAllBehind_41 rfl (lv_at hl 3 rfl) ?_
      refine lv_aload_n hx hb dX0_moveAllBehind_42 rfl (lv_at hl 1 rfl) ?_
      refine va_get (D := D) (ci := 0) (v := .ref o) (C := RX0) (T := TX0) (N := 5) hx hb hts (fun w h => cwc w (in_X0 w h)) hown hK hP 0 rfl rfl 0 (by decide) hk_9 (fun _ h9 => h9) rfl dX0_moveAllBehind_43 ?_
      refine lv_iload hx hb dX0_moveAllBehind_46 (lv_at hl 7 rfl) ?_
      obtain ⟨h_5, hF⟩ := gd_some hF
      refine va_iald (f := u.1.1) hx hb hK hP 1 0 rfl rfl (inb_in h_5) dX0_moveAllBehind_48 ?_
      refine lv_aload_n hx hb dX0_moveAllBehind_49 rfl (lv_at hl 1 rfl) ?_
      refine va_get (D := D) (ci := 0) (v := .ref b) (C := RX0) (T := TX0) (N := 5) hx hb hts (fun w h => cwc w (in_X0 w h)) hown hK hP 0 rfl rfl 2 (by decide) hk_18 (fun _ h9 => h9) rfl dX0_moveAllBehind_50 ?_
      refine lv_iload hx hb dX0_moveAllBehind_53 (lv_at hl 7 rfl) ?_
      obtain ⟨h_6, hF⟩ := gd_some hF
      refine va_iald (f := u.1.2.2.1) hx hb hK hP 3 0 rfl rfl (inb_in h_6) dX0_moveAllBehind_55 ?_
      refine lv_aload_n hx hb dX0_moveAllBehind_56 rfl (lv_at hl 1 rfl) ?_
      refine va_get (D := D) (ci := 0) (v := .ref a) (C := RX0) (T := TX0) (N := 5) hx hb hts (fun w h => cwc w (in_X0 w h)) hown hK hP 0 rfl rfl 1 (by decide) hk_15 (fun _ h9 => h9) rfl dX0_moveAllBehind_57 ?_
      refine lv_iload hx hb dX0_moveAllBehind_60 (lv_at hl 7 rfl) ?_
      obtain ⟨h_7, hF⟩ := gd_some hF
      refine va_iald (f := u.1.2.1) hx hb hK hP 2 0 rfl rfl (inb_in h_7) dX0_moveAllBehind_62 ?_
      refine lv_iload hx hb dX0_moveAllBehind_63 (lv_at hl 0 rfl) ?_
      refine lv_isub hx hb dX0_moveAllBehind_65 ?_
      obtain ⟨r9, u8, hc_10, hF⟩ := bi_some hF
      refine kc_v (W1 := RW2 cI q o a b q2 o2 a2 b2 (u.1, u8)) (va_runV (As := [.int (u.1.1 x6.toNatClampNeg), .int (u.1.2.2.1 x6.toNatClampNeg), .int ((u.1.2.1 x6.toNatClampNeg) - v4)]) (rest := []) ⟨hx, hb, hml, hown, hts⟩ (c_Row_putBehind l D cI cR q2 o2 a2 b2 H.size (u.1.1 x6.toNatClampNeg) (u.1.2.2.1 x6.toNatClampNeg) ((u.1.2.1 x6.toNatClampNeg) - v4) u.2 r9 u8 hc_10) (cwV 3 hts (gV cwc mw_265 mw_244 mw_245 mw_2 mw_246) rfl rfl rfl (by decide +kernel) ⟨(Nat.le_of_ble_eq_true rfl), (Nat.le_of_ble_eq_true rfl)⟩) (kp_V (ci := 0) (q := (RX0, TX0, 5)) hK hP hD (sb_seg (RW cI q o a b u.1) (RW cI q2 o2 a2 b2 u.2) []) rfl rfl) rfl rfl hl.1 rfl (lv_room (Nat.le_of_ble_eq_true rfl)) dX0_moveAllBehind_66 ⟨(Nat.le_of_ble_eq_true rfl), (Nat.le_of_ble_eq_true rfl)⟩) hP hD hS hA (sb_seg (RW cI q o a b u.1) (RW cI q2 o2 a2 b2 u.2) []) (jn_seg (RW cI q o a b u.1) (RW cI q2 o2 a2 b2 u.2) (RW cI q2 o2 a2 b2 u8) [] rfl) (fun H locs hP hD hS => ?_)
      refine lv_aload_n hx hb dX0_moveAllBehind_69 rfl (lv_at hl 1 rfl) ?_
      refine va_get (D := D) (ci := 0) (v := .ref a) (C := RX0) (T := TX0) (N := 5) hx hb hts (fun w h => cwc w (in_X0 w h)) hown hK hP 0 rfl rfl 1 (by decide) hk_15 (fun _ h9 => h9) rfl dX0_moveAllBehind_70 ?_
      refine lv_iload hx hb dX0_moveAllBehind_73 (lv_at hl 7 rfl) ?_
      refine lv_iload hx hb dX0_moveAllBehind_75 (lv_at hl 0 rfl) ?_
      obtain ⟨h_11, hF⟩ := gd_some hF
      refine va_iast (f := u.1.2.1) hx hb hK hP hD hS 2 0 rfl rfl (inb_in h_11) dX0_moveAllBehind_77 (fun H locs hP hD hS => ?_)
      replace hP : va_P D vwCl (RW2 cI q o a b q2 o2 a2 b2 ((u.1.1, (upd u.1.2.1 x6.toNatClampNeg v4), u.1.2.2.1, u.1.2.2.2.1, u.1.2.2.2.2), u8)) H := hP
      replace hD : va_D A (RW2 cI q o a b q2 o2 a2 b2 ((u.1.1, (upd u.1.2.1 x6.toNatClampNeg v4), u.1.2.2.1, u.1.2.2.2.1, u.1.2.2.2.2), u8)) := hD
      refine lv_iload hx hb dX0_moveAllBehind_78 (lv_at hl 5 rfl) ?_
      refine lv_iload hx hb dX0_moveAllBehind_80 (lv_at hl 0 rfl) ?_
      refine lv_isub hx hb dX0_moveAllBehind_82 ?_
      obtain ⟨v12, ev12, hF⟩ := nm_some hF
      refine W.eq (g2 := F0 m 83 ls (.int v12 :: [])) (congrArg (fun z => F0 m 83 ls (.int z :: [])) ev12.symm) ?_
      refine lv_istore (lv' := [(4, .int v12), (7, .int v4), (0, .ref q), (1, .int x1), (2, .ref q2), (3, .int x3), (5, .int x5), (6, .int x6)]) hx hb dX0_moveAllBehind_83 hl (by decide) rfl (fun ls hl => ?_)
      refine lv_iload hx hb dX0_moveAllBehind_85 (lv_at hl 1 rfl) ?_
      refine lv_if_le (tgt := 96) hx hb dX0_moveAllBehind_87 (by decide) (fun c_13 => ?_) (fun c_13 => ?_)
      · replace hF := (if_pos c_13).symm.trans hF
        refine lv_iinc (v := (x6 + (1 : Int32))) (lv' := [(6, .int (x6 + (1 : Int32))), (4, .int v12), (7, .int v4), (0, .ref q), (1, .int x1), (2, .ref q2), (3, .int x3), (5, .int x5)]) hx hb dX0_moveAllBehind_96 hl (k := 7) rfl rfl (by decide) rfl (fun ls hl => ?_)
        refine lv_goto (tgt := 18) hx hb dX0_moveAllBehind_99 (by decide) ?_
        exact ih x1 x3 v12 x5 (x6 + (1 : Int32)) ((u.1.1, (upd u.1.2.1 x6.toNatClampNeg v4), u.1.2.2.1, u.1.2.2.2.1, u.1.2.2.2.2), u8) _ _ hF H locs ls hP hD hS (lv_sub hl [3, 4, 5, 6, 1, 7, 0] rfl)
      · replace hF := (if_neg c_13).symm.trans hF
        refine lv_iload hx hb dX0_moveAllBehind_90 (lv_at hl 7 rfl) ?_
        refine lv_iconst (v := (1 : Int32)) hx hb dX0_moveAllBehind_92 (by decide +kernel) ?_
        refine lv_iadd hx hb dX0_moveAllBehind_93 ?_
        obtain ⟨v14, ev14, hF⟩ := nm_some hF
        refine W.eq (g2 := F0 m 94 ls (.int v14 :: [])) (congrArg (fun z => F0 m 94 ls (.int z :: [])) ev14.symm) ?_
        refine lv_istore (lv' := [(5, .int v14), (4, .int v12), (7, .int v4), (0, .ref q), (1, .int x1), (2, .ref q2), (3, .int x3), (6, .int x6)]) hx hb dX0_moveAllBehind_94 hl (by decide) rfl (fun ls hl => ?_)
        refine lv_iinc (v := (x6 + (1 : Int32))) (lv' := [(6, .int (x6 + (1 : Int32))), (5, .int v14), (4, .int v12), (7, .int v4), (0, .ref q), (1, .int x1), (2, .ref q2), (3, .int x3)]) hx hb dX0_moveAllBehind_96 hl (k := 7) rfl rfl (by decide) rfl (fun ls hl => ?_)
        refine lv_goto (tgt := 18) hx hb dX0_moveAllBehind_99 (by decide) ?_
        exact ih x1 x3 v12 v14 (x6 + (1 : Int32)) ((u.1.1, (upd u.1.2.1 x6.toNatClampNeg v4), u.1.2.2.1, u.1.2.2.2.1, u.1.2.2.2.2), u8) _ _ hF H locs ls hP hD hS (lv_sub hl [4, 5, 6, 7, 2, 1, 0] rfl)
set_option maxHeartbeats 4000000 in
set_option maxRecDepth 100000 in
theorem c_Row_moveAllBehind (l : Launch) (D : va_G) (cI cR : ClassId) (q o a b q2 o2 a2 b2 : Nat) (sz : Nat) (p1 : Int32) (u : (RowS × RowS)) (r : Unit) (u' : (RowS × RowS)) (hF : F_Row_moveAllBehind p1 u = some (r, u')) : Met l yX0_moveAllBehind wsX0_moveAllBehind ({ frames := 2, cells := 0, slots := 0, locals := 46 }) (va_Pc [.ref q, .int p1, .ref q2] (PRE D (TY cI cR) (RW2 cI q o a b q2 o2 a2 b2 u) sz)) (QV D (TY cI cR) (va_A (RW2 cI q o a b q2 o2 a2 b2 u) sz) (fun v => RW2 cI q o a b q2 o2 a2 b2 v) u') 0 0 (va_A (RW2 cI q o a b q2 o2 a2 b2 u) sz) := by
  refine Met.ofW (cc := cX0_moveAllBehind) (maxL := 8) (ret := none) (by decide) rfl ?_
  intro p e s m args below meth c s₁ B hml hv
  obtain ⟨rfl, hsz, hP, hK, hD0⟩ := hv
  have hx := B.exec
  have hb := B.bytes
  have hr := B.returns
  have hts := atoms_spec (ws := wsX0_moveAllBehind) B.pre
  have hown : s.vm.findClass RX0 = some m.cls := findClass_of_methodNamed B.named
  have hlocks := B.notSynchronized
  subst hsz
  have hD := hD0.self (sz := s.heap.size)
  generalize hAe : va_A (RW2 cI q o a b q2 o2 a2 b2 u) s.heap.size = A at hD ⊢
  have hA : ∀ q : Nat, s.heap.size ≤ q → A q := fun q h => by rw [← hAe]; exact Or.inr h
  have hS : va_S A s.heap s.heap [] := va_S.rf
  replace hP : va_P D vwCl (RW2 cI q o a b q2 o2 a2 b2 u) s.heap := hP
  have hl := lv_entry ([.ref q, .int p1, .ref q2]) (n := 8) (Nat.le_of_ble_eq_true rfl)
  rw [lg_entry_eq]
  generalize (lg_sl ([.ref q, .int p1, .ref q2]) ++ List.replicate (8 - (lg_sl ([.ref q, .int p1, .ref q2])).length) Slot.unset).toArray = ls at hl ⊢
  replace hl : lv_has ls 8 [(0, .ref q), (1, .int p1), (2, .ref q2)] := hl
  have hk_25 := (hts _ (cwc _ mw_27))
  have hmmin_l35 := (hts _ (cwc _ mw_264))
  have hmmin_s := (hts _ (cwc _ mw_241))
  have hm_i := (hts _ (cwc _ mw_9))
  have hmmin_c := (hts _ (cwc _ mw_242))
  have hk_21 := (hts _ (cwc _ mw_26))
  have hk_15 := (hts _ (cwc _ mw_24))
  have hk_9 := (hts _ (cwc _ mw_23))
  have hk_18 := (hts _ (cwc _ mw_25))
  unfold F_Row_moveAllBehind at hF
  refine (?_ : ∀ (H : Heap) (locs : List Loc), va_P D vwCl (RW2 cI q o a b q2 o2 a2 b2 u) H → va_S A s.heap H locs → W p l e _ s m _ below meth c H locs 0 0 _ (F0 m 0 ls [])) s.heap [] hP hS
  intro H locs hP hS
  refine lv_iload_n hx hb dX0_moveAllBehind_0 rfl (lv_at hl 1 rfl) ?_
  refine lv_aload_n hx hb dX0_moveAllBehind_1 rfl (lv_at hl 0 rfl) ?_
  refine va_get (D := D) (ci := 0) (v := .int u.1.2.2.2.2) (C := RX0) (T := TX0) (N := 5) hx hb hts (fun w h => cwc w (in_X0 w h)) hown hK hP 0 rfl rfl 4 (by decide) hk_25 (fun _ h9 => h9) rfl dX0_moveAllBehind_2 ?_
  refine va_mmin hx hb (hml.trans hl.1.symm) hown hmmin_l35 hmmin_s hm_i hmmin_c (Nat.le_of_ble_eq_true rfl) (Nat.le_of_ble_eq_true rfl) (Nat.zero_le _) (Nat.zero_le _) dX0_moveAllBehind_5 ?_
  obtain ⟨v1, ev1, hF⟩ := nm_some hF
  refine W.eq (g2 := F0 m 8 ls (.int v1 :: [])) (congrArg (fun z => F0 m 8 ls (.int z :: [])) ev1.symm) ?_
  refine lv_istore_n (lv' := [(3, .int v1), (0, .ref q), (1, .int p1), (2, .ref q2)]) hx hb dX0_moveAllBehind_8 rfl hl (by decide) rfl (fun ls hl => ?_)
  refine lv_iload_n hx hb dX0_moveAllBehind_9 rfl (lv_at hl 0 rfl) ?_
  refine lv_istore (lv' := [(4, .int v1), (3, .int v1), (0, .ref q), (1, .int p1), (2, .ref q2)]) hx hb dX0_moveAllBehind_10 hl (by decide) rfl (fun ls hl => ?_)
  refine lv_iconst (v := (0 : Int32)) hx hb dX0_moveAllBehind_12 (by decide +kernel) ?_
  refine lv_istore (lv' := [(5, .int (0 : Int32)), (4, .int v1), (3, .int v1), (0, .ref q), (1, .int p1), (2, .ref q2)]) hx hb dX0_moveAllBehind_13 hl (by decide) rfl (fun ls hl => ?_)
  refine lv_iconst (v := (0 : Int32)) hx hb dX0_moveAllBehind_15 (by decide +kernel) ?_
  refine lv_istore (lv' := [(6, .int (0 : Int32)), (5, .int (0 : Int32)), (4, .int v1), (3, .int v1), (0, .ref q), (1, .int p1), (2, .ref q2)]) hx hb dX0_moveAllBehind_16 hl (by decide) rfl (fun ls hl => ?_)
  exact w_Row_moveAllBehind_L18 hx hb hr hml hown hts hlocks hA hK 9 p1 v1 v1 (0 : Int32) (0 : Int32) u _ _ hF H locs ls hP hD hS (lv_sub hl [4, 5, 6, 3, 2, 1, 0] rfl)
end
section
def F_P_stockIndex (p0 : Int32) (p1 : Int32) (u : Unit) : Option ((Int32) × Unit) := some (((p0 * (4 : Int32)) + p1), ())
set_option maxHeartbeats 4000000 in
set_option maxRecDepth 100000 in
theorem c_P_stockIndex (l : Launch) (D : va_G) (cI cR : ClassId)  (sz : Nat) (p0 : Int32) (p1 : Int32) (u : Unit) (r : Int32) (u' : Unit) (hF : F_P_stockIndex p0 p1 u = some (r, u')) : Met l yX1_stockIndex wsX1_stockIndex ({ frames := 0, cells := 0, slots := 0, locals := 0 }) (va_Pc [.int p0, .int p1] (PRE D (TY cI cR) ([] : va_W) sz)) (QI D (TY cI cR) (va_A ([] : va_W) sz) (fun (_ : Unit) => ([] : va_W)) r u') 0 0 (va_A ([] : va_W) sz) := by
  refine Met.ofW (cc := cX1_stockIndex) (maxL := 2) (ret := (some .int)) (by decide) rfl ?_
  intro p e s m args below meth c s₁ B hml hv
  obtain ⟨rfl, hsz, hP, hK, hD0⟩ := hv
  have hx := B.exec
  have hb := B.bytes
  have hr := B.returns
  have hts := atoms_spec (ws := wsX1_stockIndex) B.pre
  have hown : s.vm.findClass RX1 = some m.cls := findClass_of_methodNamed B.named
  have hlocks := B.notSynchronized
  subst hsz
  have hD := hD0.self (sz := s.heap.size)
  generalize hAe : va_A ([] : va_W) s.heap.size = A at hD ⊢
  have hA : ∀ q : Nat, s.heap.size ≤ q → A q := fun q h => by rw [← hAe]; exact Or.inr h
  have hS : va_S A s.heap s.heap [] := va_S.rf
  replace hP : va_P D vwCl ([] : va_W) s.heap := hP
  have hl := lv_entry ([.int p0, .int p1]) (n := 2) (Nat.le_of_ble_eq_true rfl)
  rw [lg_entry_eq]
  generalize (lg_sl ([.int p0, .int p1]) ++ List.replicate (2 - (lg_sl ([.int p0, .int p1])).length) Slot.unset).toArray = ls at hl ⊢
  replace hl : lv_has ls 2 [(0, .int p0), (1, .int p1)] := hl
  unfold F_P_stockIndex at hF
  refine (?_ : ∀ (H : Heap) (locs : List Loc), va_P D vwCl ([] : va_W) H → va_S A s.heap H locs → W p l e _ s m _ below meth c H locs 0 0 _ (F0 m 0 ls [])) s.heap [] hP hS
  intro H locs hP hS
  refine lv_iload_n hx hb dX1_stockIndex_0 rfl (lv_at hl 0 rfl) ?_
  refine lv_iconst (v := (4 : Int32)) hx hb dX1_stockIndex_1 (by decide +kernel) ?_
  refine lv_imul hx hb dX1_stockIndex_2 ?_
  refine lv_iload_n hx hb dX1_stockIndex_3 rfl (lv_at hl 1 rfl) ?_
  refine lv_iadd hx hb dX1_stockIndex_4 ?_
  cases hF
  refine W.widen (k := 0) (n := 0) (Nat.le_of_ble_eq_true rfl) (Nat.le_of_ble_eq_true rfl) ?_
  exact W.iret hx hb hr (fun t ht hW => ⟨⟨_, _, rfl, ⟨rfl, rfl⟩, by rw [ht]; exact hP, va_K.moved hW.alike hK, hD⟩, hS.F ht⟩) hS.2.2 dX1_stockIndex_5
def F_P_isStation (p0 : Int32) (u : Unit) : Option ((Int32) × Unit) := (if p0 < (0 : Int32) then some ((0 : Int32), ()) else (if (8 : Int32) ≤ p0 then some ((0 : Int32), ()) else some ((1 : Int32), ())))
set_option maxHeartbeats 4000000 in
set_option maxRecDepth 100000 in
theorem c_P_isStation (l : Launch) (D : va_G) (cI cR : ClassId)  (sz : Nat) (p0 : Int32) (u : Unit) (r : Int32) (u' : Unit) (hF : F_P_isStation p0 u = some (r, u')) : Met l yX1_isStation wsX1_isStation ({ frames := 0, cells := 0, slots := 0, locals := 0 }) (va_Pc [.int p0] (PRE D (TY cI cR) ([] : va_W) sz)) (QI D (TY cI cR) (va_A ([] : va_W) sz) (fun (_ : Unit) => ([] : va_W)) r u') 0 0 (va_A ([] : va_W) sz) := by
  refine Met.ofW (cc := cX1_isStation) (maxL := 1) (ret := (some .boolean)) (by decide) rfl ?_
  intro p e s m args below meth c s₁ B hml hv
  obtain ⟨rfl, hsz, hP, hK, hD0⟩ := hv
  have hx := B.exec
  have hb := B.bytes
  have hr := B.returns
  have hts := atoms_spec (ws := wsX1_isStation) B.pre
  have hown : s.vm.findClass RX1 = some m.cls := findClass_of_methodNamed B.named
  have hlocks := B.notSynchronized
  subst hsz
  have hD := hD0.self (sz := s.heap.size)
  generalize hAe : va_A ([] : va_W) s.heap.size = A at hD ⊢
  have hA : ∀ q : Nat, s.heap.size ≤ q → A q := fun q h => by rw [← hAe]; exact Or.inr h
  have hS : va_S A s.heap s.heap [] := va_S.rf
  replace hP : va_P D vwCl ([] : va_W) s.heap := hP
  have hl := lv_entry ([.int p0]) (n := 1) (Nat.le_of_ble_eq_true rfl)
  rw [lg_entry_eq]
  generalize (lg_sl ([.int p0]) ++ List.replicate (1 - (lg_sl ([.int p0])).length) Slot.unset).toArray = ls at hl ⊢
  replace hl : lv_has ls 1 [(0, .int p0)] := hl
  unfold F_P_isStation at hF
  refine (?_ : ∀ (H : Heap) (locs : List Loc), va_P D vwCl ([] : va_W) H → va_S A s.heap H locs → W p l e _ s m _ below meth c H locs 0 0 _ (F0 m 0 ls [])) s.heap [] hP hS
  intro H locs hP hS
  refine lv_iload_n hx hb dX1_isStation_0 rfl (lv_at hl 0 rfl) ?_
  refine lv_if_lt (tgt := 14) hx hb dX1_isStation_1 (by decide) (fun c_1 => ?_) (fun c_1 => ?_)
  · replace hF := (if_pos c_1).symm.trans hF
    refine lv_iconst (v := (0 : Int32)) hx hb dX1_isStation_14 (by decide +kernel) ?_
    cases hF
    refine W.widen (k := 0) (n := 0) (Nat.le_of_ble_eq_true rfl) (Nat.le_of_ble_eq_true rfl) ?_
    exact W.zret hx hb hr rfl (fun t ht hW => ⟨⟨_, _, rfl, ⟨rfl, rfl⟩, by rw [ht]; exact hP, va_K.moved hW.alike hK, hD⟩, hS.F ht⟩) hS.2.2 dX1_isStation_15
  · replace hF := (if_neg c_1).symm.trans hF
    refine lv_iload_n hx hb dX1_isStation_4 rfl (lv_at hl 0 rfl) ?_
    refine lv_bipush (v := (8 : Int32)) hx hb dX1_isStation_5 (by decide +kernel) ?_
    refine lv_icmp_ge (tgt := 14) hx hb dX1_isStation_7 (by decide) (fun c_2 => ?_) (fun c_2 => ?_)
    · replace hF := (if_pos c_2).symm.trans hF
      refine lv_iconst (v := (0 : Int32)) hx hb dX1_isStation_14 (by decide +kernel) ?_
      cases hF
      refine W.widen (k := 0) (n := 0) (Nat.le_of_ble_eq_true rfl) (Nat.le_of_ble_eq_true rfl) ?_
      exact W.zret hx hb hr rfl (fun t ht hW => ⟨⟨_, _, rfl, ⟨rfl, rfl⟩, by rw [ht]; exact hP, va_K.moved hW.alike hK, hD⟩, hS.F ht⟩) hS.2.2 dX1_isStation_15
    · replace hF := (if_neg c_2).symm.trans hF
      refine lv_iconst (v := (1 : Int32)) hx hb dX1_isStation_10 (by decide +kernel) ?_
      refine lv_goto (tgt := 15) hx hb dX1_isStation_11 (by decide) ?_
      cases hF
      refine W.widen (k := 0) (n := 0) (Nat.le_of_ble_eq_true rfl) (Nat.le_of_ble_eq_true rfl) ?_
      exact W.zret hx hb hr rfl (fun t ht hW => ⟨⟨_, _, rfl, ⟨rfl, rfl⟩, by rw [ht]; exact hP, va_K.moved hW.alike hK, hD⟩, hS.F ht⟩) hS.2.2 dX1_isStation_15
def F_P_isKind (p0 : Int32) (u : Unit) : Option ((Int32) × Unit) := (if p0 < (0 : Int32) then some ((0 : Int32), ()) else (if (4 : Int32) ≤ p0 then some ((0 : Int32), ()) else some ((1 : Int32), ())))
set_option maxHeartbeats 4000000 in
set_option maxRecDepth 100000 in
theorem c_P_isKind (l : Launch) (D : va_G) (cI cR : ClassId)  (sz : Nat) (p0 : Int32) (u : Unit) (r : Int32) (u' : Unit) (hF : F_P_isKind p0 u = some (r, u')) : Met l yX1_isKind wsX1_isKind ({ frames := 0, cells := 0, slots := 0, locals := 0 }) (va_Pc [.int p0] (PRE D (TY cI cR) ([] : va_W) sz)) (QI D (TY cI cR) (va_A ([] : va_W) sz) (fun (_ : Unit) => ([] : va_W)) r u') 0 0 (va_A ([] : va_W) sz) := by
  refine Met.ofW (cc := cX1_isKind) (maxL := 1) (ret := (some .boolean)) (by decide) rfl ?_
  intro p e s m args below meth c s₁ B hml hv
  obtain ⟨rfl, hsz, hP, hK, hD0⟩ := hv
  have hx := B.exec
  have hb := B.bytes
  have hr := B.returns
  have hts := atoms_spec (ws := wsX1_isKind) B.pre
  have hown : s.vm.findClass RX1 = some m.cls := findClass_of_methodNamed B.named
  have hlocks := B.notSynchronized
  subst hsz
  have hD := hD0.self (sz := s.heap.size)
  generalize hAe : va_A ([] : va_W) s.heap.size = A at hD ⊢
  have hA : ∀ q : Nat, s.heap.size ≤ q → A q := fun q h => by rw [← hAe]; exact Or.inr h
  have hS : va_S A s.heap s.heap [] := va_S.rf
  replace hP : va_P D vwCl ([] : va_W) s.heap := hP
  have hl := lv_entry ([.int p0]) (n := 1) (Nat.le_of_ble_eq_true rfl)
  rw [lg_entry_eq]
  generalize (lg_sl ([.int p0]) ++ List.replicate (1 - (lg_sl ([.int p0])).length) Slot.unset).toArray = ls at hl ⊢
  replace hl : lv_has ls 1 [(0, .int p0)] := hl
  unfold F_P_isKind at hF
  refine (?_ : ∀ (H : Heap) (locs : List Loc), va_P D vwCl ([] : va_W) H → va_S A s.heap H locs → W p l e _ s m _ below meth c H locs 0 0 _ (F0 m 0 ls [])) s.heap [] hP hS
  intro H locs hP hS
  refine lv_iload_n hx hb dX1_isKind_0 rfl (lv_at hl 0 rfl) ?_
  refine lv_if_lt (tgt := 13) hx hb dX1_isKind_1 (by decide) (fun c_1 => ?_) (fun c_1 => ?_)
  · replace hF := (if_pos c_1).symm.trans hF
    refine lv_iconst (v := (0 : Int32)) hx hb dX1_isKind_13 (by decide +kernel) ?_
    cases hF
    refine W.widen (k := 0) (n := 0) (Nat.le_of_ble_eq_true rfl) (Nat.le_of_ble_eq_true rfl) ?_
    exact W.zret hx hb hr rfl (fun t ht hW => ⟨⟨_, _, rfl, ⟨rfl, rfl⟩, by rw [ht]; exact hP, va_K.moved hW.alike hK, hD⟩, hS.F ht⟩) hS.2.2 dX1_isKind_14
  · replace hF := (if_neg c_1).symm.trans hF
    refine lv_iload_n hx hb dX1_isKind_4 rfl (lv_at hl 0 rfl) ?_
    refine lv_iconst (v := (4 : Int32)) hx hb dX1_isKind_5 (by decide +kernel) ?_
    refine lv_icmp_ge (tgt := 13) hx hb dX1_isKind_6 (by decide) (fun c_2 => ?_) (fun c_2 => ?_)
    · replace hF := (if_pos c_2).symm.trans hF
      refine lv_iconst (v := (0 : Int32)) hx hb dX1_isKind_13 (by decide +kernel) ?_
      cases hF
      refine W.widen (k := 0) (n := 0) (Nat.le_of_ble_eq_true rfl) (Nat.le_of_ble_eq_true rfl) ?_
      exact W.zret hx hb hr rfl (fun t ht hW => ⟨⟨_, _, rfl, ⟨rfl, rfl⟩, by rw [ht]; exact hP, va_K.moved hW.alike hK, hD⟩, hS.F ht⟩) hS.2.2 dX1_isKind_14
    · replace hF := (if_neg c_2).symm.trans hF
      refine lv_iconst (v := (1 : Int32)) hx hb dX1_isKind_9 (by decide +kernel) ?_
      refine lv_goto (tgt := 14) hx hb dX1_isKind_10 (by decide) ?_
      cases hF
      refine W.widen (k := 0) (n := 0) (Nat.le_of_ble_eq_true rfl) (Nat.le_of_ble_eq_true rfl) ?_
      exact W.zret hx hb hr rfl (fun t ht hW => ⟨⟨_, _, rfl, ⟨rfl, rfl⟩, by rw [ht]; exact hP, va_K.moved hW.alike hK, hD⟩, hS.F ht⟩) hS.2.2 dX1_isKind_14
def F_P_checkStation (p0 : Int32) (u : Unit) : Option ((Nat ⊕ Unit) × Unit) := bi (F_P_isStation p0 ()) (fun r2 u1 => (if r2 = (0 : Int32) then some (.inl 1, ()) else some ((.inr ()), ())))
set_option maxHeartbeats 4000000 in
set_option maxRecDepth 100000 in
theorem c_P_checkStation (l : Launch) (hl9 : l.stackTraces = false) (D : va_G) (cI cR : ClassId) (sa : Nat → Nat)  (sz : Nat) (p0 : Int32) (u : Unit) (r : Nat ⊕ Unit) (u' : Unit) (hF : F_P_checkStation p0 u = some (r, u')) : vx_Met l yX1_checkStation wsX1_checkStation ({ frames := 6, cells := 1, slots := 6, locals := 82 }) (va_Pc [.int p0] (PREX D (TY cI cR) ([] : va_W) sz sa)) (XV D (TY cI cR) (va_A ([] : va_W) sz) (fun (_ : Unit) => ([] : va_W)) r u') (XX D (TY cI cR) (va_A ([] : va_W) sz) (fun (_ : Unit) => ([] : va_W)) r u') 1 6 (va_A ([] : va_W) sz) := by
  refine vx_ofW (cc := cX1_checkStation) (maxL := 1) (ret := none) (by decide) rfl ?_
  intro p e s m args below meth c s₁ B hml hnx hv
  obtain ⟨rfl, ⟨hsz, hP, hK, hD0⟩, hXK⟩ := hv
  have hx := B.exec
  have hb := B.bytes
  have hr := B.returns
  have hts := atoms_spec (ws := wsX1_checkStation) B.pre
  have hown : s.vm.findClass RX1 = some m.cls := findClass_of_methodNamed B.named
  have hlocks := B.notSynchronized
  subst hsz
  have hD := hD0.self (sz := s.heap.size)
  generalize hAe : va_A ([] : va_W) s.heap.size = A at hD hXK ⊢
  have hA : ∀ q : Nat, s.heap.size ≤ q → A q := fun q h => by rw [← hAe]; exact Or.inr h
  have hS : va_S A s.heap s.heap [] := va_S.rf
  replace hP : va_P D vwCl ([] : va_W) s.heap := hP
  have hl := lv_entry ([.int p0]) (n := 1) (Nat.le_of_ble_eq_true rfl)
  rw [lg_entry_eq]
  generalize (lg_sl ([.int p0]) ++ List.replicate (1 - (lg_sl ([.int p0])).length) Slot.unset).toArray = ls at hl ⊢
  replace hl : lv_has ls 1 [(0, .int p0)] := hl
  obtain ⟨hXU, hXN, hXc1, hXc2, hXd1, hXd2, hXd3, hXn, -⟩ := id hXK
  unfold F_P_checkStation at hF
  refine (?_ : ∀ (H : Heap) (locs : List Loc), va_P D vwCl ([] : va_W) H → va_S A s.heap H locs → W p l e _ s m _ below meth c H locs 0 0 _ (F0 m 0 ls [])) s.heap [] hP hS
  intro H locs hP hS
  refine lv_iload_n hx hb dX1_checkStation_0 rfl (lv_at hl 0 rfl) ?_
  obtain ⟨r2, u1, hc_3, hF⟩ := bi_some hF
  refine kc_i (W1 := ([] : va_W)) (va_runS (As := [.int p0]) (rest := []) ⟨hx, hb, hml, hown, hts⟩ (c_P_isStation l D cI cR  H.size p0 () r2 u1 hc_3) (va_cwS 1 hts (gS cwc mw_80 mw_81 mw_1 mw_82) rfl rfl rfl (by decide +kernel) ⟨(Nat.le_of_ble_eq_true rfl), (Nat.le_of_ble_eq_true rfl)⟩) (kp_S hK hP hD (sb_nil _)) rfl rfl hl.1 rfl (lv_room (Nat.le_of_ble_eq_true rfl)) dX1_checkStation_1 ⟨(Nat.le_of_ble_eq_true rfl), (Nat.le_of_ble_eq_true rfl)⟩) hP hD hS hA (sb_nil _) (jn_nil _) (fun H locs hP hD hS => ?_)
  refine lv_if_ne (tgt := 17) hx hb dX1_checkStation_4 (by decide) (fun c_4 => ?_) (fun c_4 => ?_)
  · replace hF := (if_neg c_4).symm.trans hF
    cases hF
    refine vx_ret ?_
    refine W.widen (k := 1) (n := 6) (Nat.le_of_ble_eq_true rfl) (Nat.le_of_ble_eq_true rfl) ?_
    exact W.vret hx hb hr (fun t ht hW => ⟨⟨_, rfl, ⟨rfl, rfl⟩, by rw [ht]; exact hP, va_K.moved hW.alike hK, hD⟩, hS.F ht⟩) hS.2.2 dX1_checkStation_17
  · replace hF := (if_pos c_4).symm.trans hF
    cases hF
    exact vx_throwS (own := RX1) (cls := "java/lang/IndexOutOfBoundsException") (names := ["java/lang/RuntimeException", "java/lang/Exception"]) hx hb hl9 hown (by decide +kernel) (by decide +kernel) (hts _ (cwc _ mw_127)) (hts _ (cwc _ mw_7)) (XK_s182 hXK) (vx_hat (L := vx_atS RX1 184 "java/lang/IndexOutOfBoundsException" ["java/lang/RuntimeException", "java/lang/Exception"]) (fun w hw => hts w (cwc w (hatA_1 w hw))) hatB_1 (vx_c (va_Nw.use rfl hXc1) (vx_c (va_Nw.use rfl hXd1) (vx_c (va_Nw.use rfl hXd2) (vx_c (va_Nw.use rfl hXd3) (vx_n)))))) hatC_1 hXU hXN hS (hl.1.trans hml.symm) dX1_checkStation_7 dX1_checkStation_10 dX1_checkStation_11 dX1_checkStation_13 dX1_checkStation_16 (fun x hx9 => (hnx x hx9).elim) (Nat.le_of_ble_eq_true rfl) (Nat.le_of_ble_eq_true rfl) (Nat.le_of_ble_eq_true rfl) (Nat.le_of_ble_eq_true rfl) hlocks (fun t ha hsz hk => ⟨1, rfl, ⟨rfl, hP.kept (fun k q hq => hk q.1 (hP k q hq).lt), va_K.moved ha hK, hD⟩, Nat.le_trans hS.1 hsz, fun q h1 h2 => (hk q (Nat.lt_of_lt_of_le h1 hS.1)).trans (hS.2.1 q h1 h2)⟩) hS.2.2 (Nat.le_of_ble_eq_true rfl) (Nat.le_of_ble_eq_true rfl)
def F_P_checkKind (p0 : Int32) (u : Unit) : Option ((Nat ⊕ Unit) × Unit) := bi (F_P_isKind p0 ()) (fun r2 u1 => (if r2 = (0 : Int32) then some (.inl 1, ()) else some ((.inr ()), ())))
set_option maxHeartbeats 4000000 in
set_option maxRecDepth 100000 in
theorem c_P_checkKind (l : Launch) (hl9 : l.stackTraces = false) (D : va_G) (cI cR : ClassId) (sa : Nat → Nat)  (sz : Nat) (p0 : Int32) (u : Unit) (r : Nat ⊕ Unit) (u' : Unit) (hF : F_P_checkKind p0 u = some (r, u')) : vx_Met l yX1_checkKind wsX1_checkKind ({ frames := 6, cells := 1, slots := 6, locals := 82 }) (va_Pc [.int p0] (PREX D (TY cI cR) ([] : va_W) sz sa)) (XV D (TY cI cR) (va_A ([] : va_W) sz) (fun (_ : Unit) => ([] : va_W)) r u') (XX D (TY cI cR) (va_A ([] : va_W) sz) (fun (_ : Unit) => ([] : va_W)) r u') 1 6 (va_A ([] : va_W) sz) := by
  refine vx_ofW (cc := cX1_checkKind) (maxL := 1) (ret := none) (by decide) rfl ?_
  intro p e s m args below meth c s₁ B hml hnx hv
  obtain ⟨rfl, ⟨hsz, hP, hK, hD0⟩, hXK⟩ := hv
  have hx := B.exec
  have hb := B.bytes
  have hr := B.returns
  have hts := atoms_spec (ws := wsX1_checkKind) B.pre
  have hown : s.vm.findClass RX1 = some m.cls := findClass_of_methodNamed B.named
  have hlocks := B.notSynchronized
  subst hsz
  have hD := hD0.self (sz := s.heap.size)
  generalize hAe : va_A ([] : va_W) s.heap.size = A at hD hXK ⊢
  have hA : ∀ q : Nat, s.heap.size ≤ q → A q := fun q h => by rw [← hAe]; exact Or.inr h
  have hS : va_S A s.heap s.heap [] := va_S.rf
  replace hP : va_P D vwCl ([] : va_W) s.heap := hP
  have hl := lv_entry ([.int p0]) (n := 1) (Nat.le_of_ble_eq_true rfl)
  rw [lg_entry_eq]
  generalize (lg_sl ([.int p0]) ++ List.replicate (1 - (lg_sl ([.int p0])).length) Slot.unset).toArray = ls at hl ⊢
  replace hl : lv_has ls 1 [(0, .int p0)] := hl
  obtain ⟨hXU, hXN, hXc1, hXc2, hXd1, hXd2, hXd3, hXn, -⟩ := id hXK
  unfold F_P_checkKind at hF
  refine (?_ : ∀ (H : Heap) (locs : List Loc), va_P D vwCl ([] : va_W) H → va_S A s.heap H locs → W p l e _ s m _ below meth c H locs 0 0 _ (F0 m 0 ls [])) s.heap [] hP hS
  intro H locs hP hS
  refine lv_iload_n hx hb dX1_checkKind_0 rfl (lv_at hl 0 rfl) ?_
  obtain ⟨r2, u1, hc_3, hF⟩ := bi_some hF
  refine kc_i (W1 := ([] : va_W)) (va_runS (As := [.int p0]) (rest := []) ⟨hx, hb, hml, hown, hts⟩ (c_P_isKind l D cI cR  H.size p0 () r2 u1 hc_3) (va_cwS 1 hts (gS cwc mw_83 mw_84 mw_1 mw_85) rfl rfl rfl (by decide +kernel) ⟨(Nat.le_of_ble_eq_true rfl), (Nat.le_of_ble_eq_true rfl)⟩) (kp_S hK hP hD (sb_nil _)) rfl rfl hl.1 rfl (lv_room (Nat.le_of_ble_eq_true rfl)) dX1_checkKind_1 ⟨(Nat.le_of_ble_eq_true rfl), (Nat.le_of_ble_eq_true rfl)⟩) hP hD hS hA (sb_nil _) (jn_nil _) (fun H locs hP hD hS => ?_)
  refine lv_if_ne (tgt := 17) hx hb dX1_checkKind_4 (by decide) (fun c_4 => ?_) (fun c_4 => ?_)
  · replace hF := (if_neg c_4).symm.trans hF
    cases hF
    refine vx_ret ?_
    refine W.widen (k := 1) (n := 6) (Nat.le_of_ble_eq_true rfl) (Nat.le_of_ble_eq_true rfl) ?_
    exact W.vret hx hb hr (fun t ht hW => ⟨⟨_, rfl, ⟨rfl, rfl⟩, by rw [ht]; exact hP, va_K.moved hW.alike hK, hD⟩, hS.F ht⟩) hS.2.2 dX1_checkKind_17
  · replace hF := (if_pos c_4).symm.trans hF
    cases hF
    exact vx_throwS (own := RX1) (cls := "java/lang/IndexOutOfBoundsException") (names := ["java/lang/RuntimeException", "java/lang/Exception"]) hx hb hl9 hown (by decide +kernel) (by decide +kernel) (hts _ (cwc _ mw_127)) (hts _ (cwc _ mw_7)) (XK_s185 hXK) (vx_hat (L := vx_atS RX1 184 "java/lang/IndexOutOfBoundsException" ["java/lang/RuntimeException", "java/lang/Exception"]) (fun w hw => hts w (cwc w (hatA_1 w hw))) hatB_1 (vx_c (va_Nw.use rfl hXc1) (vx_c (va_Nw.use rfl hXd1) (vx_c (va_Nw.use rfl hXd2) (vx_c (va_Nw.use rfl hXd3) (vx_n)))))) hatC_1 hXU hXN hS (hl.1.trans hml.symm) dX1_checkKind_7 dX1_checkKind_10 dX1_checkKind_11 dX1_checkKind_13 dX1_checkKind_16 (fun x hx9 => (hnx x hx9).elim) (Nat.le_of_ble_eq_true rfl) (Nat.le_of_ble_eq_true rfl) (Nat.le_of_ble_eq_true rfl) (Nat.le_of_ble_eq_true rfl) hlocks (fun t ha hsz hk => ⟨1, rfl, ⟨rfl, hP.kept (fun k q hq => hk q.1 (hP k q hq).lt), va_K.moved ha hK, hD⟩, Nat.le_trans hS.1 hsz, fun q h1 h2 => (hk q (Nat.lt_of_lt_of_le h1 hS.1)).trans (hS.2.1 q h1 h2)⟩) hS.2.2 (Nat.le_of_ble_eq_true rfl) (Nat.le_of_ble_eq_true rfl)
def F_P_checkWagon (p0 : Int32) (u : Unit) : Option ((Nat ⊕ Unit) × Unit) := (if p0 < (0 : Int32) then some (.inl 1, ()) else (if p0 < (16 : Int32) then some ((.inr ()), ()) else some (.inl 1, ())))
set_option maxHeartbeats 4000000 in
set_option maxRecDepth 100000 in
theorem c_P_checkWagon (l : Launch) (hl9 : l.stackTraces = false) (D : va_G) (cI cR : ClassId) (sa : Nat → Nat)  (sz : Nat) (p0 : Int32) (u : Unit) (r : Nat ⊕ Unit) (u' : Unit) (hF : F_P_checkWagon p0 u = some (r, u')) : vx_Met l yX1_checkWagon wsX1_checkWagon ({ frames := 6, cells := 1, slots := 6, locals := 82 }) (va_Pc [.int p0] (PREX D (TY cI cR) ([] : va_W) sz sa)) (XV D (TY cI cR) (va_A ([] : va_W) sz) (fun (_ : Unit) => ([] : va_W)) r u') (XX D (TY cI cR) (va_A ([] : va_W) sz) (fun (_ : Unit) => ([] : va_W)) r u') 1 6 (va_A ([] : va_W) sz) := by
  refine vx_ofW (cc := cX1_checkWagon) (maxL := 1) (ret := none) (by decide) rfl ?_
  intro p e s m args below meth c s₁ B hml hnx hv
  obtain ⟨rfl, ⟨hsz, hP, hK, hD0⟩, hXK⟩ := hv
  have hx := B.exec
  have hb := B.bytes
  have hr := B.returns
  have hts := atoms_spec (ws := wsX1_checkWagon) B.pre
  have hown : s.vm.findClass RX1 = some m.cls := findClass_of_methodNamed B.named
  have hlocks := B.notSynchronized
  subst hsz
  have hD := hD0.self (sz := s.heap.size)
  generalize hAe : va_A ([] : va_W) s.heap.size = A at hD hXK ⊢
  have hA : ∀ q : Nat, s.heap.size ≤ q → A q := fun q h => by rw [← hAe]; exact Or.inr h
  have hS : va_S A s.heap s.heap [] := va_S.rf
  replace hP : va_P D vwCl ([] : va_W) s.heap := hP
  have hl := lv_entry ([.int p0]) (n := 1) (Nat.le_of_ble_eq_true rfl)
  rw [lg_entry_eq]
  generalize (lg_sl ([.int p0]) ++ List.replicate (1 - (lg_sl ([.int p0])).length) Slot.unset).toArray = ls at hl ⊢
  replace hl : lv_has ls 1 [(0, .int p0)] := hl
  obtain ⟨hXU, hXN, hXc1, hXc2, hXd1, hXd2, hXd3, hXn, -⟩ := id hXK
  unfold F_P_checkWagon at hF
  refine (?_ : ∀ (H : Heap) (locs : List Loc), va_P D vwCl ([] : va_W) H → va_S A s.heap H locs → W p l e _ s m _ below meth c H locs 0 0 _ (F0 m 0 ls [])) s.heap [] hP hS
  intro H locs hP hS
  refine lv_iload_n hx hb dX1_checkWagon_0 rfl (lv_at hl 0 rfl) ?_
  refine lv_if_lt (tgt := 10) hx hb dX1_checkWagon_1 (by decide) (fun c_1 => ?_) (fun c_1 => ?_)
  · replace hF := (if_pos c_1).symm.trans hF
    cases hF
    exact vx_throwS (own := RX1) (cls := "java/lang/IndexOutOfBoundsException") (names := ["java/lang/RuntimeException", "java/lang/Exception"]) hx hb hl9 hown (by decide +kernel) (by decide +kernel) (hts _ (cwc _ mw_127)) (hts _ (cwc _ mw_7)) (XK_s187 hXK) (vx_hat (L := vx_atS RX1 184 "java/lang/IndexOutOfBoundsException" ["java/lang/RuntimeException", "java/lang/Exception"]) (fun w hw => hts w (cwc w (hatA_1 w hw))) hatB_1 (vx_c (va_Nw.use rfl hXc1) (vx_c (va_Nw.use rfl hXd1) (vx_c (va_Nw.use rfl hXd2) (vx_c (va_Nw.use rfl hXd3) (vx_n)))))) hatC_1 hXU hXN hS (hl.1.trans hml.symm) dX1_checkWagon_10 dX1_checkWagon_13 dX1_checkWagon_14 dX1_checkWagon_16 dX1_checkWagon_19 (fun x hx9 => (hnx x hx9).elim) (Nat.le_of_ble_eq_true rfl) (Nat.le_of_ble_eq_true rfl) (Nat.le_of_ble_eq_true rfl) (Nat.le_of_ble_eq_true rfl) hlocks (fun t ha hsz hk => ⟨1, rfl, ⟨rfl, hP.kept (fun k q hq => hk q.1 (hP k q hq).lt), va_K.moved ha hK, hD⟩, Nat.le_trans hS.1 hsz, fun q h1 h2 => (hk q (Nat.lt_of_lt_of_le h1 hS.1)).trans (hS.2.1 q h1 h2)⟩) hS.2.2 (Nat.le_of_ble_eq_true rfl) (Nat.le_of_ble_eq_true rfl)
  · replace hF := (if_neg c_1).symm.trans hF
    refine lv_iload_n hx hb dX1_checkWagon_4 rfl (lv_at hl 0 rfl) ?_
    refine lv_bipush (v := (16 : Int32)) hx hb dX1_checkWagon_5 (by decide +kernel) ?_
    refine lv_icmp_lt (tgt := 20) hx hb dX1_checkWagon_7 (by decide) (fun c_2 => ?_) (fun c_2 => ?_)
    · replace hF := (if_pos c_2).symm.trans hF
      cases hF
      refine vx_ret ?_
      refine W.widen (k := 1) (n := 6) (Nat.le_of_ble_eq_true rfl) (Nat.le_of_ble_eq_true rfl) ?_
      exact W.vret hx hb hr (fun t ht hW => ⟨⟨_, rfl, ⟨rfl, rfl⟩, by rw [ht]; exact hP, va_K.moved hW.alike hK, hD⟩, hS.F ht⟩) hS.2.2 dX1_checkWagon_20
    · replace hF := (if_neg c_2).symm.trans hF
      cases hF
      exact vx_throwS (own := RX1) (cls := "java/lang/IndexOutOfBoundsException") (names := ["java/lang/RuntimeException", "java/lang/Exception"]) hx hb hl9 hown (by decide +kernel) (by decide +kernel) (hts _ (cwc _ mw_127)) (hts _ (cwc _ mw_7)) (XK_s187 hXK) (vx_hat (L := vx_atS RX1 184 "java/lang/IndexOutOfBoundsException" ["java/lang/RuntimeException", "java/lang/Exception"]) (fun w hw => hts w (cwc w (hatA_1 w hw))) hatB_1 (vx_c (va_Nw.use rfl hXc1) (vx_c (va_Nw.use rfl hXd1) (vx_c (va_Nw.use rfl hXd2) (vx_c (va_Nw.use rfl hXd3) (vx_n)))))) hatC_1 hXU hXN hS (hl.1.trans hml.symm) dX1_checkWagon_10 dX1_checkWagon_13 dX1_checkWagon_14 dX1_checkWagon_16 dX1_checkWagon_19 (fun x hx9 => (hnx x hx9).elim) (Nat.le_of_ble_eq_true rfl) (Nat.le_of_ble_eq_true rfl) (Nat.le_of_ble_eq_true rfl) (Nat.le_of_ble_eq_true rfl) hlocks (fun t ha hsz hk => ⟨1, rfl, ⟨rfl, hP.kept (fun k q hq => hk q.1 (hP k q hq).lt), va_K.moved ha hK, hD⟩, Nat.le_trans hS.1 hsz, fun q h1 h2 => (hk q (Nat.lt_of_lt_of_le h1 hS.1)).trans (hS.2.1 q h1 h2)⟩) hS.2.2 (Nat.le_of_ble_eq_true rfl) (Nat.le_of_ble_eq_true rfl)
end
section
def F_P_checkRange (p0 : Int32) (p1 : Int32) (u : Unit) : Option ((Nat ⊕ Unit) × Unit) := (if p0 < (0 : Int32) then some (.inl 2, ()) else (if p0 ≤ p1 then some ((.inr ()), ()) else some (.inl 2, ())))
set_option maxHeartbeats 4000000 in
set_option maxRecDepth 100000 in
theorem c_P_checkRange (l : Launch) (hl9 : l.stackTraces = false) (D : va_G) (cI cR : ClassId) (sa : Nat → Nat)  (sz : Nat) (p0 : Int32) (p1 : Int32) (u : Unit) (r : Nat ⊕ Unit) (u' : Unit) (hF : F_P_checkRange p0 p1 u = some (r, u')) : vx_Met l yX1_checkRange wsX1_checkRange ({ frames := 6, cells := 1, slots := 6, locals := 82 }) (va_Pc [.int p0, .int p1] (PREX D (TY cI cR) ([] : va_W) sz sa)) (XV D (TY cI cR) (va_A ([] : va_W) sz) (fun (_ : Unit) => ([] : va_W)) r u') (XX D (TY cI cR) (va_A ([] : va_W) sz) (fun (_ : Unit) => ([] : va_W)) r u') 1 6 (va_A ([] : va_W) sz) := by
  refine vx_ofW (cc := cX1_checkRange) (maxL := 2) (ret := none) (by decide) rfl ?_
  intro p e s m args below meth c s₁ B hml hnx hv
  obtain ⟨rfl, ⟨hsz, hP, hK, hD0⟩, hXK⟩ := hv
  have hx := B.exec
  have hb := B.bytes
  have hr := B.returns
  have hts := atoms_spec (ws := wsX1_checkRange) B.pre
  have hown : s.vm.findClass RX1 = some m.cls := findClass_of_methodNamed B.named
  have hlocks := B.notSynchronized
  subst hsz
  have hD := hD0.self (sz := s.heap.size)
  generalize hAe : va_A ([] : va_W) s.heap.size = A at hD hXK ⊢
  have hA : ∀ q : Nat, s.heap.size ≤ q → A q := fun q h => by rw [← hAe]; exact Or.inr h
  have hS : va_S A s.heap s.heap [] := va_S.rf
  replace hP : va_P D vwCl ([] : va_W) s.heap := hP
  have hl := lv_entry ([.int p0, .int p1]) (n := 2) (Nat.le_of_ble_eq_true rfl)
  rw [lg_entry_eq]
  generalize (lg_sl ([.int p0, .int p1]) ++ List.replicate (2 - (lg_sl ([.int p0, .int p1])).length) Slot.unset).toArray = ls at hl ⊢
  replace hl : lv_has ls 2 [(0, .int p0), (1, .int p1)] := hl
  obtain ⟨hXU, hXN, hXc1, hXc2, hXd1, hXd2, hXd3, hXn, -⟩ := id hXK
  unfold F_P_checkRange at hF
  refine (?_ : ∀ (H : Heap) (locs : List Loc), va_P D vwCl ([] : va_W) H → va_S A s.heap H locs → W p l e _ s m _ below meth c H locs 0 0 _ (F0 m 0 ls [])) s.heap [] hP hS
  intro H locs hP hS
  refine lv_iload_n hx hb dX1_checkRange_0 rfl (lv_at hl 0 rfl) ?_
  refine lv_if_lt (tgt := 9) hx hb dX1_checkRange_1 (by decide) (fun c_1 => ?_) (fun c_1 => ?_)
  · replace hF := (if_pos c_1).symm.trans hF
    cases hF
    exact vx_throwS (own := RX1) (cls := "java/lang/IllegalArgumentException") (names := ["java/lang/RuntimeException", "java/lang/Exception"]) hx hb hl9 hown (by decide +kernel) (by decide +kernel) (hts _ (cwc _ mw_179)) (hts _ (cwc _ mw_8)) (XK_s189 hXK) (vx_hat (L := vx_atS RX1 86 "java/lang/IllegalArgumentException" ["java/lang/RuntimeException", "java/lang/Exception"]) (fun w hw => hts w (cwc w (hatA_2 w hw))) hatB_2 (vx_c (va_Nw.use rfl hXc2) (vx_c (va_Nw.use rfl hXd1) (vx_c (va_Nw.use rfl hXd2) (vx_c (va_Nw.use rfl hXd3) (vx_n)))))) hatC_2 hXU hXN hS (hl.1.trans hml.symm) dX1_checkRange_9 dX1_checkRange_12 dX1_checkRange_13 dX1_checkRange_15 dX1_checkRange_18 (fun x hx9 => (hnx x hx9).elim) (Nat.le_of_ble_eq_true rfl) (Nat.le_of_ble_eq_true rfl) (Nat.le_of_ble_eq_true rfl) (Nat.le_of_ble_eq_true rfl) hlocks (fun t ha hsz hk => ⟨2, rfl, ⟨rfl, hP.kept (fun k q hq => hk q.1 (hP k q hq).lt), va_K.moved ha hK, hD⟩, Nat.le_trans hS.1 hsz, fun q h1 h2 => (hk q (Nat.lt_of_lt_of_le h1 hS.1)).trans (hS.2.1 q h1 h2)⟩) hS.2.2 (Nat.le_of_ble_eq_true rfl) (Nat.le_of_ble_eq_true rfl)
  · replace hF := (if_neg c_1).symm.trans hF
    refine lv_iload_n hx hb dX1_checkRange_4 rfl (lv_at hl 0 rfl) ?_
    refine lv_iload_n hx hb dX1_checkRange_5 rfl (lv_at hl 1 rfl) ?_
    refine lv_icmp_le (tgt := 19) hx hb dX1_checkRange_6 (by decide) (fun c_2 => ?_) (fun c_2 => ?_)
    · replace hF := (if_pos c_2).symm.trans hF
      cases hF
      refine vx_ret ?_
      refine W.widen (k := 1) (n := 6) (Nat.le_of_ble_eq_true rfl) (Nat.le_of_ble_eq_true rfl) ?_
      exact W.vret hx hb hr (fun t ht hW => ⟨⟨_, rfl, ⟨rfl, rfl⟩, by rw [ht]; exact hP, va_K.moved hW.alike hK, hD⟩, hS.F ht⟩) hS.2.2 dX1_checkRange_19
    · replace hF := (if_neg c_2).symm.trans hF
      cases hF
      exact vx_throwS (own := RX1) (cls := "java/lang/IllegalArgumentException") (names := ["java/lang/RuntimeException", "java/lang/Exception"]) hx hb hl9 hown (by decide +kernel) (by decide +kernel) (hts _ (cwc _ mw_179)) (hts _ (cwc _ mw_8)) (XK_s189 hXK) (vx_hat (L := vx_atS RX1 86 "java/lang/IllegalArgumentException" ["java/lang/RuntimeException", "java/lang/Exception"]) (fun w hw => hts w (cwc w (hatA_2 w hw))) hatB_2 (vx_c (va_Nw.use rfl hXc2) (vx_c (va_Nw.use rfl hXd1) (vx_c (va_Nw.use rfl hXd2) (vx_c (va_Nw.use rfl hXd3) (vx_n)))))) hatC_2 hXU hXN hS (hl.1.trans hml.symm) dX1_checkRange_9 dX1_checkRange_12 dX1_checkRange_13 dX1_checkRange_15 dX1_checkRange_18 (fun x hx9 => (hnx x hx9).elim) (Nat.le_of_ble_eq_true rfl) (Nat.le_of_ble_eq_true rfl) (Nat.le_of_ble_eq_true rfl) (Nat.le_of_ble_eq_true rfl) hlocks (fun t ha hsz hk => ⟨2, rfl, ⟨rfl, hP.kept (fun k q hq => hk q.1 (hP k q hq).lt), va_K.moved ha hK, hD⟩, Nat.le_trans hS.1 hsz, fun q h1 h2 => (hk q (Nat.lt_of_lt_of_le h1 hS.1)).trans (hS.2.1 q h1 h2)⟩) hS.2.2 (Nat.le_of_ble_eq_true rfl) (Nat.le_of_ble_eq_true rfl)
def F_P_checkNotBelowZero (p0 : Int32) (u : Unit) : Option ((Nat ⊕ Unit) × Unit) := (if (0 : Int32) ≤ p0 then some ((.inr ()), ()) else some (.inl 2, ()))
set_option maxHeartbeats 4000000 in
set_option maxRecDepth 100000 in
theorem c_P_checkNotBelowZero (l : Launch) (hl9 : l.stackTraces = false) (D : va_G) (cI cR : ClassId) (sa : Nat → Nat)  (sz : Nat) (p0 : Int32) (u : Unit) (r : Nat ⊕ Unit) (u' : Unit) (hF : F_P_checkNotBelowZero p0 u = some (r, u')) : vx_Met l yX1_checkNotBelowZero wsX1_checkNotBelowZero ({ frames := 6, cells := 1, slots := 6, locals := 82 }) (va_Pc [.int p0] (PREX D (TY cI cR) ([] : va_W) sz sa)) (XV D (TY cI cR) (va_A ([] : va_W) sz) (fun (_ : Unit) => ([] : va_W)) r u') (XX D (TY cI cR) (va_A ([] : va_W) sz) (fun (_ : Unit) => ([] : va_W)) r u') 1 6 (va_A ([] : va_W) sz) := by
  refine vx_ofW (cc := cX1_checkNotBelowZero) (maxL := 1) (ret := none) (by decide) rfl ?_
  intro p e s m args below meth c s₁ B hml hnx hv
  obtain ⟨rfl, ⟨hsz, hP, hK, hD0⟩, hXK⟩ := hv
  have hx := B.exec
  have hb := B.bytes
  have hr := B.returns
  have hts := atoms_spec (ws := wsX1_checkNotBelowZero) B.pre
  have hown : s.vm.findClass RX1 = some m.cls := findClass_of_methodNamed B.named
  have hlocks := B.notSynchronized
  subst hsz
  have hD := hD0.self (sz := s.heap.size)
  generalize hAe : va_A ([] : va_W) s.heap.size = A at hD hXK ⊢
  have hA : ∀ q : Nat, s.heap.size ≤ q → A q := fun q h => by rw [← hAe]; exact Or.inr h
  have hS : va_S A s.heap s.heap [] := va_S.rf
  replace hP : va_P D vwCl ([] : va_W) s.heap := hP
  have hl := lv_entry ([.int p0]) (n := 1) (Nat.le_of_ble_eq_true rfl)
  rw [lg_entry_eq]
  generalize (lg_sl ([.int p0]) ++ List.replicate (1 - (lg_sl ([.int p0])).length) Slot.unset).toArray = ls at hl ⊢
  replace hl : lv_has ls 1 [(0, .int p0)] := hl
  obtain ⟨hXU, hXN, hXc1, hXc2, hXd1, hXd2, hXd3, hXn, -⟩ := id hXK
  unfold F_P_checkNotBelowZero at hF
  refine (?_ : ∀ (H : Heap) (locs : List Loc), va_P D vwCl ([] : va_W) H → va_S A s.heap H locs → W p l e _ s m _ below meth c H locs 0 0 _ (F0 m 0 ls [])) s.heap [] hP hS
  intro H locs hP hS
  refine lv_iload_n hx hb dX1_checkNotBelowZero_0 rfl (lv_at hl 0 rfl) ?_
  refine lv_if_ge (tgt := 14) hx hb dX1_checkNotBelowZero_1 (by decide) (fun c_1 => ?_) (fun c_1 => ?_)
  · replace hF := (if_pos c_1).symm.trans hF
    cases hF
    refine vx_ret ?_
    refine W.widen (k := 1) (n := 6) (Nat.le_of_ble_eq_true rfl) (Nat.le_of_ble_eq_true rfl) ?_
    exact W.vret hx hb hr (fun t ht hW => ⟨⟨_, rfl, ⟨rfl, rfl⟩, by rw [ht]; exact hP, va_K.moved hW.alike hK, hD⟩, hS.F ht⟩) hS.2.2 dX1_checkNotBelowZero_14
  · replace hF := (if_neg c_1).symm.trans hF
    cases hF
    exact vx_throwS (own := RX1) (cls := "java/lang/IllegalArgumentException") (names := ["java/lang/RuntimeException", "java/lang/Exception"]) hx hb hl9 hown (by decide +kernel) (by decide +kernel) (hts _ (cwc _ mw_179)) (hts _ (cwc _ mw_8)) (XK_s191 hXK) (vx_hat (L := vx_atS RX1 86 "java/lang/IllegalArgumentException" ["java/lang/RuntimeException", "java/lang/Exception"]) (fun w hw => hts w (cwc w (hatA_2 w hw))) hatB_2 (vx_c (va_Nw.use rfl hXc2) (vx_c (va_Nw.use rfl hXd1) (vx_c (va_Nw.use rfl hXd2) (vx_c (va_Nw.use rfl hXd3) (vx_n)))))) hatC_2 hXU hXN hS (hl.1.trans hml.symm) dX1_checkNotBelowZero_4 dX1_checkNotBelowZero_7 dX1_checkNotBelowZero_8 dX1_checkNotBelowZero_10 dX1_checkNotBelowZero_13 (fun x hx9 => (hnx x hx9).elim) (Nat.le_of_ble_eq_true rfl) (Nat.le_of_ble_eq_true rfl) (Nat.le_of_ble_eq_true rfl) (Nat.le_of_ble_eq_true rfl) hlocks (fun t ha hsz hk => ⟨2, rfl, ⟨rfl, hP.kept (fun k q hq => hk q.1 (hP k q hq).lt), va_K.moved ha hK, hD⟩, Nat.le_trans hS.1 hsz, fun q h1 h2 => (hk q (Nat.lt_of_lt_of_le h1 hS.1)).trans (hS.2.1 q h1 h2)⟩) hS.2.2 (Nat.le_of_ble_eq_true rfl) (Nat.le_of_ble_eq_true rfl)
def F_P_checkFellows (p1 : Int32) (p2 : Int32) (u : CSt) : Option ((Nat ⊕ Unit) × Unit) := (if p1 = p2 then some (.inl 2, ()) else gd (inb p1 16) (gd (inb p2 16) ((if (u.2.2.2.2.2.1 p1.toNatClampNeg) = (u.2.2.2.2.2.1 p2.toNatClampNeg) then some ((.inr ()), ()) else some (.inl 2, ())))))
set_option maxHeartbeats 4000000 in
set_option maxRecDepth 100000 in
theorem c_P_checkFellows (l : Launch) (hl9 : l.stackTraces = false) (D : va_G) (cI cR : ClassId) (sa : Nat → Nat) (ca qa : Nat → Nat) (sz : Nat) (p1 : Int32) (p2 : Int32) (u : CSt) (r : Nat ⊕ Unit) (u' : Unit) (hF : F_P_checkFellows p1 p2 u = some (r, u')) : vx_Met l yX1_checkFellows wsX1_checkFellows ({ frames := 6, cells := 1, slots := 6, locals := 82 }) (va_Pc [.ref (ca 0), .int p1, .int p2] (PREX D (TY cI cR) (CW cI cR ca qa u) sz sa)) (XV D (TY cI cR) (va_A (CW cI cR ca qa u) sz) (fun v => CW cI cR ca qa v) r u) (XX D (TY cI cR) (va_A (CW cI cR ca qa u) sz) (fun v => CW cI cR ca qa v) r u) 1 6 (va_A (CW cI cR ca qa u) sz) := by
  refine vx_ofW (cc := cX1_checkFellows) (maxL := 3) (ret := none) (by decide) rfl ?_
  intro p e s m args below meth c s₁ B hml hnx hv
  obtain ⟨rfl, ⟨hsz, hP, hK, hD0⟩, hXK⟩ := hv
  have hx := B.exec
  have hb := B.bytes
  have hr := B.returns
  have hts := atoms_spec (ws := wsX1_checkFellows) B.pre
  have hown : s.vm.findClass RX1 = some m.cls := findClass_of_methodNamed B.named
  have hlocks := B.notSynchronized
  subst hsz
  have hD := hD0.self (sz := s.heap.size)
  generalize hAe : va_A (CW cI cR ca qa u) s.heap.size = A at hD hXK ⊢
  have hA : ∀ q : Nat, s.heap.size ≤ q → A q := fun q h => by rw [← hAe]; exact Or.inr h
  have hS : va_S A s.heap s.heap [] := va_S.rf
  replace hP : va_P D vwCl (CW cI cR ca qa u) s.heap := hP
  have hl := lv_entry ([.ref (ca 0), .int p1, .int p2]) (n := 3) (Nat.le_of_ble_eq_true rfl)
  rw [lg_entry_eq]
  generalize (lg_sl ([.ref (ca 0), .int p1, .int p2]) ++ List.replicate (3 - (lg_sl ([.ref (ca 0), .int p1, .int p2])).length) Slot.unset).toArray = ls at hl ⊢
  replace hl : lv_has ls 3 [(0, .ref (ca 0)), (1, .int p1), (2, .int p2)] := hl
  have hk_34 := (hts _ (cwc _ mw_42))
  obtain ⟨hXU, hXN, hXc1, hXc2, hXd1, hXd2, hXd3, hXn, -⟩ := id hXK
  unfold F_P_checkFellows at hF
  refine (?_ : ∀ (H : Heap) (locs : List Loc), va_P D vwCl (CW cI cR ca qa u) H → va_S A s.heap H locs → W p l e _ s m _ below meth c H locs 0 0 _ (F0 m 0 ls [])) s.heap [] hP hS
  intro H locs hP hS
  refine lv_iload_n hx hb dX1_checkFellows_0 rfl (lv_at hl 1 rfl) ?_
  refine lv_iload_n hx hb dX1_checkFellows_1 rfl (lv_at hl 2 rfl) ?_
  refine lv_icmp_ne (tgt := 15) hx hb dX1_checkFellows_2 (by decide) (fun c_1 => ?_) (fun c_1 => ?_)
  · replace hF := (if_neg c_1).symm.trans hF
    refine lv_aload_n hx hb dX1_checkFellows_15 rfl (lv_at hl 0 rfl) ?_
    refine va_get (D := D) (ci := 1) (v := .ref (ca 8)) (C := RX1) (T := TX1) (N := 16) hx hb hts (fun w h => cwc w (in_X1 w h)) hown hK hP 0 rfl rfl 7 (by decide) hk_34 (fun _ h9 => h9) rfl dX1_checkFellows_16 ?_
    refine lv_iload_n hx hb dX1_checkFellows_19 rfl (lv_at hl 1 rfl) ?_
    obtain ⟨h_2, hF⟩ := gd_some hF
    refine va_iald (f := u.2.2.2.2.2.1) hx hb hK hP 8 0 rfl rfl (inb_in h_2) dX1_checkFellows_20 ?_
    refine lv_aload_n hx hb dX1_checkFellows_21 rfl (lv_at hl 0 rfl) ?_
    refine va_get (D := D) (ci := 1) (v := .ref (ca 8)) (C := RX1) (T := TX1) (N := 16) hx hb hts (fun w h => cwc w (in_X1 w h)) hown hK hP 0 rfl rfl 7 (by decide) hk_34 (fun _ h9 => h9) rfl dX1_checkFellows_22 ?_
    refine lv_iload_n hx hb dX1_checkFellows_25 rfl (lv_at hl 2 rfl) ?_
    obtain ⟨h_3, hF⟩ := gd_some hF
    refine va_iald (f := u.2.2.2.2.2.1) hx hb hK hP 8 0 rfl rfl (inb_in h_3) dX1_checkFellows_26 ?_
    refine lv_icmp_eq (tgt := 40) hx hb dX1_checkFellows_27 (by decide) (fun c_4 => ?_) (fun c_4 => ?_)
    · replace hF := (if_pos c_4).symm.trans hF
      cases hF
      refine vx_ret ?_
      refine W.widen (k := 1) (n := 6) (Nat.le_of_ble_eq_true rfl) (Nat.le_of_ble_eq_true rfl) ?_
      exact W.vret hx hb hr (fun t ht hW => ⟨⟨_, rfl, ⟨rfl, rfl⟩, by rw [ht]; exact hP, va_K.moved hW.alike hK, hD⟩, hS.F ht⟩) hS.2.2 dX1_checkFellows_40
    · replace hF := (if_neg c_4).symm.trans hF
      cases hF
      exact vx_throwS (own := RX1) (cls := "java/lang/IllegalArgumentException") (names := ["java/lang/RuntimeException", "java/lang/Exception"]) hx hb hl9 hown (by decide +kernel) (by decide +kernel) (hts _ (cwc _ mw_179)) (hts _ (cwc _ mw_8)) (XK_s178 hXK) (vx_hat (L := vx_atS RX1 86 "java/lang/IllegalArgumentException" ["java/lang/RuntimeException", "java/lang/Exception"]) (fun w hw => hts w (cwc w (hatA_2 w hw))) hatB_2 (vx_c (va_Nw.use rfl hXc2) (vx_c (va_Nw.use rfl hXd1) (vx_c (va_Nw.use rfl hXd2) (vx_c (va_Nw.use rfl hXd3) (vx_n)))))) hatC_2 hXU hXN hS (hl.1.trans hml.symm) dX1_checkFellows_30 dX1_checkFellows_33 dX1_checkFellows_34 dX1_checkFellows_36 dX1_checkFellows_39 (fun x hx9 => (hnx x hx9).elim) (Nat.le_of_ble_eq_true rfl) (Nat.le_of_ble_eq_true rfl) (Nat.le_of_ble_eq_true rfl) (Nat.le_of_ble_eq_true rfl) hlocks (fun t ha hsz hk => ⟨2, rfl, ⟨rfl, hP.kept (fun k q hq => hk q.1 (hP k q hq).lt), va_K.moved ha hK, hD⟩, Nat.le_trans hS.1 hsz, fun q h1 h2 => (hk q (Nat.lt_of_lt_of_le h1 hS.1)).trans (hS.2.1 q h1 h2)⟩) hS.2.2 (Nat.le_of_ble_eq_true rfl) (Nat.le_of_ble_eq_true rfl)
  · replace hF := (if_pos c_1).symm.trans hF
    cases hF
    exact vx_throwS (own := RX1) (cls := "java/lang/IllegalArgumentException") (names := ["java/lang/RuntimeException", "java/lang/Exception"]) hx hb hl9 hown (by decide +kernel) (by decide +kernel) (hts _ (cwc _ mw_179)) (hts _ (cwc _ mw_8)) (XK_s176 hXK) (vx_hat (L := vx_atS RX1 86 "java/lang/IllegalArgumentException" ["java/lang/RuntimeException", "java/lang/Exception"]) (fun w hw => hts w (cwc w (hatA_2 w hw))) hatB_2 (vx_c (va_Nw.use rfl hXc2) (vx_c (va_Nw.use rfl hXd1) (vx_c (va_Nw.use rfl hXd2) (vx_c (va_Nw.use rfl hXd3) (vx_n)))))) hatC_2 hXU hXN hS (hl.1.trans hml.symm) dX1_checkFellows_5 dX1_checkFellows_8 dX1_checkFellows_9 dX1_checkFellows_11 dX1_checkFellows_14 (fun x hx9 => (hnx x hx9).elim) (Nat.le_of_ble_eq_true rfl) (Nat.le_of_ble_eq_true rfl) (Nat.le_of_ble_eq_true rfl) (Nat.le_of_ble_eq_true rfl) hlocks (fun t ha hsz hk => ⟨2, rfl, ⟨rfl, hP.kept (fun k q hq => hk q.1 (hP k q hq).lt), va_K.moved ha hK, hD⟩, Nat.le_trans hS.1 hsz, fun q h1 h2 => (hk q (Nat.lt_of_lt_of_le h1 hS.1)).trans (hS.2.1 q h1 h2)⟩) hS.2.2 (Nat.le_of_ble_eq_true rfl) (Nat.le_of_ble_eq_true rfl)
def F_P_rowAt (p1 : Int32) (p2 : Int32) (u : CSt) : Option ((Option Nat) × Unit) := bi (F_P_isStation p1 ()) (fun r2 u1 => (if r2 = (0 : Int32) then (if p1 < (8 : Int32) then some (none, ()) else (if p1 < (24 : Int32) then gd (inb (p1 - (8 : Int32)) 16) (some ((some (32 + (p1 - (8 : Int32)).toNatClampNeg)), ())) else some (none, ()))) else bi (F_P_isKind p2 ()) (fun r10 u9 => (if r10 = (0 : Int32) then some (none, ()) else bi (F_P_stockIndex p1 p2 ()) (fun r14 u13 => gd (inb r14 32) (some ((some r14.toNatClampNeg), ())))))))
set_option maxHeartbeats 4000000 in
set_option maxRecDepth 100000 in
theorem c_P_rowAt (l : Launch) (D : va_G) (cI cR : ClassId) (ca qa : Nat → Nat) (sz : Nat) (p1 : Int32) (p2 : Int32) (u : CSt) (r : Option Nat) (u' : Unit) (hF : F_P_rowAt p1 p2 u = some (r, u')) : Met l yX1_rowAt wsX1_rowAt ({ frames := 1, cells := 0, slots := 0, locals := 21 }) (va_Pc [.ref (ca 0), .int p1, .int p2] (PRE D (TY cI cR) (CW cI cR ca qa u) sz)) (QQ D (TY cI cR) (va_A (CW cI cR ca qa u) sz) (fun v => CW cI cR ca qa v) (Option.map (fun j => qa (4 * j)) r) u) 0 0 (va_A (CW cI cR ca qa u) sz) := by
  refine Met.ofW (cc := cX1_rowAt) (maxL := 3) (ret := (some (.object "PacketStores$Row"))) (by decide) rfl ?_
  intro p e s m args below meth c s₁ B hml hv
  obtain ⟨rfl, hsz, hP, hK, hD0⟩ := hv
  have hx := B.exec
  have hb := B.bytes
  have hr := B.returns
  have hts := atoms_spec (ws := wsX1_rowAt) B.pre
  have hown : s.vm.findClass RX1 = some m.cls := findClass_of_methodNamed B.named
  have hlocks := B.notSynchronized
  subst hsz
  have hD := hD0.self (sz := s.heap.size)
  generalize hAe : va_A (CW cI cR ca qa u) s.heap.size = A at hD ⊢
  have hA : ∀ q : Nat, s.heap.size ≤ q → A q := fun q h => by rw [← hAe]; exact Or.inr h
  have hS : va_S A s.heap s.heap [] := va_S.rf
  replace hP : va_P D vwCl (CW cI cR ca qa u) s.heap := hP
  have hl := lv_entry ([.ref (ca 0), .int p1, .int p2]) (n := 3) (Nat.le_of_ble_eq_true rfl)
  rw [lg_entry_eq]
  generalize (lg_sl ([.ref (ca 0), .int p1, .int p2]) ++ List.replicate (3 - (lg_sl ([.ref (ca 0), .int p1, .int p2])).length) Slot.unset).toArray = ls at hl ⊢
  replace hl : lv_has ls 3 [(0, .ref (ca 0)), (1, .int p1), (2, .int p2)] := hl
  have hk_31 := (hts _ (cwc _ mw_41))
  have hk_11 := (hts _ (cwc _ mw_35))
  unfold F_P_rowAt at hF
  refine (?_ : ∀ (H : Heap) (locs : List Loc), va_P D vwCl (CW cI cR ca qa u) H → va_S A s.heap H locs → W p l e _ s m _ below meth c H locs 0 0 _ (F0 m 0 ls [])) s.heap [] hP hS
  intro H locs hP hS
  refine lv_iload_n hx hb dX1_rowAt_0 rfl (lv_at hl 1 rfl) ?_
  obtain ⟨r2, u1, hc_3, hF⟩ := bi_some hF
  refine kc_i (W1 := CW cI cR ca qa u) (va_runS (As := [.int p1]) (rest := []) ⟨hx, hb, hml, hown, hts⟩ (c_P_isStation l D cI cR  H.size p1 () r2 u1 hc_3) (va_cwS 1 hts (gS cwc mw_80 mw_81 mw_1 mw_82) rfl rfl rfl (by decide +kernel) ⟨(Nat.le_of_ble_eq_true rfl), (Nat.le_of_ble_eq_true rfl)⟩) (kp_S hK hP hD (sb_nil _)) rfl rfl hl.1 rfl (lv_room (Nat.le_of_ble_eq_true rfl)) dX1_rowAt_1 ⟨(Nat.le_of_ble_eq_true rfl), (Nat.le_of_ble_eq_true rfl)⟩) hP hD hS hA (sb_nil _) (jn_nil _) (fun H locs hP hD hS => ?_)
  refine lv_if_eq (tgt := 29) hx hb dX1_rowAt_4 (by decide) (fun c_4 => ?_) (fun c_4 => ?_)
  · replace hF := (if_pos c_4).symm.trans hF
    refine lv_iload_n hx hb dX1_rowAt_29 rfl (lv_at hl 1 rfl) ?_
    refine lv_bipush (v := (8 : Int32)) hx hb dX1_rowAt_30 (by decide +kernel) ?_
    refine lv_icmp_lt (tgt := 41) hx hb dX1_rowAt_32 (by decide) (fun c_5 => ?_) (fun c_5 => ?_)
    · replace hF := (if_pos c_5).symm.trans hF
      refine lv_null hx hb dX1_rowAt_41 ?_
      cases hF
      refine W.widen (k := 0) (n := 0) (Nat.le_of_ble_eq_true rfl) (Nat.le_of_ble_eq_true rfl) ?_
      exact W.aret hx hb hr (Or.inl ⟨_, rfl⟩) (Or.inl rfl) (fun t ht hW => ⟨⟨none, _, rfl, ⟨rfl, rfl⟩, by rw [ht]; exact hP, va_K.moved hW.alike hK, hD⟩, hS.F ht⟩) hS.2.2 dX1_rowAt_42
    · replace hF := (if_neg c_5).symm.trans hF
      refine lv_iload_n hx hb dX1_rowAt_35 rfl (lv_at hl 1 rfl) ?_
      refine lv_bipush (v := (24 : Int32)) hx hb dX1_rowAt_36 (by decide +kernel) ?_
      refine lv_icmp_lt (tgt := 43) hx hb dX1_rowAt_38 (by decide) (fun c_6 => ?_) (fun c_6 => ?_)
      · replace hF := (if_pos c_6).symm.trans hF
        refine lv_aload_n hx hb dX1_rowAt_43 rfl (lv_at hl 0 rfl) ?_
        refine va_get (D := D) (ci := 1) (v := .ref (ca 7)) (C := RX1) (T := TX1) (N := 16) hx hb hts (fun w h => cwc w (in_X1 w h)) hown hK hP 0 rfl rfl 6 (by decide) hk_31 (fun _ h9 => h9) rfl dX1_rowAt_44 ?_
        refine lv_iload_n hx hb dX1_rowAt_47 rfl (lv_at hl 1 rfl) ?_
        refine lv_bipush (v := (8 : Int32)) hx hb dX1_rowAt_48 (by decide +kernel) ?_
        refine lv_isub hx hb dX1_rowAt_50 ?_
        obtain ⟨h_7, hF⟩ := gd_some hF
        refine va_aldq hx hb hK hP 7 1 rfl rfl (inb_in h_7) dX1_rowAt_51 ?_
        refine W.eq (g2 := F0 m 52 ls [.ref (qa (4 * (32 + (p1 - (8 : Int32)).toNatClampNeg)))]) rfl ?_
        have hj_8 : (32 + (p1 - (8 : Int32)).toNatClampNeg) < 48 := by have := inb_lt h_7; omega
        cases hF
        refine W.widen (k := 0) (n := 0) (Nat.le_of_ble_eq_true rfl) (Nat.le_of_ble_eq_true rfl) ?_
        exact W.aret hx hb hr (Or.inl ⟨_, rfl⟩) (Or.inr ⟨_, rfl⟩) (fun t ht hW => ⟨⟨(some (qa (4 * (32 + (p1 - (8 : Int32)).toNatClampNeg)))), _, rfl, ⟨rfl, rfl⟩, by rw [ht]; exact hP, va_K.moved hW.alike hK, hD⟩, hS.F ht⟩) hS.2.2 dX1_rowAt_52
      · replace hF := (if_neg c_6).symm.trans hF
        refine lv_null hx hb dX1_rowAt_41 ?_
        cases hF
        refine W.widen (k := 0) (n := 0) (Nat.le_of_ble_eq_true rfl) (Nat.le_of_ble_eq_true rfl) ?_
        exact W.aret hx hb hr (Or.inl ⟨_, rfl⟩) (Or.inl rfl) (fun t ht hW => ⟨⟨none, _, rfl, ⟨rfl, rfl⟩, by rw [ht]; exact hP, va_K.moved hW.alike hK, hD⟩, hS.F ht⟩) hS.2.2 dX1_rowAt_42
  · replace hF := (if_neg c_4).symm.trans hF
    refine lv_iload_n hx hb dX1_rowAt_7 rfl (lv_at hl 2 rfl) ?_
    obtain ⟨r10, u9, hc_11, hF⟩ := bi_some hF
    refine kc_i (W1 := CW cI cR ca qa u) (va_runS (As := [.int p2]) (rest := []) ⟨hx, hb, hml, hown, hts⟩ (c_P_isKind l D cI cR  H.size p2 () r10 u9 hc_11) (va_cwS 1 hts (gS cwc mw_83 mw_84 mw_1 mw_85) rfl rfl rfl (by decide +kernel) ⟨(Nat.le_of_ble_eq_true rfl), (Nat.le_of_ble_eq_true rfl)⟩) (kp_S hK hP hD (sb_nil _)) rfl rfl hl.1 rfl (lv_room (Nat.le_of_ble_eq_true rfl)) dX1_rowAt_8 ⟨(Nat.le_of_ble_eq_true rfl), (Nat.le_of_ble_eq_true rfl)⟩) hP hD hS hA (sb_nil _) (jn_nil _) (fun H locs hP hD hS => ?_)
    refine lv_if_eq (tgt := 27) hx hb dX1_rowAt_11 (by decide) (fun c_12 => ?_) (fun c_12 => ?_)
    · replace hF := (if_pos c_12).symm.trans hF
      refine lv_null hx hb dX1_rowAt_27 ?_
      cases hF
      refine W.widen (k := 0) (n := 0) (Nat.le_of_ble_eq_true rfl) (Nat.le_of_ble_eq_true rfl) ?_
      exact W.aret hx hb hr (Or.inl ⟨_, rfl⟩) (Or.inl rfl) (fun t ht hW => ⟨⟨none, _, rfl, ⟨rfl, rfl⟩, by rw [ht]; exact hP, va_K.moved hW.alike hK, hD⟩, hS.F ht⟩) hS.2.2 dX1_rowAt_28
    · replace hF := (if_neg c_12).symm.trans hF
      refine lv_aload_n hx hb dX1_rowAt_14 rfl (lv_at hl 0 rfl) ?_
      refine va_get (D := D) (ci := 1) (v := .ref (ca 1)) (C := RX1) (T := TX1) (N := 16) hx hb hts (fun w h => cwc w (in_X1 w h)) hown hK hP 0 rfl rfl 0 (by decide) hk_11 (fun _ h9 => h9) rfl dX1_rowAt_15 ?_
      refine lv_iload_n hx hb dX1_rowAt_18 rfl (lv_at hl 1 rfl) ?_
      refine lv_iload_n hx hb dX1_rowAt_19 rfl (lv_at hl 2 rfl) ?_
      obtain ⟨r14, u13, hc_15, hF⟩ := bi_some hF
      refine kc_i (W1 := CW cI cR ca qa u) (va_runS (As := [.int p1, .int p2]) (rest := [.ref (ca 1)]) ⟨hx, hb, hml, hown, hts⟩ (c_P_stockIndex l D cI cR  H.size p1 p2 () r14 u13 hc_15) (va_cwS 2 hts (gS cwc mw_86 mw_87 mw_1 mw_88) rfl rfl rfl (by decide +kernel) ⟨(Nat.le_of_ble_eq_true rfl), (Nat.le_of_ble_eq_true rfl)⟩) (kp_S hK hP hD (sb_nil _)) rfl rfl hl.1 rfl (lv_room (Nat.le_of_ble_eq_true rfl)) dX1_rowAt_20 ⟨(Nat.le_of_ble_eq_true rfl), (Nat.le_of_ble_eq_true rfl)⟩) hP hD hS hA (sb_nil _) (jn_nil _) (fun H locs hP hD hS => ?_)
      obtain ⟨h_16, hF⟩ := gd_some hF
      refine va_aldq hx hb hK hP 1 1 rfl rfl (inb_in h_16) dX1_rowAt_23 ?_
      refine W.eq (g2 := F0 m 24 ls [.ref (qa (4 * r14.toNatClampNeg))]) rfl ?_
      have hj_17 : r14.toNatClampNeg < 48 := by have := inb_lt h_16; omega
      refine lv_goto (tgt := 28) hx hb dX1_rowAt_24 (by decide) ?_
      cases hF
      refine W.widen (k := 0) (n := 0) (Nat.le_of_ble_eq_true rfl) (Nat.le_of_ble_eq_true rfl) ?_
      exact W.aret hx hb hr (Or.inl ⟨_, rfl⟩) (Or.inr ⟨_, rfl⟩) (fun t ht hW => ⟨⟨(some (qa (4 * r14.toNatClampNeg))), _, rfl, ⟨rfl, rfl⟩, by rw [ht]; exact hP, va_K.moved hW.alike hK, hD⟩, hS.F ht⟩) hS.2.2 dX1_rowAt_28
def F_P_unitsInStocks_L4 : Nat → Int32 → Int32 → Int32 → CSt → Option ((Int32) × Unit)
  | 0, _, _, _, _ => none
  | n + 1, x1, x2, x3, u => (if (8 : Int32) ≤ x3 then some (x2, ()) else bi (F_P_stockIndex x3 x1 ()) (fun r3 u2 => gd (inb r3 32) (bi (F_Row_total (u.2.2.2.2.2.2.2.2.2.2.2.2.2.2 r3.toNatClampNeg)) (fun r8 u7 => nm ((x2 + r8)) (fun v10 => F_P_unitsInStocks_L4 n x1 v10 (x3 + (1 : Int32)) u)))))
def F_P_unitsInStocks (p1 : Int32) (u : CSt) : Option ((Int32) × Unit) := F_P_unitsInStocks_L4 9 p1 (0 : Int32) (0 : Int32) u
set_option maxHeartbeats 4000000 in
set_option maxRecDepth 100000 in
theorem w_P_unitsInStocks_L4 {p : Program} {l : Launch} {e : Env} {s : State} {m : MethodId} {args : Array Value} {below : List Frame} {meth : Method} {c : Code} {A : Nat → Prop} {D : va_G} {cI cR : ClassId} {ca qa : Nat → Nat} (hx : p.tables.exec = Jvm.exec) (hb : c.code = cX1_unitsInStocks) (hr : meth.sig.returnType = (some .int)) (hml : c.maxLocals = 4) (hown : s.vm.findClass RX1 = some m.cls) (hts : ∀ w ∈ wsX1_unitsInStocks, w.before args s = true) (hlocks : meth.locks = false) (hA : ∀ q : Nat, s.heap.size ≤ q → A q) (hK : va_K D vwCl (TY cI cR) s) : ∀ (n : Nat) (x1 x2 x3 : Int32) (u : CSt) (r : Int32) (u' : Unit), F_P_unitsInStocks_L4 n x1 x2 x3 u = some (r, u') → ∀ (H : Heap) (locs : List Loc) (ls : Array Slot), va_P D vwCl (CW cI cR ca qa u) H → va_D A (CW cI cR ca qa u) → va_S A s.heap H locs → lv_has ls 4 [(0, .ref (ca 0)), (1, .int x1), (2, .int x2), (3, .int x3)] → W p l e (headSpec wsX1_unitsInStocks ({ frames := 1, cells := 0, slots := 0, locals := 21 })).room s m args below meth c H locs 0 0 (MQ below (QI D (TY cI cR) A (fun v => CW cI cR ca qa v) r u) args s 0 0 A) (F0 m 4 ls []) := by
  have hk_11 := (hts _ (cwc _ mw_35))
  intro n
  induction n with
  | zero =>
    intro x1 x2 x3 u r u' hF
    rw [F_P_unitsInStocks_L4] at hF
    exact absurd hF (by simp)
  | succ n ih =>
    intro x1 x2 x3 u r u' hF H locs ls hP hD hS hl
    rw [F_P_unitsInStocks_L4] at hF
    refine lv_iload_n hx hb dX1_unitsInStocks_4 rfl (lv_at hl 3 rfl) ?_
    refine lv_bipush (v := (8 : Int32)) hx hb dX1_unitsInStocks_5 (by decide +kernel) ?_
    refine lv_icmp_ge (tgt := 32) hx hb dX1_unitsInStocks_7 (by decide) (fun c_1 => ?_) (fun c_1 => ?_)
    · replace hF := (if_pos c_1).symm.trans hF
      refine lv_iload_n hx hb dX1_unitsInStocks_32 rfl (lv_at hl 2 rfl) ?_
      cases hF
      refine W.widen (k := 0) (n := 0) (Nat.le_of_ble_eq_true rfl) (Nat.le_of_ble_eq_true rfl) ?_
      exact W.iret hx hb hr (fun t ht hW => ⟨⟨_, _, rfl, ⟨rfl, rfl⟩, by rw [ht]; exact hP, va_K.moved hW.alike hK, hD⟩, hS.F ht⟩) hS.2.2 dX1_unitsInStocks_33
    · replace hF := (if_neg c_1).symm.trans hF
      refine lv_iload_n hx hb dX1_unitsInStocks_10 rfl (lv_at hl 2 rfl) ?_
      refine lv_aload_n hx hb dX1_unitsInStocks_11 rfl (lv_at hl 0 rfl) ?_
      refine va_get (D := D) (ci := 1) (v := .ref (ca 1)) (C := RX1) (T := TX1) (N := 16) hx hb hts (fun w h => cwc w (in_X1 w h)) hown hK hP 0 rfl rfl 0 (by decide) hk_11 (fun _ h9 => h9) rfl dX1_unitsInStocks_12 ?_
      refine lv_iload_n hx hb dX1_unitsInStocks_15 rfl (lv_at hl 3 rfl) ?_
      refine lv_iload_n hx hb dX1_unitsInStocks_16 rfl (lv_at hl 1 rfl) ?_
      obtain ⟨r3, u2, hc_4, hF⟩ := bi_some hF
      refine kc_i (W1 := CW cI cR ca qa u) (va_runS (As := [.int x3, .int x1]) (rest := [.ref (ca 1), .int x2]) ⟨hx, hb, hml, hown, hts⟩ (c_P_stockIndex l D cI cR  H.size x3 x1 () r3 u2 hc_4) (va_cwS 2 hts (gS cwc mw_86 mw_87 mw_1 mw_88) rfl rfl rfl (by decide +kernel) ⟨(Nat.le_of_ble_eq_true rfl), (Nat.le_of_ble_eq_true rfl)⟩) (kp_S hK hP hD (sb_nil _)) rfl rfl hl.1 rfl (lv_room (Nat.le_of_ble_eq_true rfl)) dX1_unitsInStocks_17 ⟨(Nat.le_of_ble_eq_true rfl), (Nat.le_of_ble_eq_true rfl)⟩) hP hD hS hA (sb_nil _) (jn_nil _) (fun H locs hP hD hS => ?_)
      obtain ⟨h_5, hF⟩ := gd_some hF
      refine va_aldq hx hb hK hP 1 1 rfl rfl (inb_in h_5) dX1_unitsInStocks_20 ?_
      refine W.eq (g2 := F0 m 21 ls [.ref (qa (4 * r3.toNatClampNeg)), .int x2]) rfl ?_
      have hj_6 : r3.toNatClampNeg < 48 := by have := inb_lt h_5; omega
      obtain ⟨r8, u7, hc_9, hF⟩ := bi_some hF
      refine kc_i (W1 := CW cI cR ca qa u) (va_runV (As := []) (rest := [.int x2]) ⟨hx, hb, hml, hown, hts⟩ (c_Row_total l D cI cR (qa (4 * r3.toNatClampNeg)) (qa (4 * r3.toNatClampNeg + 1)) (qa (4 * r3.toNatClampNeg + 2)) (qa (4 * r3.toNatClampNeg + 3)) H.size  (u.2.2.2.2.2.2.2.2.2.2.2.2.2.2 r3.toNatClampNeg) r8 u7 hc_9) (cwV 0 hts (gV cwc mw_97 mw_98 mw_99 mw_2 mw_100) rfl rfl rfl (by decide +kernel) ⟨(Nat.le_of_ble_eq_true rfl), (Nat.le_of_ble_eq_true rfl)⟩) (kp_V (ci := 0) (q := (RX0, TX0, 5)) hK hP hD (cw_sb hj_6) rfl rfl) rfl rfl hl.1 rfl (lv_room (Nat.le_of_ble_eq_true rfl)) dX1_unitsInStocks_21 ⟨(Nat.le_of_ble_eq_true rfl), (Nat.le_of_ble_eq_true rfl)⟩) hP hD hS hA (cw_sb hj_6) (jn_same (cw_sb hj_6)) (fun H locs hP hD hS => ?_)
      refine lv_iadd hx hb dX1_unitsInStocks_24 ?_
      obtain ⟨v10, ev10, hF⟩ := nm_some hF
      refine W.eq (g2 := F0 m 25 ls (.int v10 :: [])) (congrArg (fun z => F0 m 25 ls (.int z :: [])) ev10.symm) ?_
      refine lv_istore_n (lv' := [(2, .int v10), (0, .ref (ca 0)), (1, .int x1), (3, .int x3)]) hx hb dX1_unitsInStocks_25 rfl hl (by decide) rfl (fun ls hl => ?_)
      refine lv_iinc (v := (x3 + (1 : Int32))) (lv' := [(3, .int (x3 + (1 : Int32))), (2, .int v10), (0, .ref (ca 0)), (1, .int x1)]) hx hb dX1_unitsInStocks_26 hl (k := 3) rfl rfl (by decide) rfl (fun ls hl => ?_)
      refine lv_goto (tgt := 4) hx hb dX1_unitsInStocks_29 (by decide) ?_
      exact ih x1 v10 (x3 + (1 : Int32)) u _ _ hF H locs ls hP hD hS (lv_sub hl [2, 3, 1, 0] rfl)
set_option maxHeartbeats 4000000 in
set_option maxRecDepth 100000 in
theorem c_P_unitsInStocks (l : Launch) (D : va_G) (cI cR : ClassId) (ca qa : Nat → Nat) (sz : Nat) (p1 : Int32) (u : CSt) (r : Int32) (u' : Unit) (hF : F_P_unitsInStocks p1 u = some (r, u')) : Met l yX1_unitsInStocks wsX1_unitsInStocks ({ frames := 1, cells := 0, slots := 0, locals := 21 }) (va_Pc [.ref (ca 0), .int p1] (PRE D (TY cI cR) (CW cI cR ca qa u) sz)) (QI D (TY cI cR) (va_A (CW cI cR ca qa u) sz) (fun v => CW cI cR ca qa v) r u) 0 0 (va_A (CW cI cR ca qa u) sz) := by
  refine Met.ofW (cc := cX1_unitsInStocks) (maxL := 4) (ret := (some .int)) (by decide) rfl ?_
  intro p e s m args below meth c s₁ B hml hv
  obtain ⟨rfl, hsz, hP, hK, hD0⟩ := hv
  have hx := B.exec
  have hb := B.bytes
  have hr := B.returns
  have hts := atoms_spec (ws := wsX1_unitsInStocks) B.pre
  have hown : s.vm.findClass RX1 = some m.cls := findClass_of_methodNamed B.named
  have hlocks := B.notSynchronized
  subst hsz
  have hD := hD0.self (sz := s.heap.size)
  generalize hAe : va_A (CW cI cR ca qa u) s.heap.size = A at hD ⊢
  have hA : ∀ q : Nat, s.heap.size ≤ q → A q := fun q h => by rw [← hAe]; exact Or.inr h
  have hS : va_S A s.heap s.heap [] := va_S.rf
  replace hP : va_P D vwCl (CW cI cR ca qa u) s.heap := hP
  have hl := lv_entry ([.ref (ca 0), .int p1]) (n := 4) (Nat.le_of_ble_eq_true rfl)
  rw [lg_entry_eq]
  generalize (lg_sl ([.ref (ca 0), .int p1]) ++ List.replicate (4 - (lg_sl ([.ref (ca 0), .int p1])).length) Slot.unset).toArray = ls at hl ⊢
  replace hl : lv_has ls 4 [(0, .ref (ca 0)), (1, .int p1)] := hl
  have hk_11 := (hts _ (cwc _ mw_35))
  unfold F_P_unitsInStocks at hF
  refine (?_ : ∀ (H : Heap) (locs : List Loc), va_P D vwCl (CW cI cR ca qa u) H → va_S A s.heap H locs → W p l e _ s m _ below meth c H locs 0 0 _ (F0 m 0 ls [])) s.heap [] hP hS
  intro H locs hP hS
  refine lv_iconst (v := (0 : Int32)) hx hb dX1_unitsInStocks_0 (by decide +kernel) ?_
  refine lv_istore_n (lv' := [(2, .int (0 : Int32)), (0, .ref (ca 0)), (1, .int p1)]) hx hb dX1_unitsInStocks_1 rfl hl (by decide) rfl (fun ls hl => ?_)
  refine lv_iconst (v := (0 : Int32)) hx hb dX1_unitsInStocks_2 (by decide +kernel) ?_
  refine lv_istore_n (lv' := [(3, .int (0 : Int32)), (2, .int (0 : Int32)), (0, .ref (ca 0)), (1, .int p1)]) hx hb dX1_unitsInStocks_3 rfl hl (by decide) rfl (fun ls hl => ?_)
  exact w_P_unitsInStocks_L4 hx hb hr hml hown hts hlocks hA hK 9 p1 (0 : Int32) (0 : Int32) u _ _ hF H locs ls hP hD hS (lv_sub hl [2, 3, 1, 0] rfl)
def F_P_unitsInWagons_L4 : Nat → Int32 → Int32 → Int32 → CSt → Option ((Int32) × Unit)
  | 0, _, _, _, _ => none
  | n + 1, x1, x2, x3, u => (if (16 : Int32) ≤ x3 then some (x2, ()) else gd (inb x3 16) ((if (u.2.2.2.2.2.1 x3.toNatClampNeg) = x1 then gd (inb x3 16) (bi (F_Row_total (u.2.2.2.2.2.2.2.2.2.2.2.2.2.2 (32 + x3.toNatClampNeg))) (fun r7 u6 => nm ((x2 + r7)) (fun v9 => F_P_unitsInWagons_L4 n x1 v9 (x3 + (1 : Int32)) u))) else F_P_unitsInWagons_L4 n x1 x2 (x3 + (1 : Int32)) u)))
def F_P_unitsInWagons (p1 : Int32) (u : CSt) : Option ((Int32) × Unit) := F_P_unitsInWagons_L4 17 p1 (0 : Int32) (0 : Int32) u
set_option maxHeartbeats 4000000 in
set_option maxRecDepth 100000 in
theorem w_P_unitsInWagons_L4 {p : Program} {l : Launch} {e : Env} {s : State} {m : MethodId} {args : Array Value} {below : List Frame} {meth : Method} {c : Code} {A : Nat → Prop} {D : va_G} {cI cR : ClassId} {ca qa : Nat → Nat} (hx : p.tables.exec = Jvm.exec) (hb : c.code = cX1_unitsInWagons) (hr : meth.sig.returnType = (some .int)) (hml : c.maxLocals = 4) (hown : s.vm.findClass RX1 = some m.cls) (hts : ∀ w ∈ wsX1_unitsInWagons, w.before args s = true) (hlocks : meth.locks = false) (hA : ∀ q : Nat, s.heap.size ≤ q → A q) (hK : va_K D vwCl (TY cI cR) s) : ∀ (n : Nat) (x1 x2 x3 : Int32) (u : CSt) (r : Int32) (u' : Unit), F_P_unitsInWagons_L4 n x1 x2 x3 u = some (r, u') → ∀ (H : Heap) (locs : List Loc) (ls : Array Slot), va_P D vwCl (CW cI cR ca qa u) H → va_D A (CW cI cR ca qa u) → va_S A s.heap H locs → lv_has ls 4 [(0, .ref (ca 0)), (1, .int x1), (2, .int x2), (3, .int x3)] → W p l e (headSpec wsX1_unitsInWagons ({ frames := 1, cells := 0, slots := 0, locals := 20 })).room s m args below meth c H locs 0 0 (MQ below (QI D (TY cI cR) A (fun v => CW cI cR ca qa v) r u) args s 0 0 A) (F0 m 4 ls []) := by
  have hk_34 := (hts _ (cwc _ mw_42))
  have hk_31 := (hts _ (cwc _ mw_41))
  intro n
  induction n with
  | zero =>
    intro x1 x2 x3 u r u' hF
    rw [F_P_unitsInWagons_L4] at hF
    exact absurd hF (by simp)
  | succ n ih =>
    intro x1 x2 x3 u r u' hF H locs ls hP hD hS hl
    rw [F_P_unitsInWagons_L4] at hF
    refine lv_iload_n hx hb dX1_unitsInWagons_4 rfl (lv_at hl 3 rfl) ?_
    refine lv_bipush (v := (16 : Int32)) hx hb dX1_unitsInWagons_5 (by decide +kernel) ?_
    refine lv_icmp_ge (tgt := 38) hx hb dX1_unitsInWagons_7 (by decide) (fun c_1 => ?_) (fun c_1 => ?_)
    · replace hF := (if_pos c_1).symm.trans hF
      refine lv_iload_n hx hb dX1_unitsInWagons_38 rfl (lv_at hl 2 rfl) ?_
      cases hF
      refine W.widen (k := 0) (n := 0) (Nat.le_of_ble_eq_true rfl) (Nat.le_of_ble_eq_true rfl) ?_
      exact W.iret hx hb hr (fun t ht hW => ⟨⟨_, _, rfl, ⟨rfl, rfl⟩, by rw [ht]; exact hP, va_K.moved hW.alike hK, hD⟩, hS.F ht⟩) hS.2.2 dX1_unitsInWagons_39
    · replace hF := (if_neg c_1).symm.trans hF
      refine lv_aload_n hx hb dX1_unitsInWagons_10 rfl (lv_at hl 0 rfl) ?_
      refine va_get (D := D) (ci := 1) (v := .ref (ca 8)) (C := RX1) (T := TX1) (N := 16) hx hb hts (fun w h => cwc w (in_X1 w h)) hown hK hP 0 rfl rfl 7 (by decide) hk_34 (fun _ h9 => h9) rfl dX1_unitsInWagons_11 ?_
      refine lv_iload_n hx hb dX1_unitsInWagons_14 rfl (lv_at hl 3 rfl) ?_
      obtain ⟨h_2, hF⟩ := gd_some hF
      refine va_iald (f := u.2.2.2.2.2.1) hx hb hK hP 8 0 rfl rfl (inb_in h_2) dX1_unitsInWagons_15 ?_
      refine lv_iload_n hx hb dX1_unitsInWagons_16 rfl (lv_at hl 1 rfl) ?_
      refine lv_icmp_ne (tgt := 32) hx hb dX1_unitsInWagons_17 (by decide) (fun c_3 => ?_) (fun c_3 => ?_)
      · replace hF := (if_neg c_3).symm.trans hF
        refine lv_iinc (v := (x3 + (1 : Int32))) (lv' := [(3, .int (x3 + (1 : Int32))), (0, .ref (ca 0)), (1, .int x1), (2, .int x2)]) hx hb dX1_unitsInWagons_32 hl (k := 3) rfl rfl (by decide) rfl (fun ls hl => ?_)
        refine lv_goto (tgt := 4) hx hb dX1_unitsInWagons_35 (by decide) ?_
        exact ih x1 x2 (x3 + (1 : Int32)) u _ _ hF H locs ls hP hD hS (lv_sub hl [1, 2, 3, 0] rfl)
      · replace hF := (if_pos c_3).symm.trans hF
        refine lv_iload_n hx hb dX1_unitsInWagons_20 rfl (lv_at hl 2 rfl) ?_
        refine lv_aload_n hx hb dX1_unitsInWagons_21 rfl (lv_at hl 0 rfl) ?_
        refine va_get (D := D) (ci := 1) (v := .ref (ca 7)) (C := RX1) (T := TX1) (N := 16) hx hb hts (fun w h => cwc w (in_X1 w h)) hown hK hP 0 rfl rfl 6 (by decide) hk_31 (fun _ h9 => h9) rfl dX1_unitsInWagons_22 ?_
        refine lv_iload_n hx hb dX1_unitsInWagons_25 rfl (lv_at hl 3 rfl) ?_
        obtain ⟨h_4, hF⟩ := gd_some hF
        refine va_aldq hx hb hK hP 7 1 rfl rfl (inb_in h_4) dX1_unitsInWagons_26 ?_
        refine W.eq (g2 := F0 m 27 ls [.ref (qa (4 * (32 + x3.toNatClampNeg))), .int x2]) rfl ?_
        have hj_5 : (32 + x3.toNatClampNeg) < 48 := by have := inb_lt h_4; omega
        obtain ⟨r7, u6, hc_8, hF⟩ := bi_some hF
        refine kc_i (W1 := CW cI cR ca qa u) (va_runV (As := []) (rest := [.int x2]) ⟨hx, hb, hml, hown, hts⟩ (c_Row_total l D cI cR (qa (4 * (32 + x3.toNatClampNeg))) (qa (4 * (32 + x3.toNatClampNeg) + 1)) (qa (4 * (32 + x3.toNatClampNeg) + 2)) (qa (4 * (32 + x3.toNatClampNeg) + 3)) H.size  (u.2.2.2.2.2.2.2.2.2.2.2.2.2.2 (32 + x3.toNatClampNeg)) r7 u6 hc_8) (cwV 0 hts (gV cwc mw_97 mw_98 mw_99 mw_2 mw_100) rfl rfl rfl (by decide +kernel) ⟨(Nat.le_of_ble_eq_true rfl), (Nat.le_of_ble_eq_true rfl)⟩) (kp_V (ci := 0) (q := (RX0, TX0, 5)) hK hP hD (cw_sb hj_5) rfl rfl) rfl rfl hl.1 rfl (lv_room (Nat.le_of_ble_eq_true rfl)) dX1_unitsInWagons_27 ⟨(Nat.le_of_ble_eq_true rfl), (Nat.le_of_ble_eq_true rfl)⟩) hP hD hS hA (cw_sb hj_5) (jn_same (cw_sb hj_5)) (fun H locs hP hD hS => ?_)
        refine lv_iadd hx hb dX1_unitsInWagons_30 ?_
        obtain ⟨v9, ev9, hF⟩ := nm_some hF
        refine W.eq (g2 := F0 m 31 ls (.int v9 :: [])) (congrArg (fun z => F0 m 31 ls (.int z :: [])) ev9.symm) ?_
        refine lv_istore_n (lv' := [(2, .int v9), (0, .ref (ca 0)), (1, .int x1), (3, .int x3)]) hx hb dX1_unitsInWagons_31 rfl hl (by decide) rfl (fun ls hl => ?_)
        refine lv_iinc (v := (x3 + (1 : Int32))) (lv' := [(3, .int (x3 + (1 : Int32))), (2, .int v9), (0, .ref (ca 0)), (1, .int x1)]) hx hb dX1_unitsInWagons_32 hl (k := 3) rfl rfl (by decide) rfl (fun ls hl => ?_)
        refine lv_goto (tgt := 4) hx hb dX1_unitsInWagons_35 (by decide) ?_
        exact ih x1 v9 (x3 + (1 : Int32)) u _ _ hF H locs ls hP hD hS (lv_sub hl [2, 3, 1, 0] rfl)
set_option maxHeartbeats 4000000 in
set_option maxRecDepth 100000 in
theorem c_P_unitsInWagons (l : Launch) (D : va_G) (cI cR : ClassId) (ca qa : Nat → Nat) (sz : Nat) (p1 : Int32) (u : CSt) (r : Int32) (u' : Unit) (hF : F_P_unitsInWagons p1 u = some (r, u')) : Met l yX1_unitsInWagons wsX1_unitsInWagons ({ frames := 1, cells := 0, slots := 0, locals := 20 }) (va_Pc [.ref (ca 0), .int p1] (PRE D (TY cI cR) (CW cI cR ca qa u) sz)) (QI D (TY cI cR) (va_A (CW cI cR ca qa u) sz) (fun v => CW cI cR ca qa v) r u) 0 0 (va_A (CW cI cR ca qa u) sz) := by
  refine Met.ofW (cc := cX1_unitsInWagons) (maxL := 4) (ret := (some .int)) (by decide) rfl ?_
  intro p e s m args below meth c s₁ B hml hv
  obtain ⟨rfl, hsz, hP, hK, hD0⟩ := hv
  have hx := B.exec
  have hb := B.bytes
  have hr := B.returns
  have hts := atoms_spec (ws := wsX1_unitsInWagons) B.pre
  have hown : s.vm.findClass RX1 = some m.cls := findClass_of_methodNamed B.named
  have hlocks := B.notSynchronized
  subst hsz
  have hD := hD0.self (sz := s.heap.size)
  generalize hAe : va_A (CW cI cR ca qa u) s.heap.size = A at hD ⊢
  have hA : ∀ q : Nat, s.heap.size ≤ q → A q := fun q h => by rw [← hAe]; exact Or.inr h
  have hS : va_S A s.heap s.heap [] := va_S.rf
  replace hP : va_P D vwCl (CW cI cR ca qa u) s.heap := hP
  have hl := lv_entry ([.ref (ca 0), .int p1]) (n := 4) (Nat.le_of_ble_eq_true rfl)
  rw [lg_entry_eq]
  generalize (lg_sl ([.ref (ca 0), .int p1]) ++ List.replicate (4 - (lg_sl ([.ref (ca 0), .int p1])).length) Slot.unset).toArray = ls at hl ⊢
  replace hl : lv_has ls 4 [(0, .ref (ca 0)), (1, .int p1)] := hl
  have hk_34 := (hts _ (cwc _ mw_42))
  have hk_31 := (hts _ (cwc _ mw_41))
  unfold F_P_unitsInWagons at hF
  refine (?_ : ∀ (H : Heap) (locs : List Loc), va_P D vwCl (CW cI cR ca qa u) H → va_S A s.heap H locs → W p l e _ s m _ below meth c H locs 0 0 _ (F0 m 0 ls [])) s.heap [] hP hS
  intro H locs hP hS
  refine lv_iconst (v := (0 : Int32)) hx hb dX1_unitsInWagons_0 (by decide +kernel) ?_
  refine lv_istore_n (lv' := [(2, .int (0 : Int32)), (0, .ref (ca 0)), (1, .int p1)]) hx hb dX1_unitsInWagons_1 rfl hl (by decide) rfl (fun ls hl => ?_)
  refine lv_iconst (v := (0 : Int32)) hx hb dX1_unitsInWagons_2 (by decide +kernel) ?_
  refine lv_istore_n (lv' := [(3, .int (0 : Int32)), (2, .int (0 : Int32)), (0, .ref (ca 0)), (1, .int p1)]) hx hb dX1_unitsInWagons_3 rfl hl (by decide) rfl (fun ls hl => ?_)
  exact w_P_unitsInWagons_L4 hx hb hr hml hown hts hlocks hA hK 17 p1 (0 : Int32) (0 : Int32) u _ _ hF H locs ls hP hD hS (lv_sub hl [2, 3, 1, 0] rfl)
end
section
def F_P_earn (p1 : Int32) (u : CSt) : Option ((Unit) × CSt) := nm ((if ((2000000000 : Int32) - u.2.2.2.2.2.2.2.2.2.2.2.2.1) < ((2000000000 : Int32) - u.2.2.2.2.2.2.2.2.2.2.2.1) then ((2000000000 : Int32) - u.2.2.2.2.2.2.2.2.2.2.2.2.1) else ((2000000000 : Int32) - u.2.2.2.2.2.2.2.2.2.2.2.1))) (fun v1 => nm ((if v1 < p1 then v1 else p1)) (fun v2 => some ((), (u.1, u.2.1, u.2.2.1, u.2.2.2.1, u.2.2.2.2.1, u.2.2.2.2.2.1, u.2.2.2.2.2.2.1, u.2.2.2.2.2.2.2.1, u.2.2.2.2.2.2.2.2.1, u.2.2.2.2.2.2.2.2.2.1, u.2.2.2.2.2.2.2.2.2.2.1, (u.2.2.2.2.2.2.2.2.2.2.2.1 + v2), (u.2.2.2.2.2.2.2.2.2.2.2.2.1 + v2), u.2.2.2.2.2.2.2.2.2.2.2.2.2.1, u.2.2.2.2.2.2.2.2.2.2.2.2.2.2))))
set_option maxHeartbeats 4000000 in
set_option maxRecDepth 100000 in
theorem c_P_earn (l : Launch) (D : va_G) (cI cR : ClassId) (ca qa : Nat → Nat) (sz : Nat) (p1 : Int32) (u : CSt) (r : Unit) (u' : CSt) (hF : F_P_earn p1 u = some (r, u')) : Met l yX1_earn wsX1_earn ({ frames := 1, cells := 0, slots := 0, locals := 13 }) (va_Pc [.ref (ca 0), .int p1] (PRE D (TY cI cR) (CW cI cR ca qa u) sz)) (QV D (TY cI cR) (va_A (CW cI cR ca qa u) sz) (fun v => CW cI cR ca qa v) u') 0 0 (va_A (CW cI cR ca qa u) sz) := by
  refine Met.ofW (cc := cX1_earn) (maxL := 4) (ret := none) (by decide) rfl ?_
  intro p e s m args below meth c s₁ B hml hv
  obtain ⟨rfl, hsz, hP, hK, hD0⟩ := hv
  have hx := B.exec
  have hb := B.bytes
  have hr := B.returns
  have hts := atoms_spec (ws := wsX1_earn) B.pre
  have hown : s.vm.findClass RX1 = some m.cls := findClass_of_methodNamed B.named
  have hlocks := B.notSynchronized
  subst hsz
  have hD := hD0.self (sz := s.heap.size)
  generalize hAe : va_A (CW cI cR ca qa u) s.heap.size = A at hD ⊢
  have hA : ∀ q : Nat, s.heap.size ≤ q → A q := fun q h => by rw [← hAe]; exact Or.inr h
  have hS : va_S A s.heap s.heap [] := va_S.rf
  replace hP : va_P D vwCl (CW cI cR ca qa u) s.heap := hP
  have hl := lv_entry ([.ref (ca 0), .int p1]) (n := 4) (Nat.le_of_ble_eq_true rfl)
  rw [lg_entry_eq]
  generalize (lg_sl ([.ref (ca 0), .int p1]) ++ List.replicate (4 - (lg_sl ([.ref (ca 0), .int p1])).length) Slot.unset).toArray = ls at hl ⊢
  replace hl : lv_has ls 4 [(0, .ref (ca 0)), (1, .int p1)] := hl
  have hC_100 := (hts _ (cwc _ mw_72))
  have hk_53 := (hts _ (cwc _ mw_48))
  have hk_56 := (hts _ (cwc _ mw_49))
  have hmmin_l149 := (hts _ (cwc _ mw_240))
  have hmmin_s := (hts _ (cwc _ mw_241))
  have hm_i := (hts _ (cwc _ mw_9))
  have hmmin_c := (hts _ (cwc _ mw_242))
  unfold F_P_earn at hF
  refine (?_ : ∀ (H : Heap) (locs : List Loc), va_P D vwCl (CW cI cR ca qa u) H → va_S A s.heap H locs → W p l e _ s m _ below meth c H locs 0 0 _ (F0 m 0 ls [])) s.heap [] hP hS
  intro H locs hP hS
  refine lv_ldc (v := (2000000000 : Int32)) hx hb hown hC_100 dX1_earn_0 ?_
  refine lv_aload_n hx hb dX1_earn_2 rfl (lv_at hl 0 rfl) ?_
  refine va_get (D := D) (ci := 1) (v := .int u.2.2.2.2.2.2.2.2.2.2.2.1) (C := RX1) (T := TX1) (N := 16) hx hb hts (fun w h => cwc w (in_X1 w h)) hown hK hP 0 rfl rfl 13 (by decide) hk_53 (fun _ h9 => h9) rfl dX1_earn_3 ?_
  refine lv_isub hx hb dX1_earn_6 ?_
  refine lv_ldc (v := (2000000000 : Int32)) hx hb hown hC_100 dX1_earn_7 ?_
  refine lv_aload_n hx hb dX1_earn_9 rfl (lv_at hl 0 rfl) ?_
  refine va_get (D := D) (ci := 1) (v := .int u.2.2.2.2.2.2.2.2.2.2.2.2.1) (C := RX1) (T := TX1) (N := 16) hx hb hts (fun w h => cwc w (in_X1 w h)) hown hK hP 0 rfl rfl 14 (by decide) hk_56 (fun _ h9 => h9) rfl dX1_earn_10 ?_
  refine lv_isub hx hb dX1_earn_13 ?_
  refine va_mmin hx hb (hml.trans hl.1.symm) hown hmmin_l149 hmmin_s hm_i hmmin_c (Nat.le_of_ble_eq_true rfl) (Nat.le_of_ble_eq_true rfl) (Nat.zero_le _) (Nat.zero_le _) dX1_earn_14 ?_
  obtain ⟨v1, ev1, hF⟩ := nm_some hF
  refine W.eq (g2 := F0 m 17 ls (.int v1 :: [])) (congrArg (fun z => F0 m 17 ls (.int z :: [])) ev1.symm) ?_
  refine lv_istore_n (lv' := [(2, .int v1), (0, .ref (ca 0)), (1, .int p1)]) hx hb dX1_earn_17 rfl hl (by decide) rfl (fun ls hl => ?_)
  refine lv_iload_n hx hb dX1_earn_18 rfl (lv_at hl 2 rfl) ?_
  refine lv_iload_n hx hb dX1_earn_19 rfl (lv_at hl 0 rfl) ?_
  refine va_mmin hx hb (hml.trans hl.1.symm) hown hmmin_l149 hmmin_s hm_i hmmin_c (Nat.le_of_ble_eq_true rfl) (Nat.le_of_ble_eq_true rfl) (Nat.zero_le _) (Nat.zero_le _) dX1_earn_20 ?_
  obtain ⟨v2, ev2, hF⟩ := nm_some hF
  refine W.eq (g2 := F0 m 23 ls (.int v2 :: [])) (congrArg (fun z => F0 m 23 ls (.int z :: [])) ev2.symm) ?_
  refine lv_istore_n (lv' := [(3, .int v2), (2, .int v1), (0, .ref (ca 0)), (1, .int p1)]) hx hb dX1_earn_23 rfl hl (by decide) rfl (fun ls hl => ?_)
  refine lv_aload_n hx hb dX1_earn_24 rfl (lv_at hl 2 rfl) ?_
  refine lv_dup hx hb dX1_earn_25 rfl ?_
  refine va_get (D := D) (ci := 1) (v := .int u.2.2.2.2.2.2.2.2.2.2.2.1) (C := RX1) (T := TX1) (N := 16) hx hb hts (fun w h => cwc w (in_X1 w h)) hown hK hP 0 rfl rfl 13 (by decide) hk_53 (fun _ h9 => h9) rfl dX1_earn_26 ?_
  refine lv_iload_n hx hb dX1_earn_29 rfl (lv_at hl 0 rfl) ?_
  refine lv_iadd hx hb dX1_earn_30 ?_
  refine va_put (D := D) (ci := 1) (v := .int (u.2.2.2.2.2.2.2.2.2.2.2.1 + v2)) (ty := .int) (C := RX1) (T := TX1) (N := 16) hx hb hts (fun w h => cwc w (in_X1 w h)) tyX1 tyX1_ok nmX1 hown hK hP hD hS 0 rfl rfl 13 (by decide) hk_53 (fun _ h9 => h9) rfl (by decide +kernel) rfl rfl (Nat.le_of_ble_eq_true rfl) dX1_earn_31 (fun H locs hP hD hS => ?_)
  replace hP : va_P D vwCl (CW cI cR ca qa (u.1, u.2.1, u.2.2.1, u.2.2.2.1, u.2.2.2.2.1, u.2.2.2.2.2.1, u.2.2.2.2.2.2.1, u.2.2.2.2.2.2.2.1, u.2.2.2.2.2.2.2.2.1, u.2.2.2.2.2.2.2.2.2.1, u.2.2.2.2.2.2.2.2.2.2.1, (u.2.2.2.2.2.2.2.2.2.2.2.1 + v2), u.2.2.2.2.2.2.2.2.2.2.2.2.1, u.2.2.2.2.2.2.2.2.2.2.2.2.2.1, u.2.2.2.2.2.2.2.2.2.2.2.2.2.2)) H := hP
  replace hD : va_D A (CW cI cR ca qa (u.1, u.2.1, u.2.2.1, u.2.2.2.1, u.2.2.2.2.1, u.2.2.2.2.2.1, u.2.2.2.2.2.2.1, u.2.2.2.2.2.2.2.1, u.2.2.2.2.2.2.2.2.1, u.2.2.2.2.2.2.2.2.2.1, u.2.2.2.2.2.2.2.2.2.2.1, (u.2.2.2.2.2.2.2.2.2.2.2.1 + v2), u.2.2.2.2.2.2.2.2.2.2.2.2.1, u.2.2.2.2.2.2.2.2.2.2.2.2.2.1, u.2.2.2.2.2.2.2.2.2.2.2.2.2.2)) := hD
  refine lv_aload_n hx hb dX1_earn_34 rfl (lv_at hl 2 rfl) ?_
  refine lv_dup hx hb dX1_earn_35 rfl ?_
  refine va_get (D := D) (ci := 1) (v := .int u.2.2.2.2.2.2.2.2.2.2.2.2.1) (C := RX1) (T := TX1) (N := 16) hx hb hts (fun w h => cwc w (in_X1 w h)) hown hK hP 0 rfl rfl 14 (by decide) hk_56 (fun _ h9 => h9) rfl dX1_earn_36 ?_
  refine lv_iload_n hx hb dX1_earn_39 rfl (lv_at hl 0 rfl) ?_
  refine lv_iadd hx hb dX1_earn_40 ?_
  refine va_put (D := D) (ci := 1) (v := .int (u.2.2.2.2.2.2.2.2.2.2.2.2.1 + v2)) (ty := .int) (C := RX1) (T := TX1) (N := 16) hx hb hts (fun w h => cwc w (in_X1 w h)) tyX1 tyX1_ok nmX1 hown hK hP hD hS 0 rfl rfl 14 (by decide) hk_56 (fun _ h9 => h9) rfl (by decide +kernel) rfl rfl (Nat.le_of_ble_eq_true rfl) dX1_earn_41 (fun H locs hP hD hS => ?_)
  replace hP : va_P D vwCl (CW cI cR ca qa (u.1, u.2.1, u.2.2.1, u.2.2.2.1, u.2.2.2.2.1, u.2.2.2.2.2.1, u.2.2.2.2.2.2.1, u.2.2.2.2.2.2.2.1, u.2.2.2.2.2.2.2.2.1, u.2.2.2.2.2.2.2.2.2.1, u.2.2.2.2.2.2.2.2.2.2.1, (u.2.2.2.2.2.2.2.2.2.2.2.1 + v2), (u.2.2.2.2.2.2.2.2.2.2.2.2.1 + v2), u.2.2.2.2.2.2.2.2.2.2.2.2.2.1, u.2.2.2.2.2.2.2.2.2.2.2.2.2.2)) H := hP
  replace hD : va_D A (CW cI cR ca qa (u.1, u.2.1, u.2.2.1, u.2.2.2.1, u.2.2.2.2.1, u.2.2.2.2.2.1, u.2.2.2.2.2.2.1, u.2.2.2.2.2.2.2.1, u.2.2.2.2.2.2.2.2.1, u.2.2.2.2.2.2.2.2.2.1, u.2.2.2.2.2.2.2.2.2.2.1, (u.2.2.2.2.2.2.2.2.2.2.2.1 + v2), (u.2.2.2.2.2.2.2.2.2.2.2.2.1 + v2), u.2.2.2.2.2.2.2.2.2.2.2.2.2.1, u.2.2.2.2.2.2.2.2.2.2.2.2.2.2)) := hD
  cases hF
  refine W.widen (k := 0) (n := 0) (Nat.le_of_ble_eq_true rfl) (Nat.le_of_ble_eq_true rfl) ?_
  exact W.vret hx hb hr (fun t ht hW => ⟨⟨_, rfl, rfl, by rw [ht]; exact hP, va_K.moved hW.alike hK, hD⟩, hS.F ht⟩) hS.2.2 dX1_earn_44
def F_P_payOfOne (p1 : Int32) (p2 : Int32) (p3 : Int32) (u : CSt) : Option ((Int32) × Unit) := gd (inb p1 8) (gd (inb p3 8) (nm ((if 0 ≤ ((u.2.2.1 p1.toNatClampNeg) - (u.2.2.1 p3.toNatClampNeg)) then ((u.2.2.1 p1.toNatClampNeg) - (u.2.2.1 p3.toNatClampNeg)) else 0 - ((u.2.2.1 p1.toNatClampNeg) - (u.2.2.1 p3.toNatClampNeg)))) (fun v3 => gd (inb p1 8) (gd (inb p3 8) (nm ((if 0 ≤ ((u.2.2.2.1 p1.toNatClampNeg) - (u.2.2.2.1 p3.toNatClampNeg)) then ((u.2.2.2.1 p1.toNatClampNeg) - (u.2.2.2.1 p3.toNatClampNeg)) else 0 - ((u.2.2.2.1 p1.toNatClampNeg) - (u.2.2.2.1 p3.toNatClampNeg)))) (fun v6 => nm ((if (1 : Int32) < ((64 : Int32) - ((u.2.2.2.2.2.2.2.2.2.2.1 - p2) / (64 : Int32))) then ((64 : Int32) - ((u.2.2.2.2.2.2.2.2.2.2.1 - p2) / (64 : Int32))) else (1 : Int32))) (fun v7 => some (((v3 + v6) * v7), ()))))))))
set_option maxHeartbeats 4000000 in
set_option maxRecDepth 100000 in
theorem c_P_payOfOne (l : Launch) (D : va_G) (cI cR : ClassId) (ca qa : Nat → Nat) (sz : Nat) (p1 : Int32) (p2 : Int32) (p3 : Int32) (u : CSt) (r : Int32) (u' : Unit) (hF : F_P_payOfOne p1 p2 p3 u = some (r, u')) : Met l yX1_payOfOne wsX1_payOfOne ({ frames := 1, cells := 0, slots := 0, locals := 13 }) (va_Pc [.ref (ca 0), .int p1, .int p2, .int p3] (PRE D (TY cI cR) (CW cI cR ca qa u) sz)) (QI D (TY cI cR) (va_A (CW cI cR ca qa u) sz) (fun v => CW cI cR ca qa v) r u) 0 0 (va_A (CW cI cR ca qa u) sz) := by
  refine Met.ofW (cc := cX1_payOfOne) (maxL := 7) (ret := (some .int)) (by decide) rfl ?_
  intro p e s m args below meth c s₁ B hml hv
  obtain ⟨rfl, hsz, hP, hK, hD0⟩ := hv
  have hx := B.exec
  have hb := B.bytes
  have hr := B.returns
  have hts := atoms_spec (ws := wsX1_payOfOne) B.pre
  have hown : s.vm.findClass RX1 = some m.cls := findClass_of_methodNamed B.named
  have hlocks := B.notSynchronized
  subst hsz
  have hD := hD0.self (sz := s.heap.size)
  generalize hAe : va_A (CW cI cR ca qa u) s.heap.size = A at hD ⊢
  have hA : ∀ q : Nat, s.heap.size ≤ q → A q := fun q h => by rw [← hAe]; exact Or.inr h
  have hS : va_S A s.heap s.heap [] := va_S.rf
  replace hP : va_P D vwCl (CW cI cR ca qa u) s.heap := hP
  have hl := lv_entry ([.ref (ca 0), .int p1, .int p2, .int p3]) (n := 7) (Nat.le_of_ble_eq_true rfl)
  rw [lg_entry_eq]
  generalize (lg_sl ([.ref (ca 0), .int p1, .int p2, .int p3]) ++ List.replicate (7 - (lg_sl ([.ref (ca 0), .int p1, .int p2, .int p3])).length) Slot.unset).toArray = ls at hl ⊢
  replace hl : lv_has ls 7 [(0, .ref (ca 0)), (1, .int p1), (2, .int p2), (3, .int p3)] := hl
  have hk_22 := (hts _ (cwc _ mw_38))
  have hmabs_l167 := (hts _ (cwc _ mw_286))
  have hmabs_s := (hts _ (cwc _ mw_287))
  have hm_i := (hts _ (cwc _ mw_9))
  have hmabs_c := (hts _ (cwc _ mw_288))
  have hk_25 := (hts _ (cwc _ mw_39))
  have hk_49 := (hts _ (cwc _ mw_47))
  have hmmax_l170 := (hts _ (cwc _ mw_289))
  have hmmax_s := (hts _ (cwc _ mw_290))
  have hmmax_c := (hts _ (cwc _ mw_291))
  unfold F_P_payOfOne at hF
  refine (?_ : ∀ (H : Heap) (locs : List Loc), va_P D vwCl (CW cI cR ca qa u) H → va_S A s.heap H locs → W p l e _ s m _ below meth c H locs 0 0 _ (F0 m 0 ls [])) s.heap [] hP hS
  intro H locs hP hS
  refine lv_aload_n hx hb dX1_payOfOne_0 rfl (lv_at hl 0 rfl) ?_
  refine va_get (D := D) (ci := 1) (v := .ref (ca 4)) (C := RX1) (T := TX1) (N := 16) hx hb hts (fun w h => cwc w (in_X1 w h)) hown hK hP 0 rfl rfl 3 (by decide) hk_22 (fun _ h9 => h9) rfl dX1_payOfOne_1 ?_
  refine lv_iload_n hx hb dX1_payOfOne_4 rfl (lv_at hl 1 rfl) ?_
  obtain ⟨h_1, hF⟩ := gd_some hF
  refine va_iald (f := u.2.2.1) hx hb hK hP 4 0 rfl rfl (inb_in h_1) dX1_payOfOne_5 ?_
  refine lv_aload_n hx hb dX1_payOfOne_6 rfl (lv_at hl 0 rfl) ?_
  refine va_get (D := D) (ci := 1) (v := .ref (ca 4)) (C := RX1) (T := TX1) (N := 16) hx hb hts (fun w h => cwc w (in_X1 w h)) hown hK hP 0 rfl rfl 3 (by decide) hk_22 (fun _ h9 => h9) rfl dX1_payOfOne_7 ?_
  refine lv_iload_n hx hb dX1_payOfOne_10 rfl (lv_at hl 3 rfl) ?_
  obtain ⟨h_2, hF⟩ := gd_some hF
  refine va_iald (f := u.2.2.1) hx hb hK hP 4 0 rfl rfl (inb_in h_2) dX1_payOfOne_11 ?_
  refine lv_isub hx hb dX1_payOfOne_12 ?_
  refine va_mabs hx hb (hml.trans hl.1.symm) hown hmabs_l167 hmabs_s hm_i hmabs_c (Nat.le_of_ble_eq_true rfl) (Nat.le_of_ble_eq_true rfl) (Nat.zero_le _) (Nat.zero_le _) dX1_payOfOne_13 ?_
  obtain ⟨v3, ev3, hF⟩ := nm_some hF
  refine W.eq (g2 := F0 m 16 ls (.int v3 :: [])) (congrArg (fun z => F0 m 16 ls (.int z :: [])) ev3.symm) ?_
  refine lv_istore (lv' := [(4, .int v3), (0, .ref (ca 0)), (1, .int p1), (2, .int p2), (3, .int p3)]) hx hb dX1_payOfOne_16 hl (by decide) rfl (fun ls hl => ?_)
  refine lv_aload_n hx hb dX1_payOfOne_18 rfl (lv_at hl 1 rfl) ?_
  refine va_get (D := D) (ci := 1) (v := .ref (ca 5)) (C := RX1) (T := TX1) (N := 16) hx hb hts (fun w h => cwc w (in_X1 w h)) hown hK hP 0 rfl rfl 4 (by decide) hk_25 (fun _ h9 => h9) rfl dX1_payOfOne_19 ?_
  refine lv_iload_n hx hb dX1_payOfOne_22 rfl (lv_at hl 2 rfl) ?_
  obtain ⟨h_4, hF⟩ := gd_some hF
  refine va_iald (f := u.2.2.2.1) hx hb hK hP 5 0 rfl rfl (inb_in h_4) dX1_payOfOne_23 ?_
  refine lv_aload_n hx hb dX1_payOfOne_24 rfl (lv_at hl 1 rfl) ?_
  refine va_get (D := D) (ci := 1) (v := .ref (ca 5)) (C := RX1) (T := TX1) (N := 16) hx hb hts (fun w h => cwc w (in_X1 w h)) hown hK hP 0 rfl rfl 4 (by decide) hk_25 (fun _ h9 => h9) rfl dX1_payOfOne_25 ?_
  refine lv_iload_n hx hb dX1_payOfOne_28 rfl (lv_at hl 4 rfl) ?_
  obtain ⟨h_5, hF⟩ := gd_some hF
  refine va_iald (f := u.2.2.2.1) hx hb hK hP 5 0 rfl rfl (inb_in h_5) dX1_payOfOne_29 ?_
  refine lv_isub hx hb dX1_payOfOne_30 ?_
  refine va_mabs hx hb (hml.trans hl.1.symm) hown hmabs_l167 hmabs_s hm_i hmabs_c (Nat.le_of_ble_eq_true rfl) (Nat.le_of_ble_eq_true rfl) (Nat.zero_le _) (Nat.zero_le _) dX1_payOfOne_31 ?_
  obtain ⟨v6, ev6, hF⟩ := nm_some hF
  refine W.eq (g2 := F0 m 34 ls (.int v6 :: [])) (congrArg (fun z => F0 m 34 ls (.int z :: [])) ev6.symm) ?_
  refine lv_istore (lv' := [(5, .int v6), (4, .int v3), (0, .ref (ca 0)), (1, .int p1), (2, .int p2), (3, .int p3)]) hx hb dX1_payOfOne_34 hl (by decide) rfl (fun ls hl => ?_)
  refine lv_iconst (v := (1 : Int32)) hx hb dX1_payOfOne_36 (by decide +kernel) ?_
  refine lv_bipush (v := (64 : Int32)) hx hb dX1_payOfOne_37 (by decide +kernel) ?_
  refine lv_aload_n hx hb dX1_payOfOne_39 rfl (lv_at hl 2 rfl) ?_
  refine va_get (D := D) (ci := 1) (v := .int u.2.2.2.2.2.2.2.2.2.2.1) (C := RX1) (T := TX1) (N := 16) hx hb hts (fun w h => cwc w (in_X1 w h)) hown hK hP 0 rfl rfl 12 (by decide) hk_49 (fun _ h9 => h9) rfl dX1_payOfOne_40 ?_
  refine lv_iload_n hx hb dX1_payOfOne_43 rfl (lv_at hl 4 rfl) ?_
  refine lv_isub hx hb dX1_payOfOne_44 ?_
  refine lv_bipush (v := (64 : Int32)) hx hb dX1_payOfOne_45 (by decide +kernel) ?_
  refine lv_idiv hx hb dX1_payOfOne_47 (by decide +kernel) ?_
  refine lv_isub hx hb dX1_payOfOne_48 ?_
  refine va_mmax hx hb (hml.trans hl.1.symm) hown hmmax_l170 hmmax_s hm_i hmmax_c (Nat.le_of_ble_eq_true rfl) (Nat.le_of_ble_eq_true rfl) (Nat.zero_le _) (Nat.zero_le _) dX1_payOfOne_49 ?_
  obtain ⟨v7, ev7, hF⟩ := nm_some hF
  refine W.eq (g2 := F0 m 52 ls (.int v7 :: [])) (congrArg (fun z => F0 m 52 ls (.int z :: [])) ev7.symm) ?_
  refine lv_istore (lv' := [(6, .int v7), (5, .int v6), (4, .int v3), (0, .ref (ca 0)), (1, .int p1), (2, .int p2), (3, .int p3)]) hx hb dX1_payOfOne_52 hl (by decide) rfl (fun ls hl => ?_)
  refine lv_iload hx hb dX1_payOfOne_54 (lv_at hl 2 rfl) ?_
  refine lv_iload hx hb dX1_payOfOne_56 (lv_at hl 1 rfl) ?_
  refine lv_iadd hx hb dX1_payOfOne_58 ?_
  refine lv_iload hx hb dX1_payOfOne_59 (lv_at hl 0 rfl) ?_
  refine lv_imul hx hb dX1_payOfOne_61 ?_
  cases hF
  refine W.widen (k := 0) (n := 0) (Nat.le_of_ble_eq_true rfl) (Nat.le_of_ble_eq_true rfl) ?_
  exact W.iret hx hb hr (fun t ht hW => ⟨⟨_, _, rfl, ⟨rfl, rfl⟩, by rw [ht]; exact hP, va_K.moved hW.alike hK, hD⟩, hS.F ht⟩) hS.2.2 dX1_payOfOne_62
def F_P_produce (p1 : Int32) (p2 : Int32) (p3 : Int32) (u : CSt) : Option ((Unit) × CSt) := bi (F_P_stockIndex p1 p2 ()) (fun r2 u1 => gd (inb r2 32) (bi (F_Row_total (u.2.2.2.2.2.2.2.2.2.2.2.2.2.2 r2.toNatClampNeg)) (fun r7 u6 => gd (inb p2 4) (nm ((if ((2000000000 : Int32) - (u.2.2.2.2.2.2.2.1 p2.toNatClampNeg)) < ((999 : Int32) - r7) then ((2000000000 : Int32) - (u.2.2.2.2.2.2.2.1 p2.toNatClampNeg)) else ((999 : Int32) - r7))) (fun v10 => nm ((if v10 < p3 then v10 else p3)) (fun v11 => bi (F_Row_putBehind p1 u.2.2.2.2.2.2.2.2.2.2.1 v11 (u.2.2.2.2.2.2.2.2.2.2.2.2.2.2 r2.toNatClampNeg)) (fun r13 u12 => gd (inb p2 4) (gd (inb p2 4) (some ((), (u.1, u.2.1, u.2.2.1, u.2.2.2.1, u.2.2.2.2.1, u.2.2.2.2.2.1, u.2.2.2.2.2.2.1, (upd u.2.2.2.2.2.2.2.1 p2.toNatClampNeg ((u.2.2.2.2.2.2.2.1 p2.toNatClampNeg) + v11)), u.2.2.2.2.2.2.2.2.1, u.2.2.2.2.2.2.2.2.2.1, u.2.2.2.2.2.2.2.2.2.2.1, u.2.2.2.2.2.2.2.2.2.2.2.1, u.2.2.2.2.2.2.2.2.2.2.2.2.1, u.2.2.2.2.2.2.2.2.2.2.2.2.2.1, (va_up u.2.2.2.2.2.2.2.2.2.2.2.2.2.2 r2.toNatClampNeg u12))))))))))))
set_option maxHeartbeats 4000000 in
set_option maxRecDepth 100000 in
theorem c_P_produce (l : Launch) (D : va_G) (cI cR : ClassId) (ca qa : Nat → Nat) (sz : Nat) (p1 : Int32) (p2 : Int32) (p3 : Int32) (u : CSt) (r : Unit) (u' : CSt) (hF : F_P_produce p1 p2 p3 u = some (r, u')) : Met l yX1_produce wsX1_produce ({ frames := 2, cells := 0, slots := 0, locals := 46 }) (va_Pc [.ref (ca 0), .int p1, .int p2, .int p3] (PRE D (TY cI cR) (CW cI cR ca qa u) sz)) (QV D (TY cI cR) (va_A (CW cI cR ca qa u) sz) (fun v => CW cI cR ca qa v) u') 0 0 (va_A (CW cI cR ca qa u) sz) := by
  refine Met.ofW (cc := cX1_produce) (maxL := 7) (ret := none) (by decide) rfl ?_
  intro p e s m args below meth c s₁ B hml hv
  obtain ⟨rfl, hsz, hP, hK, hD0⟩ := hv
  have hx := B.exec
  have hb := B.bytes
  have hr := B.returns
  have hts := atoms_spec (ws := wsX1_produce) B.pre
  have hown : s.vm.findClass RX1 = some m.cls := findClass_of_methodNamed B.named
  have hlocks := B.notSynchronized
  subst hsz
  have hD := hD0.self (sz := s.heap.size)
  generalize hAe : va_A (CW cI cR ca qa u) s.heap.size = A at hD ⊢
  have hA : ∀ q : Nat, s.heap.size ≤ q → A q := fun q h => by rw [← hAe]; exact Or.inr h
  have hS : va_S A s.heap s.heap [] := va_S.rf
  replace hP : va_P D vwCl (CW cI cR ca qa u) s.heap := hP
  have hl := lv_entry ([.ref (ca 0), .int p1, .int p2, .int p3]) (n := 7) (Nat.le_of_ble_eq_true rfl)
  rw [lg_entry_eq]
  generalize (lg_sl ([.ref (ca 0), .int p1, .int p2, .int p3]) ++ List.replicate (7 - (lg_sl ([.ref (ca 0), .int p1, .int p2, .int p3])).length) Slot.unset).toArray = ls at hl ⊢
  replace hl : lv_has ls 7 [(0, .ref (ca 0)), (1, .int p1), (2, .int p2), (3, .int p3)] := hl
  have hk_11 := (hts _ (cwc _ mw_35))
  have hC_100 := (hts _ (cwc _ mw_72))
  have hk_40 := (hts _ (cwc _ mw_44))
  have hmmin_l149 := (hts _ (cwc _ mw_240))
  have hmmin_s := (hts _ (cwc _ mw_241))
  have hm_i := (hts _ (cwc _ mw_9))
  have hmmin_c := (hts _ (cwc _ mw_242))
  have hk_49 := (hts _ (cwc _ mw_47))
  unfold F_P_produce at hF
  refine (?_ : ∀ (H : Heap) (locs : List Loc), va_P D vwCl (CW cI cR ca qa u) H → va_S A s.heap H locs → W p l e _ s m _ below meth c H locs 0 0 _ (F0 m 0 ls [])) s.heap [] hP hS
  intro H locs hP hS
  refine lv_aload_n hx hb dX1_produce_0 rfl (lv_at hl 0 rfl) ?_
  refine va_get (D := D) (ci := 1) (v := .ref (ca 1)) (C := RX1) (T := TX1) (N := 16) hx hb hts (fun w h => cwc w (in_X1 w h)) hown hK hP 0 rfl rfl 0 (by decide) hk_11 (fun _ h9 => h9) rfl dX1_produce_1 ?_
  refine lv_iload_n hx hb dX1_produce_4 rfl (lv_at hl 1 rfl) ?_
  refine lv_iload_n hx hb dX1_produce_5 rfl (lv_at hl 2 rfl) ?_
  obtain ⟨r2, u1, hc_3, hF⟩ := bi_some hF
  refine kc_i (W1 := CW cI cR ca qa u) (va_runS (As := [.int p1, .int p2]) (rest := [.ref (ca 1)]) ⟨hx, hb, hml, hown, hts⟩ (c_P_stockIndex l D cI cR  H.size p1 p2 () r2 u1 hc_3) (va_cwS 2 hts (gS cwc mw_86 mw_87 mw_1 mw_88) rfl rfl rfl (by decide +kernel) ⟨(Nat.le_of_ble_eq_true rfl), (Nat.le_of_ble_eq_true rfl)⟩) (kp_S hK hP hD (sb_nil _)) rfl rfl hl.1 rfl (lv_room (Nat.le_of_ble_eq_true rfl)) dX1_produce_6 ⟨(Nat.le_of_ble_eq_true rfl), (Nat.le_of_ble_eq_true rfl)⟩) hP hD hS hA (sb_nil _) (jn_nil _) (fun H locs hP hD hS => ?_)
  obtain ⟨h_4, hF⟩ := gd_some hF
  refine va_aldq hx hb hK hP 1 1 rfl rfl (inb_in h_4) dX1_produce_9 ?_
  refine W.eq (g2 := F0 m 10 ls [.ref (qa (4 * r2.toNatClampNeg))]) rfl ?_
  have hj_5 : r2.toNatClampNeg < 48 := by have := inb_lt h_4; omega
  refine lv_astore (lv' := [(4, .ref (qa (4 * r2.toNatClampNeg))), (0, .ref (ca 0)), (1, .int p1), (2, .int p2), (3, .int p3)]) hx hb dX1_produce_10 hl (by decide) rfl (fun ls hl => ?_)
  refine lv_sipush (v := (999 : Int32)) hx hb dX1_produce_12 (by decide +kernel) ?_
  refine lv_aload hx hb dX1_produce_15 (lv_at hl 0 rfl) ?_
  obtain ⟨r7, u6, hc_8, hF⟩ := bi_some hF
  refine kc_i (W1 := CW cI cR ca qa u) (va_runV (As := []) (rest := [.int (999 : Int32)]) ⟨hx, hb, hml, hown, hts⟩ (c_Row_total l D cI cR (qa (4 * r2.toNatClampNeg)) (qa (4 * r2.toNatClampNeg + 1)) (qa (4 * r2.toNatClampNeg + 2)) (qa (4 * r2.toNatClampNeg + 3)) H.size  (u.2.2.2.2.2.2.2.2.2.2.2.2.2.2 r2.toNatClampNeg) r7 u6 hc_8) (cwV 0 hts (gV cwc mw_97 mw_98 mw_99 mw_2 mw_100) rfl rfl rfl (by decide +kernel) ⟨(Nat.le_of_ble_eq_true rfl), (Nat.le_of_ble_eq_true rfl)⟩) (kp_V (ci := 0) (q := (RX0, TX0, 5)) hK hP hD (cw_sb hj_5) rfl rfl) rfl rfl hl.1 rfl (lv_room (Nat.le_of_ble_eq_true rfl)) dX1_produce_17 ⟨(Nat.le_of_ble_eq_true rfl), (Nat.le_of_ble_eq_true rfl)⟩) hP hD hS hA (cw_sb hj_5) (jn_same (cw_sb hj_5)) (fun H locs hP hD hS => ?_)
  refine lv_isub hx hb dX1_produce_20 ?_
  refine lv_ldc (v := (2000000000 : Int32)) hx hb hown hC_100 dX1_produce_21 ?_
  refine lv_aload_n hx hb dX1_produce_23 rfl (lv_at hl 1 rfl) ?_
  refine va_get (D := D) (ci := 1) (v := .ref (ca 10)) (C := RX1) (T := TX1) (N := 16) hx hb hts (fun w h => cwc w (in_X1 w h)) hown hK hP 0 rfl rfl 9 (by decide) hk_40 (fun _ h9 => h9) rfl dX1_produce_24 ?_
  refine lv_iload_n hx hb dX1_produce_27 rfl (lv_at hl 3 rfl) ?_
  obtain ⟨h_9, hF⟩ := gd_some hF
  refine va_iald (f := u.2.2.2.2.2.2.2.1) hx hb hK hP 10 0 rfl rfl (inb_in h_9) dX1_produce_28 ?_
  refine lv_isub hx hb dX1_produce_29 ?_
  refine va_mmin hx hb (hml.trans hl.1.symm) hown hmmin_l149 hmmin_s hm_i hmmin_c (Nat.le_of_ble_eq_true rfl) (Nat.le_of_ble_eq_true rfl) (Nat.zero_le _) (Nat.zero_le _) dX1_produce_30 ?_
  obtain ⟨v10, ev10, hF⟩ := nm_some hF
  refine W.eq (g2 := F0 m 33 ls (.int v10 :: [])) (congrArg (fun z => F0 m 33 ls (.int z :: [])) ev10.symm) ?_
  refine lv_istore (lv' := [(5, .int v10), (4, .ref (qa (4 * r2.toNatClampNeg))), (0, .ref (ca 0)), (1, .int p1), (2, .int p2), (3, .int p3)]) hx hb dX1_produce_33 hl (by decide) rfl (fun ls hl => ?_)
  refine lv_iload_n hx hb dX1_produce_35 rfl (lv_at hl 5 rfl) ?_
  refine lv_iload hx hb dX1_produce_36 (lv_at hl 0 rfl) ?_
  refine va_mmin hx hb (hml.trans hl.1.symm) hown hmmin_l149 hmmin_s hm_i hmmin_c (Nat.le_of_ble_eq_true rfl) (Nat.le_of_ble_eq_true rfl) (Nat.zero_le _) (Nat.zero_le _) dX1_produce_38 ?_
  obtain ⟨v11, ev11, hF⟩ := nm_some hF
  refine W.eq (g2 := F0 m 41 ls (.int v11 :: [])) (congrArg (fun z => F0 m 41 ls (.int z :: [])) ev11.symm) ?_
  refine lv_istore (lv' := [(6, .int v11), (5, .int v10), (4, .ref (qa (4 * r2.toNatClampNeg))), (0, .ref (ca 0)), (1, .int p1), (2, .int p2), (3, .int p3)]) hx hb dX1_produce_41 hl (by decide) rfl (fun ls hl => ?_)
  refine lv_aload hx hb dX1_produce_43 (lv_at hl 2 rfl) ?_
  refine lv_iload_n hx hb dX1_produce_45 rfl (lv_at hl 4 rfl) ?_
  refine lv_aload_n hx hb dX1_produce_46 rfl (lv_at hl 3 rfl) ?_
  refine va_get (D := D) (ci := 1) (v := .int u.2.2.2.2.2.2.2.2.2.2.1) (C := RX1) (T := TX1) (N := 16) hx hb hts (fun w h => cwc w (in_X1 w h)) hown hK hP 0 rfl rfl 12 (by decide) hk_49 (fun _ h9 => h9) rfl dX1_produce_47 ?_
  refine lv_iload hx hb dX1_produce_50 (lv_at hl 0 rfl) ?_
  obtain ⟨r13, u12, hc_14, hF⟩ := bi_some hF
  refine kc_v (W1 := CW cI cR ca qa (u.1, u.2.1, u.2.2.1, u.2.2.2.1, u.2.2.2.2.1, u.2.2.2.2.2.1, u.2.2.2.2.2.2.1, u.2.2.2.2.2.2.2.1, u.2.2.2.2.2.2.2.2.1, u.2.2.2.2.2.2.2.2.2.1, u.2.2.2.2.2.2.2.2.2.2.1, u.2.2.2.2.2.2.2.2.2.2.2.1, u.2.2.2.2.2.2.2.2.2.2.2.2.1, u.2.2.2.2.2.2.2.2.2.2.2.2.2.1, (va_up u.2.2.2.2.2.2.2.2.2.2.2.2.2.2 r2.toNatClampNeg u12))) (va_runV (As := [.int p1, .int u.2.2.2.2.2.2.2.2.2.2.1, .int v11]) (rest := []) ⟨hx, hb, hml, hown, hts⟩ (c_Row_putBehind l D cI cR (qa (4 * r2.toNatClampNeg)) (qa (4 * r2.toNatClampNeg + 1)) (qa (4 * r2.toNatClampNeg + 2)) (qa (4 * r2.toNatClampNeg + 3)) H.size p1 u.2.2.2.2.2.2.2.2.2.2.1 v11 (u.2.2.2.2.2.2.2.2.2.2.2.2.2.2 r2.toNatClampNeg) r13 u12 hc_14) (cwV 3 hts (gV cwc mw_243 mw_244 mw_245 mw_2 mw_246) rfl rfl rfl (by decide +kernel) ⟨(Nat.le_of_ble_eq_true rfl), (Nat.le_of_ble_eq_true rfl)⟩) (kp_V (ci := 0) (q := (RX0, TX0, 5)) hK hP hD (cw_sb hj_5) rfl rfl) rfl rfl hl.1 rfl (lv_room (Nat.le_of_ble_eq_true rfl)) dX1_produce_52 ⟨(Nat.le_of_ble_eq_true rfl), (Nat.le_of_ble_eq_true rfl)⟩) hP hD hS hA (cw_sb hj_5) (cw_jn hj_5) (fun H locs hP hD hS => ?_)
  refine lv_aload_n hx hb dX1_produce_55 rfl (lv_at hl 3 rfl) ?_
  refine va_get (D := D) (ci := 1) (v := .ref (ca 10)) (C := RX1) (T := TX1) (N := 16) hx hb hts (fun w h => cwc w (in_X1 w h)) hown hK hP 0 rfl rfl 9 (by decide) hk_40 (fun _ h9 => h9) rfl dX1_produce_56 ?_
  refine lv_iload_n hx hb dX1_produce_59 rfl (lv_at hl 5 rfl) ?_
  refine lv_dup2_11 hx hb dX1_produce_60 rfl rfl ?_
  obtain ⟨h_15, hF⟩ := gd_some hF
  refine va_iald (f := u.2.2.2.2.2.2.2.1) hx hb hK hP 10 0 rfl rfl (inb_in h_15) dX1_produce_61 ?_
  refine lv_iload hx hb dX1_produce_62 (lv_at hl 0 rfl) ?_
  refine lv_iadd hx hb dX1_produce_64 ?_
  obtain ⟨h_16, hF⟩ := gd_some hF
  refine va_iast (f := u.2.2.2.2.2.2.2.1) hx hb hK hP hD hS 10 0 rfl rfl (inb_in h_16) dX1_produce_65 (fun H locs hP hD hS => ?_)
  replace hP : va_P D vwCl (CW cI cR ca qa (u.1, u.2.1, u.2.2.1, u.2.2.2.1, u.2.2.2.2.1, u.2.2.2.2.2.1, u.2.2.2.2.2.2.1, (upd u.2.2.2.2.2.2.2.1 p2.toNatClampNeg ((u.2.2.2.2.2.2.2.1 p2.toNatClampNeg) + v11)), u.2.2.2.2.2.2.2.2.1, u.2.2.2.2.2.2.2.2.2.1, u.2.2.2.2.2.2.2.2.2.2.1, u.2.2.2.2.2.2.2.2.2.2.2.1, u.2.2.2.2.2.2.2.2.2.2.2.2.1, u.2.2.2.2.2.2.2.2.2.2.2.2.2.1, (va_up u.2.2.2.2.2.2.2.2.2.2.2.2.2.2 r2.toNatClampNeg u12))) H := hP
  replace hD : va_D A (CW cI cR ca qa (u.1, u.2.1, u.2.2.1, u.2.2.2.1, u.2.2.2.2.1, u.2.2.2.2.2.1, u.2.2.2.2.2.2.1, (upd u.2.2.2.2.2.2.2.1 p2.toNatClampNeg ((u.2.2.2.2.2.2.2.1 p2.toNatClampNeg) + v11)), u.2.2.2.2.2.2.2.2.1, u.2.2.2.2.2.2.2.2.2.1, u.2.2.2.2.2.2.2.2.2.2.1, u.2.2.2.2.2.2.2.2.2.2.2.1, u.2.2.2.2.2.2.2.2.2.2.2.2.1, u.2.2.2.2.2.2.2.2.2.2.2.2.2.1, (va_up u.2.2.2.2.2.2.2.2.2.2.2.2.2.2 r2.toNatClampNeg u12))) := hD
  cases hF
  refine W.widen (k := 0) (n := 0) (Nat.le_of_ble_eq_true rfl) (Nat.le_of_ble_eq_true rfl) ?_
  exact W.vret hx hb hr (fun t ht hW => ⟨⟨_, rfl, rfl, by rw [ht]; exact hP, va_K.moved hW.alike hK, hD⟩, hS.F ht⟩) hS.2.2 dX1_produce_66
def F_P_deliverFrom_L18 (j : Nat) : Nat → Int32 → Int32 → Int32 → Int32 → Int32 → Int32 → CSt → Option ((Int32) × CSt)
  | 0, _, _, _, _, _, _, _ => none
  | n + 1, x2, x3, x4, x5, x6, x7, u => (if (8 : Int32) ≤ x7 then gd (inb x3 4) (gd (inb x3 4) (bi (F_P_stockIndex x2 x3 ()) (fun r9 u8 => gd (inb r9 32) (nm ((u.2.1 r9.toNatClampNeg)) (fun v12 => (if v12 = (-1 : Int32) then some (x5, (u.1, u.2.1, u.2.2.1, u.2.2.2.1, u.2.2.2.2.1, u.2.2.2.2.2.1, u.2.2.2.2.2.2.1, u.2.2.2.2.2.2.2.1, (upd u.2.2.2.2.2.2.2.2.1 x3.toNatClampNeg ((u.2.2.2.2.2.2.2.2.1 x3.toNatClampNeg) + x5)), u.2.2.2.2.2.2.2.2.2.1, u.2.2.2.2.2.2.2.2.2.2.1, u.2.2.2.2.2.2.2.2.2.2.2.1, u.2.2.2.2.2.2.2.2.2.2.2.2.1, u.2.2.2.2.2.2.2.2.2.2.2.2.2.1, u.2.2.2.2.2.2.2.2.2.2.2.2.2.2)) else bi (F_P_produce x2 v12 x5 (u.1, u.2.1, u.2.2.1, u.2.2.2.1, u.2.2.2.2.1, u.2.2.2.2.2.1, u.2.2.2.2.2.2.1, u.2.2.2.2.2.2.2.1, (upd u.2.2.2.2.2.2.2.2.1 x3.toNatClampNeg ((u.2.2.2.2.2.2.2.2.1 x3.toNatClampNeg) + x5)), u.2.2.2.2.2.2.2.2.2.1, u.2.2.2.2.2.2.2.2.2.2.1, u.2.2.2.2.2.2.2.2.2.2.2.1, u.2.2.2.2.2.2.2.2.2.2.2.2.1, u.2.2.2.2.2.2.2.2.2.2.2.2.2.1, u.2.2.2.2.2.2.2.2.2.2.2.2.2.2)) (fun r15 u14 => some (x5, u14)))))))) else (if x6 ≤ (0 : Int32) then gd (inb x3 4) (gd (inb x3 4) (bi (F_P_stockIndex x2 x3 ()) (fun r21 u20 => gd (inb r21 32) (nm ((u.2.1 r21.toNatClampNeg)) (fun v24 => (if v24 = (-1 : Int32) then some (x5, (u.1, u.2.1, u.2.2.1, u.2.2.2.1, u.2.2.2.2.1, u.2.2.2.2.2.1, u.2.2.2.2.2.2.1, u.2.2.2.2.2.2.2.1, (upd u.2.2.2.2.2.2.2.2.1 x3.toNatClampNeg ((u.2.2.2.2.2.2.2.2.1 x3.toNatClampNeg) + x5)), u.2.2.2.2.2.2.2.2.2.1, u.2.2.2.2.2.2.2.2.2.2.1, u.2.2.2.2.2.2.2.2.2.2.2.1, u.2.2.2.2.2.2.2.2.2.2.2.2.1, u.2.2.2.2.2.2.2.2.2.2.2.2.2.1, u.2.2.2.2.2.2.2.2.2.2.2.2.2.2)) else bi (F_P_produce x2 v24 x5 (u.1, u.2.1, u.2.2.1, u.2.2.2.1, u.2.2.2.2.1, u.2.2.2.2.2.1, u.2.2.2.2.2.2.1, u.2.2.2.2.2.2.2.1, (upd u.2.2.2.2.2.2.2.2.1 x3.toNatClampNeg ((u.2.2.2.2.2.2.2.2.1 x3.toNatClampNeg) + x5)), u.2.2.2.2.2.2.2.2.2.1, u.2.2.2.2.2.2.2.2.2.2.1, u.2.2.2.2.2.2.2.2.2.2.2.1, u.2.2.2.2.2.2.2.2.2.2.2.2.1, u.2.2.2.2.2.2.2.2.2.2.2.2.2.1, u.2.2.2.2.2.2.2.2.2.2.2.2.2.2)) (fun r27 u26 => some (x5, u26)))))))) else bi (F_Row_look (0 : Int32) (1 : Int32) (u.2.2.2.2.2.2.2.2.2.2.2.2.2.2 j)) (fun r30 u29 => nm ((if r30 < x6 then r30 else x6)) (fun v32 => bi (F_Row_look (0 : Int32) (0 : Int32) (u.2.2.2.2.2.2.2.2.2.2.2.2.2.2 j)) (fun r34 u33 => bi (F_Row_look (0 : Int32) (2 : Int32) (u.2.2.2.2.2.2.2.2.2.2.2.2.2.2 j)) (fun r37 u36 => bi (F_P_payOfOne r34 r37 x2 u) (fun r40 u39 => bi (F_P_earn (v32 * r40) u) (fun r43 u42 => bi (F_Row_takeFromFirst v32 (u42.2.2.2.2.2.2.2.2.2.2.2.2.2.2 j)) (fun r46 u45 => nm ((x6 - v32)) (fun v48 => F_P_deliverFrom_L18 j n x2 x3 x4 x5 v48 (x7 + (1 : Int32)) (u42.1, u42.2.1, u42.2.2.1, u42.2.2.2.1, u42.2.2.2.2.1, u42.2.2.2.2.2.1, u42.2.2.2.2.2.2.1, u42.2.2.2.2.2.2.2.1, u42.2.2.2.2.2.2.2.2.1, u42.2.2.2.2.2.2.2.2.2.1, u42.2.2.2.2.2.2.2.2.2.2.1, u42.2.2.2.2.2.2.2.2.2.2.2.1, u42.2.2.2.2.2.2.2.2.2.2.2.2.1, u42.2.2.2.2.2.2.2.2.2.2.2.2.2.1, (va_up u42.2.2.2.2.2.2.2.2.2.2.2.2.2.2 j u45))))))))))))
def F_P_deliverFrom (j : Nat) (p2 : Int32) (p3 : Int32) (p4 : Int32) (u : CSt) : Option ((Int32) × CSt) := bi (F_Row_total (u.2.2.2.2.2.2.2.2.2.2.2.2.2.2 j)) (fun r2 u1 => nm ((if r2 < p4 then r2 else p4)) (fun v4 => F_P_deliverFrom_L18 j 9 p2 p3 p4 v4 v4 (0 : Int32) u))
set_option maxHeartbeats 4000000 in
set_option maxRecDepth 100000 in
theorem w_P_deliverFrom_L18 {p : Program} {l : Launch} {e : Env} {s : State} {m : MethodId} {args : Array Value} {below : List Frame} {meth : Method} {c : Code} {A : Nat → Prop} {D : va_G} {cI cR : ClassId} {ca qa : Nat → Nat} (hx : p.tables.exec = Jvm.exec) (hb : c.code = cX1_deliverFrom) (hr : meth.sig.returnType = (some .int)) (hml : c.maxLocals = 9) (hown : s.vm.findClass RX1 = some m.cls) (hts : ∀ w ∈ wsX1_deliverFrom, w.before args s = true) (hlocks : meth.locks = false) (hA : ∀ q : Nat, s.heap.size ≤ q → A q) (hK : va_K D vwCl (TY cI cR) s) (j : Nat) (hj : j < 48) : ∀ (n : Nat) (x2 x3 x4 x5 x6 x7 : Int32) (u : CSt) (r : Int32) (u' : CSt), F_P_deliverFrom_L18 j n x2 x3 x4 x5 x6 x7 u = some (r, u') → ∀ (H : Heap) (locs : List Loc) (ls : Array Slot), va_P D vwCl (CW cI cR ca qa u) H → va_D A (CW cI cR ca qa u) → va_S A s.heap H locs → lv_has ls 9 [(0, .ref (ca 0)), (1, .ref (qa (4 * j))), (2, .int x2), (3, .int x3), (4, .int x4), (5, .int x5), (6, .int x6), (7, .int x7)] → W p l e (headSpec wsX1_deliverFrom ({ frames := 3, cells := 0, slots := 0, locals := 72 })).room s m args below meth c H locs 0 0 (MQ below (QI D (TY cI cR) A (fun v => CW cI cR ca qa v) r u') args s 0 0 A) (F0 m 18 ls []) := by
  have hmmin_l149 := (hts _ (cwc _ mw_240))
  have hmmin_s := (hts _ (cwc _ mw_241))
  have hm_i := (hts _ (cwc _ mw_9))
  have hmmin_c := (hts _ (cwc _ mw_242))
  have hk_43 := (hts _ (cwc _ mw_45))
  have hk_19 := (hts _ (cwc _ mw_37))
  intro n
  induction n with
  | zero =>
    intro x2 x3 x4 x5 x6 x7 u r u' hF
    rw [F_P_deliverFrom_L18] at hF
    exact absurd hF (by simp)
  | succ n ih =>
    intro x2 x3 x4 x5 x6 x7 u r u' hF H locs ls hP hD hS hl
    rw [F_P_deliverFrom_L18] at hF
    refine lv_iload hx hb dX1_deliverFrom_18 (lv_at hl 7 rfl) ?_
    refine lv_bipush (v := (8 : Int32)) hx hb dX1_deliverFrom_20 (by decide +kernel) ?_
    refine lv_icmp_ge (tgt := 86) hx hb dX1_deliverFrom_22 (by decide) (fun c_5 => ?_) (fun c_5 => ?_)
    · replace hF := (if_pos c_5).symm.trans hF
      refine lv_aload_n hx hb dX1_deliverFrom_86 rfl (lv_at hl 0 rfl) ?_
      refine va_get (D := D) (ci := 1) (v := .ref (ca 11)) (C := RX1) (T := TX1) (N := 16) hx hb hts (fun w h => cwc w (in_X1 w h)) hown hK hP 0 rfl rfl 10 (by decide) hk_43 (fun _ h9 => h9) rfl dX1_deliverFrom_87 ?_
      refine lv_iload_n hx hb dX1_deliverFrom_90 rfl (lv_at hl 3 rfl) ?_
      refine lv_dup2_11 hx hb dX1_deliverFrom_91 rfl rfl ?_
      obtain ⟨h_6, hF⟩ := gd_some hF
      refine va_iald (f := u.2.2.2.2.2.2.2.2.1) hx hb hK hP 11 0 rfl rfl (inb_in h_6) dX1_deliverFrom_92 ?_
      refine lv_iload hx hb dX1_deliverFrom_93 (lv_at hl 5 rfl) ?_
      refine lv_iadd hx hb dX1_deliverFrom_95 ?_
      obtain ⟨h_7, hF⟩ := gd_some hF
      refine va_iast (f := u.2.2.2.2.2.2.2.2.1) hx hb hK hP hD hS 11 0 rfl rfl (inb_in h_7) dX1_deliverFrom_96 (fun H locs hP hD hS => ?_)
      replace hP : va_P D vwCl (CW cI cR ca qa (u.1, u.2.1, u.2.2.1, u.2.2.2.1, u.2.2.2.2.1, u.2.2.2.2.2.1, u.2.2.2.2.2.2.1, u.2.2.2.2.2.2.2.1, (upd u.2.2.2.2.2.2.2.2.1 x3.toNatClampNeg ((u.2.2.2.2.2.2.2.2.1 x3.toNatClampNeg) + x5)), u.2.2.2.2.2.2.2.2.2.1, u.2.2.2.2.2.2.2.2.2.2.1, u.2.2.2.2.2.2.2.2.2.2.2.1, u.2.2.2.2.2.2.2.2.2.2.2.2.1, u.2.2.2.2.2.2.2.2.2.2.2.2.2.1, u.2.2.2.2.2.2.2.2.2.2.2.2.2.2)) H := hP
      replace hD : va_D A (CW cI cR ca qa (u.1, u.2.1, u.2.2.1, u.2.2.2.1, u.2.2.2.2.1, u.2.2.2.2.2.1, u.2.2.2.2.2.2.1, u.2.2.2.2.2.2.2.1, (upd u.2.2.2.2.2.2.2.2.1 x3.toNatClampNeg ((u.2.2.2.2.2.2.2.2.1 x3.toNatClampNeg) + x5)), u.2.2.2.2.2.2.2.2.2.1, u.2.2.2.2.2.2.2.2.2.2.1, u.2.2.2.2.2.2.2.2.2.2.2.1, u.2.2.2.2.2.2.2.2.2.2.2.2.1, u.2.2.2.2.2.2.2.2.2.2.2.2.2.1, u.2.2.2.2.2.2.2.2.2.2.2.2.2.2)) := hD
      refine lv_aload_n hx hb dX1_deliverFrom_97 rfl (lv_at hl 0 rfl) ?_
      refine va_get (D := D) (ci := 1) (v := .ref (ca 3)) (C := RX1) (T := TX1) (N := 16) hx hb hts (fun w h => cwc w (in_X1 w h)) hown hK hP 0 rfl rfl 2 (by decide) hk_19 (fun _ h9 => h9) rfl dX1_deliverFrom_98 ?_
      refine lv_iload_n hx hb dX1_deliverFrom_101 rfl (lv_at hl 2 rfl) ?_
      refine lv_iload_n hx hb dX1_deliverFrom_102 rfl (lv_at hl 3 rfl) ?_
      obtain ⟨r9, u8, hc_10, hF⟩ := bi_some hF
      refine kc_i (W1 := CW cI cR ca qa (u.1, u.2.1, u.2.2.1, u.2.2.2.1, u.2.2.2.2.1, u.2.2.2.2.2.1, u.2.2.2.2.2.2.1, u.2.2.2.2.2.2.2.1, (upd u.2.2.2.2.2.2.2.2.1 x3.toNatClampNeg ((u.2.2.2.2.2.2.2.2.1 x3.toNatClampNeg) + x5)), u.2.2.2.2.2.2.2.2.2.1, u.2.2.2.2.2.2.2.2.2.2.1, u.2.2.2.2.2.2.2.2.2.2.2.1, u.2.2.2.2.2.2.2.2.2.2.2.2.1, u.2.2.2.2.2.2.2.2.2.2.2.2.2.1, u.2.2.2.2.2.2.2.2.2.2.2.2.2.2)) (va_runS (As := [.int x2, .int x3]) (rest := [.ref (ca 3)]) ⟨hx, hb, hml, hown, hts⟩ (c_P_stockIndex l D cI cR  H.size x2 x3 () r9 u8 hc_10) (va_cwS 2 hts (gS cwc mw_86 mw_87 mw_1 mw_88) rfl rfl rfl (by decide +kernel) ⟨(Nat.le_of_ble_eq_true rfl), (Nat.le_of_ble_eq_true rfl)⟩) (kp_S hK hP hD (sb_nil _)) rfl rfl hl.1 rfl (lv_room (Nat.le_of_ble_eq_true rfl)) dX1_deliverFrom_103 ⟨(Nat.le_of_ble_eq_true rfl), (Nat.le_of_ble_eq_true rfl)⟩) hP hD hS hA (sb_nil _) (jn_nil _) (fun H locs hP hD hS => ?_)
      obtain ⟨h_11, hF⟩ := gd_some hF
      refine va_iald (f := u.2.1) hx hb hK hP 3 0 rfl rfl (inb_in h_11) dX1_deliverFrom_106 ?_
      obtain ⟨v12, ev12, hF⟩ := nm_some hF
      refine W.eq (g2 := F0 m 107 ls (.int v12 :: [])) (congrArg (fun z => F0 m 107 ls (.int z :: [])) ev12.symm) ?_
      refine lv_istore (lv' := [(7, .int v12), (0, .ref (ca 0)), (1, .ref (qa (4 * j))), (2, .int x2), (3, .int x3), (4, .int x4), (5, .int x5), (6, .int x6)]) hx hb dX1_deliverFrom_107 hl (by decide) rfl (fun ls hl => ?_)
      refine lv_iload hx hb dX1_deliverFrom_109 (lv_at hl 0 rfl) ?_
      refine lv_iconst (v := (-1 : Int32)) hx hb dX1_deliverFrom_111 (by decide +kernel) ?_
      refine lv_icmp_eq (tgt := 124) hx hb dX1_deliverFrom_112 (by decide) (fun c_13 => ?_) (fun c_13 => ?_)
      · replace hF := (if_pos c_13).symm.trans hF
        refine lv_iload hx hb dX1_deliverFrom_124 (lv_at hl 6 rfl) ?_
        cases hF
        refine W.widen (k := 0) (n := 0) (Nat.le_of_ble_eq_true rfl) (Nat.le_of_ble_eq_true rfl) ?_
        exact W.iret hx hb hr (fun t ht hW => ⟨⟨_, _, rfl, ⟨rfl, rfl⟩, by rw [ht]; exact hP, va_K.moved hW.alike hK, hD⟩, hS.F ht⟩) hS.2.2 dX1_deliverFrom_126
      · replace hF := (if_neg c_13).symm.trans hF
        refine lv_aload_n hx hb dX1_deliverFrom_115 rfl (lv_at hl 1 rfl) ?_
        refine lv_iload_n hx hb dX1_deliverFrom_116 rfl (lv_at hl 3 rfl) ?_
        refine lv_iload hx hb dX1_deliverFrom_117 (lv_at hl 0 rfl) ?_
        refine lv_iload hx hb dX1_deliverFrom_119 (lv_at hl 6 rfl) ?_
        obtain ⟨r15, u14, hc_16, hF⟩ := bi_some hF
        refine kc_v (W1 := CW cI cR ca qa u14) (va_runV (As := [.int x2, .int v12, .int x5]) (rest := []) ⟨hx, hb, hml, hown, hts⟩ (c_P_produce l D cI cR ca qa H.size x2 v12 x5 (u.1, u.2.1, u.2.2.1, u.2.2.2.1, u.2.2.2.2.1, u.2.2.2.2.2.1, u.2.2.2.2.2.2.1, u.2.2.2.2.2.2.2.1, (upd u.2.2.2.2.2.2.2.2.1 x3.toNatClampNeg ((u.2.2.2.2.2.2.2.2.1 x3.toNatClampNeg) + x5)), u.2.2.2.2.2.2.2.2.2.1, u.2.2.2.2.2.2.2.2.2.2.1, u.2.2.2.2.2.2.2.2.2.2.2.1, u.2.2.2.2.2.2.2.2.2.2.2.2.1, u.2.2.2.2.2.2.2.2.2.2.2.2.2.1, u.2.2.2.2.2.2.2.2.2.2.2.2.2.2) r15 u14 hc_16) (cwV 3 hts (gV cwc mw_237 mw_238 mw_478 mw_1 mw_239) rfl rfl rfl (by decide +kernel) ⟨(Nat.le_of_ble_eq_true rfl), (Nat.le_of_ble_eq_true rfl)⟩) (kp_V (ci := 1) (q := (RX1, TX1, 16)) hK hP hD (sb_id _) rfl rfl) rfl rfl hl.1 rfl (lv_room (Nat.le_of_ble_eq_true rfl)) dX1_deliverFrom_121 ⟨(Nat.le_of_ble_eq_true rfl), (Nat.le_of_ble_eq_true rfl)⟩) hP hD hS hA (sb_id _) (jn_id (cw_ad _ _)) (fun H locs hP hD hS => ?_)
        refine lv_iload hx hb dX1_deliverFrom_124 (lv_at hl 6 rfl) ?_
        cases hF
        refine W.widen (k := 0) (n := 0) (Nat.le_of_ble_eq_true rfl) (Nat.le_of_ble_eq_true rfl) ?_
        exact W.iret hx hb hr (fun t ht hW => ⟨⟨_, _, rfl, ⟨rfl, rfl⟩, by rw [ht]; exact hP, va_K.moved hW.alike hK, hD⟩, hS.F ht⟩) hS.2.2 dX1_deliverFrom_126
    · replace hF := (if_neg c_5).symm.trans hF
      refine lv_iload hx hb dX1_deliverFrom_25 (lv_at hl 6 rfl) ?_
      refine lv_if_le (tgt := 86) hx hb dX1_deliverFrom_27 (by decide) (fun c_17 => ?_) (fun c_17 => ?_)
      · replace hF := (if_pos c_17).symm.trans hF
        refine lv_aload_n hx hb dX1_deliverFrom_86 rfl (lv_at hl 0 rfl) ?_
        refine va_get (D := D) (ci := 1) (v := .ref (ca 11)) (C := RX1) (T := TX1) (N := 16) hx hb hts (fun w h => cwc w (in_X1 w h)) hown hK hP 0 rfl rfl 10 (by decide) hk_43 (fun _ h9 => h9) rfl dX1_deliverFrom_87 ?_
        refine lv_iload_n hx hb dX1_deliverFrom_90 rfl (lv_at hl 3 rfl) ?_
        refine lv_dup2_11 hx hb dX1_deliverFrom_91 rfl rfl ?_
        obtain ⟨h_18, hF⟩ := gd_some hF
        refine va_iald (f := u.2.2.2.2.2.2.2.2.1) hx hb hK hP 11 0 rfl rfl (inb_in h_18) dX1_deliverFrom_92 ?_
        refine lv_iload hx hb dX1_deliverFrom_93 (lv_at hl 5 rfl) ?_
        refine lv_iadd hx hb dX1_deliverFrom_95 ?_
        obtain ⟨h_19, hF⟩ := gd_some hF
        refine va_iast (f := u.2.2.2.2.2.2.2.2.1) hx hb hK hP hD hS 11 0 rfl rfl (inb_in h_19) dX1_deliverFrom_96 (fun H locs hP hD hS => ?_)
        replace hP : va_P D vwCl (CW cI cR ca qa (u.1, u.2.1, u.2.2.1, u.2.2.2.1, u.2.2.2.2.1, u.2.2.2.2.2.1, u.2.2.2.2.2.2.1, u.2.2.2.2.2.2.2.1, (upd u.2.2.2.2.2.2.2.2.1 x3.toNatClampNeg ((u.2.2.2.2.2.2.2.2.1 x3.toNatClampNeg) + x5)), u.2.2.2.2.2.2.2.2.2.1, u.2.2.2.2.2.2.2.2.2.2.1, u.2.2.2.2.2.2.2.2.2.2.2.1, u.2.2.2.2.2.2.2.2.2.2.2.2.1, u.2.2.2.2.2.2.2.2.2.2.2.2.2.1, u.2.2.2.2.2.2.2.2.2.2.2.2.2.2)) H := hP
        replace hD : va_D A (CW cI cR ca qa (u.1, u.2.1, u.2.2.1, u.2.2.2.1, u.2.2.2.2.1, u.2.2.2.2.2.1, u.2.2.2.2.2.2.1, u.2.2.2.2.2.2.2.1, (upd u.2.2.2.2.2.2.2.2.1 x3.toNatClampNeg ((u.2.2.2.2.2.2.2.2.1 x3.toNatClampNeg) + x5)), u.2.2.2.2.2.2.2.2.2.1, u.2.2.2.2.2.2.2.2.2.2.1, u.2.2.2.2.2.2.2.2.2.2.2.1, u.2.2.2.2.2.2.2.2.2.2.2.2.1, u.2.2.2.2.2.2.2.2.2.2.2.2.2.1, u.2.2.2.2.2.2.2.2.2.2.2.2.2.2)) := hD
        refine lv_aload_n hx hb dX1_deliverFrom_97 rfl (lv_at hl 0 rfl) ?_
        refine va_get (D := D) (ci := 1) (v := .ref (ca 3)) (C := RX1) (T := TX1) (N := 16) hx hb hts (fun w h => cwc w (in_X1 w h)) hown hK hP 0 rfl rfl 2 (by decide) hk_19 (fun _ h9 => h9) rfl dX1_deliverFrom_98 ?_
        refine lv_iload_n hx hb dX1_deliverFrom_101 rfl (lv_at hl 2 rfl) ?_
        refine lv_iload_n hx hb dX1_deliverFrom_102 rfl (lv_at hl 3 rfl) ?_
        obtain ⟨r21, u20, hc_22, hF⟩ := bi_some hF
        refine kc_i (W1 := CW cI cR ca qa (u.1, u.2.1, u.2.2.1, u.2.2.2.1, u.2.2.2.2.1, u.2.2.2.2.2.1, u.2.2.2.2.2.2.1, u.2.2.2.2.2.2.2.1, (upd u.2.2.2.2.2.2.2.2.1 x3.toNatClampNeg ((u.2.2.2.2.2.2.2.2.1 x3.toNatClampNeg) + x5)), u.2.2.2.2.2.2.2.2.2.1, u.2.2.2.2.2.2.2.2.2.2.1, u.2.2.2.2.2.2.2.2.2.2.2.1, u.2.2.2.2.2.2.2.2.2.2.2.2.1, u.2.2.2.2.2.2.2.2.2.2.2.2.2.1, u.2.2.2.2.2.2.2.2.2.2.2.2.2.2)) (va_runS (As := [.int x2, .int x3]) (rest := [.ref (ca 3)]) ⟨hx, hb, hml, hown, hts⟩ (c_P_stockIndex l D cI cR  H.size x2 x3 () r21 u20 hc_22) (va_cwS 2 hts (gS cwc mw_86 mw_87 mw_1 mw_88) rfl rfl rfl (by decide +kernel) ⟨(Nat.le_of_ble_eq_true rfl), (Nat.le_of_ble_eq_true rfl)⟩) (kp_S hK hP hD (sb_nil _)) rfl rfl hl.1 rfl (lv_room (Nat.le_of_ble_eq_true rfl)) dX1_deliverFrom_103 ⟨(Nat.le_of_ble_eq_true rfl), (Nat.le_of_ble_eq_true rfl)⟩) hP hD hS hA (sb_nil _) (jn_nil _) (fun H locs hP hD hS => ?_)
        obtain ⟨h_23, hF⟩ := gd_some hF
        refine va_iald (f := u.2.1) hx hb hK hP 3 0 rfl rfl (inb_in h_23) dX1_deliverFrom_106 ?_
        obtain ⟨v24, ev24, hF⟩ := nm_some hF
        refine W.eq (g2 := F0 m 107 ls (.int v24 :: [])) (congrArg (fun z => F0 m 107 ls (.int z :: [])) ev24.symm) ?_
        refine lv_istore (lv' := [(7, .int v24), (0, .ref (ca 0)), (1, .ref (qa (4 * j))), (2, .int x2), (3, .int x3), (4, .int x4), (5, .int x5), (6, .int x6)]) hx hb dX1_deliverFrom_107 hl (by decide) rfl (fun ls hl => ?_)
        refine lv_iload hx hb dX1_deliverFrom_109 (lv_at hl 0 rfl) ?_
        refine lv_iconst (v := (-1 : Int32)) hx hb dX1_deliverFrom_111 (by decide +kernel) ?_
        refine lv_icmp_eq (tgt := 124) hx hb dX1_deliverFrom_112 (by decide) (fun c_25 => ?_) (fun c_25 => ?_)
        · replace hF := (if_pos c_25).symm.trans hF
          refine lv_iload hx hb dX1_deliverFrom_124 (lv_at hl 6 rfl) ?_
          cases hF
          refine W.widen (k := 0) (n := 0) (Nat.le_of_ble_eq_true rfl) (Nat.le_of_ble_eq_true rfl) ?_
          exact W.iret hx hb hr (fun t ht hW => ⟨⟨_, _, rfl, ⟨rfl, rfl⟩, by rw [ht]; exact hP, va_K.moved hW.alike hK, hD⟩, hS.F ht⟩) hS.2.2 dX1_deliverFrom_126
        · replace hF := (if_neg c_25).symm.trans hF
          refine lv_aload_n hx hb dX1_deliverFrom_115 rfl (lv_at hl 1 rfl) ?_
          refine lv_iload_n hx hb dX1_deliverFrom_116 rfl (lv_at hl 3 rfl) ?_
          refine lv_iload hx hb dX1_deliverFrom_117 (lv_at hl 0 rfl) ?_
          refine lv_iload hx hb dX1_deliverFrom_119 (lv_at hl 6 rfl) ?_
          obtain ⟨r27, u26, hc_28, hF⟩ := bi_some hF
          refine kc_v (W1 := CW cI cR ca qa u26) (va_runV (As := [.int x2, .int v24, .int x5]) (rest := []) ⟨hx, hb, hml, hown, hts⟩ (c_P_produce l D cI cR ca qa H.size x2 v24 x5 (u.1, u.2.1, u.2.2.1, u.2.2.2.1, u.2.2.2.2.1, u.2.2.2.2.2.1, u.2.2.2.2.2.2.1, u.2.2.2.2.2.2.2.1, (upd u.2.2.2.2.2.2.2.2.1 x3.toNatClampNeg ((u.2.2.2.2.2.2.2.2.1 x3.toNatClampNeg) + x5)), u.2.2.2.2.2.2.2.2.2.1, u.2.2.2.2.2.2.2.2.2.2.1, u.2.2.2.2.2.2.2.2.2.2.2.1, u.2.2.2.2.2.2.2.2.2.2.2.2.1, u.2.2.2.2.2.2.2.2.2.2.2.2.2.1, u.2.2.2.2.2.2.2.2.2.2.2.2.2.2) r27 u26 hc_28) (cwV 3 hts (gV cwc mw_237 mw_238 mw_478 mw_1 mw_239) rfl rfl rfl (by decide +kernel) ⟨(Nat.le_of_ble_eq_true rfl), (Nat.le_of_ble_eq_true rfl)⟩) (kp_V (ci := 1) (q := (RX1, TX1, 16)) hK hP hD (sb_id _) rfl rfl) rfl rfl hl.1 rfl (lv_room (Nat.le_of_ble_eq_true rfl)) dX1_deliverFrom_121 ⟨(Nat.le_of_ble_eq_true rfl), (Nat.le_of_ble_eq_true rfl)⟩) hP hD hS hA (sb_id _) (jn_id (cw_ad _ _)) (fun H locs hP hD hS => ?_)
          refine lv_iload hx hb dX1_deliverFrom_124 (lv_at hl 6 rfl) ?_
          cases hF
          refine W.widen (k := 0) (n := 0) (Nat.le_of_ble_eq_true rfl) (Nat.le_of_ble_eq_true rfl) ?_
          exact W.iret hx hb hr (fun t ht hW => ⟨⟨_, _, rfl, ⟨rfl, rfl⟩, by rw [ht]; exact hP, va_K.moved hW.alike hK, hD⟩, hS.F ht⟩) hS.2.2 dX1_deliverFrom_126
      · replace hF := (if_neg c_17).symm.trans hF
        refine lv_iload hx hb dX1_deliverFrom_30 (lv_at hl 6 rfl) ?_
        refine lv_aload_n hx hb dX1_deliverFrom_32 rfl (lv_at hl 1 rfl) ?_
        refine lv_iconst (v := (0 : Int32)) hx hb dX1_deliverFrom_33 (by decide +kernel) ?_
        refine lv_iconst (v := (1 : Int32)) hx hb dX1_deliverFrom_34 (by decide +kernel) ?_
        obtain ⟨r30, u29, hc_31, hF⟩ := bi_some hF
        refine kc_i (W1 := CW cI cR ca qa u) (va_runV (As := [.int (0 : Int32), .int (1 : Int32)]) (rest := [.int x6]) ⟨hx, hb, hml, hown, hts⟩ (c_Row_look l D cI cR (qa (4 * j)) (qa (4 * j + 1)) (qa (4 * j + 2)) (qa (4 * j + 3)) H.size (0 : Int32) (1 : Int32) (u.2.2.2.2.2.2.2.2.2.2.2.2.2.2 j) r30 u29 hc_31) (cwV 2 hts (gV cwc mw_89 mw_90 mw_91 mw_2 mw_92) rfl rfl rfl (by decide +kernel) ⟨(Nat.le_of_ble_eq_true rfl), (Nat.le_of_ble_eq_true rfl)⟩) (kp_V (ci := 0) (q := (RX0, TX0, 5)) hK hP hD (cw_sb hj) rfl rfl) rfl rfl hl.1 rfl (lv_room (Nat.le_of_ble_eq_true rfl)) dX1_deliverFrom_35 ⟨(Nat.le_of_ble_eq_true rfl), (Nat.le_of_ble_eq_true rfl)⟩) hP hD hS hA (cw_sb hj) (jn_same (cw_sb hj)) (fun H locs hP hD hS => ?_)
        refine va_mmin hx hb (hml.trans hl.1.symm) hown hmmin_l149 hmmin_s hm_i hmmin_c (Nat.le_of_ble_eq_true rfl) (Nat.le_of_ble_eq_true rfl) (Nat.zero_le _) (Nat.zero_le _) dX1_deliverFrom_38 ?_
        obtain ⟨v32, ev32, hF⟩ := nm_some hF
        refine W.eq (g2 := F0 m 41 ls (.int v32 :: [])) (congrArg (fun z => F0 m 41 ls (.int z :: [])) ev32.symm) ?_
        refine lv_istore (lv' := [(8, .int v32), (0, .ref (ca 0)), (1, .ref (qa (4 * j))), (2, .int x2), (3, .int x3), (4, .int x4), (5, .int x5), (6, .int x6), (7, .int x7)]) hx hb dX1_deliverFrom_41 hl (by decide) rfl (fun ls hl => ?_)
        refine lv_aload_n hx hb dX1_deliverFrom_43 rfl (lv_at hl 1 rfl) ?_
        refine lv_iload hx hb dX1_deliverFrom_44 (lv_at hl 0 rfl) ?_
        refine lv_aload_n hx hb dX1_deliverFrom_46 rfl (lv_at hl 1 rfl) ?_
        refine lv_aload_n hx hb dX1_deliverFrom_47 rfl (lv_at hl 2 rfl) ?_
        refine lv_iconst (v := (0 : Int32)) hx hb dX1_deliverFrom_48 (by decide +kernel) ?_
        refine lv_iconst (v := (0 : Int32)) hx hb dX1_deliverFrom_49 (by decide +kernel) ?_
        obtain ⟨r34, u33, hc_35, hF⟩ := bi_some hF
        refine kc_i (W1 := CW cI cR ca qa u) (va_runV (As := [.int (0 : Int32), .int (0 : Int32)]) (rest := [.ref (ca 0), .int v32, .ref (ca 0)]) ⟨hx, hb, hml, hown, hts⟩ (c_Row_look l D cI cR (qa (4 * j)) (qa (4 * j + 1)) (qa (4 * j + 2)) (qa (4 * j + 3)) H.size (0 : Int32) (0 : Int32) (u.2.2.2.2.2.2.2.2.2.2.2.2.2.2 j) r34 u33 hc_35) (cwV 2 hts (gV cwc mw_89 mw_90 mw_91 mw_2 mw_92) rfl rfl rfl (by decide +kernel) ⟨(Nat.le_of_ble_eq_true rfl), (Nat.le_of_ble_eq_true rfl)⟩) (kp_V (ci := 0) (q := (RX0, TX0, 5)) hK hP hD (cw_sb hj) rfl rfl) rfl rfl hl.1 rfl (lv_room (Nat.le_of_ble_eq_true rfl)) dX1_deliverFrom_50 ⟨(Nat.le_of_ble_eq_true rfl), (Nat.le_of_ble_eq_true rfl)⟩) hP hD hS hA (cw_sb hj) (jn_same (cw_sb hj)) (fun H locs hP hD hS => ?_)
        refine lv_aload_n hx hb dX1_deliverFrom_53 rfl (lv_at hl 2 rfl) ?_
        refine lv_iconst (v := (0 : Int32)) hx hb dX1_deliverFrom_54 (by decide +kernel) ?_
        refine lv_iconst (v := (2 : Int32)) hx hb dX1_deliverFrom_55 (by decide +kernel) ?_
        obtain ⟨r37, u36, hc_38, hF⟩ := bi_some hF
        refine kc_i (W1 := CW cI cR ca qa u) (va_runV (As := [.int (0 : Int32), .int (2 : Int32)]) (rest := [.int r34, .ref (ca 0), .int v32, .ref (ca 0)]) ⟨hx, hb, hml, hown, hts⟩ (c_Row_look l D cI cR (qa (4 * j)) (qa (4 * j + 1)) (qa (4 * j + 2)) (qa (4 * j + 3)) H.size (0 : Int32) (2 : Int32) (u.2.2.2.2.2.2.2.2.2.2.2.2.2.2 j) r37 u36 hc_38) (cwV 2 hts (gV cwc mw_89 mw_90 mw_91 mw_2 mw_92) rfl rfl rfl (by decide +kernel) ⟨(Nat.le_of_ble_eq_true rfl), (Nat.le_of_ble_eq_true rfl)⟩) (kp_V (ci := 0) (q := (RX0, TX0, 5)) hK hP hD (cw_sb hj) rfl rfl) rfl rfl hl.1 rfl (lv_room (Nat.le_of_ble_eq_true rfl)) dX1_deliverFrom_56 ⟨(Nat.le_of_ble_eq_true rfl), (Nat.le_of_ble_eq_true rfl)⟩) hP hD hS hA (cw_sb hj) (jn_same (cw_sb hj)) (fun H locs hP hD hS => ?_)
        refine lv_iload_n hx hb dX1_deliverFrom_59 rfl (lv_at hl 3 rfl) ?_
        obtain ⟨r40, u39, hc_41, hF⟩ := bi_some hF
        refine kc_i (W1 := CW cI cR ca qa u) (va_runV (As := [.int r34, .int r37, .int x2]) (rest := [.int v32, .ref (ca 0)]) ⟨hx, hb, hml, hown, hts⟩ (c_P_payOfOne l D cI cR ca qa H.size r34 r37 x2 u r40 u39 hc_41) (cwV 3 hts (gV cwc mw_283 mw_284 mw_482 mw_1 mw_285) rfl rfl rfl (by decide +kernel) ⟨(Nat.le_of_ble_eq_true rfl), (Nat.le_of_ble_eq_true rfl)⟩) (kp_V (ci := 1) (q := (RX1, TX1, 16)) hK hP hD (sb_id _) rfl rfl) rfl rfl hl.1 rfl (lv_room (Nat.le_of_ble_eq_true rfl)) dX1_deliverFrom_60 ⟨(Nat.le_of_ble_eq_true rfl), (Nat.le_of_ble_eq_true rfl)⟩) hP hD hS hA (sb_id _) (jn_same (sb_id _)) (fun H locs hP hD hS => ?_)
        refine lv_imul hx hb dX1_deliverFrom_63 ?_
        obtain ⟨r43, u42, hc_44, hF⟩ := bi_some hF
        refine kc_v (W1 := CW cI cR ca qa u42) (va_runV (As := [.int (v32 * r40)]) (rest := []) ⟨hx, hb, hml, hown, hts⟩ (c_P_earn l D cI cR ca qa H.size (v32 * r40) u r43 u42 hc_44) (cwV 1 hts (gV cwc mw_292 mw_293 mw_483 mw_1 mw_294) rfl rfl rfl (by decide +kernel) ⟨(Nat.le_of_ble_eq_true rfl), (Nat.le_of_ble_eq_true rfl)⟩) (kp_V (ci := 1) (q := (RX1, TX1, 16)) hK hP hD (sb_id _) rfl rfl) rfl rfl hl.1 rfl (lv_room (Nat.le_of_ble_eq_true rfl)) dX1_deliverFrom_64 ⟨(Nat.le_of_ble_eq_true rfl), (Nat.le_of_ble_eq_true rfl)⟩) hP hD hS hA (sb_id _) (jn_id (cw_ad _ _)) (fun H locs hP hD hS => ?_)
        refine lv_aload_n hx hb dX1_deliverFrom_67 rfl (lv_at hl 2 rfl) ?_
        refine lv_iload hx hb dX1_deliverFrom_68 (lv_at hl 0 rfl) ?_
        obtain ⟨r46, u45, hc_47, hF⟩ := bi_some hF
        refine kc_v (W1 := CW cI cR ca qa (u42.1, u42.2.1, u42.2.2.1, u42.2.2.2.1, u42.2.2.2.2.1, u42.2.2.2.2.2.1, u42.2.2.2.2.2.2.1, u42.2.2.2.2.2.2.2.1, u42.2.2.2.2.2.2.2.2.1, u42.2.2.2.2.2.2.2.2.2.1, u42.2.2.2.2.2.2.2.2.2.2.1, u42.2.2.2.2.2.2.2.2.2.2.2.1, u42.2.2.2.2.2.2.2.2.2.2.2.2.1, u42.2.2.2.2.2.2.2.2.2.2.2.2.2.1, (va_up u42.2.2.2.2.2.2.2.2.2.2.2.2.2.2 j u45))) (va_runV (As := [.int v32]) (rest := []) ⟨hx, hb, hml, hown, hts⟩ (c_Row_takeFromFirst l D cI cR (qa (4 * j)) (qa (4 * j + 1)) (qa (4 * j + 2)) (qa (4 * j + 3)) H.size v32 (u42.2.2.2.2.2.2.2.2.2.2.2.2.2.2 j) r46 u45 hc_47) (cwV 1 hts (gV cwc mw_295 mw_267 mw_268 mw_2 mw_269) rfl rfl rfl (by decide +kernel) ⟨(Nat.le_of_ble_eq_true rfl), (Nat.le_of_ble_eq_true rfl)⟩) (kp_V (ci := 0) (q := (RX0, TX0, 5)) hK hP hD (cw_sb hj) rfl rfl) rfl rfl hl.1 rfl (lv_room (Nat.le_of_ble_eq_true rfl)) dX1_deliverFrom_70 ⟨(Nat.le_of_ble_eq_true rfl), (Nat.le_of_ble_eq_true rfl)⟩) hP hD hS hA (cw_sb hj) (cw_jn hj) (fun H locs hP hD hS => ?_)
        refine lv_iload hx hb dX1_deliverFrom_73 (lv_at hl 7 rfl) ?_
        refine lv_iload hx hb dX1_deliverFrom_75 (lv_at hl 0 rfl) ?_
        refine lv_isub hx hb dX1_deliverFrom_77 ?_
        obtain ⟨v48, ev48, hF⟩ := nm_some hF
        refine W.eq (g2 := F0 m 78 ls (.int v48 :: [])) (congrArg (fun z => F0 m 78 ls (.int z :: [])) ev48.symm) ?_
        refine lv_istore (lv' := [(6, .int v48), (8, .int v32), (0, .ref (ca 0)), (1, .ref (qa (4 * j))), (2, .int x2), (3, .int x3), (4, .int x4), (5, .int x5), (7, .int x7)]) hx hb dX1_deliverFrom_78 hl (by decide) rfl (fun ls hl => ?_)
        refine lv_iinc (v := (x7 + (1 : Int32))) (lv' := [(7, .int (x7 + (1 : Int32))), (6, .int v48), (8, .int v32), (0, .ref (ca 0)), (1, .ref (qa (4 * j))), (2, .int x2), (3, .int x3), (4, .int x4), (5, .int x5)]) hx hb dX1_deliverFrom_80 hl (k := 8) rfl rfl (by decide) rfl (fun ls hl => ?_)
        refine lv_goto (tgt := 18) hx hb dX1_deliverFrom_83 (by decide) ?_
        exact ih x2 x3 x4 x5 v48 (x7 + (1 : Int32)) (u42.1, u42.2.1, u42.2.2.1, u42.2.2.2.1, u42.2.2.2.2.1, u42.2.2.2.2.2.1, u42.2.2.2.2.2.2.1, u42.2.2.2.2.2.2.2.1, u42.2.2.2.2.2.2.2.2.1, u42.2.2.2.2.2.2.2.2.2.1, u42.2.2.2.2.2.2.2.2.2.2.1, u42.2.2.2.2.2.2.2.2.2.2.2.1, u42.2.2.2.2.2.2.2.2.2.2.2.2.1, u42.2.2.2.2.2.2.2.2.2.2.2.2.2.1, (va_up u42.2.2.2.2.2.2.2.2.2.2.2.2.2.2 j u45)) _ _ hF H locs ls hP hD hS (lv_sub hl [3, 4, 5, 6, 7, 8, 1, 0] rfl)
set_option maxHeartbeats 4000000 in
set_option maxRecDepth 100000 in
theorem c_P_deliverFrom (l : Launch) (D : va_G) (cI cR : ClassId) (ca qa : Nat → Nat) (sz : Nat) (j : Nat) (hj : j < 48) (p2 : Int32) (p3 : Int32) (p4 : Int32) (u : CSt) (r : Int32) (u' : CSt) (hF : F_P_deliverFrom j p2 p3 p4 u = some (r, u')) : Met l yX1_deliverFrom wsX1_deliverFrom ({ frames := 3, cells := 0, slots := 0, locals := 72 }) (va_Pc [.ref (ca 0), .ref (qa (4 * j)), .int p2, .int p3, .int p4] (PRE D (TY cI cR) (CW cI cR ca qa u) sz)) (QI D (TY cI cR) (va_A (CW cI cR ca qa u) sz) (fun v => CW cI cR ca qa v) r u') 0 0 (va_A (CW cI cR ca qa u) sz) := by
  refine Met.ofW (cc := cX1_deliverFrom) (maxL := 9) (ret := (some .int)) (by decide) rfl ?_
  intro p e s m args below meth c s₁ B hml hv
  obtain ⟨rfl, hsz, hP, hK, hD0⟩ := hv
  have hx := B.exec
  have hb := B.bytes
  have hr := B.returns
  have hts := atoms_spec (ws := wsX1_deliverFrom) B.pre
  have hown : s.vm.findClass RX1 = some m.cls := findClass_of_methodNamed B.named
  have hlocks := B.notSynchronized
  subst hsz
  have hD := hD0.self (sz := s.heap.size)
  generalize hAe : va_A (CW cI cR ca qa u) s.heap.size = A at hD ⊢
  have hA : ∀ q : Nat, s.heap.size ≤ q → A q := fun q h => by rw [← hAe]; exact Or.inr h
  have hS : va_S A s.heap s.heap [] := va_S.rf
  replace hP : va_P D vwCl (CW cI cR ca qa u) s.heap := hP
  have hl := lv_entry ([.ref (ca 0), .ref (qa (4 * j)), .int p2, .int p3, .int p4]) (n := 9) (Nat.le_of_ble_eq_true rfl)
  rw [lg_entry_eq]
  generalize (lg_sl ([.ref (ca 0), .ref (qa (4 * j)), .int p2, .int p3, .int p4]) ++ List.replicate (9 - (lg_sl ([.ref (ca 0), .ref (qa (4 * j)), .int p2, .int p3, .int p4])).length) Slot.unset).toArray = ls at hl ⊢
  replace hl : lv_has ls 9 [(0, .ref (ca 0)), (1, .ref (qa (4 * j))), (2, .int p2), (3, .int p3), (4, .int p4)] := hl
  have hmmin_l149 := (hts _ (cwc _ mw_240))
  have hmmin_s := (hts _ (cwc _ mw_241))
  have hm_i := (hts _ (cwc _ mw_9))
  have hmmin_c := (hts _ (cwc _ mw_242))
  have hk_43 := (hts _ (cwc _ mw_45))
  have hk_19 := (hts _ (cwc _ mw_37))
  unfold F_P_deliverFrom at hF
  refine (?_ : ∀ (H : Heap) (locs : List Loc), va_P D vwCl (CW cI cR ca qa u) H → va_S A s.heap H locs → W p l e _ s m _ below meth c H locs 0 0 _ (F0 m 0 ls [])) s.heap [] hP hS
  intro H locs hP hS
  refine lv_iload hx hb dX1_deliverFrom_0 (lv_at hl 4 rfl) ?_
  refine lv_aload_n hx hb dX1_deliverFrom_2 rfl (lv_at hl 1 rfl) ?_
  obtain ⟨r2, u1, hc_3, hF⟩ := bi_some hF
  refine kc_i (W1 := CW cI cR ca qa u) (va_runV (As := []) (rest := [.int p4]) ⟨hx, hb, hml, hown, hts⟩ (c_Row_total l D cI cR (qa (4 * j)) (qa (4 * j + 1)) (qa (4 * j + 2)) (qa (4 * j + 3)) H.size  (u.2.2.2.2.2.2.2.2.2.2.2.2.2.2 j) r2 u1 hc_3) (cwV 0 hts (gV cwc mw_97 mw_98 mw_99 mw_2 mw_100) rfl rfl rfl (by decide +kernel) ⟨(Nat.le_of_ble_eq_true rfl), (Nat.le_of_ble_eq_true rfl)⟩) (kp_V (ci := 0) (q := (RX0, TX0, 5)) hK hP hD (cw_sb hj) rfl rfl) rfl rfl hl.1 rfl (lv_room (Nat.le_of_ble_eq_true rfl)) dX1_deliverFrom_3 ⟨(Nat.le_of_ble_eq_true rfl), (Nat.le_of_ble_eq_true rfl)⟩) hP hD hS hA (cw_sb hj) (jn_same (cw_sb hj)) (fun H locs hP hD hS => ?_)
  refine va_mmin hx hb (hml.trans hl.1.symm) hown hmmin_l149 hmmin_s hm_i hmmin_c (Nat.le_of_ble_eq_true rfl) (Nat.le_of_ble_eq_true rfl) (Nat.zero_le _) (Nat.zero_le _) dX1_deliverFrom_6 ?_
  obtain ⟨v4, ev4, hF⟩ := nm_some hF
  refine W.eq (g2 := F0 m 9 ls (.int v4 :: [])) (congrArg (fun z => F0 m 9 ls (.int z :: [])) ev4.symm) ?_
  refine lv_istore (lv' := [(5, .int v4), (0, .ref (ca 0)), (1, .ref (qa (4 * j))), (2, .int p2), (3, .int p3), (4, .int p4)]) hx hb dX1_deliverFrom_9 hl (by decide) rfl (fun ls hl => ?_)
  refine lv_iload hx hb dX1_deliverFrom_11 (lv_at hl 0 rfl) ?_
  refine lv_istore (lv' := [(6, .int v4), (5, .int v4), (0, .ref (ca 0)), (1, .ref (qa (4 * j))), (2, .int p2), (3, .int p3), (4, .int p4)]) hx hb dX1_deliverFrom_13 hl (by decide) rfl (fun ls hl => ?_)
  refine lv_iconst (v := (0 : Int32)) hx hb dX1_deliverFrom_15 (by decide +kernel) ?_
  refine lv_istore (lv' := [(7, .int (0 : Int32)), (6, .int v4), (5, .int v4), (0, .ref (ca 0)), (1, .ref (qa (4 * j))), (2, .int p2), (3, .int p3), (4, .int p4)]) hx hb dX1_deliverFrom_16 hl (by decide) rfl (fun ls hl => ?_)
  exact w_P_deliverFrom_L18 hx hb hr hml hown hts hlocks hA hK j hj 9 p2 p3 p4 v4 v4 (0 : Int32) u _ _ hF H locs ls hP hD hS (lv_sub hl [3, 4, 5, 6, 7, 2, 1, 0] rfl)
def F_P_produceEverywhere_L10 (K2 : Int32 → CSt → Option ((Unit) × CSt)) : Nat → Int32 → Int32 → CSt → Option ((Unit) × CSt)
  | 0, _, _, _ => none
  | n + 1, x1, x2, u => (if (4 : Int32) ≤ x2 then K2 (x1 + (1 : Int32)) u else bi (F_P_stockIndex x1 x2 ()) (fun r4 u3 => gd (inb r4 32) (bi (F_P_produce x1 x2 (u.1 r4.toNatClampNeg) u) (fun r8 u7 => F_P_produceEverywhere_L10 K2 n x1 (x2 + (1 : Int32)) u7))))
def F_P_produceEverywhere_L2 : Nat → Int32 → CSt → Option ((Unit) × CSt)
  | 0, _, _ => none
  | n + 1, x1, u => (if (8 : Int32) ≤ x1 then some ((), u) else F_P_produceEverywhere_L10 (F_P_produceEverywhere_L2 n) 5 x1 (0 : Int32) u)
def F_P_produceEverywhere  (u : CSt) : Option ((Unit) × CSt) := F_P_produceEverywhere_L2 9 (0 : Int32) u
set_option maxHeartbeats 4000000 in
set_option maxRecDepth 100000 in
theorem w_P_produceEverywhere_L10 {p : Program} {l : Launch} {e : Env} {s : State} {m : MethodId} {args : Array Value} {below : List Frame} {meth : Method} {c : Code} {A : Nat → Prop} {D : va_G} {cI cR : ClassId} {ca qa : Nat → Nat} (hx : p.tables.exec = Jvm.exec) (hb : c.code = cX1_produceEverywhere) (hr : meth.sig.returnType = none) (hml : c.maxLocals = 3) (hown : s.vm.findClass RX1 = some m.cls) (hts : ∀ w ∈ wsX1_produceEverywhere, w.before args s = true) (hlocks : meth.locks = false) (hA : ∀ q : Nat, s.heap.size ≤ q → A q) (hK : va_K D vwCl (TY cI cR) s) (K2 : Int32 → CSt → Option ((Unit) × CSt)) (hK2 : ∀ (y1 : Int32) (u : CSt) (r : Unit) (u' : CSt), K2 y1 u = some (r, u') → ∀ (H : Heap) (locs : List Loc) (ls : Array Slot), va_P D vwCl (CW cI cR ca qa u) H → va_D A (CW cI cR ca qa u) → va_S A s.heap H locs → lv_has ls 3 [(0, .ref (ca 0)), (1, .int y1)] → W p l e (headSpec wsX1_produceEverywhere ({ frames := 3, cells := 0, slots := 0, locals := 72 })).room s m args below meth c H locs 0 0 (MQ below (QV D (TY cI cR) A (fun v => CW cI cR ca qa v) u') args s 0 0 A) (F0 m 2 ls [])) : ∀ (n : Nat) (x1 x2 : Int32) (u : CSt) (r : Unit) (u' : CSt), F_P_produceEverywhere_L10 K2 n x1 x2 u = some (r, u') → ∀ (H : Heap) (locs : List Loc) (ls : Array Slot), va_P D vwCl (CW cI cR ca qa u) H → va_D A (CW cI cR ca qa u) → va_S A s.heap H locs → lv_has ls 3 [(0, .ref (ca 0)), (1, .int x1), (2, .int x2)] → W p l e (headSpec wsX1_produceEverywhere ({ frames := 3, cells := 0, slots := 0, locals := 72 })).room s m args below meth c H locs 0 0 (MQ below (QV D (TY cI cR) A (fun v => CW cI cR ca qa v) u') args s 0 0 A) (F0 m 10 ls []) := by
  have hk_15 := (hts _ (cwc _ mw_36))
  intro n
  induction n with
  | zero =>
    intro x1 x2 u r u' hF
    rw [F_P_produceEverywhere_L10] at hF
    exact absurd hF (by simp)
  | succ n ih =>
    intro x1 x2 u r u' hF H locs ls hP hD hS hl
    rw [F_P_produceEverywhere_L10] at hF
    refine lv_iload_n hx hb dX1_produceEverywhere_10 rfl (lv_at hl 2 rfl) ?_
    refine lv_iconst (v := (4 : Int32)) hx hb dX1_produceEverywhere_11 (by decide +kernel) ?_
    refine lv_icmp_ge (tgt := 37) hx hb dX1_produceEverywhere_12 (by decide) (fun c_2 => ?_) (fun c_2 => ?_)
    · replace hF := (if_pos c_2).symm.trans hF
      refine lv_iinc (v := (x1 + (1 : Int32))) (lv' := [(1, .int (x1 + (1 : Int32))), (0, .ref (ca 0)), (2, .int x2)]) hx hb dX1_produceEverywhere_37 hl (k := 1) rfl rfl (by decide) rfl (fun ls hl => ?_)
      refine lv_goto (tgt := 2) hx hb dX1_produceEverywhere_40 (by decide) ?_
      exact hK2 (x1 + (1 : Int32)) u _ _ hF H locs ls hP hD hS (lv_sub hl [1, 0] rfl)
    · replace hF := (if_neg c_2).symm.trans hF
      refine lv_aload_n hx hb dX1_produceEverywhere_15 rfl (lv_at hl 0 rfl) ?_
      refine lv_iload_n hx hb dX1_produceEverywhere_16 rfl (lv_at hl 1 rfl) ?_
      refine lv_iload_n hx hb dX1_produceEverywhere_17 rfl (lv_at hl 2 rfl) ?_
      refine lv_aload_n hx hb dX1_produceEverywhere_18 rfl (lv_at hl 0 rfl) ?_
      refine va_get (D := D) (ci := 1) (v := .ref (ca 2)) (C := RX1) (T := TX1) (N := 16) hx hb hts (fun w h => cwc w (in_X1 w h)) hown hK hP 0 rfl rfl 1 (by decide) hk_15 (fun _ h9 => h9) rfl dX1_produceEverywhere_19 ?_
      refine lv_iload_n hx hb dX1_produceEverywhere_22 rfl (lv_at hl 1 rfl) ?_
      refine lv_iload_n hx hb dX1_produceEverywhere_23 rfl (lv_at hl 2 rfl) ?_
      obtain ⟨r4, u3, hc_5, hF⟩ := bi_some hF
      refine kc_i (W1 := CW cI cR ca qa u) (va_runS (As := [.int x1, .int x2]) (rest := [.ref (ca 2), .int x2, .int x1, .ref (ca 0)]) ⟨hx, hb, hml, hown, hts⟩ (c_P_stockIndex l D cI cR  H.size x1 x2 () r4 u3 hc_5) (va_cwS 2 hts (gS cwc mw_86 mw_87 mw_1 mw_88) rfl rfl rfl (by decide +kernel) ⟨(Nat.le_of_ble_eq_true rfl), (Nat.le_of_ble_eq_true rfl)⟩) (kp_S hK hP hD (sb_nil _)) rfl rfl hl.1 rfl (lv_room (Nat.le_of_ble_eq_true rfl)) dX1_produceEverywhere_24 ⟨(Nat.le_of_ble_eq_true rfl), (Nat.le_of_ble_eq_true rfl)⟩) hP hD hS hA (sb_nil _) (jn_nil _) (fun H locs hP hD hS => ?_)
      obtain ⟨h_6, hF⟩ := gd_some hF
      refine va_iald (f := u.1) hx hb hK hP 2 0 rfl rfl (inb_in h_6) dX1_produceEverywhere_27 ?_
      obtain ⟨r8, u7, hc_9, hF⟩ := bi_some hF
      refine kc_v (W1 := CW cI cR ca qa u7) (va_runV (As := [.int x1, .int x2, .int (u.1 r4.toNatClampNeg)]) (rest := []) ⟨hx, hb, hml, hown, hts⟩ (c_P_produce l D cI cR ca qa H.size x1 x2 (u.1 r4.toNatClampNeg) u r8 u7 hc_9) (cwV 3 hts (gV cwc mw_237 mw_238 mw_478 mw_1 mw_239) rfl rfl rfl (by decide +kernel) ⟨(Nat.le_of_ble_eq_true rfl), (Nat.le_of_ble_eq_true rfl)⟩) (kp_V (ci := 1) (q := (RX1, TX1, 16)) hK hP hD (sb_id _) rfl rfl) rfl rfl hl.1 rfl (lv_room (Nat.le_of_ble_eq_true rfl)) dX1_produceEverywhere_28 ⟨(Nat.le_of_ble_eq_true rfl), (Nat.le_of_ble_eq_true rfl)⟩) hP hD hS hA (sb_id _) (jn_id (cw_ad _ _)) (fun H locs hP hD hS => ?_)
      refine lv_iinc (v := (x2 + (1 : Int32))) (lv' := [(2, .int (x2 + (1 : Int32))), (0, .ref (ca 0)), (1, .int x1)]) hx hb dX1_produceEverywhere_31 hl (k := 2) rfl rfl (by decide) rfl (fun ls hl => ?_)
      refine lv_goto (tgt := 10) hx hb dX1_produceEverywhere_34 (by decide) ?_
      exact ih x1 (x2 + (1 : Int32)) u7 _ _ hF H locs ls hP hD hS (lv_sub hl [1, 2, 0] rfl)
set_option maxHeartbeats 4000000 in
set_option maxRecDepth 100000 in
theorem w_P_produceEverywhere_L2 {p : Program} {l : Launch} {e : Env} {s : State} {m : MethodId} {args : Array Value} {below : List Frame} {meth : Method} {c : Code} {A : Nat → Prop} {D : va_G} {cI cR : ClassId} {ca qa : Nat → Nat} (hx : p.tables.exec = Jvm.exec) (hb : c.code = cX1_produceEverywhere) (hr : meth.sig.returnType = none) (hml : c.maxLocals = 3) (hown : s.vm.findClass RX1 = some m.cls) (hts : ∀ w ∈ wsX1_produceEverywhere, w.before args s = true) (hlocks : meth.locks = false) (hA : ∀ q : Nat, s.heap.size ≤ q → A q) (hK : va_K D vwCl (TY cI cR) s) : ∀ (n : Nat) (x1 : Int32) (u : CSt) (r : Unit) (u' : CSt), F_P_produceEverywhere_L2 n x1 u = some (r, u') → ∀ (H : Heap) (locs : List Loc) (ls : Array Slot), va_P D vwCl (CW cI cR ca qa u) H → va_D A (CW cI cR ca qa u) → va_S A s.heap H locs → lv_has ls 3 [(0, .ref (ca 0)), (1, .int x1)] → W p l e (headSpec wsX1_produceEverywhere ({ frames := 3, cells := 0, slots := 0, locals := 72 })).room s m args below meth c H locs 0 0 (MQ below (QV D (TY cI cR) A (fun v => CW cI cR ca qa v) u') args s 0 0 A) (F0 m 2 ls []) := by
  have hk_15 := (hts _ (cwc _ mw_36))
  intro n
  induction n with
  | zero =>
    intro x1 u r u' hF
    rw [F_P_produceEverywhere_L2] at hF
    exact absurd hF (by simp)
  | succ n ih =>
    intro x1 u r u' hF H locs ls hP hD hS hl
    rw [F_P_produceEverywhere_L2] at hF
    refine lv_iload_n hx hb dX1_produceEverywhere_2 rfl (lv_at hl 1 rfl) ?_
    refine lv_bipush (v := (8 : Int32)) hx hb dX1_produceEverywhere_3 (by decide +kernel) ?_
    refine lv_icmp_ge (tgt := 43) hx hb dX1_produceEverywhere_5 (by decide) (fun c_1 => ?_) (fun c_1 => ?_)
    · replace hF := (if_pos c_1).symm.trans hF
      cases hF
      refine W.widen (k := 0) (n := 0) (Nat.le_of_ble_eq_true rfl) (Nat.le_of_ble_eq_true rfl) ?_
      exact W.vret hx hb hr (fun t ht hW => ⟨⟨_, rfl, rfl, by rw [ht]; exact hP, va_K.moved hW.alike hK, hD⟩, hS.F ht⟩) hS.2.2 dX1_produceEverywhere_43
    · replace hF := (if_neg c_1).symm.trans hF
      refine lv_iconst (v := (0 : Int32)) hx hb dX1_produceEverywhere_8 (by decide +kernel) ?_
      refine lv_istore_n (lv' := [(2, .int (0 : Int32)), (0, .ref (ca 0)), (1, .int x1)]) hx hb dX1_produceEverywhere_9 rfl hl (by decide) rfl (fun ls hl => ?_)
      exact w_P_produceEverywhere_L10 hx hb hr hml hown hts hlocks hA hK (F_P_produceEverywhere_L2 n) (fun y1 u9 r9 v9 h9 => ih y1 u9 r9 v9 h9) 5 x1 (0 : Int32) u _ _ hF H locs ls hP hD hS (lv_sub hl [1, 2, 0] rfl)
set_option maxHeartbeats 4000000 in
set_option maxRecDepth 100000 in
theorem c_P_produceEverywhere (l : Launch) (D : va_G) (cI cR : ClassId) (ca qa : Nat → Nat) (sz : Nat)  (u : CSt) (r : Unit) (u' : CSt) (hF : F_P_produceEverywhere  u = some (r, u')) : Met l yX1_produceEverywhere wsX1_produceEverywhere ({ frames := 3, cells := 0, slots := 0, locals := 72 }) (va_Pc [.ref (ca 0)] (PRE D (TY cI cR) (CW cI cR ca qa u) sz)) (QV D (TY cI cR) (va_A (CW cI cR ca qa u) sz) (fun v => CW cI cR ca qa v) u') 0 0 (va_A (CW cI cR ca qa u) sz) := by
  refine Met.ofW (cc := cX1_produceEverywhere) (maxL := 3) (ret := none) (by decide) rfl ?_
  intro p e s m args below meth c s₁ B hml hv
  obtain ⟨rfl, hsz, hP, hK, hD0⟩ := hv
  have hx := B.exec
  have hb := B.bytes
  have hr := B.returns
  have hts := atoms_spec (ws := wsX1_produceEverywhere) B.pre
  have hown : s.vm.findClass RX1 = some m.cls := findClass_of_methodNamed B.named
  have hlocks := B.notSynchronized
  subst hsz
  have hD := hD0.self (sz := s.heap.size)
  generalize hAe : va_A (CW cI cR ca qa u) s.heap.size = A at hD ⊢
  have hA : ∀ q : Nat, s.heap.size ≤ q → A q := fun q h => by rw [← hAe]; exact Or.inr h
  have hS : va_S A s.heap s.heap [] := va_S.rf
  replace hP : va_P D vwCl (CW cI cR ca qa u) s.heap := hP
  have hl := lv_entry ([.ref (ca 0)]) (n := 3) (Nat.le_of_ble_eq_true rfl)
  rw [lg_entry_eq]
  generalize (lg_sl ([.ref (ca 0)]) ++ List.replicate (3 - (lg_sl ([.ref (ca 0)])).length) Slot.unset).toArray = ls at hl ⊢
  replace hl : lv_has ls 3 [(0, .ref (ca 0))] := hl
  have hk_15 := (hts _ (cwc _ mw_36))
  unfold F_P_produceEverywhere at hF
  refine (?_ : ∀ (H : Heap) (locs : List Loc), va_P D vwCl (CW cI cR ca qa u) H → va_S A s.heap H locs → W p l e _ s m _ below meth c H locs 0 0 _ (F0 m 0 ls [])) s.heap [] hP hS
  intro H locs hP hS
  refine lv_iconst (v := (0 : Int32)) hx hb dX1_produceEverywhere_0 (by decide +kernel) ?_
  refine lv_istore_n (lv' := [(1, .int (0 : Int32)), (0, .ref (ca 0))]) hx hb dX1_produceEverywhere_1 rfl hl (by decide) rfl (fun ls hl => ?_)
  exact w_P_produceEverywhere_L2 hx hb hr hml hown hts hlocks hA hK 9 (0 : Int32) u _ _ hF H locs ls hP hD hS (lv_sub hl [1, 0] rfl)
def F_P_sum (p1 : Int32) (u : CSt) : Option ((Int32) × Unit) := (if p1 = (0 : Int32) then some (u.2.2.2.2.2.2.2.2.2.2.2.1, ()) else (if p1 = (1 : Int32) then some (u.2.2.2.2.2.2.2.2.2.2.2.2.1, ()) else (if p1 = (2 : Int32) then some (u.2.2.2.2.2.2.2.2.2.2.2.2.2.1, ()) else (if p1 = (3 : Int32) then some (u.2.2.2.2.2.2.2.2.2.2.1, ()) else some ((-1 : Int32), ())))))
set_option maxHeartbeats 4000000 in
set_option maxRecDepth 100000 in
theorem c_P_sum (l : Launch) (D : va_G) (cI cR : ClassId) (ca qa : Nat → Nat) (sz : Nat) (p1 : Int32) (u : CSt) (r : Int32) (u' : Unit) (hF : F_P_sum p1 u = some (r, u')) : Met l yX1_sum wsX1_sum ({ frames := 0, cells := 0, slots := 0, locals := 0 }) (va_Pc [.ref (ca 0), .int p1] (PRE D (TY cI cR) (CW cI cR ca qa u) sz)) (QI D (TY cI cR) (va_A (CW cI cR ca qa u) sz) (fun v => CW cI cR ca qa v) r u) 0 0 (va_A (CW cI cR ca qa u) sz) := by
  refine Met.ofW (cc := cX1_sum) (maxL := 2) (ret := (some .int)) (by decide) rfl ?_
  intro p e s m args below meth c s₁ B hml hv
  obtain ⟨rfl, hsz, hP, hK, hD0⟩ := hv
  have hx := B.exec
  have hb := B.bytes
  have hr := B.returns
  have hts := atoms_spec (ws := wsX1_sum) B.pre
  have hown : s.vm.findClass RX1 = some m.cls := findClass_of_methodNamed B.named
  have hlocks := B.notSynchronized
  subst hsz
  have hD := hD0.self (sz := s.heap.size)
  generalize hAe : va_A (CW cI cR ca qa u) s.heap.size = A at hD ⊢
  have hA : ∀ q : Nat, s.heap.size ≤ q → A q := fun q h => by rw [← hAe]; exact Or.inr h
  have hS : va_S A s.heap s.heap [] := va_S.rf
  replace hP : va_P D vwCl (CW cI cR ca qa u) s.heap := hP
  have hl := lv_entry ([.ref (ca 0), .int p1]) (n := 2) (Nat.le_of_ble_eq_true rfl)
  rw [lg_entry_eq]
  generalize (lg_sl ([.ref (ca 0), .int p1]) ++ List.replicate (2 - (lg_sl ([.ref (ca 0), .int p1])).length) Slot.unset).toArray = ls at hl ⊢
  replace hl : lv_has ls 2 [(0, .ref (ca 0)), (1, .int p1)] := hl
  have hk_53 := (hts _ (cwc _ mw_48))
  have hk_56 := (hts _ (cwc _ mw_49))
  have hk_59 := (hts _ (cwc _ mw_50))
  have hk_49 := (hts _ (cwc _ mw_47))
  unfold F_P_sum at hF
  refine (?_ : ∀ (H : Heap) (locs : List Loc), va_P D vwCl (CW cI cR ca qa u) H → va_S A s.heap H locs → W p l e _ s m _ below meth c H locs 0 0 _ (F0 m 0 ls [])) s.heap [] hP hS
  intro H locs hP hS
  refine lv_iload_n hx hb dX1_sum_0 rfl (lv_at hl 1 rfl) ?_
  by_cases c_1 : p1 = (0 : Int32)
  · replace hF := (if_pos c_1).symm.trans hF
    refine lv_tableIn (off := 31) (tgt := 32) hx hb dX1_sum_1 (by rw [c_1]; decide +kernel) (by rw [c_1]; decide +kernel) (by rw [c_1]; rfl) (by decide) ?_
    refine lv_aload_n hx hb dX1_sum_32 rfl (lv_at hl 0 rfl) ?_
    refine va_get (D := D) (ci := 1) (v := .int u.2.2.2.2.2.2.2.2.2.2.2.1) (C := RX1) (T := TX1) (N := 16) hx hb hts (fun w h => cwc w (in_X1 w h)) hown hK hP 0 rfl rfl 13 (by decide) hk_53 (fun _ h9 => h9) rfl dX1_sum_33 ?_
    cases hF
    refine W.widen (k := 0) (n := 0) (Nat.le_of_ble_eq_true rfl) (Nat.le_of_ble_eq_true rfl) ?_
    exact W.iret hx hb hr (fun t ht hW => ⟨⟨_, _, rfl, ⟨rfl, rfl⟩, by rw [ht]; exact hP, va_K.moved hW.alike hK, hD⟩, hS.F ht⟩) hS.2.2 dX1_sum_36
  · replace hF := (if_neg c_1).symm.trans hF
    by_cases c_2 : p1 = (1 : Int32)
    · replace hF := (if_pos c_2).symm.trans hF
      refine lv_tableIn (off := 36) (tgt := 37) hx hb dX1_sum_1 (by rw [c_2]; decide +kernel) (by rw [c_2]; decide +kernel) (by rw [c_2]; rfl) (by decide) ?_
      refine lv_aload_n hx hb dX1_sum_37 rfl (lv_at hl 0 rfl) ?_
      refine va_get (D := D) (ci := 1) (v := .int u.2.2.2.2.2.2.2.2.2.2.2.2.1) (C := RX1) (T := TX1) (N := 16) hx hb hts (fun w h => cwc w (in_X1 w h)) hown hK hP 0 rfl rfl 14 (by decide) hk_56 (fun _ h9 => h9) rfl dX1_sum_38 ?_
      cases hF
      refine W.widen (k := 0) (n := 0) (Nat.le_of_ble_eq_true rfl) (Nat.le_of_ble_eq_true rfl) ?_
      exact W.iret hx hb hr (fun t ht hW => ⟨⟨_, _, rfl, ⟨rfl, rfl⟩, by rw [ht]; exact hP, va_K.moved hW.alike hK, hD⟩, hS.F ht⟩) hS.2.2 dX1_sum_41
    · replace hF := (if_neg c_2).symm.trans hF
      by_cases c_3 : p1 = (2 : Int32)
      · replace hF := (if_pos c_3).symm.trans hF
        refine lv_tableIn (off := 41) (tgt := 42) hx hb dX1_sum_1 (by rw [c_3]; decide +kernel) (by rw [c_3]; decide +kernel) (by rw [c_3]; rfl) (by decide) ?_
        refine lv_aload_n hx hb dX1_sum_42 rfl (lv_at hl 0 rfl) ?_
        refine va_get (D := D) (ci := 1) (v := .int u.2.2.2.2.2.2.2.2.2.2.2.2.2.1) (C := RX1) (T := TX1) (N := 16) hx hb hts (fun w h => cwc w (in_X1 w h)) hown hK hP 0 rfl rfl 15 (by decide) hk_59 (fun _ h9 => h9) rfl dX1_sum_43 ?_
        cases hF
        refine W.widen (k := 0) (n := 0) (Nat.le_of_ble_eq_true rfl) (Nat.le_of_ble_eq_true rfl) ?_
        exact W.iret hx hb hr (fun t ht hW => ⟨⟨_, _, rfl, ⟨rfl, rfl⟩, by rw [ht]; exact hP, va_K.moved hW.alike hK, hD⟩, hS.F ht⟩) hS.2.2 dX1_sum_46
      · replace hF := (if_neg c_3).symm.trans hF
        by_cases c_4 : p1 = (3 : Int32)
        · replace hF := (if_pos c_4).symm.trans hF
          refine lv_tableIn (off := 46) (tgt := 47) hx hb dX1_sum_1 (by rw [c_4]; decide +kernel) (by rw [c_4]; decide +kernel) (by rw [c_4]; rfl) (by decide) ?_
          refine lv_aload_n hx hb dX1_sum_47 rfl (lv_at hl 0 rfl) ?_
          refine va_get (D := D) (ci := 1) (v := .int u.2.2.2.2.2.2.2.2.2.2.1) (C := RX1) (T := TX1) (N := 16) hx hb hts (fun w h => cwc w (in_X1 w h)) hown hK hP 0 rfl rfl 12 (by decide) hk_49 (fun _ h9 => h9) rfl dX1_sum_48 ?_
          cases hF
          refine W.widen (k := 0) (n := 0) (Nat.le_of_ble_eq_true rfl) (Nat.le_of_ble_eq_true rfl) ?_
          exact W.iret hx hb hr (fun t ht hW => ⟨⟨_, _, rfl, ⟨rfl, rfl⟩, by rw [ht]; exact hP, va_K.moved hW.alike hK, hD⟩, hS.F ht⟩) hS.2.2 dX1_sum_51
        · replace hF := (if_neg c_4).symm.trans hF
          refine lv_tableOut (tgt := 52) hx hb dX1_sum_1 (by have := i32nz c_1 (show (0 : Int32).toInt = 0 by decide +kernel); have := i32nz c_2 (show (1 : Int32).toInt = 1 by decide +kernel); have := i32nz c_3 (show (2 : Int32).toInt = 2 by decide +kernel); have := i32nz c_4 (show (3 : Int32).toInt = 3 by decide +kernel); omega) (by decide) ?_
          refine lv_iconst (v := (-1 : Int32)) hx hb dX1_sum_52 (by decide +kernel) ?_
          cases hF
          refine W.widen (k := 0) (n := 0) (Nat.le_of_ble_eq_true rfl) (Nat.le_of_ble_eq_true rfl) ?_
          exact W.iret hx hb hr (fun t ht hW => ⟨⟨_, _, rfl, ⟨rfl, rfl⟩, by rw [ht]; exact hP, va_K.moved hW.alike hK, hD⟩, hS.F ht⟩) hS.2.2 dX1_sum_53
end
section
def F_P_count (p1 : Int32) (p2 : Int32) (u : CSt) : Option ((Int32) × Unit) := bi (F_P_isKind p1 ()) (fun r2 u1 => (if r2 = (0 : Int32) then some ((-1 : Int32), ()) else (if p2 = (0 : Int32) then gd (inb p1 4) (some ((u.2.2.2.2.2.2.2.1 p1.toNatClampNeg), ())) else (if p2 = (1 : Int32) then gd (inb p1 4) (some ((u.2.2.2.2.2.2.2.2.1 p1.toNatClampNeg), ())) else (if p2 = (2 : Int32) then gd (inb p1 4) (some ((u.2.2.2.2.2.2.2.2.2.1 p1.toNatClampNeg), ())) else (if p2 = (3 : Int32) then bi (F_P_unitsInStocks p1 u) (fun r13 u12 => some (r13, ())) else (if p2 = (4 : Int32) then bi (F_P_unitsInWagons p1 u) (fun r17 u16 => some (r17, ())) else some ((-1 : Int32), ()))))))))
set_option maxHeartbeats 4000000 in
set_option maxRecDepth 100000 in
theorem c_P_count (l : Launch) (D : va_G) (cI cR : ClassId) (ca qa : Nat → Nat) (sz : Nat) (p1 : Int32) (p2 : Int32) (u : CSt) (r : Int32) (u' : Unit) (hF : F_P_count p1 p2 u = some (r, u')) : Met l yX1_count wsX1_count ({ frames := 2, cells := 0, slots := 0, locals := 44 }) (va_Pc [.ref (ca 0), .int p1, .int p2] (PRE D (TY cI cR) (CW cI cR ca qa u) sz)) (QI D (TY cI cR) (va_A (CW cI cR ca qa u) sz) (fun v => CW cI cR ca qa v) r u) 0 0 (va_A (CW cI cR ca qa u) sz) := by
  refine Met.ofW (cc := cX1_count) (maxL := 3) (ret := (some .int)) (by decide) rfl ?_
  intro p e s m args below meth c s₁ B hml hv
  obtain ⟨rfl, hsz, hP, hK, hD0⟩ := hv
  have hx := B.exec
  have hb := B.bytes
  have hr := B.returns
  have hts := atoms_spec (ws := wsX1_count) B.pre
  have hown : s.vm.findClass RX1 = some m.cls := findClass_of_methodNamed B.named
  have hlocks := B.notSynchronized
  subst hsz
  have hD := hD0.self (sz := s.heap.size)
  generalize hAe : va_A (CW cI cR ca qa u) s.heap.size = A at hD ⊢
  have hA : ∀ q : Nat, s.heap.size ≤ q → A q := fun q h => by rw [← hAe]; exact Or.inr h
  have hS : va_S A s.heap s.heap [] := va_S.rf
  replace hP : va_P D vwCl (CW cI cR ca qa u) s.heap := hP
  have hl := lv_entry ([.ref (ca 0), .int p1, .int p2]) (n := 3) (Nat.le_of_ble_eq_true rfl)
  rw [lg_entry_eq]
  generalize (lg_sl ([.ref (ca 0), .int p1, .int p2]) ++ List.replicate (3 - (lg_sl ([.ref (ca 0), .int p1, .int p2])).length) Slot.unset).toArray = ls at hl ⊢
  replace hl : lv_has ls 3 [(0, .ref (ca 0)), (1, .int p1), (2, .int p2)] := hl
  have hk_40 := (hts _ (cwc _ mw_44))
  have hk_43 := (hts _ (cwc _ mw_45))
  have hk_46 := (hts _ (cwc _ mw_46))
  unfold F_P_count at hF
  refine (?_ : ∀ (H : Heap) (locs : List Loc), va_P D vwCl (CW cI cR ca qa u) H → va_S A s.heap H locs → W p l e _ s m _ below meth c H locs 0 0 _ (F0 m 0 ls [])) s.heap [] hP hS
  intro H locs hP hS
  refine lv_iload_n hx hb dX1_count_0 rfl (lv_at hl 1 rfl) ?_
  obtain ⟨r2, u1, hc_3, hF⟩ := bi_some hF
  refine kc_i (W1 := CW cI cR ca qa u) (va_runS (As := [.int p1]) (rest := []) ⟨hx, hb, hml, hown, hts⟩ (c_P_isKind l D cI cR  H.size p1 () r2 u1 hc_3) (va_cwS 1 hts (gS cwc mw_83 mw_84 mw_1 mw_85) rfl rfl rfl (by decide +kernel) ⟨(Nat.le_of_ble_eq_true rfl), (Nat.le_of_ble_eq_true rfl)⟩) (kp_S hK hP hD (sb_nil _)) rfl rfl hl.1 rfl (lv_room (Nat.le_of_ble_eq_true rfl)) dX1_count_1 ⟨(Nat.le_of_ble_eq_true rfl), (Nat.le_of_ble_eq_true rfl)⟩) hP hD hS hA (sb_nil _) (jn_nil _) (fun H locs hP hD hS => ?_)
  refine lv_if_ne (tgt := 9) hx hb dX1_count_4 (by decide) (fun c_4 => ?_) (fun c_4 => ?_)
  · replace hF := (if_neg c_4).symm.trans hF
    refine lv_iload_n hx hb dX1_count_9 rfl (lv_at hl 2 rfl) ?_
    by_cases c_5 : p2 = (0 : Int32)
    · replace hF := (if_pos c_5).symm.trans hF
      refine lv_tableIn (off := 34) (tgt := 44) hx hb dX1_count_10 (by rw [c_5]; decide +kernel) (by rw [c_5]; decide +kernel) (by rw [c_5]; rfl) (by decide) ?_
      refine lv_aload_n hx hb dX1_count_44 rfl (lv_at hl 0 rfl) ?_
      refine va_get (D := D) (ci := 1) (v := .ref (ca 10)) (C := RX1) (T := TX1) (N := 16) hx hb hts (fun w h => cwc w (in_X1 w h)) hown hK hP 0 rfl rfl 9 (by decide) hk_40 (fun _ h9 => h9) rfl dX1_count_45 ?_
      refine lv_iload_n hx hb dX1_count_48 rfl (lv_at hl 1 rfl) ?_
      obtain ⟨h_6, hF⟩ := gd_some hF
      refine va_iald (f := u.2.2.2.2.2.2.2.1) hx hb hK hP 10 0 rfl rfl (inb_in h_6) dX1_count_49 ?_
      cases hF
      refine W.widen (k := 0) (n := 0) (Nat.le_of_ble_eq_true rfl) (Nat.le_of_ble_eq_true rfl) ?_
      exact W.iret hx hb hr (fun t ht hW => ⟨⟨_, _, rfl, ⟨rfl, rfl⟩, by rw [ht]; exact hP, va_K.moved hW.alike hK, hD⟩, hS.F ht⟩) hS.2.2 dX1_count_50
    · replace hF := (if_neg c_5).symm.trans hF
      by_cases c_7 : p2 = (1 : Int32)
      · replace hF := (if_pos c_7).symm.trans hF
        refine lv_tableIn (off := 41) (tgt := 51) hx hb dX1_count_10 (by rw [c_7]; decide +kernel) (by rw [c_7]; decide +kernel) (by rw [c_7]; rfl) (by decide) ?_
        refine lv_aload_n hx hb dX1_count_51 rfl (lv_at hl 0 rfl) ?_
        refine va_get (D := D) (ci := 1) (v := .ref (ca 11)) (C := RX1) (T := TX1) (N := 16) hx hb hts (fun w h => cwc w (in_X1 w h)) hown hK hP 0 rfl rfl 10 (by decide) hk_43 (fun _ h9 => h9) rfl dX1_count_52 ?_
        refine lv_iload_n hx hb dX1_count_55 rfl (lv_at hl 1 rfl) ?_
        obtain ⟨h_8, hF⟩ := gd_some hF
        refine va_iald (f := u.2.2.2.2.2.2.2.2.1) hx hb hK hP 11 0 rfl rfl (inb_in h_8) dX1_count_56 ?_
        cases hF
        refine W.widen (k := 0) (n := 0) (Nat.le_of_ble_eq_true rfl) (Nat.le_of_ble_eq_true rfl) ?_
        exact W.iret hx hb hr (fun t ht hW => ⟨⟨_, _, rfl, ⟨rfl, rfl⟩, by rw [ht]; exact hP, va_K.moved hW.alike hK, hD⟩, hS.F ht⟩) hS.2.2 dX1_count_57
      · replace hF := (if_neg c_7).symm.trans hF
        by_cases c_9 : p2 = (2 : Int32)
        · replace hF := (if_pos c_9).symm.trans hF
          refine lv_tableIn (off := 48) (tgt := 58) hx hb dX1_count_10 (by rw [c_9]; decide +kernel) (by rw [c_9]; decide +kernel) (by rw [c_9]; rfl) (by decide) ?_
          refine lv_aload_n hx hb dX1_count_58 rfl (lv_at hl 0 rfl) ?_
          refine va_get (D := D) (ci := 1) (v := .ref (ca 12)) (C := RX1) (T := TX1) (N := 16) hx hb hts (fun w h => cwc w (in_X1 w h)) hown hK hP 0 rfl rfl 11 (by decide) hk_46 (fun _ h9 => h9) rfl dX1_count_59 ?_
          refine lv_iload_n hx hb dX1_count_62 rfl (lv_at hl 1 rfl) ?_
          obtain ⟨h_10, hF⟩ := gd_some hF
          refine va_iald (f := u.2.2.2.2.2.2.2.2.2.1) hx hb hK hP 12 0 rfl rfl (inb_in h_10) dX1_count_63 ?_
          cases hF
          refine W.widen (k := 0) (n := 0) (Nat.le_of_ble_eq_true rfl) (Nat.le_of_ble_eq_true rfl) ?_
          exact W.iret hx hb hr (fun t ht hW => ⟨⟨_, _, rfl, ⟨rfl, rfl⟩, by rw [ht]; exact hP, va_K.moved hW.alike hK, hD⟩, hS.F ht⟩) hS.2.2 dX1_count_64
        · replace hF := (if_neg c_9).symm.trans hF
          by_cases c_11 : p2 = (3 : Int32)
          · replace hF := (if_pos c_11).symm.trans hF
            refine lv_tableIn (off := 55) (tgt := 65) hx hb dX1_count_10 (by rw [c_11]; decide +kernel) (by rw [c_11]; decide +kernel) (by rw [c_11]; rfl) (by decide) ?_
            refine lv_aload_n hx hb dX1_count_65 rfl (lv_at hl 0 rfl) ?_
            refine lv_iload_n hx hb dX1_count_66 rfl (lv_at hl 1 rfl) ?_
            obtain ⟨r13, u12, hc_14, hF⟩ := bi_some hF
            refine kc_i (W1 := CW cI cR ca qa u) (va_runV (As := [.int p1]) (rest := []) ⟨hx, hb, hml, hown, hts⟩ (c_P_unitsInStocks l D cI cR ca qa H.size p1 u r13 u12 hc_14) (cwV 1 hts (gV cwc mw_105 mw_106 mw_475 mw_1 mw_107) rfl rfl rfl (by decide +kernel) ⟨(Nat.le_of_ble_eq_true rfl), (Nat.le_of_ble_eq_true rfl)⟩) (kp_V (ci := 1) (q := (RX1, TX1, 16)) hK hP hD (sb_id _) rfl rfl) rfl rfl hl.1 rfl (lv_room (Nat.le_of_ble_eq_true rfl)) dX1_count_67 ⟨(Nat.le_of_ble_eq_true rfl), (Nat.le_of_ble_eq_true rfl)⟩) hP hD hS hA (sb_id _) (jn_same (sb_id _)) (fun H locs hP hD hS => ?_)
            cases hF
            refine W.widen (k := 0) (n := 0) (Nat.le_of_ble_eq_true rfl) (Nat.le_of_ble_eq_true rfl) ?_
            exact W.iret hx hb hr (fun t ht hW => ⟨⟨_, _, rfl, ⟨rfl, rfl⟩, by rw [ht]; exact hP, va_K.moved hW.alike hK, hD⟩, hS.F ht⟩) hS.2.2 dX1_count_70
          · replace hF := (if_neg c_11).symm.trans hF
            by_cases c_15 : p2 = (4 : Int32)
            · replace hF := (if_pos c_15).symm.trans hF
              refine lv_tableIn (off := 61) (tgt := 71) hx hb dX1_count_10 (by rw [c_15]; decide +kernel) (by rw [c_15]; decide +kernel) (by rw [c_15]; rfl) (by decide) ?_
              refine lv_aload_n hx hb dX1_count_71 rfl (lv_at hl 0 rfl) ?_
              refine lv_iload_n hx hb dX1_count_72 rfl (lv_at hl 1 rfl) ?_
              obtain ⟨r17, u16, hc_18, hF⟩ := bi_some hF
              refine kc_i (W1 := CW cI cR ca qa u) (va_runV (As := [.int p1]) (rest := []) ⟨hx, hb, hml, hown, hts⟩ (c_P_unitsInWagons l D cI cR ca qa H.size p1 u r17 u16 hc_18) (cwV 1 hts (gV cwc mw_108 mw_109 mw_476 mw_1 mw_110) rfl rfl rfl (by decide +kernel) ⟨(Nat.le_of_ble_eq_true rfl), (Nat.le_of_ble_eq_true rfl)⟩) (kp_V (ci := 1) (q := (RX1, TX1, 16)) hK hP hD (sb_id _) rfl rfl) rfl rfl hl.1 rfl (lv_room (Nat.le_of_ble_eq_true rfl)) dX1_count_73 ⟨(Nat.le_of_ble_eq_true rfl), (Nat.le_of_ble_eq_true rfl)⟩) hP hD hS hA (sb_id _) (jn_same (sb_id _)) (fun H locs hP hD hS => ?_)
              cases hF
              refine W.widen (k := 0) (n := 0) (Nat.le_of_ble_eq_true rfl) (Nat.le_of_ble_eq_true rfl) ?_
              exact W.iret hx hb hr (fun t ht hW => ⟨⟨_, _, rfl, ⟨rfl, rfl⟩, by rw [ht]; exact hP, va_K.moved hW.alike hK, hD⟩, hS.F ht⟩) hS.2.2 dX1_count_76
            · replace hF := (if_neg c_15).symm.trans hF
              refine lv_tableOut (tgt := 77) hx hb dX1_count_10 (by have := i32nz c_5 (show (0 : Int32).toInt = 0 by decide +kernel); have := i32nz c_7 (show (1 : Int32).toInt = 1 by decide +kernel); have := i32nz c_9 (show (2 : Int32).toInt = 2 by decide +kernel); have := i32nz c_11 (show (3 : Int32).toInt = 3 by decide +kernel); have := i32nz c_15 (show (4 : Int32).toInt = 4 by decide +kernel); omega) (by decide) ?_
              refine lv_iconst (v := (-1 : Int32)) hx hb dX1_count_77 (by decide +kernel) ?_
              cases hF
              refine W.widen (k := 0) (n := 0) (Nat.le_of_ble_eq_true rfl) (Nat.le_of_ble_eq_true rfl) ?_
              exact W.iret hx hb hr (fun t ht hW => ⟨⟨_, _, rfl, ⟨rfl, rfl⟩, by rw [ht]; exact hP, va_K.moved hW.alike hK, hD⟩, hS.F ht⟩) hS.2.2 dX1_count_78
  · replace hF := (if_pos c_4).symm.trans hF
    refine lv_iconst (v := (-1 : Int32)) hx hb dX1_count_7 (by decide +kernel) ?_
    cases hF
    refine W.widen (k := 0) (n := 0) (Nat.le_of_ble_eq_true rfl) (Nat.le_of_ble_eq_true rfl) ?_
    exact W.iret hx hb hr (fun t ht hW => ⟨⟨_, _, rfl, ⟨rfl, rfl⟩, by rw [ht]; exact hP, va_K.moved hW.alike hK, hD⟩, hS.F ht⟩) hS.2.2 dX1_count_8
def F_P_units (p1 : Int32) (p2 : Int32) (u : CSt) : Option ((Int32) × Unit) := bi (F_P_rowAt p1 p2 u) (fun r2 u1 => oq r2 (some ((-1 : Int32), ())) (fun j4 => gd (decide (j4 < 48)) (bi (F_Row_total (u.2.2.2.2.2.2.2.2.2.2.2.2.2.2 j4)) (fun r8 u7 => some (r8, ())))))
set_option maxHeartbeats 4000000 in
set_option maxRecDepth 100000 in
theorem c_P_units (l : Launch) (D : va_G) (cI cR : ClassId) (ca qa : Nat → Nat) (sz : Nat) (p1 : Int32) (p2 : Int32) (u : CSt) (r : Int32) (u' : Unit) (hF : F_P_units p1 p2 u = some (r, u')) : Met l yX1_units wsX1_units ({ frames := 2, cells := 0, slots := 0, locals := 43 }) (va_Pc [.ref (ca 0), .int p1, .int p2] (PRE D (TY cI cR) (CW cI cR ca qa u) sz)) (QI D (TY cI cR) (va_A (CW cI cR ca qa u) sz) (fun v => CW cI cR ca qa v) r u) 0 0 (va_A (CW cI cR ca qa u) sz) := by
  refine Met.ofW (cc := cX1_units) (maxL := 4) (ret := (some .int)) (by decide) rfl ?_
  intro p e s m args below meth c s₁ B hml hv
  obtain ⟨rfl, hsz, hP, hK, hD0⟩ := hv
  have hx := B.exec
  have hb := B.bytes
  have hr := B.returns
  have hts := atoms_spec (ws := wsX1_units) B.pre
  have hown : s.vm.findClass RX1 = some m.cls := findClass_of_methodNamed B.named
  have hlocks := B.notSynchronized
  subst hsz
  have hD := hD0.self (sz := s.heap.size)
  generalize hAe : va_A (CW cI cR ca qa u) s.heap.size = A at hD ⊢
  have hA : ∀ q : Nat, s.heap.size ≤ q → A q := fun q h => by rw [← hAe]; exact Or.inr h
  have hS : va_S A s.heap s.heap [] := va_S.rf
  replace hP : va_P D vwCl (CW cI cR ca qa u) s.heap := hP
  have hl := lv_entry ([.ref (ca 0), .int p1, .int p2]) (n := 4) (Nat.le_of_ble_eq_true rfl)
  rw [lg_entry_eq]
  generalize (lg_sl ([.ref (ca 0), .int p1, .int p2]) ++ List.replicate (4 - (lg_sl ([.ref (ca 0), .int p1, .int p2])).length) Slot.unset).toArray = ls at hl ⊢
  replace hl : lv_has ls 4 [(0, .ref (ca 0)), (1, .int p1), (2, .int p2)] := hl
  unfold F_P_units at hF
  refine (?_ : ∀ (H : Heap) (locs : List Loc), va_P D vwCl (CW cI cR ca qa u) H → va_S A s.heap H locs → W p l e _ s m _ below meth c H locs 0 0 _ (F0 m 0 ls [])) s.heap [] hP hS
  intro H locs hP hS
  refine lv_aload_n hx hb dX1_units_0 rfl (lv_at hl 0 rfl) ?_
  refine lv_iload_n hx hb dX1_units_1 rfl (lv_at hl 1 rfl) ?_
  refine lv_iload_n hx hb dX1_units_2 rfl (lv_at hl 2 rfl) ?_
  obtain ⟨r2, u1, hc_3, hF⟩ := bi_some hF
  refine kc_q (W1 := CW cI cR ca qa u) (va_runV (As := [.int p1, .int p2]) (rest := []) ⟨hx, hb, hml, hown, hts⟩ (c_P_rowAt l D cI cR ca qa H.size p1 p2 u r2 u1 hc_3) (cwV 2 hts (gV cwc mw_77 mw_78 mw_474 mw_1 mw_79) rfl rfl rfl (by decide +kernel) ⟨(Nat.le_of_ble_eq_true rfl), (Nat.le_of_ble_eq_true rfl)⟩) (kp_V (ci := 1) (q := (RX1, TX1, 16)) hK hP hD (sb_id _) rfl rfl) rfl rfl hl.1 rfl (lv_room (Nat.le_of_ble_eq_true rfl)) dX1_units_3 ⟨(Nat.le_of_ble_eq_true rfl), (Nat.le_of_ble_eq_true rfl)⟩) hP hD hS hA (sb_id _) (jn_same (sb_id _)) (fun H locs hP hD hS => ?_)
  rcases r2 with _ | j4
  · replace hF := oq_n hF
    refine W.eq (g2 := F0 m 6 ls [.null]) rfl ?_
    refine lv_astore_nN (lv' := [(3, .null), (0, .ref (ca 0)), (1, .int p1), (2, .int p2)]) hx hb dX1_units_6 rfl hl (by decide) rfl (fun ls hl => ?_)
    refine lv_aload_nN hx hb dX1_units_7 rfl (lv_at hl 0 rfl) ?_
    refine lv_ifnonnullN hx hb dX1_units_8 ?_
    refine lv_iconst (v := (-1 : Int32)) hx hb dX1_units_11 (by decide +kernel) ?_
    refine lv_goto (tgt := 19) hx hb dX1_units_12 (by decide) ?_
    cases hF
    refine W.widen (k := 0) (n := 0) (Nat.le_of_ble_eq_true rfl) (Nat.le_of_ble_eq_true rfl) ?_
    exact W.iret hx hb hr (fun t ht hW => ⟨⟨_, _, rfl, ⟨rfl, rfl⟩, by rw [ht]; exact hP, va_K.moved hW.alike hK, hD⟩, hS.F ht⟩) hS.2.2 dX1_units_19
  · replace hF := oq_s hF
    obtain ⟨h_6, hF⟩ := gd_some hF
    have hj_5 : j4 < 48 := of_decide_eq_true h_6
    refine W.eq (g2 := F0 m 6 ls [.ref (qa (4 * j4))]) rfl ?_
    refine lv_astore_n (lv' := [(3, .ref (qa (4 * j4))), (0, .ref (ca 0)), (1, .int p1), (2, .int p2)]) hx hb dX1_units_6 rfl hl (by decide) rfl (fun ls hl => ?_)
    refine lv_aload_n hx hb dX1_units_7 rfl (lv_at hl 0 rfl) ?_
    refine lv_ifnonnull (tgt := 15) hx hb dX1_units_8 (by decide) ?_
    refine lv_aload_n hx hb dX1_units_15 rfl (lv_at hl 0 rfl) ?_
    obtain ⟨r8, u7, hc_9, hF⟩ := bi_some hF
    refine kc_i (W1 := CW cI cR ca qa u) (va_runV (As := []) (rest := []) ⟨hx, hb, hml, hown, hts⟩ (c_Row_total l D cI cR (qa (4 * j4)) (qa (4 * j4 + 1)) (qa (4 * j4 + 2)) (qa (4 * j4 + 3)) H.size  (u.2.2.2.2.2.2.2.2.2.2.2.2.2.2 j4) r8 u7 hc_9) (cwV 0 hts (gV cwc mw_97 mw_98 mw_99 mw_2 mw_100) rfl rfl rfl (by decide +kernel) ⟨(Nat.le_of_ble_eq_true rfl), (Nat.le_of_ble_eq_true rfl)⟩) (kp_V (ci := 0) (q := (RX0, TX0, 5)) hK hP hD (cw_sb hj_5) rfl rfl) rfl rfl hl.1 rfl (lv_room (Nat.le_of_ble_eq_true rfl)) dX1_units_16 ⟨(Nat.le_of_ble_eq_true rfl), (Nat.le_of_ble_eq_true rfl)⟩) hP hD hS hA (cw_sb hj_5) (jn_same (cw_sb hj_5)) (fun H locs hP hD hS => ?_)
    cases hF
    refine W.widen (k := 0) (n := 0) (Nat.le_of_ble_eq_true rfl) (Nat.le_of_ble_eq_true rfl) ?_
    exact W.iret hx hb hr (fun t ht hW => ⟨⟨_, _, rfl, ⟨rfl, rfl⟩, by rw [ht]; exact hP, va_K.moved hW.alike hK, hD⟩, hS.F ht⟩) hS.2.2 dX1_units_19
def F_P_packet (p1 : Int32) (p2 : Int32) (p3 : Int32) (p4 : Int32) (u : CSt) : Option ((Int32) × Unit) := bi (F_P_rowAt p1 p2 u) (fun r2 u1 => oq r2 (some ((-1 : Int32), ())) (fun j4 => gd (decide (j4 < 48)) (bi (F_Row_look p3 p4 (u.2.2.2.2.2.2.2.2.2.2.2.2.2.2 j4)) (fun r8 u7 => some (r8, ())))))
set_option maxHeartbeats 4000000 in
set_option maxRecDepth 100000 in
theorem c_P_packet (l : Launch) (D : va_G) (cI cR : ClassId) (ca qa : Nat → Nat) (sz : Nat) (p1 : Int32) (p2 : Int32) (p3 : Int32) (p4 : Int32) (u : CSt) (r : Int32) (u' : Unit) (hF : F_P_packet p1 p2 p3 p4 u = some (r, u')) : Met l yX1_packet wsX1_packet ({ frames := 2, cells := 0, slots := 0, locals := 43 }) (va_Pc [.ref (ca 0), .int p1, .int p2, .int p3, .int p4] (PRE D (TY cI cR) (CW cI cR ca qa u) sz)) (QI D (TY cI cR) (va_A (CW cI cR ca qa u) sz) (fun v => CW cI cR ca qa v) r u) 0 0 (va_A (CW cI cR ca qa u) sz) := by
  refine Met.ofW (cc := cX1_packet) (maxL := 6) (ret := (some .int)) (by decide) rfl ?_
  intro p e s m args below meth c s₁ B hml hv
  obtain ⟨rfl, hsz, hP, hK, hD0⟩ := hv
  have hx := B.exec
  have hb := B.bytes
  have hr := B.returns
  have hts := atoms_spec (ws := wsX1_packet) B.pre
  have hown : s.vm.findClass RX1 = some m.cls := findClass_of_methodNamed B.named
  have hlocks := B.notSynchronized
  subst hsz
  have hD := hD0.self (sz := s.heap.size)
  generalize hAe : va_A (CW cI cR ca qa u) s.heap.size = A at hD ⊢
  have hA : ∀ q : Nat, s.heap.size ≤ q → A q := fun q h => by rw [← hAe]; exact Or.inr h
  have hS : va_S A s.heap s.heap [] := va_S.rf
  replace hP : va_P D vwCl (CW cI cR ca qa u) s.heap := hP
  have hl := lv_entry ([.ref (ca 0), .int p1, .int p2, .int p3, .int p4]) (n := 6) (Nat.le_of_ble_eq_true rfl)
  rw [lg_entry_eq]
  generalize (lg_sl ([.ref (ca 0), .int p1, .int p2, .int p3, .int p4]) ++ List.replicate (6 - (lg_sl ([.ref (ca 0), .int p1, .int p2, .int p3, .int p4])).length) Slot.unset).toArray = ls at hl ⊢
  replace hl : lv_has ls 6 [(0, .ref (ca 0)), (1, .int p1), (2, .int p2), (3, .int p3), (4, .int p4)] := hl
  unfold F_P_packet at hF
  refine (?_ : ∀ (H : Heap) (locs : List Loc), va_P D vwCl (CW cI cR ca qa u) H → va_S A s.heap H locs → W p l e _ s m _ below meth c H locs 0 0 _ (F0 m 0 ls [])) s.heap [] hP hS
  intro H locs hP hS
  refine lv_aload_n hx hb dX1_packet_0 rfl (lv_at hl 0 rfl) ?_
  refine lv_iload_n hx hb dX1_packet_1 rfl (lv_at hl 1 rfl) ?_
  refine lv_iload_n hx hb dX1_packet_2 rfl (lv_at hl 2 rfl) ?_
  obtain ⟨r2, u1, hc_3, hF⟩ := bi_some hF
  refine kc_q (W1 := CW cI cR ca qa u) (va_runV (As := [.int p1, .int p2]) (rest := []) ⟨hx, hb, hml, hown, hts⟩ (c_P_rowAt l D cI cR ca qa H.size p1 p2 u r2 u1 hc_3) (cwV 2 hts (gV cwc mw_77 mw_78 mw_474 mw_1 mw_79) rfl rfl rfl (by decide +kernel) ⟨(Nat.le_of_ble_eq_true rfl), (Nat.le_of_ble_eq_true rfl)⟩) (kp_V (ci := 1) (q := (RX1, TX1, 16)) hK hP hD (sb_id _) rfl rfl) rfl rfl hl.1 rfl (lv_room (Nat.le_of_ble_eq_true rfl)) dX1_packet_3 ⟨(Nat.le_of_ble_eq_true rfl), (Nat.le_of_ble_eq_true rfl)⟩) hP hD hS hA (sb_id _) (jn_same (sb_id _)) (fun H locs hP hD hS => ?_)
  rcases r2 with _ | j4
  · replace hF := oq_n hF
    refine W.eq (g2 := F0 m 6 ls [.null]) rfl ?_
    refine lv_astoreN (lv' := [(5, .null), (0, .ref (ca 0)), (1, .int p1), (2, .int p2), (3, .int p3), (4, .int p4)]) hx hb dX1_packet_6 hl (by decide) rfl (fun ls hl => ?_)
    refine lv_aloadN hx hb dX1_packet_8 (lv_at hl 0 rfl) ?_
    refine lv_ifnonnullN hx hb dX1_packet_10 ?_
    refine lv_iconst (v := (-1 : Int32)) hx hb dX1_packet_13 (by decide +kernel) ?_
    refine lv_goto (tgt := 25) hx hb dX1_packet_14 (by decide) ?_
    cases hF
    refine W.widen (k := 0) (n := 0) (Nat.le_of_ble_eq_true rfl) (Nat.le_of_ble_eq_true rfl) ?_
    exact W.iret hx hb hr (fun t ht hW => ⟨⟨_, _, rfl, ⟨rfl, rfl⟩, by rw [ht]; exact hP, va_K.moved hW.alike hK, hD⟩, hS.F ht⟩) hS.2.2 dX1_packet_25
  · replace hF := oq_s hF
    obtain ⟨h_6, hF⟩ := gd_some hF
    have hj_5 : j4 < 48 := of_decide_eq_true h_6
    refine W.eq (g2 := F0 m 6 ls [.ref (qa (4 * j4))]) rfl ?_
    refine lv_astore (lv' := [(5, .ref (qa (4 * j4))), (0, .ref (ca 0)), (1, .int p1), (2, .int p2), (3, .int p3), (4, .int p4)]) hx hb dX1_packet_6 hl (by decide) rfl (fun ls hl => ?_)
    refine lv_aload hx hb dX1_packet_8 (lv_at hl 0 rfl) ?_
    refine lv_ifnonnull (tgt := 17) hx hb dX1_packet_10 (by decide) ?_
    refine lv_aload hx hb dX1_packet_17 (lv_at hl 0 rfl) ?_
    refine lv_iload_n hx hb dX1_packet_19 rfl (lv_at hl 4 rfl) ?_
    refine lv_iload hx hb dX1_packet_20 (lv_at hl 5 rfl) ?_
    obtain ⟨r8, u7, hc_9, hF⟩ := bi_some hF
    refine kc_i (W1 := CW cI cR ca qa u) (va_runV (As := [.int p3, .int p4]) (rest := []) ⟨hx, hb, hml, hown, hts⟩ (c_Row_look l D cI cR (qa (4 * j4)) (qa (4 * j4 + 1)) (qa (4 * j4 + 2)) (qa (4 * j4 + 3)) H.size p3 p4 (u.2.2.2.2.2.2.2.2.2.2.2.2.2.2 j4) r8 u7 hc_9) (cwV 2 hts (gV cwc mw_89 mw_90 mw_91 mw_2 mw_92) rfl rfl rfl (by decide +kernel) ⟨(Nat.le_of_ble_eq_true rfl), (Nat.le_of_ble_eq_true rfl)⟩) (kp_V (ci := 0) (q := (RX0, TX0, 5)) hK hP hD (cw_sb hj_5) rfl rfl) rfl rfl hl.1 rfl (lv_room (Nat.le_of_ble_eq_true rfl)) dX1_packet_22 ⟨(Nat.le_of_ble_eq_true rfl), (Nat.le_of_ble_eq_true rfl)⟩) hP hD hS hA (cw_sb hj_5) (jn_same (cw_sb hj_5)) (fun H locs hP hD hS => ?_)
    cases hF
    refine W.widen (k := 0) (n := 0) (Nat.le_of_ble_eq_true rfl) (Nat.le_of_ble_eq_true rfl) ?_
    exact W.iret hx hb hr (fun t ht hW => ⟨⟨_, _, rfl, ⟨rfl, rfl⟩, by rw [ht]; exact hP, va_K.moved hW.alike hK, hD⟩, hS.F ht⟩) hS.2.2 dX1_packet_25
def F_P_spend (p1 : Int32) (u : CSt) : Option ((Int32) × CSt) := (if p1 < (0 : Int32) then some ((0 : Int32), u) else (if u.2.2.2.2.2.2.2.2.2.2.2.1 < p1 then some ((0 : Int32), u) else (if p1 ≤ ((2000000000 : Int32) - u.2.2.2.2.2.2.2.2.2.2.2.2.2.1) then some ((1 : Int32), (u.1, u.2.1, u.2.2.1, u.2.2.2.1, u.2.2.2.2.1, u.2.2.2.2.2.1, u.2.2.2.2.2.2.1, u.2.2.2.2.2.2.2.1, u.2.2.2.2.2.2.2.2.1, u.2.2.2.2.2.2.2.2.2.1, u.2.2.2.2.2.2.2.2.2.2.1, (u.2.2.2.2.2.2.2.2.2.2.2.1 - p1), u.2.2.2.2.2.2.2.2.2.2.2.2.1, (u.2.2.2.2.2.2.2.2.2.2.2.2.2.1 + p1), u.2.2.2.2.2.2.2.2.2.2.2.2.2.2)) else some ((0 : Int32), u))))
set_option maxHeartbeats 4000000 in
set_option maxRecDepth 100000 in
theorem c_P_spend (l : Launch) (D : va_G) (cI cR : ClassId) (ca qa : Nat → Nat) (sz : Nat) (p1 : Int32) (u : CSt) (r : Int32) (u' : CSt) (hF : F_P_spend p1 u = some (r, u')) : Met l yX1_spend wsX1_spend ({ frames := 0, cells := 0, slots := 0, locals := 0 }) (va_Pc [.ref (ca 0), .int p1] (PRE D (TY cI cR) (CW cI cR ca qa u) sz)) (QI D (TY cI cR) (va_A (CW cI cR ca qa u) sz) (fun v => CW cI cR ca qa v) r u') 0 0 (va_A (CW cI cR ca qa u) sz) := by
  refine Met.ofW (cc := cX1_spend) (maxL := 2) (ret := (some .boolean)) (by decide) rfl ?_
  intro p e s m args below meth c s₁ B hml hv
  obtain ⟨rfl, hsz, hP, hK, hD0⟩ := hv
  have hx := B.exec
  have hb := B.bytes
  have hr := B.returns
  have hts := atoms_spec (ws := wsX1_spend) B.pre
  have hown : s.vm.findClass RX1 = some m.cls := findClass_of_methodNamed B.named
  have hlocks := B.notSynchronized
  subst hsz
  have hD := hD0.self (sz := s.heap.size)
  generalize hAe : va_A (CW cI cR ca qa u) s.heap.size = A at hD ⊢
  have hA : ∀ q : Nat, s.heap.size ≤ q → A q := fun q h => by rw [← hAe]; exact Or.inr h
  have hS : va_S A s.heap s.heap [] := va_S.rf
  replace hP : va_P D vwCl (CW cI cR ca qa u) s.heap := hP
  have hl := lv_entry ([.ref (ca 0), .int p1]) (n := 2) (Nat.le_of_ble_eq_true rfl)
  rw [lg_entry_eq]
  generalize (lg_sl ([.ref (ca 0), .int p1]) ++ List.replicate (2 - (lg_sl ([.ref (ca 0), .int p1])).length) Slot.unset).toArray = ls at hl ⊢
  replace hl : lv_has ls 2 [(0, .ref (ca 0)), (1, .int p1)] := hl
  have hk_53 := (hts _ (cwc _ mw_48))
  have hC_100 := (hts _ (cwc _ mw_72))
  have hk_59 := (hts _ (cwc _ mw_50))
  unfold F_P_spend at hF
  refine (?_ : ∀ (H : Heap) (locs : List Loc), va_P D vwCl (CW cI cR ca qa u) H → va_S A s.heap H locs → W p l e _ s m _ below meth c H locs 0 0 _ (F0 m 0 ls [])) s.heap [] hP hS
  intro H locs hP hS
  refine lv_iload_n hx hb dX1_spend_0 rfl (lv_at hl 1 rfl) ?_
  refine lv_if_lt (tgt := 23) hx hb dX1_spend_1 (by decide) (fun c_1 => ?_) (fun c_1 => ?_)
  · replace hF := (if_pos c_1).symm.trans hF
    refine lv_iconst (v := (0 : Int32)) hx hb dX1_spend_23 (by decide +kernel) ?_
    cases hF
    refine W.widen (k := 0) (n := 0) (Nat.le_of_ble_eq_true rfl) (Nat.le_of_ble_eq_true rfl) ?_
    exact W.zret hx hb hr rfl (fun t ht hW => ⟨⟨_, _, rfl, ⟨rfl, rfl⟩, by rw [ht]; exact hP, va_K.moved hW.alike hK, hD⟩, hS.F ht⟩) hS.2.2 dX1_spend_24
  · replace hF := (if_neg c_1).symm.trans hF
    refine lv_iload_n hx hb dX1_spend_4 rfl (lv_at hl 1 rfl) ?_
    refine lv_aload_n hx hb dX1_spend_5 rfl (lv_at hl 0 rfl) ?_
    refine va_get (D := D) (ci := 1) (v := .int u.2.2.2.2.2.2.2.2.2.2.2.1) (C := RX1) (T := TX1) (N := 16) hx hb hts (fun w h => cwc w (in_X1 w h)) hown hK hP 0 rfl rfl 13 (by decide) hk_53 (fun _ h9 => h9) rfl dX1_spend_6 ?_
    refine lv_icmp_gt (tgt := 23) hx hb dX1_spend_9 (by decide) (fun c_2 => ?_) (fun c_2 => ?_)
    · replace hF := (if_pos c_2).symm.trans hF
      refine lv_iconst (v := (0 : Int32)) hx hb dX1_spend_23 (by decide +kernel) ?_
      cases hF
      refine W.widen (k := 0) (n := 0) (Nat.le_of_ble_eq_true rfl) (Nat.le_of_ble_eq_true rfl) ?_
      exact W.zret hx hb hr rfl (fun t ht hW => ⟨⟨_, _, rfl, ⟨rfl, rfl⟩, by rw [ht]; exact hP, va_K.moved hW.alike hK, hD⟩, hS.F ht⟩) hS.2.2 dX1_spend_24
    · replace hF := (if_neg c_2).symm.trans hF
      refine lv_iload_n hx hb dX1_spend_12 rfl (lv_at hl 1 rfl) ?_
      refine lv_ldc (v := (2000000000 : Int32)) hx hb hown hC_100 dX1_spend_13 ?_
      refine lv_aload_n hx hb dX1_spend_15 rfl (lv_at hl 0 rfl) ?_
      refine va_get (D := D) (ci := 1) (v := .int u.2.2.2.2.2.2.2.2.2.2.2.2.2.1) (C := RX1) (T := TX1) (N := 16) hx hb hts (fun w h => cwc w (in_X1 w h)) hown hK hP 0 rfl rfl 15 (by decide) hk_59 (fun _ h9 => h9) rfl dX1_spend_16 ?_
      refine lv_isub hx hb dX1_spend_19 ?_
      refine lv_icmp_le (tgt := 25) hx hb dX1_spend_20 (by decide) (fun c_3 => ?_) (fun c_3 => ?_)
      · replace hF := (if_pos c_3).symm.trans hF
        refine lv_aload_n hx hb dX1_spend_25 rfl (lv_at hl 0 rfl) ?_
        refine lv_dup hx hb dX1_spend_26 rfl ?_
        refine va_get (D := D) (ci := 1) (v := .int u.2.2.2.2.2.2.2.2.2.2.2.1) (C := RX1) (T := TX1) (N := 16) hx hb hts (fun w h => cwc w (in_X1 w h)) hown hK hP 0 rfl rfl 13 (by decide) hk_53 (fun _ h9 => h9) rfl dX1_spend_27 ?_
        refine lv_iload_n hx hb dX1_spend_30 rfl (lv_at hl 1 rfl) ?_
        refine lv_isub hx hb dX1_spend_31 ?_
        refine va_put (D := D) (ci := 1) (v := .int (u.2.2.2.2.2.2.2.2.2.2.2.1 - p1)) (ty := .int) (C := RX1) (T := TX1) (N := 16) hx hb hts (fun w h => cwc w (in_X1 w h)) tyX1 tyX1_ok nmX1 hown hK hP hD hS 0 rfl rfl 13 (by decide) hk_53 (fun _ h9 => h9) rfl (by decide +kernel) rfl rfl (Nat.le_of_ble_eq_true rfl) dX1_spend_32 (fun H locs hP hD hS => ?_)
        replace hP : va_P D vwCl (CW cI cR ca qa (u.1, u.2.1, u.2.2.1, u.2.2.2.1, u.2.2.2.2.1, u.2.2.2.2.2.1, u.2.2.2.2.2.2.1, u.2.2.2.2.2.2.2.1, u.2.2.2.2.2.2.2.2.1, u.2.2.2.2.2.2.2.2.2.1, u.2.2.2.2.2.2.2.2.2.2.1, (u.2.2.2.2.2.2.2.2.2.2.2.1 - p1), u.2.2.2.2.2.2.2.2.2.2.2.2.1, u.2.2.2.2.2.2.2.2.2.2.2.2.2.1, u.2.2.2.2.2.2.2.2.2.2.2.2.2.2)) H := hP
        replace hD : va_D A (CW cI cR ca qa (u.1, u.2.1, u.2.2.1, u.2.2.2.1, u.2.2.2.2.1, u.2.2.2.2.2.1, u.2.2.2.2.2.2.1, u.2.2.2.2.2.2.2.1, u.2.2.2.2.2.2.2.2.1, u.2.2.2.2.2.2.2.2.2.1, u.2.2.2.2.2.2.2.2.2.2.1, (u.2.2.2.2.2.2.2.2.2.2.2.1 - p1), u.2.2.2.2.2.2.2.2.2.2.2.2.1, u.2.2.2.2.2.2.2.2.2.2.2.2.2.1, u.2.2.2.2.2.2.2.2.2.2.2.2.2.2)) := hD
        refine lv_aload_n hx hb dX1_spend_35 rfl (lv_at hl 0 rfl) ?_
        refine lv_dup hx hb dX1_spend_36 rfl ?_
        refine va_get (D := D) (ci := 1) (v := .int u.2.2.2.2.2.2.2.2.2.2.2.2.2.1) (C := RX1) (T := TX1) (N := 16) hx hb hts (fun w h => cwc w (in_X1 w h)) hown hK hP 0 rfl rfl 15 (by decide) hk_59 (fun _ h9 => h9) rfl dX1_spend_37 ?_
        refine lv_iload_n hx hb dX1_spend_40 rfl (lv_at hl 1 rfl) ?_
        refine lv_iadd hx hb dX1_spend_41 ?_
        refine va_put (D := D) (ci := 1) (v := .int (u.2.2.2.2.2.2.2.2.2.2.2.2.2.1 + p1)) (ty := .int) (C := RX1) (T := TX1) (N := 16) hx hb hts (fun w h => cwc w (in_X1 w h)) tyX1 tyX1_ok nmX1 hown hK hP hD hS 0 rfl rfl 15 (by decide) hk_59 (fun _ h9 => h9) rfl (by decide +kernel) rfl rfl (Nat.le_of_ble_eq_true rfl) dX1_spend_42 (fun H locs hP hD hS => ?_)
        replace hP : va_P D vwCl (CW cI cR ca qa (u.1, u.2.1, u.2.2.1, u.2.2.2.1, u.2.2.2.2.1, u.2.2.2.2.2.1, u.2.2.2.2.2.2.1, u.2.2.2.2.2.2.2.1, u.2.2.2.2.2.2.2.2.1, u.2.2.2.2.2.2.2.2.2.1, u.2.2.2.2.2.2.2.2.2.2.1, (u.2.2.2.2.2.2.2.2.2.2.2.1 - p1), u.2.2.2.2.2.2.2.2.2.2.2.2.1, (u.2.2.2.2.2.2.2.2.2.2.2.2.2.1 + p1), u.2.2.2.2.2.2.2.2.2.2.2.2.2.2)) H := hP
        replace hD : va_D A (CW cI cR ca qa (u.1, u.2.1, u.2.2.1, u.2.2.2.1, u.2.2.2.2.1, u.2.2.2.2.2.1, u.2.2.2.2.2.2.1, u.2.2.2.2.2.2.2.1, u.2.2.2.2.2.2.2.2.1, u.2.2.2.2.2.2.2.2.2.1, u.2.2.2.2.2.2.2.2.2.2.1, (u.2.2.2.2.2.2.2.2.2.2.2.1 - p1), u.2.2.2.2.2.2.2.2.2.2.2.2.1, (u.2.2.2.2.2.2.2.2.2.2.2.2.2.1 + p1), u.2.2.2.2.2.2.2.2.2.2.2.2.2.2)) := hD
        refine lv_iconst (v := (1 : Int32)) hx hb dX1_spend_45 (by decide +kernel) ?_
        cases hF
        refine W.widen (k := 0) (n := 0) (Nat.le_of_ble_eq_true rfl) (Nat.le_of_ble_eq_true rfl) ?_
        exact W.zret hx hb hr rfl (fun t ht hW => ⟨⟨_, _, rfl, ⟨rfl, rfl⟩, by rw [ht]; exact hP, va_K.moved hW.alike hK, hD⟩, hS.F ht⟩) hS.2.2 dX1_spend_46
      · replace hF := (if_neg c_3).symm.trans hF
        refine lv_iconst (v := (0 : Int32)) hx hb dX1_spend_23 (by decide +kernel) ?_
        cases hF
        refine W.widen (k := 0) (n := 0) (Nat.le_of_ble_eq_true rfl) (Nat.le_of_ble_eq_true rfl) ?_
        exact W.zret hx hb hr rfl (fun t ht hW => ⟨⟨_, _, rfl, ⟨rfl, rfl⟩, by rw [ht]; exact hP, va_K.moved hW.alike hK, hD⟩, hS.F ht⟩) hS.2.2 dX1_spend_24
def F_P_dump (p1 : Int32) (u : CSt) : Option ((Nat ⊕ Int32) × CSt) := bi (F_P_checkWagon p1 ()) (fun or2 u1 => ox or2 (fun e_4 => some (.inl e_4, u)) (fun _ => gd (inb p1 16) (bi (F_Row_total (u.2.2.2.2.2.2.2.2.2.2.2.2.2.2 (32 + p1.toNatClampNeg))) (fun r9 u8 => gd (inb p1 16) (bi (F_Row_clear (u.2.2.2.2.2.2.2.2.2.2.2.2.2.2 (32 + p1.toNatClampNeg))) (fun r14 u13 => gd (inb p1 16) (gd (inb (u.2.2.2.2.2.1 p1.toNatClampNeg) 4) (gd (inb (u.2.2.2.2.2.1 p1.toNatClampNeg) 4) (some ((.inr r9), (u.1, u.2.1, u.2.2.1, u.2.2.2.1, u.2.2.2.2.1, u.2.2.2.2.2.1, u.2.2.2.2.2.2.1, u.2.2.2.2.2.2.2.1, u.2.2.2.2.2.2.2.2.1, (upd u.2.2.2.2.2.2.2.2.2.1 (u.2.2.2.2.2.1 p1.toNatClampNeg).toNatClampNeg ((u.2.2.2.2.2.2.2.2.2.1 (u.2.2.2.2.2.1 p1.toNatClampNeg).toNatClampNeg) + r9)), u.2.2.2.2.2.2.2.2.2.2.1, u.2.2.2.2.2.2.2.2.2.2.2.1, u.2.2.2.2.2.2.2.2.2.2.2.2.1, u.2.2.2.2.2.2.2.2.2.2.2.2.2.1, (va_up u.2.2.2.2.2.2.2.2.2.2.2.2.2.2 (32 + p1.toNatClampNeg) u13))))))))))))
set_option maxHeartbeats 4000000 in
set_option maxRecDepth 100000 in
theorem c_P_dump (l : Launch) (hl9 : l.stackTraces = false) (D : va_G) (cI cR : ClassId) (sa : Nat → Nat) (ca qa : Nat → Nat) (sz : Nat) (p1 : Int32) (u : CSt) (r : Nat ⊕ Int32) (u' : CSt) (hF : F_P_dump p1 u = some (r, u')) : vx_Met l yX1_dump wsX1_dump ({ frames := 7, cells := 1, slots := 6, locals := 102 }) (va_Pc [.ref (ca 0), .int p1] (PREX D (TY cI cR) (CW cI cR ca qa u) sz sa)) (XI D (TY cI cR) (va_A (CW cI cR ca qa u) sz) (fun v => CW cI cR ca qa v) r u') (XX D (TY cI cR) (va_A (CW cI cR ca qa u) sz) (fun v => CW cI cR ca qa v) r u') 1 6 (va_A (CW cI cR ca qa u) sz) := by
  refine vx_ofW (cc := cX1_dump) (maxL := 3) (ret := (some .int)) (by decide) rfl ?_
  intro p e s m args below meth c s₁ B hml hnx hv
  obtain ⟨rfl, ⟨hsz, hP, hK, hD0⟩, hXK⟩ := hv
  have hx := B.exec
  have hb := B.bytes
  have hr := B.returns
  have hts := atoms_spec (ws := wsX1_dump) B.pre
  have hown : s.vm.findClass RX1 = some m.cls := findClass_of_methodNamed B.named
  have hlocks := B.notSynchronized
  subst hsz
  have hD := hD0.self (sz := s.heap.size)
  generalize hAe : va_A (CW cI cR ca qa u) s.heap.size = A at hD hXK ⊢
  have hA : ∀ q : Nat, s.heap.size ≤ q → A q := fun q h => by rw [← hAe]; exact Or.inr h
  have hS : va_S A s.heap s.heap [] := va_S.rf
  replace hP : va_P D vwCl (CW cI cR ca qa u) s.heap := hP
  have hl := lv_entry ([.ref (ca 0), .int p1]) (n := 3) (Nat.le_of_ble_eq_true rfl)
  rw [lg_entry_eq]
  generalize (lg_sl ([.ref (ca 0), .int p1]) ++ List.replicate (3 - (lg_sl ([.ref (ca 0), .int p1])).length) Slot.unset).toArray = ls at hl ⊢
  replace hl : lv_has ls 3 [(0, .ref (ca 0)), (1, .int p1)] := hl
  have hk_31 := (hts _ (cwc _ mw_41))
  have hk_46 := (hts _ (cwc _ mw_46))
  have hk_34 := (hts _ (cwc _ mw_42))
  obtain ⟨hXU, hXN, hXc1, hXc2, hXd1, hXd2, hXd3, hXn, -⟩ := id hXK
  unfold F_P_dump at hF
  refine (?_ : ∀ (H : Heap) (locs : List Loc), va_P D vwCl (CW cI cR ca qa u) H → va_S A s.heap H locs → W p l e _ s m _ below meth c H locs 0 0 _ (F0 m 0 ls [])) s.heap [] hP hS
  intro H locs hP hS
  refine lv_iload_n hx hb dX1_dump_0 rfl (lv_at hl 1 rfl) ?_
  obtain ⟨or2, u1, hc_3, hF⟩ := bi_some hF
  refine kx_v (W1 := CW cI cR ca qa u) (vx_runS (As := [.int p1]) (rest := []) ⟨hx, hb, hml, hown, hts⟩ (c_P_checkWagon l hl9 D cI cR sa  H.size p1 () or2 u1 hc_3) (va_cwS 1 hts (gS cwc mw_224 mw_225 mw_1 mw_226) rfl rfl rfl (by decide +kernel) ⟨(Nat.le_of_ble_eq_true rfl), (Nat.le_of_ble_eq_true rfl)⟩) (kpX_S hXK hK hP hD hS hA (sb_nil _)) rfl rfl hl.1 rfl (lv_room (Nat.le_of_ble_eq_true rfl)) dX1_dump_1 ⟨(Nat.le_of_ble_eq_true rfl), (Nat.le_of_ble_eq_true rfl)⟩) hP hD hS hA (sb_nil _) (jn_nil _) (fun e_4 ce q9 H locs ho_5 hP hD hS hce hcv hcl => ?_) (fun H locs ho_5 hP hD hS => ?_)
  · subst ho_5
    replace hF := ox_l hF
    cases hF
    exact kx_out hnx hlocks hK hP hD hS hce hcv hcl rfl (Nat.le_of_ble_eq_true rfl) (Nat.le_of_ble_eq_true rfl)
  · subst ho_5
    replace hF := ox_r hF
    refine lv_aload_n hx hb dX1_dump_4 rfl (lv_at hl 0 rfl) ?_
    refine va_get (D := D) (ci := 1) (v := .ref (ca 7)) (C := RX1) (T := TX1) (N := 16) hx hb hts (fun w h => cwc w (in_X1 w h)) hown hK hP 0 rfl rfl 6 (by decide) hk_31 (fun _ h9 => h9) rfl dX1_dump_5 ?_
    refine lv_iload_n hx hb dX1_dump_8 rfl (lv_at hl 1 rfl) ?_
    obtain ⟨h_6, hF⟩ := gd_some hF
    refine va_aldq hx hb hK hP 7 1 rfl rfl (inb_in h_6) dX1_dump_9 ?_
    refine W.eq (g2 := F0 m 10 ls [.ref (qa (4 * (32 + p1.toNatClampNeg)))]) rfl ?_
    have hj_7 : (32 + p1.toNatClampNeg) < 48 := by have := inb_lt h_6; omega
    obtain ⟨r9, u8, hc_10, hF⟩ := bi_some hF
    refine kc_i (W1 := CW cI cR ca qa u) (va_runV (As := []) (rest := []) ⟨hx, hb, hml, hown, hts⟩ (c_Row_total l D cI cR (qa (4 * (32 + p1.toNatClampNeg))) (qa (4 * (32 + p1.toNatClampNeg) + 1)) (qa (4 * (32 + p1.toNatClampNeg) + 2)) (qa (4 * (32 + p1.toNatClampNeg) + 3)) H.size  (u.2.2.2.2.2.2.2.2.2.2.2.2.2.2 (32 + p1.toNatClampNeg)) r9 u8 hc_10) (cwV 0 hts (gV cwc mw_97 mw_98 mw_99 mw_2 mw_100) rfl rfl rfl (by decide +kernel) ⟨(Nat.le_of_ble_eq_true rfl), (Nat.le_of_ble_eq_true rfl)⟩) (kp_V (ci := 0) (q := (RX0, TX0, 5)) hK hP hD (cw_sb hj_7) rfl rfl) rfl rfl hl.1 rfl (lv_room (Nat.le_of_ble_eq_true rfl)) dX1_dump_10 ⟨(Nat.le_of_ble_eq_true rfl), (Nat.le_of_ble_eq_true rfl)⟩) hP hD hS hA (cw_sb hj_7) (jn_same (cw_sb hj_7)) (fun H locs hP hD hS => ?_)
    refine lv_istore_n (lv' := [(2, .int r9), (0, .ref (ca 0)), (1, .int p1)]) hx hb dX1_dump_13 rfl hl (by decide) rfl (fun ls hl => ?_)
    refine lv_aload_n hx hb dX1_dump_14 rfl (lv_at hl 1 rfl) ?_
    refine va_get (D := D) (ci := 1) (v := .ref (ca 7)) (C := RX1) (T := TX1) (N := 16) hx hb hts (fun w h => cwc w (in_X1 w h)) hown hK hP 0 rfl rfl 6 (by decide) hk_31 (fun _ h9 => h9) rfl dX1_dump_15 ?_
    refine lv_iload_n hx hb dX1_dump_18 rfl (lv_at hl 2 rfl) ?_
    obtain ⟨h_11, hF⟩ := gd_some hF
    refine va_aldq hx hb hK hP 7 1 rfl rfl (inb_in h_11) dX1_dump_19 ?_
    refine W.eq (g2 := F0 m 20 ls [.ref (qa (4 * (32 + p1.toNatClampNeg)))]) rfl ?_
    have hj_12 : (32 + p1.toNatClampNeg) < 48 := by have := inb_lt h_11; omega
    obtain ⟨r14, u13, hc_15, hF⟩ := bi_some hF
    refine kc_v (W1 := CW cI cR ca qa (u.1, u.2.1, u.2.2.1, u.2.2.2.1, u.2.2.2.2.1, u.2.2.2.2.2.1, u.2.2.2.2.2.2.1, u.2.2.2.2.2.2.2.1, u.2.2.2.2.2.2.2.2.1, u.2.2.2.2.2.2.2.2.2.1, u.2.2.2.2.2.2.2.2.2.2.1, u.2.2.2.2.2.2.2.2.2.2.2.1, u.2.2.2.2.2.2.2.2.2.2.2.2.1, u.2.2.2.2.2.2.2.2.2.2.2.2.2.1, (va_up u.2.2.2.2.2.2.2.2.2.2.2.2.2.2 (32 + p1.toNatClampNeg) u13))) (va_runV (As := []) (rest := []) ⟨hx, hb, hml, hown, hts⟩ (c_Row_clear l D cI cR (qa (4 * (32 + p1.toNatClampNeg))) (qa (4 * (32 + p1.toNatClampNeg) + 1)) (qa (4 * (32 + p1.toNatClampNeg) + 2)) (qa (4 * (32 + p1.toNatClampNeg) + 3)) H.size  (u.2.2.2.2.2.2.2.2.2.2.2.2.2.2 (32 + p1.toNatClampNeg)) r14 u13 hc_15) (cwV 0 hts (gV cwc mw_324 mw_325 mw_326 mw_2 mw_327) rfl rfl rfl (by decide +kernel) ⟨(Nat.le_of_ble_eq_true rfl), (Nat.le_of_ble_eq_true rfl)⟩) (kp_V (ci := 0) (q := (RX0, TX0, 5)) hK hP hD (cw_sb hj_12) rfl rfl) rfl rfl hl.1 rfl (lv_room (Nat.le_of_ble_eq_true rfl)) dX1_dump_20 ⟨(Nat.le_of_ble_eq_true rfl), (Nat.le_of_ble_eq_true rfl)⟩) hP hD hS hA (cw_sb hj_12) (cw_jn hj_12) (fun H locs hP hD hS => ?_)
    refine lv_aload_n hx hb dX1_dump_23 rfl (lv_at hl 1 rfl) ?_
    refine va_get (D := D) (ci := 1) (v := .ref (ca 12)) (C := RX1) (T := TX1) (N := 16) hx hb hts (fun w h => cwc w (in_X1 w h)) hown hK hP 0 rfl rfl 11 (by decide) hk_46 (fun _ h9 => h9) rfl dX1_dump_24 ?_
    refine lv_aload_n hx hb dX1_dump_27 rfl (lv_at hl 1 rfl) ?_
    refine va_get (D := D) (ci := 1) (v := .ref (ca 8)) (C := RX1) (T := TX1) (N := 16) hx hb hts (fun w h => cwc w (in_X1 w h)) hown hK hP 0 rfl rfl 7 (by decide) hk_34 (fun _ h9 => h9) rfl dX1_dump_28 ?_
    refine lv_iload_n hx hb dX1_dump_31 rfl (lv_at hl 2 rfl) ?_
    obtain ⟨h_16, hF⟩ := gd_some hF
    refine va_iald (f := u.2.2.2.2.2.1) hx hb hK hP 8 0 rfl rfl (inb_in h_16) dX1_dump_32 ?_
    refine lv_dup2_11 hx hb dX1_dump_33 rfl rfl ?_
    obtain ⟨h_17, hF⟩ := gd_some hF
    refine va_iald (f := u.2.2.2.2.2.2.2.2.2.1) hx hb hK hP 12 0 rfl rfl (inb_in h_17) dX1_dump_34 ?_
    refine lv_iload_n hx hb dX1_dump_35 rfl (lv_at hl 0 rfl) ?_
    refine lv_iadd hx hb dX1_dump_36 ?_
    obtain ⟨h_18, hF⟩ := gd_some hF
    refine va_iast (f := u.2.2.2.2.2.2.2.2.2.1) hx hb hK hP hD hS 12 0 rfl rfl (inb_in h_18) dX1_dump_37 (fun H locs hP hD hS => ?_)
    replace hP : va_P D vwCl (CW cI cR ca qa (u.1, u.2.1, u.2.2.1, u.2.2.2.1, u.2.2.2.2.1, u.2.2.2.2.2.1, u.2.2.2.2.2.2.1, u.2.2.2.2.2.2.2.1, u.2.2.2.2.2.2.2.2.1, (upd u.2.2.2.2.2.2.2.2.2.1 (u.2.2.2.2.2.1 p1.toNatClampNeg).toNatClampNeg ((u.2.2.2.2.2.2.2.2.2.1 (u.2.2.2.2.2.1 p1.toNatClampNeg).toNatClampNeg) + r9)), u.2.2.2.2.2.2.2.2.2.2.1, u.2.2.2.2.2.2.2.2.2.2.2.1, u.2.2.2.2.2.2.2.2.2.2.2.2.1, u.2.2.2.2.2.2.2.2.2.2.2.2.2.1, (va_up u.2.2.2.2.2.2.2.2.2.2.2.2.2.2 (32 + p1.toNatClampNeg) u13))) H := hP
    replace hD : va_D A (CW cI cR ca qa (u.1, u.2.1, u.2.2.1, u.2.2.2.1, u.2.2.2.2.1, u.2.2.2.2.2.1, u.2.2.2.2.2.2.1, u.2.2.2.2.2.2.2.1, u.2.2.2.2.2.2.2.2.1, (upd u.2.2.2.2.2.2.2.2.2.1 (u.2.2.2.2.2.1 p1.toNatClampNeg).toNatClampNeg ((u.2.2.2.2.2.2.2.2.2.1 (u.2.2.2.2.2.1 p1.toNatClampNeg).toNatClampNeg) + r9)), u.2.2.2.2.2.2.2.2.2.2.1, u.2.2.2.2.2.2.2.2.2.2.2.1, u.2.2.2.2.2.2.2.2.2.2.2.2.1, u.2.2.2.2.2.2.2.2.2.2.2.2.2.1, (va_up u.2.2.2.2.2.2.2.2.2.2.2.2.2.2 (32 + p1.toNatClampNeg) u13))) := hD
    refine lv_iload_n hx hb dX1_dump_38 rfl (lv_at hl 0 rfl) ?_
    cases hF
    refine vx_ret ?_
    refine W.widen (k := 1) (n := 6) (Nat.le_of_ble_eq_true rfl) (Nat.le_of_ble_eq_true rfl) ?_
    exact W.iret hx hb hr (fun t ht hW => ⟨⟨_, _, rfl, ⟨rfl, rfl⟩, by rw [ht]; exact hP, va_K.moved hW.alike hK, hD⟩, hS.F ht⟩) hS.2.2 dX1_dump_39
def F_P_part (p1 : Int32) (p2 : Int32) (p3 : Int32) (u : CSt) : Option ((Nat ⊕ Unit) × CSt) := bi (F_P_checkWagon p1 ()) (fun or2 u1 => ox or2 (fun e_4 => some (.inl e_4, u)) (fun _ => bi (F_P_checkWagon p3 ()) (fun or7 u6 => ox or7 (fun e_9 => some (.inl e_9, u)) (fun _ => bi (F_P_checkNotBelowZero p2 ()) (fun or12 u11 => ox or12 (fun e_14 => some (.inl e_14, u)) (fun _ => bi (F_P_checkFellows p1 p3 u) (fun or17 u16 => ox or17 (fun e_19 => some (.inl e_19, u)) (fun _ => gd (inb p3 16) (bi (F_Row_total (u.2.2.2.2.2.2.2.2.2.2.2.2.2.2 (32 + p3.toNatClampNeg))) (fun r24 u23 => (if r24 ≤ (0 : Int32) then gd (inb p1 16) (bi (F_Row_total (u.2.2.2.2.2.2.2.2.2.2.2.2.2.2 (32 + p1.toNatClampNeg))) (fun r30 u29 => gd (inb p3 16) ((if (r30 - p2) ≤ (u.2.2.2.2.2.2.1 p3.toNatClampNeg) then gd (inb p1 16) (gd (inb p3 16) (gd (decide (¬ (32 + p1.toNatClampNeg) = (32 + p3.toNatClampNeg))) (bi (F_Row_moveAllBehind p2 (u.2.2.2.2.2.2.2.2.2.2.2.2.2.2 (32 + p1.toNatClampNeg), u.2.2.2.2.2.2.2.2.2.2.2.2.2.2 (32 + p3.toNatClampNeg))) (fun r39 u38 => some ((.inr ()), (u.1, u.2.1, u.2.2.1, u.2.2.2.1, u.2.2.2.2.1, u.2.2.2.2.2.1, u.2.2.2.2.2.2.1, u.2.2.2.2.2.2.2.1, u.2.2.2.2.2.2.2.2.1, u.2.2.2.2.2.2.2.2.2.1, u.2.2.2.2.2.2.2.2.2.2.1, u.2.2.2.2.2.2.2.2.2.2.2.1, u.2.2.2.2.2.2.2.2.2.2.2.2.1, u.2.2.2.2.2.2.2.2.2.2.2.2.2.1, (va_up (va_up u.2.2.2.2.2.2.2.2.2.2.2.2.2.2 (32 + p1.toNatClampNeg) u38.1) (32 + p3.toNatClampNeg) u38.2))))))) else some (.inl 2, u))))) else some (.inl 2, u))))))))))))
set_option maxHeartbeats 4000000 in
set_option maxRecDepth 100000 in
theorem c_P_part (l : Launch) (hl9 : l.stackTraces = false) (D : va_G) (cI cR : ClassId) (sa : Nat → Nat) (ca qa : Nat → Nat) (sz : Nat) (p1 : Int32) (p2 : Int32) (p3 : Int32) (u : CSt) (r : Nat ⊕ Unit) (u' : CSt) (hF : F_P_part p1 p2 p3 u = some (r, u')) : vx_Met l yX1_part wsX1_part ({ frames := 7, cells := 5, slots := 30, locals := 104 }) (va_Pc [.ref (ca 0), .int p1, .int p2, .int p3] (PREX D (TY cI cR) (CW cI cR ca qa u) sz sa)) (XV D (TY cI cR) (va_A (CW cI cR ca qa u) sz) (fun v => CW cI cR ca qa v) r u') (XX D (TY cI cR) (va_A (CW cI cR ca qa u) sz) (fun v => CW cI cR ca qa v) r u') 5 30 (va_A (CW cI cR ca qa u) sz) := by
  refine vx_ofW (cc := cX1_part) (maxL := 4) (ret := none) (by decide) rfl ?_
  intro p e s m args below meth c s₁ B hml hnx hv
  obtain ⟨rfl, ⟨hsz, hP, hK, hD0⟩, hXK⟩ := hv
  have hx := B.exec
  have hb := B.bytes
  have hr := B.returns
  have hts := atoms_spec (ws := wsX1_part) B.pre
  have hown : s.vm.findClass RX1 = some m.cls := findClass_of_methodNamed B.named
  have hlocks := B.notSynchronized
  subst hsz
  have hD := hD0.self (sz := s.heap.size)
  generalize hAe : va_A (CW cI cR ca qa u) s.heap.size = A at hD hXK ⊢
  have hA : ∀ q : Nat, s.heap.size ≤ q → A q := fun q h => by rw [← hAe]; exact Or.inr h
  have hS : va_S A s.heap s.heap [] := va_S.rf
  replace hP : va_P D vwCl (CW cI cR ca qa u) s.heap := hP
  have hl := lv_entry ([.ref (ca 0), .int p1, .int p2, .int p3]) (n := 4) (Nat.le_of_ble_eq_true rfl)
  rw [lg_entry_eq]
  generalize (lg_sl ([.ref (ca 0), .int p1, .int p2, .int p3]) ++ List.replicate (4 - (lg_sl ([.ref (ca 0), .int p1, .int p2, .int p3])).length) Slot.unset).toArray = ls at hl ⊢
  replace hl : lv_has ls 4 [(0, .ref (ca 0)), (1, .int p1), (2, .int p2), (3, .int p3)] := hl
  have hk_31 := (hts _ (cwc _ mw_41))
  have hk_37 := (hts _ (cwc _ mw_43))
  obtain ⟨hXU, hXN, hXc1, hXc2, hXd1, hXd2, hXd3, hXn, -⟩ := id hXK
  unfold F_P_part at hF
  refine (?_ : ∀ (H : Heap) (locs : List Loc), va_P D vwCl (CW cI cR ca qa u) H → va_S A s.heap H locs → W p l e _ s m _ below meth c H locs 0 0 _ (F0 m 0 ls [])) s.heap [] hP hS
  intro H locs hP hS
  refine lv_iload_n hx hb dX1_part_0 rfl (lv_at hl 1 rfl) ?_
  obtain ⟨or2, u1, hc_3, hF⟩ := bi_some hF
  refine kx_v (W1 := CW cI cR ca qa u) (vx_runS (As := [.int p1]) (rest := []) ⟨hx, hb, hml, hown, hts⟩ (c_P_checkWagon l hl9 D cI cR sa  H.size p1 () or2 u1 hc_3) (va_cwS 1 hts (gS cwc mw_224 mw_225 mw_1 mw_226) rfl rfl rfl (by decide +kernel) ⟨(Nat.le_of_ble_eq_true rfl), (Nat.le_of_ble_eq_true rfl)⟩) (kpX_S hXK hK hP hD hS hA (sb_nil _)) rfl rfl hl.1 rfl (lv_room (Nat.le_of_ble_eq_true rfl)) dX1_part_1 ⟨(Nat.le_of_ble_eq_true rfl), (Nat.le_of_ble_eq_true rfl)⟩) hP hD hS hA (sb_nil _) (jn_nil _) (fun e_4 ce q9 H locs ho_5 hP hD hS hce hcv hcl => ?_) (fun H locs ho_5 hP hD hS => ?_)
  · subst ho_5
    replace hF := ox_l hF
    cases hF
    exact kx_out hnx hlocks hK hP hD hS hce hcv hcl rfl (Nat.le_of_ble_eq_true rfl) (Nat.le_of_ble_eq_true rfl)
  · subst ho_5
    replace hF := ox_r hF
    refine lv_iload_n hx hb dX1_part_4 rfl (lv_at hl 3 rfl) ?_
    obtain ⟨or7, u6, hc_8, hF⟩ := bi_some hF
    refine kx_v (W1 := CW cI cR ca qa u) (vx_runS (As := [.int p3]) (rest := []) ⟨hx, hb, hml, hown, hts⟩ (c_P_checkWagon l hl9 D cI cR sa  H.size p3 () or7 u6 hc_8) (va_cwS 1 hts (gS cwc mw_224 mw_225 mw_1 mw_226) rfl rfl rfl (by decide +kernel) ⟨(Nat.le_of_ble_eq_true rfl), (Nat.le_of_ble_eq_true rfl)⟩) (kpX_S hXK hK hP hD hS hA (sb_nil _)) rfl rfl hl.1 rfl (lv_room (Nat.le_of_ble_eq_true rfl)) dX1_part_5 ⟨(Nat.le_of_ble_eq_true rfl), (Nat.le_of_ble_eq_true rfl)⟩) hP hD hS hA (sb_nil _) (jn_nil _) (fun e_9 ce q9 H locs ho_10 hP hD hS hce hcv hcl => ?_) (fun H locs ho_10 hP hD hS => ?_)
    · subst ho_10
      replace hF := ox_l hF
      cases hF
      exact kx_out hnx hlocks hK hP hD hS hce hcv hcl rfl (Nat.le_of_ble_eq_true rfl) (Nat.le_of_ble_eq_true rfl)
    · subst ho_10
      replace hF := ox_r hF
      refine lv_iload_n hx hb dX1_part_8 rfl (lv_at hl 2 rfl) ?_
      obtain ⟨or12, u11, hc_13, hF⟩ := bi_some hF
      refine kx_v (W1 := CW cI cR ca qa u) (vx_runS (As := [.int p2]) (rest := []) ⟨hx, hb, hml, hown, hts⟩ (c_P_checkNotBelowZero l hl9 D cI cR sa  H.size p2 () or12 u11 hc_13) (va_cwS 1 hts (gS cwc mw_257 mw_258 mw_1 mw_259) rfl rfl rfl (by decide +kernel) ⟨(Nat.le_of_ble_eq_true rfl), (Nat.le_of_ble_eq_true rfl)⟩) (kpX_S hXK hK hP hD hS hA (sb_nil _)) rfl rfl hl.1 rfl (lv_room (Nat.le_of_ble_eq_true rfl)) dX1_part_9 ⟨(Nat.le_of_ble_eq_true rfl), (Nat.le_of_ble_eq_true rfl)⟩) hP hD hS hA (sb_nil _) (jn_nil _) (fun e_14 ce q9 H locs ho_15 hP hD hS hce hcv hcl => ?_) (fun H locs ho_15 hP hD hS => ?_)
      · subst ho_15
        replace hF := ox_l hF
        cases hF
        exact kx_out hnx hlocks hK hP hD hS hce hcv hcl rfl (Nat.le_of_ble_eq_true rfl) (Nat.le_of_ble_eq_true rfl)
      · subst ho_15
        replace hF := ox_r hF
        refine lv_aload_n hx hb dX1_part_12 rfl (lv_at hl 0 rfl) ?_
        refine lv_iload_n hx hb dX1_part_13 rfl (lv_at hl 1 rfl) ?_
        refine lv_iload_n hx hb dX1_part_14 rfl (lv_at hl 3 rfl) ?_
        obtain ⟨or17, u16, hc_18, hF⟩ := bi_some hF
        refine kx_v (W1 := CW cI cR ca qa u) (vx_runV (As := [.int p1, .int p3]) (rest := []) ⟨hx, hb, hml, hown, hts⟩ (c_P_checkFellows l hl9 D cI cR sa ca qa H.size p1 p3 u or17 u16 hc_18) (cwV 2 hts (gV cwc mw_303 mw_304 mw_484 mw_1 mw_305) rfl rfl rfl (by decide +kernel) ⟨(Nat.le_of_ble_eq_true rfl), (Nat.le_of_ble_eq_true rfl)⟩) (kpX_V (ci := 1) (q := (RX1, TX1, 16)) hXK hK hP hD hS hA (sb_id _) rfl rfl) rfl rfl hl.1 rfl (lv_room (Nat.le_of_ble_eq_true rfl)) dX1_part_15 ⟨(Nat.le_of_ble_eq_true rfl), (Nat.le_of_ble_eq_true rfl)⟩) hP hD hS hA (sb_id _) (jn_same (sb_id _)) (fun e_19 ce q9 H locs ho_20 hP hD hS hce hcv hcl => ?_) (fun H locs ho_20 hP hD hS => ?_)
        · subst ho_20
          replace hF := ox_l hF
          cases hF
          exact kx_out hnx hlocks hK hP hD hS hce hcv hcl rfl (Nat.le_of_ble_eq_true rfl) (Nat.le_of_ble_eq_true rfl)
        · subst ho_20
          replace hF := ox_r hF
          refine lv_aload_n hx hb dX1_part_18 rfl (lv_at hl 0 rfl) ?_
          refine va_get (D := D) (ci := 1) (v := .ref (ca 7)) (C := RX1) (T := TX1) (N := 16) hx hb hts (fun w h => cwc w (in_X1 w h)) hown hK hP 0 rfl rfl 6 (by decide) hk_31 (fun _ h9 => h9) rfl dX1_part_19 ?_
          refine lv_iload_n hx hb dX1_part_22 rfl (lv_at hl 3 rfl) ?_
          obtain ⟨h_21, hF⟩ := gd_some hF
          refine va_aldq hx hb hK hP 7 1 rfl rfl (inb_in h_21) dX1_part_23 ?_
          refine W.eq (g2 := F0 m 24 ls [.ref (qa (4 * (32 + p3.toNatClampNeg)))]) rfl ?_
          have hj_22 : (32 + p3.toNatClampNeg) < 48 := by have := inb_lt h_21; omega
          obtain ⟨r24, u23, hc_25, hF⟩ := bi_some hF
          refine kc_i (W1 := CW cI cR ca qa u) (va_runV (As := []) (rest := []) ⟨hx, hb, hml, hown, hts⟩ (c_Row_total l D cI cR (qa (4 * (32 + p3.toNatClampNeg))) (qa (4 * (32 + p3.toNatClampNeg) + 1)) (qa (4 * (32 + p3.toNatClampNeg) + 2)) (qa (4 * (32 + p3.toNatClampNeg) + 3)) H.size  (u.2.2.2.2.2.2.2.2.2.2.2.2.2.2 (32 + p3.toNatClampNeg)) r24 u23 hc_25) (cwV 0 hts (gV cwc mw_97 mw_98 mw_99 mw_2 mw_100) rfl rfl rfl (by decide +kernel) ⟨(Nat.le_of_ble_eq_true rfl), (Nat.le_of_ble_eq_true rfl)⟩) (kp_V (ci := 0) (q := (RX0, TX0, 5)) hK hP hD (cw_sb hj_22) rfl rfl) rfl rfl hl.1 rfl (lv_room (Nat.le_of_ble_eq_true rfl)) dX1_part_24 ⟨(Nat.le_of_ble_eq_true rfl), (Nat.le_of_ble_eq_true rfl)⟩) hP hD hS hA (cw_sb hj_22) (jn_same (cw_sb hj_22)) (fun H locs hP hD hS => ?_)
          refine lv_if_le (tgt := 40) hx hb dX1_part_27 (by decide) (fun c_26 => ?_) (fun c_26 => ?_)
          · replace hF := (if_pos c_26).symm.trans hF
            refine lv_aload_n hx hb dX1_part_40 rfl (lv_at hl 0 rfl) ?_
            refine va_get (D := D) (ci := 1) (v := .ref (ca 7)) (C := RX1) (T := TX1) (N := 16) hx hb hts (fun w h => cwc w (in_X1 w h)) hown hK hP 0 rfl rfl 6 (by decide) hk_31 (fun _ h9 => h9) rfl dX1_part_41 ?_
            refine lv_iload_n hx hb dX1_part_44 rfl (lv_at hl 1 rfl) ?_
            obtain ⟨h_27, hF⟩ := gd_some hF
            refine va_aldq hx hb hK hP 7 1 rfl rfl (inb_in h_27) dX1_part_45 ?_
            refine W.eq (g2 := F0 m 46 ls [.ref (qa (4 * (32 + p1.toNatClampNeg)))]) rfl ?_
            have hj_28 : (32 + p1.toNatClampNeg) < 48 := by have := inb_lt h_27; omega
            obtain ⟨r30, u29, hc_31, hF⟩ := bi_some hF
            refine kc_i (W1 := CW cI cR ca qa u) (va_runV (As := []) (rest := []) ⟨hx, hb, hml, hown, hts⟩ (c_Row_total l D cI cR (qa (4 * (32 + p1.toNatClampNeg))) (qa (4 * (32 + p1.toNatClampNeg) + 1)) (qa (4 * (32 + p1.toNatClampNeg) + 2)) (qa (4 * (32 + p1.toNatClampNeg) + 3)) H.size  (u.2.2.2.2.2.2.2.2.2.2.2.2.2.2 (32 + p1.toNatClampNeg)) r30 u29 hc_31) (cwV 0 hts (gV cwc mw_97 mw_98 mw_99 mw_2 mw_100) rfl rfl rfl (by decide +kernel) ⟨(Nat.le_of_ble_eq_true rfl), (Nat.le_of_ble_eq_true rfl)⟩) (kp_V (ci := 0) (q := (RX0, TX0, 5)) hK hP hD (cw_sb hj_28) rfl rfl) rfl rfl hl.1 rfl (lv_room (Nat.le_of_ble_eq_true rfl)) dX1_part_46 ⟨(Nat.le_of_ble_eq_true rfl), (Nat.le_of_ble_eq_true rfl)⟩) hP hD hS hA (cw_sb hj_28) (jn_same (cw_sb hj_28)) (fun H locs hP hD hS => ?_)
            refine lv_iload_n hx hb dX1_part_49 rfl (lv_at hl 2 rfl) ?_
            refine lv_isub hx hb dX1_part_50 ?_
            refine lv_aload_n hx hb dX1_part_51 rfl (lv_at hl 0 rfl) ?_
            refine va_get (D := D) (ci := 1) (v := .ref (ca 9)) (C := RX1) (T := TX1) (N := 16) hx hb hts (fun w h => cwc w (in_X1 w h)) hown hK hP 0 rfl rfl 8 (by decide) hk_37 (fun _ h9 => h9) rfl dX1_part_52 ?_
            refine lv_iload_n hx hb dX1_part_55 rfl (lv_at hl 3 rfl) ?_
            obtain ⟨h_32, hF⟩ := gd_some hF
            refine va_iald (f := u.2.2.2.2.2.2.1) hx hb hK hP 9 0 rfl rfl (inb_in h_32) dX1_part_56 ?_
            refine lv_icmp_le (tgt := 70) hx hb dX1_part_57 (by decide) (fun c_33 => ?_) (fun c_33 => ?_)
            · replace hF := (if_pos c_33).symm.trans hF
              refine lv_aload_n hx hb dX1_part_70 rfl (lv_at hl 0 rfl) ?_
              refine va_get (D := D) (ci := 1) (v := .ref (ca 7)) (C := RX1) (T := TX1) (N := 16) hx hb hts (fun w h => cwc w (in_X1 w h)) hown hK hP 0 rfl rfl 6 (by decide) hk_31 (fun _ h9 => h9) rfl dX1_part_71 ?_
              refine lv_iload_n hx hb dX1_part_74 rfl (lv_at hl 1 rfl) ?_
              obtain ⟨h_34, hF⟩ := gd_some hF
              refine va_aldq hx hb hK hP 7 1 rfl rfl (inb_in h_34) dX1_part_75 ?_
              refine W.eq (g2 := F0 m 76 ls [.ref (qa (4 * (32 + p1.toNatClampNeg)))]) rfl ?_
              have hj_35 : (32 + p1.toNatClampNeg) < 48 := by have := inb_lt h_34; omega
              refine lv_iload_n hx hb dX1_part_76 rfl (lv_at hl 2 rfl) ?_
              refine lv_aload_n hx hb dX1_part_77 rfl (lv_at hl 0 rfl) ?_
              refine va_get (D := D) (ci := 1) (v := .ref (ca 7)) (C := RX1) (T := TX1) (N := 16) hx hb hts (fun w h => cwc w (in_X1 w h)) hown hK hP 0 rfl rfl 6 (by decide) hk_31 (fun _ h9 => h9) rfl dX1_part_78 ?_
              refine lv_iload_n hx hb dX1_part_81 rfl (lv_at hl 3 rfl) ?_
              obtain ⟨h_36, hF⟩ := gd_some hF
              refine va_aldq hx hb hK hP 7 1 rfl rfl (inb_in h_36) dX1_part_82 ?_
              refine W.eq (g2 := F0 m 83 ls [.ref (qa (4 * (32 + p3.toNatClampNeg))), .int p2, .ref (qa (4 * (32 + p1.toNatClampNeg)))]) rfl ?_
              have hj_37 : (32 + p3.toNatClampNeg) < 48 := by have := inb_lt h_36; omega
              obtain ⟨hn_40, hF⟩ := gd_some hF
              obtain ⟨r39, u38, hc_41, hF⟩ := bi_some hF
              refine kc_v (W1 := CW cI cR ca qa (u.1, u.2.1, u.2.2.1, u.2.2.2.1, u.2.2.2.2.1, u.2.2.2.2.2.1, u.2.2.2.2.2.2.1, u.2.2.2.2.2.2.2.1, u.2.2.2.2.2.2.2.2.1, u.2.2.2.2.2.2.2.2.2.1, u.2.2.2.2.2.2.2.2.2.2.1, u.2.2.2.2.2.2.2.2.2.2.2.1, u.2.2.2.2.2.2.2.2.2.2.2.2.1, u.2.2.2.2.2.2.2.2.2.2.2.2.2.1, (va_up (va_up u.2.2.2.2.2.2.2.2.2.2.2.2.2.2 (32 + p1.toNatClampNeg) u38.1) (32 + p3.toNatClampNeg) u38.2))) (va_runV (As := [.int p2, .ref (qa (4 * (32 + p3.toNatClampNeg)))]) (rest := []) ⟨hx, hb, hml, hown, hts⟩ (c_Row_moveAllBehind l D cI cR (qa (4 * (32 + p1.toNatClampNeg))) (qa (4 * (32 + p1.toNatClampNeg) + 1)) (qa (4 * (32 + p1.toNatClampNeg) + 2)) (qa (4 * (32 + p1.toNatClampNeg) + 3)) (qa (4 * (32 + p3.toNatClampNeg))) (qa (4 * (32 + p3.toNatClampNeg) + 1)) (qa (4 * (32 + p3.toNatClampNeg) + 2)) (qa (4 * (32 + p3.toNatClampNeg) + 3)) H.size p2 (u.2.2.2.2.2.2.2.2.2.2.2.2.2.2 (32 + p1.toNatClampNeg), u.2.2.2.2.2.2.2.2.2.2.2.2.2.2 (32 + p3.toNatClampNeg)) r39 u38 hc_41) (cwV 2 hts (gV cwc mw_313 mw_314 mw_315 mw_2 mw_316) rfl rfl rfl (by decide +kernel) ⟨(Nat.le_of_ble_eq_true rfl), (Nat.le_of_ble_eq_true rfl)⟩) (kp_V (ci := 0) (q := (RX0, TX0, 5)) hK hP hD (cw_sb2 hj_35 hj_37 (of_decide_eq_true hn_40)) rfl rfl) rfl rfl hl.1 rfl (lv_room (Nat.le_of_ble_eq_true rfl)) dX1_part_83 ⟨(Nat.le_of_ble_eq_true rfl), (Nat.le_of_ble_eq_true rfl)⟩) hP hD hS hA (cw_sb2 hj_35 hj_37 (of_decide_eq_true hn_40)) (cw_jn2 hj_35 hj_37 (of_decide_eq_true hn_40)) (fun H locs hP hD hS => ?_)
              cases hF
              refine vx_ret ?_
              refine W.widen (k := 5) (n := 30) (Nat.le_of_ble_eq_true rfl) (Nat.le_of_ble_eq_true rfl) ?_
              exact W.vret hx hb hr (fun t ht hW => ⟨⟨_, rfl, ⟨rfl, rfl⟩, by rw [ht]; exact hP, va_K.moved hW.alike hK, hD⟩, hS.F ht⟩) hS.2.2 dX1_part_86
            · replace hF := (if_neg c_33).symm.trans hF
              cases hF
              exact vx_throwS (own := RX1) (cls := "java/lang/IllegalArgumentException") (names := ["java/lang/RuntimeException", "java/lang/Exception"]) hx hb hl9 hown (by decide +kernel) (by decide +kernel) (hts _ (cwc _ mw_179)) (hts _ (cwc _ mw_8)) (XK_s120 hXK) (vx_hat (L := vx_atS RX1 86 "java/lang/IllegalArgumentException" ["java/lang/RuntimeException", "java/lang/Exception"]) (fun w hw => hts w (cwc w (hatA_2 w hw))) hatB_2 (vx_c (va_Nw.use rfl hXc2) (vx_c (va_Nw.use rfl hXd1) (vx_c (va_Nw.use rfl hXd2) (vx_c (va_Nw.use rfl hXd3) (vx_n)))))) hatC_2 hXU hXN hS (hl.1.trans hml.symm) dX1_part_60 dX1_part_63 dX1_part_64 dX1_part_66 dX1_part_69 (fun x hx9 => (hnx x hx9).elim) (Nat.le_of_ble_eq_true rfl) (Nat.le_of_ble_eq_true rfl) (Nat.le_of_ble_eq_true rfl) (Nat.le_of_ble_eq_true rfl) hlocks (fun t ha hsz hk => ⟨2, rfl, ⟨rfl, hP.kept (fun k q hq => hk q.1 (hP k q hq).lt), va_K.moved ha hK, hD⟩, Nat.le_trans hS.1 hsz, fun q h1 h2 => (hk q (Nat.lt_of_lt_of_le h1 hS.1)).trans (hS.2.1 q h1 h2)⟩) hS.2.2 (Nat.le_of_ble_eq_true rfl) (Nat.le_of_ble_eq_true rfl)
          · replace hF := (if_neg c_26).symm.trans hF
            cases hF
            exact vx_throwS (own := RX1) (cls := "java/lang/IllegalArgumentException") (names := ["java/lang/RuntimeException", "java/lang/Exception"]) hx hb hl9 hown (by decide +kernel) (by decide +kernel) (hts _ (cwc _ mw_179)) (hts _ (cwc _ mw_8)) (XK_s122 hXK) (vx_hat (L := vx_atS RX1 86 "java/lang/IllegalArgumentException" ["java/lang/RuntimeException", "java/lang/Exception"]) (fun w hw => hts w (cwc w (hatA_2 w hw))) hatB_2 (vx_c (va_Nw.use rfl hXc2) (vx_c (va_Nw.use rfl hXd1) (vx_c (va_Nw.use rfl hXd2) (vx_c (va_Nw.use rfl hXd3) (vx_n)))))) hatC_2 hXU hXN hS (hl.1.trans hml.symm) dX1_part_30 dX1_part_33 dX1_part_34 dX1_part_36 dX1_part_39 (fun x hx9 => (hnx x hx9).elim) (Nat.le_of_ble_eq_true rfl) (Nat.le_of_ble_eq_true rfl) (Nat.le_of_ble_eq_true rfl) (Nat.le_of_ble_eq_true rfl) hlocks (fun t ha hsz hk => ⟨2, rfl, ⟨rfl, hP.kept (fun k q hq => hk q.1 (hP k q hq).lt), va_K.moved ha hK, hD⟩, Nat.le_trans hS.1 hsz, fun q h1 h2 => (hk q (Nat.lt_of_lt_of_le h1 hS.1)).trans (hS.2.1 q h1 h2)⟩) hS.2.2 (Nat.le_of_ble_eq_true rfl) (Nat.le_of_ble_eq_true rfl)
end
section
def F_P_pour (p1 : Int32) (p2 : Int32) (u : CSt) : Option ((Nat ⊕ Unit) × CSt) := bi (F_P_checkWagon p1 ()) (fun or2 u1 => ox or2 (fun e_4 => some (.inl e_4, u)) (fun _ => bi (F_P_checkWagon p2 ()) (fun or7 u6 => ox or7 (fun e_9 => some (.inl e_9, u)) (fun _ => bi (F_P_checkFellows p1 p2 u) (fun or12 u11 => ox or12 (fun e_14 => some (.inl e_14, u)) (fun _ => gd (inb p2 16) (bi (F_Row_total (u.2.2.2.2.2.2.2.2.2.2.2.2.2.2 (32 + p2.toNatClampNeg))) (fun r19 u18 => gd (inb p1 16) (gd (inb p1 16) (bi (F_Row_total (u.2.2.2.2.2.2.2.2.2.2.2.2.2.2 (32 + p1.toNatClampNeg))) (fun r25 u24 => (if r19 ≤ ((u.2.2.2.2.2.2.1 p1.toNatClampNeg) - r25) then gd (inb p2 16) (gd (inb p1 16) (gd (inb p1 16) (gd (decide (¬ (32 + p2.toNatClampNeg) = (32 + p1.toNatClampNeg))) (bi (F_Row_moveTo r19 (u.2.2.2.2.2.2.1 p1.toNatClampNeg) (u.2.2.2.2.2.2.2.2.2.2.2.2.2.2 (32 + p2.toNatClampNeg), u.2.2.2.2.2.2.2.2.2.2.2.2.2.2 (32 + p1.toNatClampNeg))) (fun r34 u33 => some ((.inr ()), (u.1, u.2.1, u.2.2.1, u.2.2.2.1, u.2.2.2.2.1, u.2.2.2.2.2.1, u.2.2.2.2.2.2.1, u.2.2.2.2.2.2.2.1, u.2.2.2.2.2.2.2.2.1, u.2.2.2.2.2.2.2.2.2.1, u.2.2.2.2.2.2.2.2.2.2.1, u.2.2.2.2.2.2.2.2.2.2.2.1, u.2.2.2.2.2.2.2.2.2.2.2.2.1, u.2.2.2.2.2.2.2.2.2.2.2.2.2.1, (va_up (va_up u.2.2.2.2.2.2.2.2.2.2.2.2.2.2 (32 + p2.toNatClampNeg) u33.1) (32 + p1.toNatClampNeg) u33.2)))))))) else some (.inl 2, u)))))))))))))
set_option maxHeartbeats 4000000 in
set_option maxRecDepth 100000 in
theorem c_P_pour (l : Launch) (hl9 : l.stackTraces = false) (D : va_G) (cI cR : ClassId) (sa : Nat → Nat) (ca qa : Nat → Nat) (sz : Nat) (p1 : Int32) (p2 : Int32) (u : CSt) (r : Nat ⊕ Unit) (u' : CSt) (hF : F_P_pour p1 p2 u = some (r, u')) : vx_Met l yX1_pour wsX1_pour ({ frames := 7, cells := 4, slots := 24, locals := 104 }) (va_Pc [.ref (ca 0), .int p1, .int p2] (PREX D (TY cI cR) (CW cI cR ca qa u) sz sa)) (XV D (TY cI cR) (va_A (CW cI cR ca qa u) sz) (fun v => CW cI cR ca qa v) r u') (XX D (TY cI cR) (va_A (CW cI cR ca qa u) sz) (fun v => CW cI cR ca qa v) r u') 4 24 (va_A (CW cI cR ca qa u) sz) := by
  refine vx_ofW (cc := cX1_pour) (maxL := 4) (ret := none) (by decide) rfl ?_
  intro p e s m args below meth c s₁ B hml hnx hv
  obtain ⟨rfl, ⟨hsz, hP, hK, hD0⟩, hXK⟩ := hv
  have hx := B.exec
  have hb := B.bytes
  have hr := B.returns
  have hts := atoms_spec (ws := wsX1_pour) B.pre
  have hown : s.vm.findClass RX1 = some m.cls := findClass_of_methodNamed B.named
  have hlocks := B.notSynchronized
  subst hsz
  have hD := hD0.self (sz := s.heap.size)
  generalize hAe : va_A (CW cI cR ca qa u) s.heap.size = A at hD hXK ⊢
  have hA : ∀ q : Nat, s.heap.size ≤ q → A q := fun q h => by rw [← hAe]; exact Or.inr h
  have hS : va_S A s.heap s.heap [] := va_S.rf
  replace hP : va_P D vwCl (CW cI cR ca qa u) s.heap := hP
  have hl := lv_entry ([.ref (ca 0), .int p1, .int p2]) (n := 4) (Nat.le_of_ble_eq_true rfl)
  rw [lg_entry_eq]
  generalize (lg_sl ([.ref (ca 0), .int p1, .int p2]) ++ List.replicate (4 - (lg_sl ([.ref (ca 0), .int p1, .int p2])).length) Slot.unset).toArray = ls at hl ⊢
  replace hl : lv_has ls 4 [(0, .ref (ca 0)), (1, .int p1), (2, .int p2)] := hl
  have hk_31 := (hts _ (cwc _ mw_41))
  have hk_37 := (hts _ (cwc _ mw_43))
  obtain ⟨hXU, hXN, hXc1, hXc2, hXd1, hXd2, hXd3, hXn, -⟩ := id hXK
  unfold F_P_pour at hF
  refine (?_ : ∀ (H : Heap) (locs : List Loc), va_P D vwCl (CW cI cR ca qa u) H → va_S A s.heap H locs → W p l e _ s m _ below meth c H locs 0 0 _ (F0 m 0 ls [])) s.heap [] hP hS
  intro H locs hP hS
  refine lv_iload_n hx hb dX1_pour_0 rfl (lv_at hl 1 rfl) ?_
  obtain ⟨or2, u1, hc_3, hF⟩ := bi_some hF
  refine kx_v (W1 := CW cI cR ca qa u) (vx_runS (As := [.int p1]) (rest := []) ⟨hx, hb, hml, hown, hts⟩ (c_P_checkWagon l hl9 D cI cR sa  H.size p1 () or2 u1 hc_3) (va_cwS 1 hts (gS cwc mw_224 mw_225 mw_1 mw_226) rfl rfl rfl (by decide +kernel) ⟨(Nat.le_of_ble_eq_true rfl), (Nat.le_of_ble_eq_true rfl)⟩) (kpX_S hXK hK hP hD hS hA (sb_nil _)) rfl rfl hl.1 rfl (lv_room (Nat.le_of_ble_eq_true rfl)) dX1_pour_1 ⟨(Nat.le_of_ble_eq_true rfl), (Nat.le_of_ble_eq_true rfl)⟩) hP hD hS hA (sb_nil _) (jn_nil _) (fun e_4 ce q9 H locs ho_5 hP hD hS hce hcv hcl => ?_) (fun H locs ho_5 hP hD hS => ?_)
  · subst ho_5
    replace hF := ox_l hF
    cases hF
    exact kx_out hnx hlocks hK hP hD hS hce hcv hcl rfl (Nat.le_of_ble_eq_true rfl) (Nat.le_of_ble_eq_true rfl)
  · subst ho_5
    replace hF := ox_r hF
    refine lv_iload_n hx hb dX1_pour_4 rfl (lv_at hl 2 rfl) ?_
    obtain ⟨or7, u6, hc_8, hF⟩ := bi_some hF
    refine kx_v (W1 := CW cI cR ca qa u) (vx_runS (As := [.int p2]) (rest := []) ⟨hx, hb, hml, hown, hts⟩ (c_P_checkWagon l hl9 D cI cR sa  H.size p2 () or7 u6 hc_8) (va_cwS 1 hts (gS cwc mw_224 mw_225 mw_1 mw_226) rfl rfl rfl (by decide +kernel) ⟨(Nat.le_of_ble_eq_true rfl), (Nat.le_of_ble_eq_true rfl)⟩) (kpX_S hXK hK hP hD hS hA (sb_nil _)) rfl rfl hl.1 rfl (lv_room (Nat.le_of_ble_eq_true rfl)) dX1_pour_5 ⟨(Nat.le_of_ble_eq_true rfl), (Nat.le_of_ble_eq_true rfl)⟩) hP hD hS hA (sb_nil _) (jn_nil _) (fun e_9 ce q9 H locs ho_10 hP hD hS hce hcv hcl => ?_) (fun H locs ho_10 hP hD hS => ?_)
    · subst ho_10
      replace hF := ox_l hF
      cases hF
      exact kx_out hnx hlocks hK hP hD hS hce hcv hcl rfl (Nat.le_of_ble_eq_true rfl) (Nat.le_of_ble_eq_true rfl)
    · subst ho_10
      replace hF := ox_r hF
      refine lv_aload_n hx hb dX1_pour_8 rfl (lv_at hl 0 rfl) ?_
      refine lv_iload_n hx hb dX1_pour_9 rfl (lv_at hl 1 rfl) ?_
      refine lv_iload_n hx hb dX1_pour_10 rfl (lv_at hl 2 rfl) ?_
      obtain ⟨or12, u11, hc_13, hF⟩ := bi_some hF
      refine kx_v (W1 := CW cI cR ca qa u) (vx_runV (As := [.int p1, .int p2]) (rest := []) ⟨hx, hb, hml, hown, hts⟩ (c_P_checkFellows l hl9 D cI cR sa ca qa H.size p1 p2 u or12 u11 hc_13) (cwV 2 hts (gV cwc mw_303 mw_304 mw_484 mw_1 mw_305) rfl rfl rfl (by decide +kernel) ⟨(Nat.le_of_ble_eq_true rfl), (Nat.le_of_ble_eq_true rfl)⟩) (kpX_V (ci := 1) (q := (RX1, TX1, 16)) hXK hK hP hD hS hA (sb_id _) rfl rfl) rfl rfl hl.1 rfl (lv_room (Nat.le_of_ble_eq_true rfl)) dX1_pour_11 ⟨(Nat.le_of_ble_eq_true rfl), (Nat.le_of_ble_eq_true rfl)⟩) hP hD hS hA (sb_id _) (jn_same (sb_id _)) (fun e_14 ce q9 H locs ho_15 hP hD hS hce hcv hcl => ?_) (fun H locs ho_15 hP hD hS => ?_)
      · subst ho_15
        replace hF := ox_l hF
        cases hF
        exact kx_out hnx hlocks hK hP hD hS hce hcv hcl rfl (Nat.le_of_ble_eq_true rfl) (Nat.le_of_ble_eq_true rfl)
      · subst ho_15
        replace hF := ox_r hF
        refine lv_aload_n hx hb dX1_pour_14 rfl (lv_at hl 0 rfl) ?_
        refine va_get (D := D) (ci := 1) (v := .ref (ca 7)) (C := RX1) (T := TX1) (N := 16) hx hb hts (fun w h => cwc w (in_X1 w h)) hown hK hP 0 rfl rfl 6 (by decide) hk_31 (fun _ h9 => h9) rfl dX1_pour_15 ?_
        refine lv_iload_n hx hb dX1_pour_18 rfl (lv_at hl 2 rfl) ?_
        obtain ⟨h_16, hF⟩ := gd_some hF
        refine va_aldq hx hb hK hP 7 1 rfl rfl (inb_in h_16) dX1_pour_19 ?_
        refine W.eq (g2 := F0 m 20 ls [.ref (qa (4 * (32 + p2.toNatClampNeg)))]) rfl ?_
        have hj_17 : (32 + p2.toNatClampNeg) < 48 := by have := inb_lt h_16; omega
        obtain ⟨r19, u18, hc_20, hF⟩ := bi_some hF
        refine kc_i (W1 := CW cI cR ca qa u) (va_runV (As := []) (rest := []) ⟨hx, hb, hml, hown, hts⟩ (c_Row_total l D cI cR (qa (4 * (32 + p2.toNatClampNeg))) (qa (4 * (32 + p2.toNatClampNeg) + 1)) (qa (4 * (32 + p2.toNatClampNeg) + 2)) (qa (4 * (32 + p2.toNatClampNeg) + 3)) H.size  (u.2.2.2.2.2.2.2.2.2.2.2.2.2.2 (32 + p2.toNatClampNeg)) r19 u18 hc_20) (cwV 0 hts (gV cwc mw_97 mw_98 mw_99 mw_2 mw_100) rfl rfl rfl (by decide +kernel) ⟨(Nat.le_of_ble_eq_true rfl), (Nat.le_of_ble_eq_true rfl)⟩) (kp_V (ci := 0) (q := (RX0, TX0, 5)) hK hP hD (cw_sb hj_17) rfl rfl) rfl rfl hl.1 rfl (lv_room (Nat.le_of_ble_eq_true rfl)) dX1_pour_20 ⟨(Nat.le_of_ble_eq_true rfl), (Nat.le_of_ble_eq_true rfl)⟩) hP hD hS hA (cw_sb hj_17) (jn_same (cw_sb hj_17)) (fun H locs hP hD hS => ?_)
        refine lv_istore_n (lv' := [(3, .int r19), (0, .ref (ca 0)), (1, .int p1), (2, .int p2)]) hx hb dX1_pour_23 rfl hl (by decide) rfl (fun ls hl => ?_)
        refine lv_iload_n hx hb dX1_pour_24 rfl (lv_at hl 0 rfl) ?_
        refine lv_aload_n hx hb dX1_pour_25 rfl (lv_at hl 1 rfl) ?_
        refine va_get (D := D) (ci := 1) (v := .ref (ca 9)) (C := RX1) (T := TX1) (N := 16) hx hb hts (fun w h => cwc w (in_X1 w h)) hown hK hP 0 rfl rfl 8 (by decide) hk_37 (fun _ h9 => h9) rfl dX1_pour_26 ?_
        refine lv_iload_n hx hb dX1_pour_29 rfl (lv_at hl 2 rfl) ?_
        obtain ⟨h_21, hF⟩ := gd_some hF
        refine va_iald (f := u.2.2.2.2.2.2.1) hx hb hK hP 9 0 rfl rfl (inb_in h_21) dX1_pour_30 ?_
        refine lv_aload_n hx hb dX1_pour_31 rfl (lv_at hl 1 rfl) ?_
        refine va_get (D := D) (ci := 1) (v := .ref (ca 7)) (C := RX1) (T := TX1) (N := 16) hx hb hts (fun w h => cwc w (in_X1 w h)) hown hK hP 0 rfl rfl 6 (by decide) hk_31 (fun _ h9 => h9) rfl dX1_pour_32 ?_
        refine lv_iload_n hx hb dX1_pour_35 rfl (lv_at hl 2 rfl) ?_
        obtain ⟨h_22, hF⟩ := gd_some hF
        refine va_aldq hx hb hK hP 7 1 rfl rfl (inb_in h_22) dX1_pour_36 ?_
        refine W.eq (g2 := F0 m 37 ls [.ref (qa (4 * (32 + p1.toNatClampNeg))), .int (u.2.2.2.2.2.2.1 p1.toNatClampNeg), .int r19]) rfl ?_
        have hj_23 : (32 + p1.toNatClampNeg) < 48 := by have := inb_lt h_22; omega
        obtain ⟨r25, u24, hc_26, hF⟩ := bi_some hF
        refine kc_i (W1 := CW cI cR ca qa u) (va_runV (As := []) (rest := [.int (u.2.2.2.2.2.2.1 p1.toNatClampNeg), .int r19]) ⟨hx, hb, hml, hown, hts⟩ (c_Row_total l D cI cR (qa (4 * (32 + p1.toNatClampNeg))) (qa (4 * (32 + p1.toNatClampNeg) + 1)) (qa (4 * (32 + p1.toNatClampNeg) + 2)) (qa (4 * (32 + p1.toNatClampNeg) + 3)) H.size  (u.2.2.2.2.2.2.2.2.2.2.2.2.2.2 (32 + p1.toNatClampNeg)) r25 u24 hc_26) (cwV 0 hts (gV cwc mw_97 mw_98 mw_99 mw_2 mw_100) rfl rfl rfl (by decide +kernel) ⟨(Nat.le_of_ble_eq_true rfl), (Nat.le_of_ble_eq_true rfl)⟩) (kp_V (ci := 0) (q := (RX0, TX0, 5)) hK hP hD (cw_sb hj_23) rfl rfl) rfl rfl hl.1 rfl (lv_room (Nat.le_of_ble_eq_true rfl)) dX1_pour_37 ⟨(Nat.le_of_ble_eq_true rfl), (Nat.le_of_ble_eq_true rfl)⟩) hP hD hS hA (cw_sb hj_23) (jn_same (cw_sb hj_23)) (fun H locs hP hD hS => ?_)
        refine lv_isub hx hb dX1_pour_40 ?_
        refine lv_icmp_le (tgt := 54) hx hb dX1_pour_41 (by decide) (fun c_27 => ?_) (fun c_27 => ?_)
        · replace hF := (if_pos c_27).symm.trans hF
          refine lv_aload_n hx hb dX1_pour_54 rfl (lv_at hl 1 rfl) ?_
          refine va_get (D := D) (ci := 1) (v := .ref (ca 7)) (C := RX1) (T := TX1) (N := 16) hx hb hts (fun w h => cwc w (in_X1 w h)) hown hK hP 0 rfl rfl 6 (by decide) hk_31 (fun _ h9 => h9) rfl dX1_pour_55 ?_
          refine lv_iload_n hx hb dX1_pour_58 rfl (lv_at hl 3 rfl) ?_
          obtain ⟨h_28, hF⟩ := gd_some hF
          refine va_aldq hx hb hK hP 7 1 rfl rfl (inb_in h_28) dX1_pour_59 ?_
          refine W.eq (g2 := F0 m 60 ls [.ref (qa (4 * (32 + p2.toNatClampNeg)))]) rfl ?_
          have hj_29 : (32 + p2.toNatClampNeg) < 48 := by have := inb_lt h_28; omega
          refine lv_aload_n hx hb dX1_pour_60 rfl (lv_at hl 1 rfl) ?_
          refine va_get (D := D) (ci := 1) (v := .ref (ca 7)) (C := RX1) (T := TX1) (N := 16) hx hb hts (fun w h => cwc w (in_X1 w h)) hown hK hP 0 rfl rfl 6 (by decide) hk_31 (fun _ h9 => h9) rfl dX1_pour_61 ?_
          refine lv_iload_n hx hb dX1_pour_64 rfl (lv_at hl 2 rfl) ?_
          obtain ⟨h_30, hF⟩ := gd_some hF
          refine va_aldq hx hb hK hP 7 1 rfl rfl (inb_in h_30) dX1_pour_65 ?_
          refine W.eq (g2 := F0 m 66 ls [.ref (qa (4 * (32 + p1.toNatClampNeg))), .ref (qa (4 * (32 + p2.toNatClampNeg)))]) rfl ?_
          have hj_31 : (32 + p1.toNatClampNeg) < 48 := by have := inb_lt h_30; omega
          refine lv_iload_n hx hb dX1_pour_66 rfl (lv_at hl 0 rfl) ?_
          refine lv_aload_n hx hb dX1_pour_67 rfl (lv_at hl 1 rfl) ?_
          refine va_get (D := D) (ci := 1) (v := .ref (ca 9)) (C := RX1) (T := TX1) (N := 16) hx hb hts (fun w h => cwc w (in_X1 w h)) hown hK hP 0 rfl rfl 8 (by decide) hk_37 (fun _ h9 => h9) rfl dX1_pour_68 ?_
          refine lv_iload_n hx hb dX1_pour_71 rfl (lv_at hl 2 rfl) ?_
          obtain ⟨h_32, hF⟩ := gd_some hF
          refine va_iald (f := u.2.2.2.2.2.2.1) hx hb hK hP 9 0 rfl rfl (inb_in h_32) dX1_pour_72 ?_
          obtain ⟨hn_35, hF⟩ := gd_some hF
          obtain ⟨r34, u33, hc_36, hF⟩ := bi_some hF
          refine kc_i (W1 := CW cI cR ca qa (u.1, u.2.1, u.2.2.1, u.2.2.2.1, u.2.2.2.2.1, u.2.2.2.2.2.1, u.2.2.2.2.2.2.1, u.2.2.2.2.2.2.2.1, u.2.2.2.2.2.2.2.2.1, u.2.2.2.2.2.2.2.2.2.1, u.2.2.2.2.2.2.2.2.2.2.1, u.2.2.2.2.2.2.2.2.2.2.2.1, u.2.2.2.2.2.2.2.2.2.2.2.2.1, u.2.2.2.2.2.2.2.2.2.2.2.2.2.1, (va_up (va_up u.2.2.2.2.2.2.2.2.2.2.2.2.2.2 (32 + p2.toNatClampNeg) u33.1) (32 + p1.toNatClampNeg) u33.2))) (va_runV (As := [.ref (qa (4 * (32 + p1.toNatClampNeg))), .int r19, .int (u.2.2.2.2.2.2.1 p1.toNatClampNeg)]) (rest := []) ⟨hx, hb, hml, hown, hts⟩ (c_Row_moveTo l D cI cR (qa (4 * (32 + p2.toNatClampNeg))) (qa (4 * (32 + p2.toNatClampNeg) + 1)) (qa (4 * (32 + p2.toNatClampNeg) + 2)) (qa (4 * (32 + p2.toNatClampNeg) + 3)) (qa (4 * (32 + p1.toNatClampNeg))) (qa (4 * (32 + p1.toNatClampNeg) + 1)) (qa (4 * (32 + p1.toNatClampNeg) + 2)) (qa (4 * (32 + p1.toNatClampNeg) + 3)) H.size r19 (u.2.2.2.2.2.2.1 p1.toNatClampNeg) (u.2.2.2.2.2.2.2.2.2.2.2.2.2.2 (32 + p2.toNatClampNeg), u.2.2.2.2.2.2.2.2.2.2.2.2.2.2 (32 + p1.toNatClampNeg)) r34 u33 hc_36) (cwV 3 hts (gV cwc mw_260 mw_261 mw_262 mw_2 mw_263) rfl rfl rfl (by decide +kernel) ⟨(Nat.le_of_ble_eq_true rfl), (Nat.le_of_ble_eq_true rfl)⟩) (kp_V (ci := 0) (q := (RX0, TX0, 5)) hK hP hD (cw_sb2 hj_29 hj_31 (of_decide_eq_true hn_35)) rfl rfl) rfl rfl hl.1 rfl (lv_room (Nat.le_of_ble_eq_true rfl)) dX1_pour_73 ⟨(Nat.le_of_ble_eq_true rfl), (Nat.le_of_ble_eq_true rfl)⟩) hP hD hS hA (cw_sb2 hj_29 hj_31 (of_decide_eq_true hn_35)) (cw_jn2 hj_29 hj_31 (of_decide_eq_true hn_35)) (fun H locs hP hD hS => ?_)
          refine lv_pop hx hb dX1_pour_76 rfl ?_
          cases hF
          refine vx_ret ?_
          refine W.widen (k := 4) (n := 24) (Nat.le_of_ble_eq_true rfl) (Nat.le_of_ble_eq_true rfl) ?_
          exact W.vret hx hb hr (fun t ht hW => ⟨⟨_, rfl, ⟨rfl, rfl⟩, by rw [ht]; exact hP, va_K.moved hW.alike hK, hD⟩, hS.F ht⟩) hS.2.2 dX1_pour_77
        · replace hF := (if_neg c_27).symm.trans hF
          cases hF
          exact vx_throwS (own := RX1) (cls := "java/lang/IllegalArgumentException") (names := ["java/lang/RuntimeException", "java/lang/Exception"]) hx hb hl9 hown (by decide +kernel) (by decide +kernel) (hts _ (cwc _ mw_179)) (hts _ (cwc _ mw_8)) (XK_s120 hXK) (vx_hat (L := vx_atS RX1 86 "java/lang/IllegalArgumentException" ["java/lang/RuntimeException", "java/lang/Exception"]) (fun w hw => hts w (cwc w (hatA_2 w hw))) hatB_2 (vx_c (va_Nw.use rfl hXc2) (vx_c (va_Nw.use rfl hXd1) (vx_c (va_Nw.use rfl hXd2) (vx_c (va_Nw.use rfl hXd3) (vx_n)))))) hatC_2 hXU hXN hS (hl.1.trans hml.symm) dX1_pour_44 dX1_pour_47 dX1_pour_48 dX1_pour_50 dX1_pour_53 (fun x hx9 => (hnx x hx9).elim) (Nat.le_of_ble_eq_true rfl) (Nat.le_of_ble_eq_true rfl) (Nat.le_of_ble_eq_true rfl) (Nat.le_of_ble_eq_true rfl) hlocks (fun t ha hsz hk => ⟨2, rfl, ⟨rfl, hP.kept (fun k q hq => hk q.1 (hP k q hq).lt), va_K.moved ha hK, hD⟩, Nat.le_trans hS.1 hsz, fun q h1 h2 => (hk q (Nat.lt_of_lt_of_le h1 hS.1)).trans (hS.2.1 q h1 h2)⟩) hS.2.2 (Nat.le_of_ble_eq_true rfl) (Nat.le_of_ble_eq_true rfl)
def F_P_unload (p1 : Int32) (p2 : Int32) (p3 : Int32) (u : CSt) : Option ((Nat ⊕ Int32) × CSt) := bi (F_P_checkWagon p1 ()) (fun or2 u1 => ox or2 (fun e_4 => some (.inl e_4, u)) (fun _ => bi (F_P_checkStation p2 ()) (fun or7 u6 => ox or7 (fun e_9 => some (.inl e_9, u)) (fun _ => bi (F_P_checkNotBelowZero p3 ()) (fun or12 u11 => ox or12 (fun e_14 => some (.inl e_14, u)) (fun _ => gd (inb p1 16) (nm ((u.2.2.2.2.2.1 p1.toNatClampNeg)) (fun v17 => gd (inb p2 8) ((if (((u.2.2.2.2.1 p2.toNatClampNeg) >>> (v17 &&& 31)) &&& (1 : Int32)) = (1 : Int32) then gd (inb p1 16) (bi (F_P_deliverFrom (32 + p1.toNatClampNeg) p2 v17 p3 u) (fun r34 u33 => some ((.inr r34), u33))) else gd (inb p1 16) (bi (F_P_stockIndex p2 v17 ()) (fun r23 u22 => gd (inb r23 32) (gd (decide (¬ (32 + p1.toNatClampNeg) = r23.toNatClampNeg)) (bi (F_Row_moveTo p3 (999 : Int32) (u.2.2.2.2.2.2.2.2.2.2.2.2.2.2 (32 + p1.toNatClampNeg), u.2.2.2.2.2.2.2.2.2.2.2.2.2.2 r23.toNatClampNeg)) (fun r28 u27 => some ((.inr r28), (u.1, u.2.1, u.2.2.1, u.2.2.2.1, u.2.2.2.2.1, u.2.2.2.2.2.1, u.2.2.2.2.2.2.1, u.2.2.2.2.2.2.2.1, u.2.2.2.2.2.2.2.2.1, u.2.2.2.2.2.2.2.2.2.1, u.2.2.2.2.2.2.2.2.2.2.1, u.2.2.2.2.2.2.2.2.2.2.2.1, u.2.2.2.2.2.2.2.2.2.2.2.2.1, u.2.2.2.2.2.2.2.2.2.2.2.2.2.1, (va_up (va_up u.2.2.2.2.2.2.2.2.2.2.2.2.2.2 (32 + p1.toNatClampNeg) u27.1) r23.toNatClampNeg u27.2))))))))))))))))))
set_option maxHeartbeats 4000000 in
set_option maxRecDepth 100000 in
theorem c_P_unload (l : Launch) (hl9 : l.stackTraces = false) (D : va_G) (cI cR : ClassId) (sa : Nat → Nat) (ca qa : Nat → Nat) (sz : Nat) (p1 : Int32) (p2 : Int32) (p3 : Int32) (u : CSt) (r : Nat ⊕ Int32) (u' : CSt) (hF : F_P_unload p1 p2 p3 u = some (r, u')) : vx_Met l yX1_unload wsX1_unload ({ frames := 7, cells := 3, slots := 18, locals := 102 }) (va_Pc [.ref (ca 0), .int p1, .int p2, .int p3] (PREX D (TY cI cR) (CW cI cR ca qa u) sz sa)) (XI D (TY cI cR) (va_A (CW cI cR ca qa u) sz) (fun v => CW cI cR ca qa v) r u') (XX D (TY cI cR) (va_A (CW cI cR ca qa u) sz) (fun v => CW cI cR ca qa v) r u') 3 18 (va_A (CW cI cR ca qa u) sz) := by
  refine vx_ofW (cc := cX1_unload) (maxL := 5) (ret := (some .int)) (by decide) rfl ?_
  intro p e s m args below meth c s₁ B hml hnx hv
  obtain ⟨rfl, ⟨hsz, hP, hK, hD0⟩, hXK⟩ := hv
  have hx := B.exec
  have hb := B.bytes
  have hr := B.returns
  have hts := atoms_spec (ws := wsX1_unload) B.pre
  have hown : s.vm.findClass RX1 = some m.cls := findClass_of_methodNamed B.named
  have hlocks := B.notSynchronized
  subst hsz
  have hD := hD0.self (sz := s.heap.size)
  generalize hAe : va_A (CW cI cR ca qa u) s.heap.size = A at hD hXK ⊢
  have hA : ∀ q : Nat, s.heap.size ≤ q → A q := fun q h => by rw [← hAe]; exact Or.inr h
  have hS : va_S A s.heap s.heap [] := va_S.rf
  replace hP : va_P D vwCl (CW cI cR ca qa u) s.heap := hP
  have hl := lv_entry ([.ref (ca 0), .int p1, .int p2, .int p3]) (n := 5) (Nat.le_of_ble_eq_true rfl)
  rw [lg_entry_eq]
  generalize (lg_sl ([.ref (ca 0), .int p1, .int p2, .int p3]) ++ List.replicate (5 - (lg_sl ([.ref (ca 0), .int p1, .int p2, .int p3])).length) Slot.unset).toArray = ls at hl ⊢
  replace hl : lv_has ls 5 [(0, .ref (ca 0)), (1, .int p1), (2, .int p2), (3, .int p3)] := hl
  have hk_34 := (hts _ (cwc _ mw_42))
  have hk_28 := (hts _ (cwc _ mw_40))
  have hk_31 := (hts _ (cwc _ mw_41))
  have hk_11 := (hts _ (cwc _ mw_35))
  obtain ⟨hXU, hXN, hXc1, hXc2, hXd1, hXd2, hXd3, hXn, -⟩ := id hXK
  unfold F_P_unload at hF
  refine (?_ : ∀ (H : Heap) (locs : List Loc), va_P D vwCl (CW cI cR ca qa u) H → va_S A s.heap H locs → W p l e _ s m _ below meth c H locs 0 0 _ (F0 m 0 ls [])) s.heap [] hP hS
  intro H locs hP hS
  refine lv_iload_n hx hb dX1_unload_0 rfl (lv_at hl 1 rfl) ?_
  obtain ⟨or2, u1, hc_3, hF⟩ := bi_some hF
  refine kx_v (W1 := CW cI cR ca qa u) (vx_runS (As := [.int p1]) (rest := []) ⟨hx, hb, hml, hown, hts⟩ (c_P_checkWagon l hl9 D cI cR sa  H.size p1 () or2 u1 hc_3) (va_cwS 1 hts (gS cwc mw_224 mw_225 mw_1 mw_226) rfl rfl rfl (by decide +kernel) ⟨(Nat.le_of_ble_eq_true rfl), (Nat.le_of_ble_eq_true rfl)⟩) (kpX_S hXK hK hP hD hS hA (sb_nil _)) rfl rfl hl.1 rfl (lv_room (Nat.le_of_ble_eq_true rfl)) dX1_unload_1 ⟨(Nat.le_of_ble_eq_true rfl), (Nat.le_of_ble_eq_true rfl)⟩) hP hD hS hA (sb_nil _) (jn_nil _) (fun e_4 ce q9 H locs ho_5 hP hD hS hce hcv hcl => ?_) (fun H locs ho_5 hP hD hS => ?_)
  · subst ho_5
    replace hF := ox_l hF
    cases hF
    exact kx_out hnx hlocks hK hP hD hS hce hcv hcl rfl (Nat.le_of_ble_eq_true rfl) (Nat.le_of_ble_eq_true rfl)
  · subst ho_5
    replace hF := ox_r hF
    refine lv_iload_n hx hb dX1_unload_4 rfl (lv_at hl 2 rfl) ?_
    obtain ⟨or7, u6, hc_8, hF⟩ := bi_some hF
    refine kx_v (W1 := CW cI cR ca qa u) (vx_runS (As := [.int p2]) (rest := []) ⟨hx, hb, hml, hown, hts⟩ (c_P_checkStation l hl9 D cI cR sa  H.size p2 () or7 u6 hc_8) (va_cwS 1 hts (gS cwc mw_124 mw_125 mw_1 mw_126) rfl rfl rfl (by decide +kernel) ⟨(Nat.le_of_ble_eq_true rfl), (Nat.le_of_ble_eq_true rfl)⟩) (kpX_S hXK hK hP hD hS hA (sb_nil _)) rfl rfl hl.1 rfl (lv_room (Nat.le_of_ble_eq_true rfl)) dX1_unload_5 ⟨(Nat.le_of_ble_eq_true rfl), (Nat.le_of_ble_eq_true rfl)⟩) hP hD hS hA (sb_nil _) (jn_nil _) (fun e_9 ce q9 H locs ho_10 hP hD hS hce hcv hcl => ?_) (fun H locs ho_10 hP hD hS => ?_)
    · subst ho_10
      replace hF := ox_l hF
      cases hF
      exact kx_out hnx hlocks hK hP hD hS hce hcv hcl rfl (Nat.le_of_ble_eq_true rfl) (Nat.le_of_ble_eq_true rfl)
    · subst ho_10
      replace hF := ox_r hF
      refine lv_iload_n hx hb dX1_unload_8 rfl (lv_at hl 3 rfl) ?_
      obtain ⟨or12, u11, hc_13, hF⟩ := bi_some hF
      refine kx_v (W1 := CW cI cR ca qa u) (vx_runS (As := [.int p3]) (rest := []) ⟨hx, hb, hml, hown, hts⟩ (c_P_checkNotBelowZero l hl9 D cI cR sa  H.size p3 () or12 u11 hc_13) (va_cwS 1 hts (gS cwc mw_257 mw_258 mw_1 mw_259) rfl rfl rfl (by decide +kernel) ⟨(Nat.le_of_ble_eq_true rfl), (Nat.le_of_ble_eq_true rfl)⟩) (kpX_S hXK hK hP hD hS hA (sb_nil _)) rfl rfl hl.1 rfl (lv_room (Nat.le_of_ble_eq_true rfl)) dX1_unload_9 ⟨(Nat.le_of_ble_eq_true rfl), (Nat.le_of_ble_eq_true rfl)⟩) hP hD hS hA (sb_nil _) (jn_nil _) (fun e_14 ce q9 H locs ho_15 hP hD hS hce hcv hcl => ?_) (fun H locs ho_15 hP hD hS => ?_)
      · subst ho_15
        replace hF := ox_l hF
        cases hF
        exact kx_out hnx hlocks hK hP hD hS hce hcv hcl rfl (Nat.le_of_ble_eq_true rfl) (Nat.le_of_ble_eq_true rfl)
      · subst ho_15
        replace hF := ox_r hF
        refine lv_aload_n hx hb dX1_unload_12 rfl (lv_at hl 0 rfl) ?_
        refine va_get (D := D) (ci := 1) (v := .ref (ca 8)) (C := RX1) (T := TX1) (N := 16) hx hb hts (fun w h => cwc w (in_X1 w h)) hown hK hP 0 rfl rfl 7 (by decide) hk_34 (fun _ h9 => h9) rfl dX1_unload_13 ?_
        refine lv_iload_n hx hb dX1_unload_16 rfl (lv_at hl 1 rfl) ?_
        obtain ⟨h_16, hF⟩ := gd_some hF
        refine va_iald (f := u.2.2.2.2.2.1) hx hb hK hP 8 0 rfl rfl (inb_in h_16) dX1_unload_17 ?_
        obtain ⟨v17, ev17, hF⟩ := nm_some hF
        refine W.eq (g2 := F0 m 18 ls (.int v17 :: [])) (congrArg (fun z => F0 m 18 ls (.int z :: [])) ev17.symm) ?_
        refine lv_istore (lv' := [(4, .int v17), (0, .ref (ca 0)), (1, .int p1), (2, .int p2), (3, .int p3)]) hx hb dX1_unload_18 hl (by decide) rfl (fun ls hl => ?_)
        refine lv_aload_n hx hb dX1_unload_20 rfl (lv_at hl 1 rfl) ?_
        refine va_get (D := D) (ci := 1) (v := .ref (ca 6)) (C := RX1) (T := TX1) (N := 16) hx hb hts (fun w h => cwc w (in_X1 w h)) hown hK hP 0 rfl rfl 5 (by decide) hk_28 (fun _ h9 => h9) rfl dX1_unload_21 ?_
        refine lv_iload_n hx hb dX1_unload_24 rfl (lv_at hl 3 rfl) ?_
        obtain ⟨h_18, hF⟩ := gd_some hF
        refine va_iald (f := u.2.2.2.2.1) hx hb hK hP 6 0 rfl rfl (inb_in h_18) dX1_unload_25 ?_
        refine lv_iload hx hb dX1_unload_26 (lv_at hl 0 rfl) ?_
        refine lv_ishr hx hb dX1_unload_28 ?_
        refine lv_iconst (v := (1 : Int32)) hx hb dX1_unload_29 (by decide +kernel) ?_
        refine lv_iand hx hb dX1_unload_30 ?_
        refine lv_iconst (v := (1 : Int32)) hx hb dX1_unload_31 (by decide +kernel) ?_
        refine lv_icmp_ne (tgt := 50) hx hb dX1_unload_32 (by decide) (fun c_19 => ?_) (fun c_19 => ?_)
        · replace hF := (if_neg c_19).symm.trans hF
          refine lv_aload_n hx hb dX1_unload_50 rfl (lv_at hl 1 rfl) ?_
          refine va_get (D := D) (ci := 1) (v := .ref (ca 7)) (C := RX1) (T := TX1) (N := 16) hx hb hts (fun w h => cwc w (in_X1 w h)) hown hK hP 0 rfl rfl 6 (by decide) hk_31 (fun _ h9 => h9) rfl dX1_unload_51 ?_
          refine lv_iload_n hx hb dX1_unload_54 rfl (lv_at hl 2 rfl) ?_
          obtain ⟨h_20, hF⟩ := gd_some hF
          refine va_aldq hx hb hK hP 7 1 rfl rfl (inb_in h_20) dX1_unload_55 ?_
          refine W.eq (g2 := F0 m 56 ls [.ref (qa (4 * (32 + p1.toNatClampNeg)))]) rfl ?_
          have hj_21 : (32 + p1.toNatClampNeg) < 48 := by have := inb_lt h_20; omega
          refine lv_aload_n hx hb dX1_unload_56 rfl (lv_at hl 1 rfl) ?_
          refine va_get (D := D) (ci := 1) (v := .ref (ca 1)) (C := RX1) (T := TX1) (N := 16) hx hb hts (fun w h => cwc w (in_X1 w h)) hown hK hP 0 rfl rfl 0 (by decide) hk_11 (fun _ h9 => h9) rfl dX1_unload_57 ?_
          refine lv_iload_n hx hb dX1_unload_60 rfl (lv_at hl 3 rfl) ?_
          refine lv_iload hx hb dX1_unload_61 (lv_at hl 0 rfl) ?_
          obtain ⟨r23, u22, hc_24, hF⟩ := bi_some hF
          refine kc_i (W1 := CW cI cR ca qa u) (va_runS (As := [.int p2, .int v17]) (rest := [.ref (ca 1), .ref (qa (4 * (32 + p1.toNatClampNeg)))]) ⟨hx, hb, hml, hown, hts⟩ (c_P_stockIndex l D cI cR  H.size p2 v17 () r23 u22 hc_24) (va_cwS 2 hts (gS cwc mw_86 mw_87 mw_1 mw_88) rfl rfl rfl (by decide +kernel) ⟨(Nat.le_of_ble_eq_true rfl), (Nat.le_of_ble_eq_true rfl)⟩) (kp_S hK hP hD (sb_nil _)) rfl rfl hl.1 rfl (lv_room (Nat.le_of_ble_eq_true rfl)) dX1_unload_63 ⟨(Nat.le_of_ble_eq_true rfl), (Nat.le_of_ble_eq_true rfl)⟩) hP hD hS hA (sb_nil _) (jn_nil _) (fun H locs hP hD hS => ?_)
          obtain ⟨h_25, hF⟩ := gd_some hF
          refine va_aldq hx hb hK hP 1 1 rfl rfl (inb_in h_25) dX1_unload_66 ?_
          refine W.eq (g2 := F0 m 67 ls [.ref (qa (4 * r23.toNatClampNeg)), .ref (qa (4 * (32 + p1.toNatClampNeg)))]) rfl ?_
          have hj_26 : r23.toNatClampNeg < 48 := by have := inb_lt h_25; omega
          refine lv_iload_n hx hb dX1_unload_67 rfl (lv_at hl 4 rfl) ?_
          refine lv_sipush (v := (999 : Int32)) hx hb dX1_unload_68 (by decide +kernel) ?_
          obtain ⟨hn_29, hF⟩ := gd_some hF
          obtain ⟨r28, u27, hc_30, hF⟩ := bi_some hF
          refine kc_i (W1 := CW cI cR ca qa (u.1, u.2.1, u.2.2.1, u.2.2.2.1, u.2.2.2.2.1, u.2.2.2.2.2.1, u.2.2.2.2.2.2.1, u.2.2.2.2.2.2.2.1, u.2.2.2.2.2.2.2.2.1, u.2.2.2.2.2.2.2.2.2.1, u.2.2.2.2.2.2.2.2.2.2.1, u.2.2.2.2.2.2.2.2.2.2.2.1, u.2.2.2.2.2.2.2.2.2.2.2.2.1, u.2.2.2.2.2.2.2.2.2.2.2.2.2.1, (va_up (va_up u.2.2.2.2.2.2.2.2.2.2.2.2.2.2 (32 + p1.toNatClampNeg) u27.1) r23.toNatClampNeg u27.2))) (va_runV (As := [.ref (qa (4 * r23.toNatClampNeg)), .int p3, .int (999 : Int32)]) (rest := []) ⟨hx, hb, hml, hown, hts⟩ (c_Row_moveTo l D cI cR (qa (4 * (32 + p1.toNatClampNeg))) (qa (4 * (32 + p1.toNatClampNeg) + 1)) (qa (4 * (32 + p1.toNatClampNeg) + 2)) (qa (4 * (32 + p1.toNatClampNeg) + 3)) (qa (4 * r23.toNatClampNeg)) (qa (4 * r23.toNatClampNeg + 1)) (qa (4 * r23.toNatClampNeg + 2)) (qa (4 * r23.toNatClampNeg + 3)) H.size p3 (999 : Int32) (u.2.2.2.2.2.2.2.2.2.2.2.2.2.2 (32 + p1.toNatClampNeg), u.2.2.2.2.2.2.2.2.2.2.2.2.2.2 r23.toNatClampNeg) r28 u27 hc_30) (cwV 3 hts (gV cwc mw_260 mw_261 mw_262 mw_2 mw_263) rfl rfl rfl (by decide +kernel) ⟨(Nat.le_of_ble_eq_true rfl), (Nat.le_of_ble_eq_true rfl)⟩) (kp_V (ci := 0) (q := (RX0, TX0, 5)) hK hP hD (cw_sb2 hj_21 hj_26 (of_decide_eq_true hn_29)) rfl rfl) rfl rfl hl.1 rfl (lv_room (Nat.le_of_ble_eq_true rfl)) dX1_unload_71 ⟨(Nat.le_of_ble_eq_true rfl), (Nat.le_of_ble_eq_true rfl)⟩) hP hD hS hA (cw_sb2 hj_21 hj_26 (of_decide_eq_true hn_29)) (cw_jn2 hj_21 hj_26 (of_decide_eq_true hn_29)) (fun H locs hP hD hS => ?_)
          cases hF
          refine vx_ret ?_
          refine W.widen (k := 3) (n := 18) (Nat.le_of_ble_eq_true rfl) (Nat.le_of_ble_eq_true rfl) ?_
          exact W.iret hx hb hr (fun t ht hW => ⟨⟨_, _, rfl, ⟨rfl, rfl⟩, by rw [ht]; exact hP, va_K.moved hW.alike hK, hD⟩, hS.F ht⟩) hS.2.2 dX1_unload_74
        · replace hF := (if_pos c_19).symm.trans hF
          refine lv_aload_n hx hb dX1_unload_35 rfl (lv_at hl 1 rfl) ?_
          refine lv_aload_n hx hb dX1_unload_36 rfl (lv_at hl 1 rfl) ?_
          refine va_get (D := D) (ci := 1) (v := .ref (ca 7)) (C := RX1) (T := TX1) (N := 16) hx hb hts (fun w h => cwc w (in_X1 w h)) hown hK hP 0 rfl rfl 6 (by decide) hk_31 (fun _ h9 => h9) rfl dX1_unload_37 ?_
          refine lv_iload_n hx hb dX1_unload_40 rfl (lv_at hl 2 rfl) ?_
          obtain ⟨h_31, hF⟩ := gd_some hF
          refine va_aldq hx hb hK hP 7 1 rfl rfl (inb_in h_31) dX1_unload_41 ?_
          refine W.eq (g2 := F0 m 42 ls [.ref (qa (4 * (32 + p1.toNatClampNeg))), .ref (ca 0)]) rfl ?_
          have hj_32 : (32 + p1.toNatClampNeg) < 48 := by have := inb_lt h_31; omega
          refine lv_iload_n hx hb dX1_unload_42 rfl (lv_at hl 3 rfl) ?_
          refine lv_iload hx hb dX1_unload_43 (lv_at hl 0 rfl) ?_
          refine lv_iload_n hx hb dX1_unload_45 rfl (lv_at hl 4 rfl) ?_
          obtain ⟨r34, u33, hc_35, hF⟩ := bi_some hF
          refine kc_i (W1 := CW cI cR ca qa u33) (va_runV (As := [.ref (qa (4 * (32 + p1.toNatClampNeg))), .int p2, .int v17, .int p3]) (rest := []) ⟨hx, hb, hml, hown, hts⟩ (c_P_deliverFrom l D cI cR ca qa H.size (32 + p1.toNatClampNeg) hj_32 p2 v17 p3 u r34 u33 hc_35) (cwV 4 hts (gV cwc mw_280 mw_281 mw_481 mw_1 mw_282) rfl rfl rfl (by decide +kernel) ⟨(Nat.le_of_ble_eq_true rfl), (Nat.le_of_ble_eq_true rfl)⟩) (kp_V (ci := 1) (q := (RX1, TX1, 16)) hK hP hD (sb_id _) rfl rfl) rfl rfl hl.1 rfl (lv_room (Nat.le_of_ble_eq_true rfl)) dX1_unload_46 ⟨(Nat.le_of_ble_eq_true rfl), (Nat.le_of_ble_eq_true rfl)⟩) hP hD hS hA (sb_id _) (jn_id (cw_ad _ _)) (fun H locs hP hD hS => ?_)
          cases hF
          refine vx_ret ?_
          refine W.widen (k := 3) (n := 18) (Nat.le_of_ble_eq_true rfl) (Nat.le_of_ble_eq_true rfl) ?_
          exact W.iret hx hb hr (fun t ht hW => ⟨⟨_, _, rfl, ⟨rfl, rfl⟩, by rw [ht]; exact hP, va_K.moved hW.alike hK, hD⟩, hS.F ht⟩) hS.2.2 dX1_unload_49
def F_P_load (p1 : Int32) (p2 : Int32) (p3 : Int32) (u : CSt) : Option ((Nat ⊕ Int32) × CSt) := bi (F_P_checkWagon p1 ()) (fun or2 u1 => ox or2 (fun e_4 => some (.inl e_4, u)) (fun _ => bi (F_P_checkStation p2 ()) (fun or7 u6 => ox or7 (fun e_9 => some (.inl e_9, u)) (fun _ => bi (F_P_checkNotBelowZero p3 ()) (fun or12 u11 => ox or12 (fun e_14 => some (.inl e_14, u)) (fun _ => gd (inb p1 16) (bi (F_P_stockIndex p2 (u.2.2.2.2.2.1 p1.toNatClampNeg) ()) (fun r18 u17 => gd (inb r18 32) (gd (inb p1 16) (gd (inb p1 16) (gd (decide (¬ r18.toNatClampNeg = (32 + p1.toNatClampNeg))) (bi (F_Row_moveTo p3 (u.2.2.2.2.2.2.1 p1.toNatClampNeg) (u.2.2.2.2.2.2.2.2.2.2.2.2.2.2 r18.toNatClampNeg, u.2.2.2.2.2.2.2.2.2.2.2.2.2.2 (32 + p1.toNatClampNeg))) (fun r26 u25 => some ((.inr r26), (u.1, u.2.1, u.2.2.1, u.2.2.2.1, u.2.2.2.2.1, u.2.2.2.2.2.1, u.2.2.2.2.2.2.1, u.2.2.2.2.2.2.2.1, u.2.2.2.2.2.2.2.2.1, u.2.2.2.2.2.2.2.2.2.1, u.2.2.2.2.2.2.2.2.2.2.1, u.2.2.2.2.2.2.2.2.2.2.2.1, u.2.2.2.2.2.2.2.2.2.2.2.2.1, u.2.2.2.2.2.2.2.2.2.2.2.2.2.1, (va_up (va_up u.2.2.2.2.2.2.2.2.2.2.2.2.2.2 r18.toNatClampNeg u25.1) (32 + p1.toNatClampNeg) u25.2))))))))))))))))
set_option maxHeartbeats 4000000 in
set_option maxRecDepth 100000 in
theorem c_P_load (l : Launch) (hl9 : l.stackTraces = false) (D : va_G) (cI cR : ClassId) (sa : Nat → Nat) (ca qa : Nat → Nat) (sz : Nat) (p1 : Int32) (p2 : Int32) (p3 : Int32) (u : CSt) (r : Nat ⊕ Int32) (u' : CSt) (hF : F_P_load p1 p2 p3 u = some (r, u')) : vx_Met l yX1_load wsX1_load ({ frames := 7, cells := 3, slots := 18, locals := 102 }) (va_Pc [.ref (ca 0), .int p1, .int p2, .int p3] (PREX D (TY cI cR) (CW cI cR ca qa u) sz sa)) (XI D (TY cI cR) (va_A (CW cI cR ca qa u) sz) (fun v => CW cI cR ca qa v) r u') (XX D (TY cI cR) (va_A (CW cI cR ca qa u) sz) (fun v => CW cI cR ca qa v) r u') 3 18 (va_A (CW cI cR ca qa u) sz) := by
  refine vx_ofW (cc := cX1_load) (maxL := 5) (ret := (some .int)) (by decide) rfl ?_
  intro p e s m args below meth c s₁ B hml hnx hv
  obtain ⟨rfl, ⟨hsz, hP, hK, hD0⟩, hXK⟩ := hv
  have hx := B.exec
  have hb := B.bytes
  have hr := B.returns
  have hts := atoms_spec (ws := wsX1_load) B.pre
  have hown : s.vm.findClass RX1 = some m.cls := findClass_of_methodNamed B.named
  have hlocks := B.notSynchronized
  subst hsz
  have hD := hD0.self (sz := s.heap.size)
  generalize hAe : va_A (CW cI cR ca qa u) s.heap.size = A at hD hXK ⊢
  have hA : ∀ q : Nat, s.heap.size ≤ q → A q := fun q h => by rw [← hAe]; exact Or.inr h
  have hS : va_S A s.heap s.heap [] := va_S.rf
  replace hP : va_P D vwCl (CW cI cR ca qa u) s.heap := hP
  have hl := lv_entry ([.ref (ca 0), .int p1, .int p2, .int p3]) (n := 5) (Nat.le_of_ble_eq_true rfl)
  rw [lg_entry_eq]
  generalize (lg_sl ([.ref (ca 0), .int p1, .int p2, .int p3]) ++ List.replicate (5 - (lg_sl ([.ref (ca 0), .int p1, .int p2, .int p3])).length) Slot.unset).toArray = ls at hl ⊢
  replace hl : lv_has ls 5 [(0, .ref (ca 0)), (1, .int p1), (2, .int p2), (3, .int p3)] := hl
  have hk_11 := (hts _ (cwc _ mw_35))
  have hk_34 := (hts _ (cwc _ mw_42))
  have hk_31 := (hts _ (cwc _ mw_41))
  have hk_37 := (hts _ (cwc _ mw_43))
  obtain ⟨hXU, hXN, hXc1, hXc2, hXd1, hXd2, hXd3, hXn, -⟩ := id hXK
  unfold F_P_load at hF
  refine (?_ : ∀ (H : Heap) (locs : List Loc), va_P D vwCl (CW cI cR ca qa u) H → va_S A s.heap H locs → W p l e _ s m _ below meth c H locs 0 0 _ (F0 m 0 ls [])) s.heap [] hP hS
  intro H locs hP hS
  refine lv_iload_n hx hb dX1_load_0 rfl (lv_at hl 1 rfl) ?_
  obtain ⟨or2, u1, hc_3, hF⟩ := bi_some hF
  refine kx_v (W1 := CW cI cR ca qa u) (vx_runS (As := [.int p1]) (rest := []) ⟨hx, hb, hml, hown, hts⟩ (c_P_checkWagon l hl9 D cI cR sa  H.size p1 () or2 u1 hc_3) (va_cwS 1 hts (gS cwc mw_224 mw_225 mw_1 mw_226) rfl rfl rfl (by decide +kernel) ⟨(Nat.le_of_ble_eq_true rfl), (Nat.le_of_ble_eq_true rfl)⟩) (kpX_S hXK hK hP hD hS hA (sb_nil _)) rfl rfl hl.1 rfl (lv_room (Nat.le_of_ble_eq_true rfl)) dX1_load_1 ⟨(Nat.le_of_ble_eq_true rfl), (Nat.le_of_ble_eq_true rfl)⟩) hP hD hS hA (sb_nil _) (jn_nil _) (fun e_4 ce q9 H locs ho_5 hP hD hS hce hcv hcl => ?_) (fun H locs ho_5 hP hD hS => ?_)
  · subst ho_5
    replace hF := ox_l hF
    cases hF
    exact kx_out hnx hlocks hK hP hD hS hce hcv hcl rfl (Nat.le_of_ble_eq_true rfl) (Nat.le_of_ble_eq_true rfl)
  · subst ho_5
    replace hF := ox_r hF
    refine lv_iload_n hx hb dX1_load_4 rfl (lv_at hl 2 rfl) ?_
    obtain ⟨or7, u6, hc_8, hF⟩ := bi_some hF
    refine kx_v (W1 := CW cI cR ca qa u) (vx_runS (As := [.int p2]) (rest := []) ⟨hx, hb, hml, hown, hts⟩ (c_P_checkStation l hl9 D cI cR sa  H.size p2 () or7 u6 hc_8) (va_cwS 1 hts (gS cwc mw_124 mw_125 mw_1 mw_126) rfl rfl rfl (by decide +kernel) ⟨(Nat.le_of_ble_eq_true rfl), (Nat.le_of_ble_eq_true rfl)⟩) (kpX_S hXK hK hP hD hS hA (sb_nil _)) rfl rfl hl.1 rfl (lv_room (Nat.le_of_ble_eq_true rfl)) dX1_load_5 ⟨(Nat.le_of_ble_eq_true rfl), (Nat.le_of_ble_eq_true rfl)⟩) hP hD hS hA (sb_nil _) (jn_nil _) (fun e_9 ce q9 H locs ho_10 hP hD hS hce hcv hcl => ?_) (fun H locs ho_10 hP hD hS => ?_)
    · subst ho_10
      replace hF := ox_l hF
      cases hF
      exact kx_out hnx hlocks hK hP hD hS hce hcv hcl rfl (Nat.le_of_ble_eq_true rfl) (Nat.le_of_ble_eq_true rfl)
    · subst ho_10
      replace hF := ox_r hF
      refine lv_iload_n hx hb dX1_load_8 rfl (lv_at hl 3 rfl) ?_
      obtain ⟨or12, u11, hc_13, hF⟩ := bi_some hF
      refine kx_v (W1 := CW cI cR ca qa u) (vx_runS (As := [.int p3]) (rest := []) ⟨hx, hb, hml, hown, hts⟩ (c_P_checkNotBelowZero l hl9 D cI cR sa  H.size p3 () or12 u11 hc_13) (va_cwS 1 hts (gS cwc mw_257 mw_258 mw_1 mw_259) rfl rfl rfl (by decide +kernel) ⟨(Nat.le_of_ble_eq_true rfl), (Nat.le_of_ble_eq_true rfl)⟩) (kpX_S hXK hK hP hD hS hA (sb_nil _)) rfl rfl hl.1 rfl (lv_room (Nat.le_of_ble_eq_true rfl)) dX1_load_9 ⟨(Nat.le_of_ble_eq_true rfl), (Nat.le_of_ble_eq_true rfl)⟩) hP hD hS hA (sb_nil _) (jn_nil _) (fun e_14 ce q9 H locs ho_15 hP hD hS hce hcv hcl => ?_) (fun H locs ho_15 hP hD hS => ?_)
      · subst ho_15
        replace hF := ox_l hF
        cases hF
        exact kx_out hnx hlocks hK hP hD hS hce hcv hcl rfl (Nat.le_of_ble_eq_true rfl) (Nat.le_of_ble_eq_true rfl)
      · subst ho_15
        replace hF := ox_r hF
        refine lv_aload_n hx hb dX1_load_12 rfl (lv_at hl 0 rfl) ?_
        refine va_get (D := D) (ci := 1) (v := .ref (ca 1)) (C := RX1) (T := TX1) (N := 16) hx hb hts (fun w h => cwc w (in_X1 w h)) hown hK hP 0 rfl rfl 0 (by decide) hk_11 (fun _ h9 => h9) rfl dX1_load_13 ?_
        refine lv_iload_n hx hb dX1_load_16 rfl (lv_at hl 2 rfl) ?_
        refine lv_aload_n hx hb dX1_load_17 rfl (lv_at hl 0 rfl) ?_
        refine va_get (D := D) (ci := 1) (v := .ref (ca 8)) (C := RX1) (T := TX1) (N := 16) hx hb hts (fun w h => cwc w (in_X1 w h)) hown hK hP 0 rfl rfl 7 (by decide) hk_34 (fun _ h9 => h9) rfl dX1_load_18 ?_
        refine lv_iload_n hx hb dX1_load_21 rfl (lv_at hl 1 rfl) ?_
        obtain ⟨h_16, hF⟩ := gd_some hF
        refine va_iald (f := u.2.2.2.2.2.1) hx hb hK hP 8 0 rfl rfl (inb_in h_16) dX1_load_22 ?_
        obtain ⟨r18, u17, hc_19, hF⟩ := bi_some hF
        refine kc_i (W1 := CW cI cR ca qa u) (va_runS (As := [.int p2, .int (u.2.2.2.2.2.1 p1.toNatClampNeg)]) (rest := [.ref (ca 1)]) ⟨hx, hb, hml, hown, hts⟩ (c_P_stockIndex l D cI cR  H.size p2 (u.2.2.2.2.2.1 p1.toNatClampNeg) () r18 u17 hc_19) (va_cwS 2 hts (gS cwc mw_86 mw_87 mw_1 mw_88) rfl rfl rfl (by decide +kernel) ⟨(Nat.le_of_ble_eq_true rfl), (Nat.le_of_ble_eq_true rfl)⟩) (kp_S hK hP hD (sb_nil _)) rfl rfl hl.1 rfl (lv_room (Nat.le_of_ble_eq_true rfl)) dX1_load_23 ⟨(Nat.le_of_ble_eq_true rfl), (Nat.le_of_ble_eq_true rfl)⟩) hP hD hS hA (sb_nil _) (jn_nil _) (fun H locs hP hD hS => ?_)
        obtain ⟨h_20, hF⟩ := gd_some hF
        refine va_aldq hx hb hK hP 1 1 rfl rfl (inb_in h_20) dX1_load_26 ?_
        refine W.eq (g2 := F0 m 27 ls [.ref (qa (4 * r18.toNatClampNeg))]) rfl ?_
        have hj_21 : r18.toNatClampNeg < 48 := by have := inb_lt h_20; omega
        refine lv_astore (lv' := [(4, .ref (qa (4 * r18.toNatClampNeg))), (0, .ref (ca 0)), (1, .int p1), (2, .int p2), (3, .int p3)]) hx hb dX1_load_27 hl (by decide) rfl (fun ls hl => ?_)
        refine lv_aload hx hb dX1_load_29 (lv_at hl 0 rfl) ?_
        refine lv_aload_n hx hb dX1_load_31 rfl (lv_at hl 1 rfl) ?_
        refine va_get (D := D) (ci := 1) (v := .ref (ca 7)) (C := RX1) (T := TX1) (N := 16) hx hb hts (fun w h => cwc w (in_X1 w h)) hown hK hP 0 rfl rfl 6 (by decide) hk_31 (fun _ h9 => h9) rfl dX1_load_32 ?_
        refine lv_iload_n hx hb dX1_load_35 rfl (lv_at hl 2 rfl) ?_
        obtain ⟨h_22, hF⟩ := gd_some hF
        refine va_aldq hx hb hK hP 7 1 rfl rfl (inb_in h_22) dX1_load_36 ?_
        refine W.eq (g2 := F0 m 37 ls [.ref (qa (4 * (32 + p1.toNatClampNeg))), .ref (qa (4 * r18.toNatClampNeg))]) rfl ?_
        have hj_23 : (32 + p1.toNatClampNeg) < 48 := by have := inb_lt h_22; omega
        refine lv_iload_n hx hb dX1_load_37 rfl (lv_at hl 4 rfl) ?_
        refine lv_aload_n hx hb dX1_load_38 rfl (lv_at hl 1 rfl) ?_
        refine va_get (D := D) (ci := 1) (v := .ref (ca 9)) (C := RX1) (T := TX1) (N := 16) hx hb hts (fun w h => cwc w (in_X1 w h)) hown hK hP 0 rfl rfl 8 (by decide) hk_37 (fun _ h9 => h9) rfl dX1_load_39 ?_
        refine lv_iload_n hx hb dX1_load_42 rfl (lv_at hl 2 rfl) ?_
        obtain ⟨h_24, hF⟩ := gd_some hF
        refine va_iald (f := u.2.2.2.2.2.2.1) hx hb hK hP 9 0 rfl rfl (inb_in h_24) dX1_load_43 ?_
        obtain ⟨hn_27, hF⟩ := gd_some hF
        obtain ⟨r26, u25, hc_28, hF⟩ := bi_some hF
        refine kc_i (W1 := CW cI cR ca qa (u.1, u.2.1, u.2.2.1, u.2.2.2.1, u.2.2.2.2.1, u.2.2.2.2.2.1, u.2.2.2.2.2.2.1, u.2.2.2.2.2.2.2.1, u.2.2.2.2.2.2.2.2.1, u.2.2.2.2.2.2.2.2.2.1, u.2.2.2.2.2.2.2.2.2.2.1, u.2.2.2.2.2.2.2.2.2.2.2.1, u.2.2.2.2.2.2.2.2.2.2.2.2.1, u.2.2.2.2.2.2.2.2.2.2.2.2.2.1, (va_up (va_up u.2.2.2.2.2.2.2.2.2.2.2.2.2.2 r18.toNatClampNeg u25.1) (32 + p1.toNatClampNeg) u25.2))) (va_runV (As := [.ref (qa (4 * (32 + p1.toNatClampNeg))), .int p3, .int (u.2.2.2.2.2.2.1 p1.toNatClampNeg)]) (rest := []) ⟨hx, hb, hml, hown, hts⟩ (c_Row_moveTo l D cI cR (qa (4 * r18.toNatClampNeg)) (qa (4 * r18.toNatClampNeg + 1)) (qa (4 * r18.toNatClampNeg + 2)) (qa (4 * r18.toNatClampNeg + 3)) (qa (4 * (32 + p1.toNatClampNeg))) (qa (4 * (32 + p1.toNatClampNeg) + 1)) (qa (4 * (32 + p1.toNatClampNeg) + 2)) (qa (4 * (32 + p1.toNatClampNeg) + 3)) H.size p3 (u.2.2.2.2.2.2.1 p1.toNatClampNeg) (u.2.2.2.2.2.2.2.2.2.2.2.2.2.2 r18.toNatClampNeg, u.2.2.2.2.2.2.2.2.2.2.2.2.2.2 (32 + p1.toNatClampNeg)) r26 u25 hc_28) (cwV 3 hts (gV cwc mw_260 mw_261 mw_262 mw_2 mw_263) rfl rfl rfl (by decide +kernel) ⟨(Nat.le_of_ble_eq_true rfl), (Nat.le_of_ble_eq_true rfl)⟩) (kp_V (ci := 0) (q := (RX0, TX0, 5)) hK hP hD (cw_sb2 hj_21 hj_23 (of_decide_eq_true hn_27)) rfl rfl) rfl rfl hl.1 rfl (lv_room (Nat.le_of_ble_eq_true rfl)) dX1_load_44 ⟨(Nat.le_of_ble_eq_true rfl), (Nat.le_of_ble_eq_true rfl)⟩) hP hD hS hA (cw_sb2 hj_21 hj_23 (of_decide_eq_true hn_27)) (cw_jn2 hj_21 hj_23 (of_decide_eq_true hn_27)) (fun H locs hP hD hS => ?_)
        cases hF
        refine vx_ret ?_
        refine W.widen (k := 3) (n := 18) (Nat.le_of_ble_eq_true rfl) (Nat.le_of_ble_eq_true rfl) ?_
        exact W.iret hx hb hr (fun t ht hW => ⟨⟨_, _, rfl, ⟨rfl, rfl⟩, by rw [ht]; exact hP, va_K.moved hW.alike hK, hD⟩, hS.F ht⟩) hS.2.2 dX1_load_47
def F_P_pass_L54 : Nat → Int32 → Int32 → Int32 → Int32 → CSt → Option ((Nat ⊕ Int32) × CSt)
  | 0, _, _, _, _, _ => none
  | n + 1, x1, x2, x3, x4, u => (if x2 < x4 then some ((.inr x2), (u.1, u.2.1, u.2.2.1, u.2.2.2.1, u.2.2.2.2.1, u.2.2.2.2.2.1, u.2.2.2.2.2.2.1, u.2.2.2.2.2.2.2.1, u.2.2.2.2.2.2.2.2.1, u.2.2.2.2.2.2.2.2.2.1, x2, u.2.2.2.2.2.2.2.2.2.2.2.1, u.2.2.2.2.2.2.2.2.2.2.2.2.1, u.2.2.2.2.2.2.2.2.2.2.2.2.2.1, u.2.2.2.2.2.2.2.2.2.2.2.2.2.2)) else bi (F_P_produceEverywhere (u.1, u.2.1, u.2.2.1, u.2.2.2.1, u.2.2.2.2.1, u.2.2.2.2.2.1, u.2.2.2.2.2.2.1, u.2.2.2.2.2.2.2.1, u.2.2.2.2.2.2.2.2.1, u.2.2.2.2.2.2.2.2.2.1, x4, u.2.2.2.2.2.2.2.2.2.2.2.1, u.2.2.2.2.2.2.2.2.2.2.2.2.1, u.2.2.2.2.2.2.2.2.2.2.2.2.2.1, u.2.2.2.2.2.2.2.2.2.2.2.2.2.2)) (fun r11 u10 => F_P_pass_L54 n x1 x2 x3 (x4 + (16 : Int32)) u10))
def F_P_pass (p1 : Int32) (u : CSt) : Option ((Nat ⊕ Int32) × CSt) := bi (F_P_checkRange p1 (2000 : Int32) ()) (fun or2 u1 => ox or2 (fun e_4 => some (.inl e_4, u)) (fun _ => (if p1 ≤ ((2000000000 : Int32) - u.2.2.2.2.2.2.2.2.2.2.1) then nm ((u.2.2.2.2.2.2.2.2.2.2.1 + p1)) (fun v7 => nm (((u.2.2.2.2.2.2.2.2.2.2.1 - (u.2.2.2.2.2.2.2.2.2.2.1 - u.2.2.2.2.2.2.2.2.2.2.1 / (16 : Int32) * (16 : Int32))) + (16 : Int32))) (fun v8 => F_P_pass_L54 200 p1 v7 v8 v8 u)) else some (.inl 2, u))))
set_option maxHeartbeats 4000000 in
set_option maxRecDepth 100000 in
theorem w_P_pass_L54 {p : Program} {l : Launch} {e : Env} {s : State} {m : MethodId} {args : Array Value} {below : List Frame} {meth : Method} {c : Code} {A : Nat → Prop} {D : va_G} {cI cR : ClassId} {ca qa : Nat → Nat} (hx : p.tables.exec = Jvm.exec) (hb : c.code = cX1_pass) (hr : meth.sig.returnType = (some .int)) (hml : c.maxLocals = 5) (hown : s.vm.findClass RX1 = some m.cls) (hts : ∀ w ∈ wsX1_pass, w.before args s = true) (hlocks : meth.locks = false) (hA : ∀ q : Nat, s.heap.size ≤ q → A q) (hK : va_K D vwCl (TY cI cR) s) (hnx : ∀ x ∈ c.exceptionTable.toList, False) (hl9 : l.stackTraces = false) {sa : Nat → Nat} (hXK : XK sa A s) : ∀ (n : Nat) (x1 x2 x3 x4 : Int32) (u : CSt) (r : Nat ⊕ Int32) (u' : CSt), F_P_pass_L54 n x1 x2 x3 x4 u = some (r, u') → ∀ (H : Heap) (locs : List Loc) (ls : Array Slot), va_P D vwCl (CW cI cR ca qa u) H → va_D A (CW cI cR ca qa u) → va_S A s.heap H locs → lv_has ls 5 [(0, .ref (ca 0)), (1, .int x1), (2, .int x2), (3, .int x3), (4, .int x4)] → W p l e (headSpec wsX1_pass ({ frames := 7, cells := 2, slots := 12, locals := 103 })).room s m args below meth c H locs 1 6 (vx_MQ below (XI D (TY cI cR) A (fun v => CW cI cR ca qa v) r u') (XX D (TY cI cR) A (fun v => CW cI cR ca qa v) r u') args s 2 12 A) (F0 m 54 ls []) := by
  have hC_100 := (hts _ (cwc _ mw_72))
  have hk_49 := (hts _ (cwc _ mw_47))
  obtain ⟨hXU, hXN, hXc1, hXc2, hXd1, hXd2, hXd3, hXn, -⟩ := id hXK
  intro n
  induction n with
  | zero =>
    intro x1 x2 x3 x4 u r u' hF
    rw [F_P_pass_L54] at hF
    exact absurd hF (by simp)
  | succ n ih =>
    intro x1 x2 x3 x4 u r u' hF H locs ls hP hD hS hl
    rw [F_P_pass_L54] at hF
    refine lv_iload hx hb dX1_pass_54 (lv_at hl 4 rfl) ?_
    refine lv_iload_n hx hb dX1_pass_56 rfl (lv_at hl 2 rfl) ?_
    refine lv_icmp_gt (tgt := 76) hx hb dX1_pass_57 (by decide) (fun c_9 => ?_) (fun c_9 => ?_)
    · replace hF := (if_pos c_9).symm.trans hF
      refine lv_aload_n hx hb dX1_pass_76 rfl (lv_at hl 0 rfl) ?_
      refine lv_iload_n hx hb dX1_pass_77 rfl (lv_at hl 2 rfl) ?_
      refine va_put (D := D) (ci := 1) (v := .int x2) (ty := .int) (C := RX1) (T := TX1) (N := 16) hx hb hts (fun w h => cwc w (in_X1 w h)) tyX1 tyX1_ok nmX1 hown hK hP hD hS 0 rfl rfl 12 (by decide) hk_49 (fun _ h9 => h9) rfl (by decide +kernel) rfl rfl (Nat.le_of_ble_eq_true rfl) dX1_pass_78 (fun H locs hP hD hS => ?_)
      replace hP : va_P D vwCl (CW cI cR ca qa (u.1, u.2.1, u.2.2.1, u.2.2.2.1, u.2.2.2.2.1, u.2.2.2.2.2.1, u.2.2.2.2.2.2.1, u.2.2.2.2.2.2.2.1, u.2.2.2.2.2.2.2.2.1, u.2.2.2.2.2.2.2.2.2.1, x2, u.2.2.2.2.2.2.2.2.2.2.2.1, u.2.2.2.2.2.2.2.2.2.2.2.2.1, u.2.2.2.2.2.2.2.2.2.2.2.2.2.1, u.2.2.2.2.2.2.2.2.2.2.2.2.2.2)) H := hP
      replace hD : va_D A (CW cI cR ca qa (u.1, u.2.1, u.2.2.1, u.2.2.2.1, u.2.2.2.2.1, u.2.2.2.2.2.1, u.2.2.2.2.2.2.1, u.2.2.2.2.2.2.2.1, u.2.2.2.2.2.2.2.2.1, u.2.2.2.2.2.2.2.2.2.1, x2, u.2.2.2.2.2.2.2.2.2.2.2.1, u.2.2.2.2.2.2.2.2.2.2.2.2.1, u.2.2.2.2.2.2.2.2.2.2.2.2.2.1, u.2.2.2.2.2.2.2.2.2.2.2.2.2.2)) := hD
      refine lv_aload_n hx hb dX1_pass_81 rfl (lv_at hl 0 rfl) ?_
      refine va_get (D := D) (ci := 1) (v := .int x2) (C := RX1) (T := TX1) (N := 16) hx hb hts (fun w h => cwc w (in_X1 w h)) hown hK hP 0 rfl rfl 12 (by decide) hk_49 (fun _ h9 => h9) rfl dX1_pass_82 ?_
      cases hF
      refine vx_ret ?_
      refine W.widen (k := 2) (n := 12) (Nat.le_of_ble_eq_true rfl) (Nat.le_of_ble_eq_true rfl) ?_
      exact W.iret hx hb hr (fun t ht hW => ⟨⟨_, _, rfl, ⟨rfl, rfl⟩, by rw [ht]; exact hP, va_K.moved hW.alike hK, hD⟩, hS.F ht⟩) hS.2.2 dX1_pass_85
    · replace hF := (if_neg c_9).symm.trans hF
      refine lv_aload_n hx hb dX1_pass_60 rfl (lv_at hl 0 rfl) ?_
      refine lv_iload hx hb dX1_pass_61 (lv_at hl 4 rfl) ?_
      refine va_put (D := D) (ci := 1) (v := .int x4) (ty := .int) (C := RX1) (T := TX1) (N := 16) hx hb hts (fun w h => cwc w (in_X1 w h)) tyX1 tyX1_ok nmX1 hown hK hP hD hS 0 rfl rfl 12 (by decide) hk_49 (fun _ h9 => h9) rfl (by decide +kernel) rfl rfl (Nat.le_of_ble_eq_true rfl) dX1_pass_63 (fun H locs hP hD hS => ?_)
      replace hP : va_P D vwCl (CW cI cR ca qa (u.1, u.2.1, u.2.2.1, u.2.2.2.1, u.2.2.2.2.1, u.2.2.2.2.2.1, u.2.2.2.2.2.2.1, u.2.2.2.2.2.2.2.1, u.2.2.2.2.2.2.2.2.1, u.2.2.2.2.2.2.2.2.2.1, x4, u.2.2.2.2.2.2.2.2.2.2.2.1, u.2.2.2.2.2.2.2.2.2.2.2.2.1, u.2.2.2.2.2.2.2.2.2.2.2.2.2.1, u.2.2.2.2.2.2.2.2.2.2.2.2.2.2)) H := hP
      replace hD : va_D A (CW cI cR ca qa (u.1, u.2.1, u.2.2.1, u.2.2.2.1, u.2.2.2.2.1, u.2.2.2.2.2.1, u.2.2.2.2.2.2.1, u.2.2.2.2.2.2.2.1, u.2.2.2.2.2.2.2.2.1, u.2.2.2.2.2.2.2.2.2.1, x4, u.2.2.2.2.2.2.2.2.2.2.2.1, u.2.2.2.2.2.2.2.2.2.2.2.2.1, u.2.2.2.2.2.2.2.2.2.2.2.2.2.1, u.2.2.2.2.2.2.2.2.2.2.2.2.2.2)) := hD
      refine lv_aload_n hx hb dX1_pass_66 rfl (lv_at hl 0 rfl) ?_
      obtain ⟨r11, u10, hc_12, hF⟩ := bi_some hF
      refine kc_v (W1 := CW cI cR ca qa u10) (va_runV (As := []) (rest := []) ⟨hx, hb, hml, hown, hts⟩ (c_P_produceEverywhere l D cI cR ca qa H.size  (u.1, u.2.1, u.2.2.1, u.2.2.2.1, u.2.2.2.2.1, u.2.2.2.2.2.1, u.2.2.2.2.2.2.1, u.2.2.2.2.2.2.2.1, u.2.2.2.2.2.2.2.2.1, u.2.2.2.2.2.2.2.2.2.1, x4, u.2.2.2.2.2.2.2.2.2.2.2.1, u.2.2.2.2.2.2.2.2.2.2.2.2.1, u.2.2.2.2.2.2.2.2.2.2.2.2.2.1, u.2.2.2.2.2.2.2.2.2.2.2.2.2.2) r11 u10 hc_12) (cwV 0 hts (gV cwc mw_234 mw_235 mw_477 mw_1 mw_236) rfl rfl rfl (by decide +kernel) ⟨(Nat.le_of_ble_eq_true rfl), (Nat.le_of_ble_eq_true rfl)⟩) (kp_V (ci := 1) (q := (RX1, TX1, 16)) hK hP hD (sb_id _) rfl rfl) rfl rfl hl.1 rfl (lv_room (Nat.le_of_ble_eq_true rfl)) dX1_pass_67 ⟨(Nat.le_of_ble_eq_true rfl), (Nat.le_of_ble_eq_true rfl)⟩) hP hD hS hA (sb_id _) (jn_id (cw_ad _ _)) (fun H locs hP hD hS => ?_)
      refine lv_iinc (v := (x4 + (16 : Int32))) (lv' := [(4, .int (x4 + (16 : Int32))), (0, .ref (ca 0)), (1, .int x1), (2, .int x2), (3, .int x3)]) hx hb dX1_pass_70 hl (k := 4) rfl rfl (by decide) rfl (fun ls hl => ?_)
      refine lv_goto (tgt := 54) hx hb dX1_pass_73 (by decide) ?_
      exact ih x1 x2 x3 (x4 + (16 : Int32)) u10 _ _ hF H locs ls hP hD hS (lv_sub hl [1, 2, 3, 4, 0] rfl)
set_option maxHeartbeats 4000000 in
set_option maxRecDepth 100000 in
theorem c_P_pass (l : Launch) (hl9 : l.stackTraces = false) (D : va_G) (cI cR : ClassId) (sa : Nat → Nat) (ca qa : Nat → Nat) (sz : Nat) (p1 : Int32) (u : CSt) (r : Nat ⊕ Int32) (u' : CSt) (hF : F_P_pass p1 u = some (r, u')) : vx_Met l yX1_pass wsX1_pass ({ frames := 7, cells := 2, slots := 12, locals := 103 }) (va_Pc [.ref (ca 0), .int p1] (PREX D (TY cI cR) (CW cI cR ca qa u) sz sa)) (XI D (TY cI cR) (va_A (CW cI cR ca qa u) sz) (fun v => CW cI cR ca qa v) r u') (XX D (TY cI cR) (va_A (CW cI cR ca qa u) sz) (fun v => CW cI cR ca qa v) r u') 2 12 (va_A (CW cI cR ca qa u) sz) := by
  refine vx_ofW (cc := cX1_pass) (maxL := 5) (ret := (some .int)) (by decide) rfl ?_
  intro p e s m args below meth c s₁ B hml hnx hv
  obtain ⟨rfl, ⟨hsz, hP, hK, hD0⟩, hXK⟩ := hv
  have hx := B.exec
  have hb := B.bytes
  have hr := B.returns
  have hts := atoms_spec (ws := wsX1_pass) B.pre
  have hown : s.vm.findClass RX1 = some m.cls := findClass_of_methodNamed B.named
  have hlocks := B.notSynchronized
  subst hsz
  have hD := hD0.self (sz := s.heap.size)
  generalize hAe : va_A (CW cI cR ca qa u) s.heap.size = A at hD hXK ⊢
  have hA : ∀ q : Nat, s.heap.size ≤ q → A q := fun q h => by rw [← hAe]; exact Or.inr h
  have hS : va_S A s.heap s.heap [] := va_S.rf
  replace hP : va_P D vwCl (CW cI cR ca qa u) s.heap := hP
  have hl := lv_entry ([.ref (ca 0), .int p1]) (n := 5) (Nat.le_of_ble_eq_true rfl)
  rw [lg_entry_eq]
  generalize (lg_sl ([.ref (ca 0), .int p1]) ++ List.replicate (5 - (lg_sl ([.ref (ca 0), .int p1])).length) Slot.unset).toArray = ls at hl ⊢
  replace hl : lv_has ls 5 [(0, .ref (ca 0)), (1, .int p1)] := hl
  have hC_100 := (hts _ (cwc _ mw_72))
  have hk_49 := (hts _ (cwc _ mw_47))
  obtain ⟨hXU, hXN, hXc1, hXc2, hXd1, hXd2, hXd3, hXn, -⟩ := id hXK
  unfold F_P_pass at hF
  refine (?_ : ∀ (H : Heap) (locs : List Loc), va_P D vwCl (CW cI cR ca qa u) H → va_S A s.heap H locs → W p l e _ s m _ below meth c H locs 0 0 _ (F0 m 0 ls [])) s.heap [] hP hS
  intro H locs hP hS
  refine lv_iload_n hx hb dX1_pass_0 rfl (lv_at hl 1 rfl) ?_
  refine lv_sipush (v := (2000 : Int32)) hx hb dX1_pass_1 (by decide +kernel) ?_
  obtain ⟨or2, u1, hc_3, hF⟩ := bi_some hF
  refine kx_v (W1 := CW cI cR ca qa u) (vx_runS (As := [.int p1, .int (2000 : Int32)]) (rest := []) ⟨hx, hb, hml, hown, hts⟩ (c_P_checkRange l hl9 D cI cR sa  H.size p1 (2000 : Int32) () or2 u1 hc_3) (va_cwS 2 hts (gS cwc mw_176 mw_177 mw_1 mw_178) rfl rfl rfl (by decide +kernel) ⟨(Nat.le_of_ble_eq_true rfl), (Nat.le_of_ble_eq_true rfl)⟩) (kpX_S hXK hK hP hD hS hA (sb_nil _)) rfl rfl hl.1 rfl (lv_room (Nat.le_of_ble_eq_true rfl)) dX1_pass_4 ⟨(Nat.le_of_ble_eq_true rfl), (Nat.le_of_ble_eq_true rfl)⟩) hP hD hS hA (sb_nil _) (jn_nil _) (fun e_4 ce q9 H locs ho_5 hP hD hS hce hcv hcl => ?_) (fun H locs ho_5 hP hD hS => ?_)
  · subst ho_5
    replace hF := ox_l hF
    cases hF
    exact kx_out hnx hlocks hK hP hD hS hce hcv hcl rfl (Nat.le_of_ble_eq_true rfl) (Nat.le_of_ble_eq_true rfl)
  · subst ho_5
    replace hF := ox_r hF
    refine lv_iload_n hx hb dX1_pass_7 rfl (lv_at hl 1 rfl) ?_
    refine lv_ldc (v := (2000000000 : Int32)) hx hb hown hC_100 dX1_pass_8 ?_
    refine lv_aload_n hx hb dX1_pass_10 rfl (lv_at hl 0 rfl) ?_
    refine va_get (D := D) (ci := 1) (v := .int u.2.2.2.2.2.2.2.2.2.2.1) (C := RX1) (T := TX1) (N := 16) hx hb hts (fun w h => cwc w (in_X1 w h)) hown hK hP 0 rfl rfl 12 (by decide) hk_49 (fun _ h9 => h9) rfl dX1_pass_11 ?_
    refine lv_isub hx hb dX1_pass_14 ?_
    refine lv_icmp_le (tgt := 28) hx hb dX1_pass_15 (by decide) (fun c_6 => ?_) (fun c_6 => ?_)
    · replace hF := (if_pos c_6).symm.trans hF
      refine lv_aload_n hx hb dX1_pass_28 rfl (lv_at hl 0 rfl) ?_
      refine va_get (D := D) (ci := 1) (v := .int u.2.2.2.2.2.2.2.2.2.2.1) (C := RX1) (T := TX1) (N := 16) hx hb hts (fun w h => cwc w (in_X1 w h)) hown hK hP 0 rfl rfl 12 (by decide) hk_49 (fun _ h9 => h9) rfl dX1_pass_29 ?_
      refine lv_iload_n hx hb dX1_pass_32 rfl (lv_at hl 1 rfl) ?_
      refine lv_iadd hx hb dX1_pass_33 ?_
      obtain ⟨v7, ev7, hF⟩ := nm_some hF
      refine W.eq (g2 := F0 m 34 ls (.int v7 :: [])) (congrArg (fun z => F0 m 34 ls (.int z :: [])) ev7.symm) ?_
      refine lv_istore_n (lv' := [(2, .int v7), (0, .ref (ca 0)), (1, .int p1)]) hx hb dX1_pass_34 rfl hl (by decide) rfl (fun ls hl => ?_)
      refine lv_aload_n hx hb dX1_pass_35 rfl (lv_at hl 1 rfl) ?_
      refine va_get (D := D) (ci := 1) (v := .int u.2.2.2.2.2.2.2.2.2.2.1) (C := RX1) (T := TX1) (N := 16) hx hb hts (fun w h => cwc w (in_X1 w h)) hown hK hP 0 rfl rfl 12 (by decide) hk_49 (fun _ h9 => h9) rfl dX1_pass_36 ?_
      refine lv_aload_n hx hb dX1_pass_39 rfl (lv_at hl 1 rfl) ?_
      refine va_get (D := D) (ci := 1) (v := .int u.2.2.2.2.2.2.2.2.2.2.1) (C := RX1) (T := TX1) (N := 16) hx hb hts (fun w h => cwc w (in_X1 w h)) hown hK hP 0 rfl rfl 12 (by decide) hk_49 (fun _ h9 => h9) rfl dX1_pass_40 ?_
      refine lv_bipush (v := (16 : Int32)) hx hb dX1_pass_43 (by decide +kernel) ?_
      refine lv_irem hx hb dX1_pass_45 (by decide +kernel) ?_
      refine lv_isub hx hb dX1_pass_46 ?_
      refine lv_bipush (v := (16 : Int32)) hx hb dX1_pass_47 (by decide +kernel) ?_
      refine lv_iadd hx hb dX1_pass_49 ?_
      obtain ⟨v8, ev8, hF⟩ := nm_some hF
      refine W.eq (g2 := F0 m 50 ls (.int v8 :: [])) (congrArg (fun z => F0 m 50 ls (.int z :: [])) ev8.symm) ?_
      refine lv_istore_n (lv' := [(3, .int v8), (2, .int v7), (0, .ref (ca 0)), (1, .int p1)]) hx hb dX1_pass_50 rfl hl (by decide) rfl (fun ls hl => ?_)
      refine lv_iload_n hx hb dX1_pass_51 rfl (lv_at hl 0 rfl) ?_
      refine lv_istore (lv' := [(4, .int v8), (3, .int v8), (2, .int v7), (0, .ref (ca 0)), (1, .int p1)]) hx hb dX1_pass_52 hl (by decide) rfl (fun ls hl => ?_)
      exact w_P_pass_L54 hx hb hr hml hown hts hlocks hA hK hnx hl9 hXK 200 p1 v7 v8 v8 u _ _ hF H locs ls hP hD hS (lv_sub hl [3, 4, 2, 1, 0] rfl)
    · replace hF := (if_neg c_6).symm.trans hF
      cases hF
      exact vx_throwS (own := RX1) (cls := "java/lang/IllegalArgumentException") (names := ["java/lang/RuntimeException", "java/lang/Exception"]) hx hb hl9 hown (by decide +kernel) (by decide +kernel) (hts _ (cwc _ mw_179)) (hts _ (cwc _ mw_8)) (XK_s101 hXK) (vx_hat (L := vx_atS RX1 86 "java/lang/IllegalArgumentException" ["java/lang/RuntimeException", "java/lang/Exception"]) (fun w hw => hts w (cwc w (hatA_2 w hw))) hatB_2 (vx_c (va_Nw.use rfl hXc2) (vx_c (va_Nw.use rfl hXd1) (vx_c (va_Nw.use rfl hXd2) (vx_c (va_Nw.use rfl hXd3) (vx_n)))))) hatC_2 hXU hXN hS (hl.1.trans hml.symm) dX1_pass_18 dX1_pass_21 dX1_pass_22 dX1_pass_24 dX1_pass_27 (fun x hx9 => (hnx x hx9).elim) (Nat.le_of_ble_eq_true rfl) (Nat.le_of_ble_eq_true rfl) (Nat.le_of_ble_eq_true rfl) (Nat.le_of_ble_eq_true rfl) hlocks (fun t ha hsz hk => ⟨2, rfl, ⟨rfl, hP.kept (fun k q hq => hk q.1 (hP k q hq).lt), va_K.moved ha hK, hD⟩, Nat.le_trans hS.1 hsz, fun q h1 h2 => (hk q (Nat.lt_of_lt_of_le h1 hS.1)).trans (hS.2.1 q h1 h2)⟩) hS.2.2 (Nat.le_of_ble_eq_true rfl) (Nat.le_of_ble_eq_true rfl)
def F_P_wagon (p1 : Int32) (p2 : Int32) (p3 : Int32) (u : CSt) : Option ((Nat ⊕ Unit) × CSt) := bi (F_P_checkWagon p1 ()) (fun or2 u1 => ox or2 (fun e_4 => some (.inl e_4, u)) (fun _ => bi (F_P_checkKind p2 ()) (fun or7 u6 => ox or7 (fun e_9 => some (.inl e_9, u)) (fun _ => bi (F_P_checkRange p3 (80 : Int32) ()) (fun or12 u11 => ox or12 (fun e_14 => some (.inl e_14, u)) (fun _ => gd (inb p1 16) (bi (F_Row_total (u.2.2.2.2.2.2.2.2.2.2.2.2.2.2 (32 + p1.toNatClampNeg))) (fun r19 u18 => (if r19 ≤ p3 then (if r19 ≤ (0 : Int32) then gd (inb p1 16) (gd (inb p1 16) (some ((.inr ()), (u.1, u.2.1, u.2.2.1, u.2.2.2.1, u.2.2.2.2.1, (upd u.2.2.2.2.2.1 p1.toNatClampNeg p2), (upd u.2.2.2.2.2.2.1 p1.toNatClampNeg p3), u.2.2.2.2.2.2.2.1, u.2.2.2.2.2.2.2.2.1, u.2.2.2.2.2.2.2.2.2.1, u.2.2.2.2.2.2.2.2.2.2.1, u.2.2.2.2.2.2.2.2.2.2.2.1, u.2.2.2.2.2.2.2.2.2.2.2.2.1, u.2.2.2.2.2.2.2.2.2.2.2.2.2.1, u.2.2.2.2.2.2.2.2.2.2.2.2.2.2)))) else gd (inb p1 16) ((if (u.2.2.2.2.2.1 p1.toNatClampNeg) = p2 then gd (inb p1 16) (gd (inb p1 16) (some ((.inr ()), (u.1, u.2.1, u.2.2.1, u.2.2.2.1, u.2.2.2.2.1, (upd u.2.2.2.2.2.1 p1.toNatClampNeg p2), (upd u.2.2.2.2.2.2.1 p1.toNatClampNeg p3), u.2.2.2.2.2.2.2.1, u.2.2.2.2.2.2.2.2.1, u.2.2.2.2.2.2.2.2.2.1, u.2.2.2.2.2.2.2.2.2.2.1, u.2.2.2.2.2.2.2.2.2.2.2.1, u.2.2.2.2.2.2.2.2.2.2.2.2.1, u.2.2.2.2.2.2.2.2.2.2.2.2.2.1, u.2.2.2.2.2.2.2.2.2.2.2.2.2.2)))) else some (.inl 2, u)))) else some (.inl 2, u))))))))))
set_option maxHeartbeats 4000000 in
set_option maxRecDepth 100000 in
theorem c_P_wagon (l : Launch) (hl9 : l.stackTraces = false) (D : va_G) (cI cR : ClassId) (sa : Nat → Nat) (ca qa : Nat → Nat) (sz : Nat) (p1 : Int32) (p2 : Int32) (p3 : Int32) (u : CSt) (r : Nat ⊕ Unit) (u' : CSt) (hF : F_P_wagon p1 p2 p3 u = some (r, u')) : vx_Met l yX1_wagon wsX1_wagon ({ frames := 7, cells := 4, slots := 24, locals := 103 }) (va_Pc [.ref (ca 0), .int p1, .int p2, .int p3] (PREX D (TY cI cR) (CW cI cR ca qa u) sz sa)) (XV D (TY cI cR) (va_A (CW cI cR ca qa u) sz) (fun v => CW cI cR ca qa v) r u') (XX D (TY cI cR) (va_A (CW cI cR ca qa u) sz) (fun v => CW cI cR ca qa v) r u') 4 24 (va_A (CW cI cR ca qa u) sz) := by
  refine vx_ofW (cc := cX1_wagon) (maxL := 5) (ret := none) (by decide) rfl ?_
  intro p e s m args below meth c s₁ B hml hnx hv
  obtain ⟨rfl, ⟨hsz, hP, hK, hD0⟩, hXK⟩ := hv
  have hx := B.exec
  have hb := B.bytes
  have hr := B.returns
  have hts := atoms_spec (ws := wsX1_wagon) B.pre
  have hown : s.vm.findClass RX1 = some m.cls := findClass_of_methodNamed B.named
  have hlocks := B.notSynchronized
  subst hsz
  have hD := hD0.self (sz := s.heap.size)
  generalize hAe : va_A (CW cI cR ca qa u) s.heap.size = A at hD hXK ⊢
  have hA : ∀ q : Nat, s.heap.size ≤ q → A q := fun q h => by rw [← hAe]; exact Or.inr h
  have hS : va_S A s.heap s.heap [] := va_S.rf
  replace hP : va_P D vwCl (CW cI cR ca qa u) s.heap := hP
  have hl := lv_entry ([.ref (ca 0), .int p1, .int p2, .int p3]) (n := 5) (Nat.le_of_ble_eq_true rfl)
  rw [lg_entry_eq]
  generalize (lg_sl ([.ref (ca 0), .int p1, .int p2, .int p3]) ++ List.replicate (5 - (lg_sl ([.ref (ca 0), .int p1, .int p2, .int p3])).length) Slot.unset).toArray = ls at hl ⊢
  replace hl : lv_has ls 5 [(0, .ref (ca 0)), (1, .int p1), (2, .int p2), (3, .int p3)] := hl
  have hk_31 := (hts _ (cwc _ mw_41))
  have hk_34 := (hts _ (cwc _ mw_42))
  have hk_37 := (hts _ (cwc _ mw_43))
  obtain ⟨hXU, hXN, hXc1, hXc2, hXd1, hXd2, hXd3, hXn, -⟩ := id hXK
  unfold F_P_wagon at hF
  refine (?_ : ∀ (H : Heap) (locs : List Loc), va_P D vwCl (CW cI cR ca qa u) H → va_S A s.heap H locs → W p l e _ s m _ below meth c H locs 0 0 _ (F0 m 0 ls [])) s.heap [] hP hS
  intro H locs hP hS
  refine lv_iload_n hx hb dX1_wagon_0 rfl (lv_at hl 1 rfl) ?_
  obtain ⟨or2, u1, hc_3, hF⟩ := bi_some hF
  refine kx_v (W1 := CW cI cR ca qa u) (vx_runS (As := [.int p1]) (rest := []) ⟨hx, hb, hml, hown, hts⟩ (c_P_checkWagon l hl9 D cI cR sa  H.size p1 () or2 u1 hc_3) (va_cwS 1 hts (gS cwc mw_224 mw_225 mw_1 mw_226) rfl rfl rfl (by decide +kernel) ⟨(Nat.le_of_ble_eq_true rfl), (Nat.le_of_ble_eq_true rfl)⟩) (kpX_S hXK hK hP hD hS hA (sb_nil _)) rfl rfl hl.1 rfl (lv_room (Nat.le_of_ble_eq_true rfl)) dX1_wagon_1 ⟨(Nat.le_of_ble_eq_true rfl), (Nat.le_of_ble_eq_true rfl)⟩) hP hD hS hA (sb_nil _) (jn_nil _) (fun e_4 ce q9 H locs ho_5 hP hD hS hce hcv hcl => ?_) (fun H locs ho_5 hP hD hS => ?_)
  · subst ho_5
    replace hF := ox_l hF
    cases hF
    exact kx_out hnx hlocks hK hP hD hS hce hcv hcl rfl (Nat.le_of_ble_eq_true rfl) (Nat.le_of_ble_eq_true rfl)
  · subst ho_5
    replace hF := ox_r hF
    refine lv_iload_n hx hb dX1_wagon_4 rfl (lv_at hl 2 rfl) ?_
    obtain ⟨or7, u6, hc_8, hF⟩ := bi_some hF
    refine kx_v (W1 := CW cI cR ca qa u) (vx_runS (As := [.int p2]) (rest := []) ⟨hx, hb, hml, hown, hts⟩ (c_P_checkKind l hl9 D cI cR sa  H.size p2 () or7 u6 hc_8) (va_cwS 1 hts (gS cwc mw_200 mw_201 mw_1 mw_202) rfl rfl rfl (by decide +kernel) ⟨(Nat.le_of_ble_eq_true rfl), (Nat.le_of_ble_eq_true rfl)⟩) (kpX_S hXK hK hP hD hS hA (sb_nil _)) rfl rfl hl.1 rfl (lv_room (Nat.le_of_ble_eq_true rfl)) dX1_wagon_5 ⟨(Nat.le_of_ble_eq_true rfl), (Nat.le_of_ble_eq_true rfl)⟩) hP hD hS hA (sb_nil _) (jn_nil _) (fun e_9 ce q9 H locs ho_10 hP hD hS hce hcv hcl => ?_) (fun H locs ho_10 hP hD hS => ?_)
    · subst ho_10
      replace hF := ox_l hF
      cases hF
      exact kx_out hnx hlocks hK hP hD hS hce hcv hcl rfl (Nat.le_of_ble_eq_true rfl) (Nat.le_of_ble_eq_true rfl)
    · subst ho_10
      replace hF := ox_r hF
      refine lv_iload_n hx hb dX1_wagon_8 rfl (lv_at hl 3 rfl) ?_
      refine lv_bipush (v := (80 : Int32)) hx hb dX1_wagon_9 (by decide +kernel) ?_
      obtain ⟨or12, u11, hc_13, hF⟩ := bi_some hF
      refine kx_v (W1 := CW cI cR ca qa u) (vx_runS (As := [.int p3, .int (80 : Int32)]) (rest := []) ⟨hx, hb, hml, hown, hts⟩ (c_P_checkRange l hl9 D cI cR sa  H.size p3 (80 : Int32) () or12 u11 hc_13) (va_cwS 2 hts (gS cwc mw_176 mw_177 mw_1 mw_178) rfl rfl rfl (by decide +kernel) ⟨(Nat.le_of_ble_eq_true rfl), (Nat.le_of_ble_eq_true rfl)⟩) (kpX_S hXK hK hP hD hS hA (sb_nil _)) rfl rfl hl.1 rfl (lv_room (Nat.le_of_ble_eq_true rfl)) dX1_wagon_11 ⟨(Nat.le_of_ble_eq_true rfl), (Nat.le_of_ble_eq_true rfl)⟩) hP hD hS hA (sb_nil _) (jn_nil _) (fun e_14 ce q9 H locs ho_15 hP hD hS hce hcv hcl => ?_) (fun H locs ho_15 hP hD hS => ?_)
      · subst ho_15
        replace hF := ox_l hF
        cases hF
        exact kx_out hnx hlocks hK hP hD hS hce hcv hcl rfl (Nat.le_of_ble_eq_true rfl) (Nat.le_of_ble_eq_true rfl)
      · subst ho_15
        replace hF := ox_r hF
        refine lv_aload_n hx hb dX1_wagon_14 rfl (lv_at hl 0 rfl) ?_
        refine va_get (D := D) (ci := 1) (v := .ref (ca 7)) (C := RX1) (T := TX1) (N := 16) hx hb hts (fun w h => cwc w (in_X1 w h)) hown hK hP 0 rfl rfl 6 (by decide) hk_31 (fun _ h9 => h9) rfl dX1_wagon_15 ?_
        refine lv_iload_n hx hb dX1_wagon_18 rfl (lv_at hl 1 rfl) ?_
        obtain ⟨h_16, hF⟩ := gd_some hF
        refine va_aldq hx hb hK hP 7 1 rfl rfl (inb_in h_16) dX1_wagon_19 ?_
        refine W.eq (g2 := F0 m 20 ls [.ref (qa (4 * (32 + p1.toNatClampNeg)))]) rfl ?_
        have hj_17 : (32 + p1.toNatClampNeg) < 48 := by have := inb_lt h_16; omega
        obtain ⟨r19, u18, hc_20, hF⟩ := bi_some hF
        refine kc_i (W1 := CW cI cR ca qa u) (va_runV (As := []) (rest := []) ⟨hx, hb, hml, hown, hts⟩ (c_Row_total l D cI cR (qa (4 * (32 + p1.toNatClampNeg))) (qa (4 * (32 + p1.toNatClampNeg) + 1)) (qa (4 * (32 + p1.toNatClampNeg) + 2)) (qa (4 * (32 + p1.toNatClampNeg) + 3)) H.size  (u.2.2.2.2.2.2.2.2.2.2.2.2.2.2 (32 + p1.toNatClampNeg)) r19 u18 hc_20) (cwV 0 hts (gV cwc mw_97 mw_98 mw_99 mw_2 mw_100) rfl rfl rfl (by decide +kernel) ⟨(Nat.le_of_ble_eq_true rfl), (Nat.le_of_ble_eq_true rfl)⟩) (kp_V (ci := 0) (q := (RX0, TX0, 5)) hK hP hD (cw_sb hj_17) rfl rfl) rfl rfl hl.1 rfl (lv_room (Nat.le_of_ble_eq_true rfl)) dX1_wagon_20 ⟨(Nat.le_of_ble_eq_true rfl), (Nat.le_of_ble_eq_true rfl)⟩) hP hD hS hA (cw_sb hj_17) (jn_same (cw_sb hj_17)) (fun H locs hP hD hS => ?_)
        refine lv_istore (lv' := [(4, .int r19), (0, .ref (ca 0)), (1, .int p1), (2, .int p2), (3, .int p3)]) hx hb dX1_wagon_23 hl (by decide) rfl (fun ls hl => ?_)
        refine lv_iload hx hb dX1_wagon_25 (lv_at hl 0 rfl) ?_
        refine lv_iload_n hx hb dX1_wagon_27 rfl (lv_at hl 4 rfl) ?_
        refine lv_icmp_le (tgt := 41) hx hb dX1_wagon_28 (by decide) (fun c_21 => ?_) (fun c_21 => ?_)
        · replace hF := (if_pos c_21).symm.trans hF
          refine lv_iload hx hb dX1_wagon_41 (lv_at hl 0 rfl) ?_
          refine lv_if_le (tgt := 66) hx hb dX1_wagon_43 (by decide) (fun c_22 => ?_) (fun c_22 => ?_)
          · replace hF := (if_pos c_22).symm.trans hF
            refine lv_aload_n hx hb dX1_wagon_66 rfl (lv_at hl 1 rfl) ?_
            refine va_get (D := D) (ci := 1) (v := .ref (ca 8)) (C := RX1) (T := TX1) (N := 16) hx hb hts (fun w h => cwc w (in_X1 w h)) hown hK hP 0 rfl rfl 7 (by decide) hk_34 (fun _ h9 => h9) rfl dX1_wagon_67 ?_
            refine lv_iload_n hx hb dX1_wagon_70 rfl (lv_at hl 2 rfl) ?_
            refine lv_iload_n hx hb dX1_wagon_71 rfl (lv_at hl 3 rfl) ?_
            obtain ⟨h_23, hF⟩ := gd_some hF
            refine va_iast (f := u.2.2.2.2.2.1) hx hb hK hP hD hS 8 0 rfl rfl (inb_in h_23) dX1_wagon_72 (fun H locs hP hD hS => ?_)
            replace hP : va_P D vwCl (CW cI cR ca qa (u.1, u.2.1, u.2.2.1, u.2.2.2.1, u.2.2.2.2.1, (upd u.2.2.2.2.2.1 p1.toNatClampNeg p2), u.2.2.2.2.2.2.1, u.2.2.2.2.2.2.2.1, u.2.2.2.2.2.2.2.2.1, u.2.2.2.2.2.2.2.2.2.1, u.2.2.2.2.2.2.2.2.2.2.1, u.2.2.2.2.2.2.2.2.2.2.2.1, u.2.2.2.2.2.2.2.2.2.2.2.2.1, u.2.2.2.2.2.2.2.2.2.2.2.2.2.1, u.2.2.2.2.2.2.2.2.2.2.2.2.2.2)) H := hP
            replace hD : va_D A (CW cI cR ca qa (u.1, u.2.1, u.2.2.1, u.2.2.2.1, u.2.2.2.2.1, (upd u.2.2.2.2.2.1 p1.toNatClampNeg p2), u.2.2.2.2.2.2.1, u.2.2.2.2.2.2.2.1, u.2.2.2.2.2.2.2.2.1, u.2.2.2.2.2.2.2.2.2.1, u.2.2.2.2.2.2.2.2.2.2.1, u.2.2.2.2.2.2.2.2.2.2.2.1, u.2.2.2.2.2.2.2.2.2.2.2.2.1, u.2.2.2.2.2.2.2.2.2.2.2.2.2.1, u.2.2.2.2.2.2.2.2.2.2.2.2.2.2)) := hD
            refine lv_aload_n hx hb dX1_wagon_73 rfl (lv_at hl 1 rfl) ?_
            refine va_get (D := D) (ci := 1) (v := .ref (ca 9)) (C := RX1) (T := TX1) (N := 16) hx hb hts (fun w h => cwc w (in_X1 w h)) hown hK hP 0 rfl rfl 8 (by decide) hk_37 (fun _ h9 => h9) rfl dX1_wagon_74 ?_
            refine lv_iload_n hx hb dX1_wagon_77 rfl (lv_at hl 2 rfl) ?_
            refine lv_iload_n hx hb dX1_wagon_78 rfl (lv_at hl 4 rfl) ?_
            obtain ⟨h_24, hF⟩ := gd_some hF
            refine va_iast (f := u.2.2.2.2.2.2.1) hx hb hK hP hD hS 9 0 rfl rfl (inb_in h_24) dX1_wagon_79 (fun H locs hP hD hS => ?_)
            replace hP : va_P D vwCl (CW cI cR ca qa (u.1, u.2.1, u.2.2.1, u.2.2.2.1, u.2.2.2.2.1, (upd u.2.2.2.2.2.1 p1.toNatClampNeg p2), (upd u.2.2.2.2.2.2.1 p1.toNatClampNeg p3), u.2.2.2.2.2.2.2.1, u.2.2.2.2.2.2.2.2.1, u.2.2.2.2.2.2.2.2.2.1, u.2.2.2.2.2.2.2.2.2.2.1, u.2.2.2.2.2.2.2.2.2.2.2.1, u.2.2.2.2.2.2.2.2.2.2.2.2.1, u.2.2.2.2.2.2.2.2.2.2.2.2.2.1, u.2.2.2.2.2.2.2.2.2.2.2.2.2.2)) H := hP
            replace hD : va_D A (CW cI cR ca qa (u.1, u.2.1, u.2.2.1, u.2.2.2.1, u.2.2.2.2.1, (upd u.2.2.2.2.2.1 p1.toNatClampNeg p2), (upd u.2.2.2.2.2.2.1 p1.toNatClampNeg p3), u.2.2.2.2.2.2.2.1, u.2.2.2.2.2.2.2.2.1, u.2.2.2.2.2.2.2.2.2.1, u.2.2.2.2.2.2.2.2.2.2.1, u.2.2.2.2.2.2.2.2.2.2.2.1, u.2.2.2.2.2.2.2.2.2.2.2.2.1, u.2.2.2.2.2.2.2.2.2.2.2.2.2.1, u.2.2.2.2.2.2.2.2.2.2.2.2.2.2)) := hD
            cases hF
            refine vx_ret ?_
            refine W.widen (k := 4) (n := 24) (Nat.le_of_ble_eq_true rfl) (Nat.le_of_ble_eq_true rfl) ?_
            exact W.vret hx hb hr (fun t ht hW => ⟨⟨_, rfl, ⟨rfl, rfl⟩, by rw [ht]; exact hP, va_K.moved hW.alike hK, hD⟩, hS.F ht⟩) hS.2.2 dX1_wagon_80
          · replace hF := (if_neg c_22).symm.trans hF
            refine lv_aload_n hx hb dX1_wagon_46 rfl (lv_at hl 1 rfl) ?_
            refine va_get (D := D) (ci := 1) (v := .ref (ca 8)) (C := RX1) (T := TX1) (N := 16) hx hb hts (fun w h => cwc w (in_X1 w h)) hown hK hP 0 rfl rfl 7 (by decide) hk_34 (fun _ h9 => h9) rfl dX1_wagon_47 ?_
            refine lv_iload_n hx hb dX1_wagon_50 rfl (lv_at hl 2 rfl) ?_
            obtain ⟨h_25, hF⟩ := gd_some hF
            refine va_iald (f := u.2.2.2.2.2.1) hx hb hK hP 8 0 rfl rfl (inb_in h_25) dX1_wagon_51 ?_
            refine lv_iload_n hx hb dX1_wagon_52 rfl (lv_at hl 3 rfl) ?_
            refine lv_icmp_eq (tgt := 66) hx hb dX1_wagon_53 (by decide) (fun c_26 => ?_) (fun c_26 => ?_)
            · replace hF := (if_pos c_26).symm.trans hF
              refine lv_aload_n hx hb dX1_wagon_66 rfl (lv_at hl 1 rfl) ?_
              refine va_get (D := D) (ci := 1) (v := .ref (ca 8)) (C := RX1) (T := TX1) (N := 16) hx hb hts (fun w h => cwc w (in_X1 w h)) hown hK hP 0 rfl rfl 7 (by decide) hk_34 (fun _ h9 => h9) rfl dX1_wagon_67 ?_
              refine lv_iload_n hx hb dX1_wagon_70 rfl (lv_at hl 2 rfl) ?_
              refine lv_iload_n hx hb dX1_wagon_71 rfl (lv_at hl 3 rfl) ?_
              obtain ⟨h_27, hF⟩ := gd_some hF
              refine va_iast (f := u.2.2.2.2.2.1) hx hb hK hP hD hS 8 0 rfl rfl (inb_in h_27) dX1_wagon_72 (fun H locs hP hD hS => ?_)
              replace hP : va_P D vwCl (CW cI cR ca qa (u.1, u.2.1, u.2.2.1, u.2.2.2.1, u.2.2.2.2.1, (upd u.2.2.2.2.2.1 p1.toNatClampNeg p2), u.2.2.2.2.2.2.1, u.2.2.2.2.2.2.2.1, u.2.2.2.2.2.2.2.2.1, u.2.2.2.2.2.2.2.2.2.1, u.2.2.2.2.2.2.2.2.2.2.1, u.2.2.2.2.2.2.2.2.2.2.2.1, u.2.2.2.2.2.2.2.2.2.2.2.2.1, u.2.2.2.2.2.2.2.2.2.2.2.2.2.1, u.2.2.2.2.2.2.2.2.2.2.2.2.2.2)) H := hP
              replace hD : va_D A (CW cI cR ca qa (u.1, u.2.1, u.2.2.1, u.2.2.2.1, u.2.2.2.2.1, (upd u.2.2.2.2.2.1 p1.toNatClampNeg p2), u.2.2.2.2.2.2.1, u.2.2.2.2.2.2.2.1, u.2.2.2.2.2.2.2.2.1, u.2.2.2.2.2.2.2.2.2.1, u.2.2.2.2.2.2.2.2.2.2.1, u.2.2.2.2.2.2.2.2.2.2.2.1, u.2.2.2.2.2.2.2.2.2.2.2.2.1, u.2.2.2.2.2.2.2.2.2.2.2.2.2.1, u.2.2.2.2.2.2.2.2.2.2.2.2.2.2)) := hD
              refine lv_aload_n hx hb dX1_wagon_73 rfl (lv_at hl 1 rfl) ?_
              refine va_get (D := D) (ci := 1) (v := .ref (ca 9)) (C := RX1) (T := TX1) (N := 16) hx hb hts (fun w h => cwc w (in_X1 w h)) hown hK hP 0 rfl rfl 8 (by decide) hk_37 (fun _ h9 => h9) rfl dX1_wagon_74 ?_
              refine lv_iload_n hx hb dX1_wagon_77 rfl (lv_at hl 2 rfl) ?_
              refine lv_iload_n hx hb dX1_wagon_78 rfl (lv_at hl 4 rfl) ?_
              obtain ⟨h_28, hF⟩ := gd_some hF
              refine va_iast (f := u.2.2.2.2.2.2.1) hx hb hK hP hD hS 9 0 rfl rfl (inb_in h_28) dX1_wagon_79 (fun H locs hP hD hS => ?_)
              replace hP : va_P D vwCl (CW cI cR ca qa (u.1, u.2.1, u.2.2.1, u.2.2.2.1, u.2.2.2.2.1, (upd u.2.2.2.2.2.1 p1.toNatClampNeg p2), (upd u.2.2.2.2.2.2.1 p1.toNatClampNeg p3), u.2.2.2.2.2.2.2.1, u.2.2.2.2.2.2.2.2.1, u.2.2.2.2.2.2.2.2.2.1, u.2.2.2.2.2.2.2.2.2.2.1, u.2.2.2.2.2.2.2.2.2.2.2.1, u.2.2.2.2.2.2.2.2.2.2.2.2.1, u.2.2.2.2.2.2.2.2.2.2.2.2.2.1, u.2.2.2.2.2.2.2.2.2.2.2.2.2.2)) H := hP
              replace hD : va_D A (CW cI cR ca qa (u.1, u.2.1, u.2.2.1, u.2.2.2.1, u.2.2.2.2.1, (upd u.2.2.2.2.2.1 p1.toNatClampNeg p2), (upd u.2.2.2.2.2.2.1 p1.toNatClampNeg p3), u.2.2.2.2.2.2.2.1, u.2.2.2.2.2.2.2.2.1, u.2.2.2.2.2.2.2.2.2.1, u.2.2.2.2.2.2.2.2.2.2.1, u.2.2.2.2.2.2.2.2.2.2.2.1, u.2.2.2.2.2.2.2.2.2.2.2.2.1, u.2.2.2.2.2.2.2.2.2.2.2.2.2.1, u.2.2.2.2.2.2.2.2.2.2.2.2.2.2)) := hD
              cases hF
              refine vx_ret ?_
              refine W.widen (k := 4) (n := 24) (Nat.le_of_ble_eq_true rfl) (Nat.le_of_ble_eq_true rfl) ?_
              exact W.vret hx hb hr (fun t ht hW => ⟨⟨_, rfl, ⟨rfl, rfl⟩, by rw [ht]; exact hP, va_K.moved hW.alike hK, hD⟩, hS.F ht⟩) hS.2.2 dX1_wagon_80
            · replace hF := (if_neg c_26).symm.trans hF
              cases hF
              exact vx_throwS (own := RX1) (cls := "java/lang/IllegalArgumentException") (names := ["java/lang/RuntimeException", "java/lang/Exception"]) hx hb hl9 hown (by decide +kernel) (by decide +kernel) (hts _ (cwc _ mw_179)) (hts _ (cwc _ mw_8)) (XK_s98 hXK) (vx_hat (L := vx_atS RX1 86 "java/lang/IllegalArgumentException" ["java/lang/RuntimeException", "java/lang/Exception"]) (fun w hw => hts w (cwc w (hatA_2 w hw))) hatB_2 (vx_c (va_Nw.use rfl hXc2) (vx_c (va_Nw.use rfl hXd1) (vx_c (va_Nw.use rfl hXd2) (vx_c (va_Nw.use rfl hXd3) (vx_n)))))) hatC_2 hXU hXN hS (hl.1.trans hml.symm) dX1_wagon_56 dX1_wagon_59 dX1_wagon_60 dX1_wagon_62 dX1_wagon_65 (fun x hx9 => (hnx x hx9).elim) (Nat.le_of_ble_eq_true rfl) (Nat.le_of_ble_eq_true rfl) (Nat.le_of_ble_eq_true rfl) (Nat.le_of_ble_eq_true rfl) hlocks (fun t ha hsz hk => ⟨2, rfl, ⟨rfl, hP.kept (fun k q hq => hk q.1 (hP k q hq).lt), va_K.moved ha hK, hD⟩, Nat.le_trans hS.1 hsz, fun q h1 h2 => (hk q (Nat.lt_of_lt_of_le h1 hS.1)).trans (hS.2.1 q h1 h2)⟩) hS.2.2 (Nat.le_of_ble_eq_true rfl) (Nat.le_of_ble_eq_true rfl)
        · replace hF := (if_neg c_21).symm.trans hF
          cases hF
          exact vx_throwS (own := RX1) (cls := "java/lang/IllegalArgumentException") (names := ["java/lang/RuntimeException", "java/lang/Exception"]) hx hb hl9 hown (by decide +kernel) (by decide +kernel) (hts _ (cwc _ mw_179)) (hts _ (cwc _ mw_8)) (XK_s96 hXK) (vx_hat (L := vx_atS RX1 86 "java/lang/IllegalArgumentException" ["java/lang/RuntimeException", "java/lang/Exception"]) (fun w hw => hts w (cwc w (hatA_2 w hw))) hatB_2 (vx_c (va_Nw.use rfl hXc2) (vx_c (va_Nw.use rfl hXd1) (vx_c (va_Nw.use rfl hXd2) (vx_c (va_Nw.use rfl hXd3) (vx_n)))))) hatC_2 hXU hXN hS (hl.1.trans hml.symm) dX1_wagon_31 dX1_wagon_34 dX1_wagon_35 dX1_wagon_37 dX1_wagon_40 (fun x hx9 => (hnx x hx9).elim) (Nat.le_of_ble_eq_true rfl) (Nat.le_of_ble_eq_true rfl) (Nat.le_of_ble_eq_true rfl) (Nat.le_of_ble_eq_true rfl) hlocks (fun t ha hsz hk => ⟨2, rfl, ⟨rfl, hP.kept (fun k q hq => hk q.1 (hP k q hq).lt), va_K.moved ha hK, hD⟩, Nat.le_trans hS.1 hsz, fun q h1 h2 => (hk q (Nat.lt_of_lt_of_le h1 hS.1)).trans (hS.2.1 q h1 h2)⟩) hS.2.2 (Nat.le_of_ble_eq_true rfl) (Nat.le_of_ble_eq_true rfl)
def F_P_make (p1 : Int32) (p2 : Int32) (p3 : Int32) (u : CSt) : Option ((Nat ⊕ Unit) × CSt) := bi (F_P_checkStation p1 ()) (fun or2 u1 => ox or2 (fun e_4 => some (.inl e_4, u)) (fun _ => bi (F_P_checkKind p2 ()) (fun or7 u6 => ox or7 (fun e_9 => some (.inl e_9, u)) (fun _ => (if p3 = (-1 : Int32) then bi (F_P_stockIndex p1 p2 ()) (fun r13 u12 => gd (inb r13 32) (some ((.inr ()), (u.1, (upd u.2.1 r13.toNatClampNeg p3), u.2.2.1, u.2.2.2.1, u.2.2.2.2.1, u.2.2.2.2.2.1, u.2.2.2.2.2.2.1, u.2.2.2.2.2.2.2.1, u.2.2.2.2.2.2.2.2.1, u.2.2.2.2.2.2.2.2.2.1, u.2.2.2.2.2.2.2.2.2.2.1, u.2.2.2.2.2.2.2.2.2.2.2.1, u.2.2.2.2.2.2.2.2.2.2.2.2.1, u.2.2.2.2.2.2.2.2.2.2.2.2.2.1, u.2.2.2.2.2.2.2.2.2.2.2.2.2.2)))) else bi (F_P_isKind p3 ()) (fun r17 u16 => (if r17 = (0 : Int32) then some (.inl 2, u) else bi (F_P_stockIndex p1 p2 ()) (fun r21 u20 => gd (inb r21 32) (some ((.inr ()), (u.1, (upd u.2.1 r21.toNatClampNeg p3), u.2.2.1, u.2.2.2.1, u.2.2.2.2.1, u.2.2.2.2.2.1, u.2.2.2.2.2.2.1, u.2.2.2.2.2.2.2.1, u.2.2.2.2.2.2.2.2.1, u.2.2.2.2.2.2.2.2.2.1, u.2.2.2.2.2.2.2.2.2.2.1, u.2.2.2.2.2.2.2.2.2.2.2.1, u.2.2.2.2.2.2.2.2.2.2.2.2.1, u.2.2.2.2.2.2.2.2.2.2.2.2.2.1, u.2.2.2.2.2.2.2.2.2.2.2.2.2.2)))))))))))
set_option maxHeartbeats 4000000 in
set_option maxRecDepth 100000 in
theorem c_P_make (l : Launch) (hl9 : l.stackTraces = false) (D : va_G) (cI cR : ClassId) (sa : Nat → Nat) (ca qa : Nat → Nat) (sz : Nat) (p1 : Int32) (p2 : Int32) (p3 : Int32) (u : CSt) (r : Nat ⊕ Unit) (u' : CSt) (hF : F_P_make p1 p2 p3 u = some (r, u')) : vx_Met l yX1_make wsX1_make ({ frames := 7, cells := 3, slots := 18, locals := 102 }) (va_Pc [.ref (ca 0), .int p1, .int p2, .int p3] (PREX D (TY cI cR) (CW cI cR ca qa u) sz sa)) (XV D (TY cI cR) (va_A (CW cI cR ca qa u) sz) (fun v => CW cI cR ca qa v) r u') (XX D (TY cI cR) (va_A (CW cI cR ca qa u) sz) (fun v => CW cI cR ca qa v) r u') 3 18 (va_A (CW cI cR ca qa u) sz) := by
  refine vx_ofW (cc := cX1_make) (maxL := 4) (ret := none) (by decide) rfl ?_
  intro p e s m args below meth c s₁ B hml hnx hv
  obtain ⟨rfl, ⟨hsz, hP, hK, hD0⟩, hXK⟩ := hv
  have hx := B.exec
  have hb := B.bytes
  have hr := B.returns
  have hts := atoms_spec (ws := wsX1_make) B.pre
  have hown : s.vm.findClass RX1 = some m.cls := findClass_of_methodNamed B.named
  have hlocks := B.notSynchronized
  subst hsz
  have hD := hD0.self (sz := s.heap.size)
  generalize hAe : va_A (CW cI cR ca qa u) s.heap.size = A at hD hXK ⊢
  have hA : ∀ q : Nat, s.heap.size ≤ q → A q := fun q h => by rw [← hAe]; exact Or.inr h
  have hS : va_S A s.heap s.heap [] := va_S.rf
  replace hP : va_P D vwCl (CW cI cR ca qa u) s.heap := hP
  have hl := lv_entry ([.ref (ca 0), .int p1, .int p2, .int p3]) (n := 4) (Nat.le_of_ble_eq_true rfl)
  rw [lg_entry_eq]
  generalize (lg_sl ([.ref (ca 0), .int p1, .int p2, .int p3]) ++ List.replicate (4 - (lg_sl ([.ref (ca 0), .int p1, .int p2, .int p3])).length) Slot.unset).toArray = ls at hl ⊢
  replace hl : lv_has ls 4 [(0, .ref (ca 0)), (1, .int p1), (2, .int p2), (3, .int p3)] := hl
  have hk_19 := (hts _ (cwc _ mw_37))
  obtain ⟨hXU, hXN, hXc1, hXc2, hXd1, hXd2, hXd3, hXn, -⟩ := id hXK
  unfold F_P_make at hF
  refine (?_ : ∀ (H : Heap) (locs : List Loc), va_P D vwCl (CW cI cR ca qa u) H → va_S A s.heap H locs → W p l e _ s m _ below meth c H locs 0 0 _ (F0 m 0 ls [])) s.heap [] hP hS
  intro H locs hP hS
  refine lv_iload_n hx hb dX1_make_0 rfl (lv_at hl 1 rfl) ?_
  obtain ⟨or2, u1, hc_3, hF⟩ := bi_some hF
  refine kx_v (W1 := CW cI cR ca qa u) (vx_runS (As := [.int p1]) (rest := []) ⟨hx, hb, hml, hown, hts⟩ (c_P_checkStation l hl9 D cI cR sa  H.size p1 () or2 u1 hc_3) (va_cwS 1 hts (gS cwc mw_124 mw_125 mw_1 mw_126) rfl rfl rfl (by decide +kernel) ⟨(Nat.le_of_ble_eq_true rfl), (Nat.le_of_ble_eq_true rfl)⟩) (kpX_S hXK hK hP hD hS hA (sb_nil _)) rfl rfl hl.1 rfl (lv_room (Nat.le_of_ble_eq_true rfl)) dX1_make_1 ⟨(Nat.le_of_ble_eq_true rfl), (Nat.le_of_ble_eq_true rfl)⟩) hP hD hS hA (sb_nil _) (jn_nil _) (fun e_4 ce q9 H locs ho_5 hP hD hS hce hcv hcl => ?_) (fun H locs ho_5 hP hD hS => ?_)
  · subst ho_5
    replace hF := ox_l hF
    cases hF
    exact kx_out hnx hlocks hK hP hD hS hce hcv hcl rfl (Nat.le_of_ble_eq_true rfl) (Nat.le_of_ble_eq_true rfl)
  · subst ho_5
    replace hF := ox_r hF
    refine lv_iload_n hx hb dX1_make_4 rfl (lv_at hl 2 rfl) ?_
    obtain ⟨or7, u6, hc_8, hF⟩ := bi_some hF
    refine kx_v (W1 := CW cI cR ca qa u) (vx_runS (As := [.int p2]) (rest := []) ⟨hx, hb, hml, hown, hts⟩ (c_P_checkKind l hl9 D cI cR sa  H.size p2 () or7 u6 hc_8) (va_cwS 1 hts (gS cwc mw_200 mw_201 mw_1 mw_202) rfl rfl rfl (by decide +kernel) ⟨(Nat.le_of_ble_eq_true rfl), (Nat.le_of_ble_eq_true rfl)⟩) (kpX_S hXK hK hP hD hS hA (sb_nil _)) rfl rfl hl.1 rfl (lv_room (Nat.le_of_ble_eq_true rfl)) dX1_make_5 ⟨(Nat.le_of_ble_eq_true rfl), (Nat.le_of_ble_eq_true rfl)⟩) hP hD hS hA (sb_nil _) (jn_nil _) (fun e_9 ce q9 H locs ho_10 hP hD hS hce hcv hcl => ?_) (fun H locs ho_10 hP hD hS => ?_)
    · subst ho_10
      replace hF := ox_l hF
      cases hF
      exact kx_out hnx hlocks hK hP hD hS hce hcv hcl rfl (Nat.le_of_ble_eq_true rfl) (Nat.le_of_ble_eq_true rfl)
    · subst ho_10
      replace hF := ox_r hF
      refine lv_iload_n hx hb dX1_make_8 rfl (lv_at hl 3 rfl) ?_
      refine lv_iconst (v := (-1 : Int32)) hx hb dX1_make_9 (by decide +kernel) ?_
      refine lv_icmp_eq (tgt := 30) hx hb dX1_make_10 (by decide) (fun c_11 => ?_) (fun c_11 => ?_)
      · replace hF := (if_pos c_11).symm.trans hF
        refine lv_aload_n hx hb dX1_make_30 rfl (lv_at hl 0 rfl) ?_
        refine va_get (D := D) (ci := 1) (v := .ref (ca 3)) (C := RX1) (T := TX1) (N := 16) hx hb hts (fun w h => cwc w (in_X1 w h)) hown hK hP 0 rfl rfl 2 (by decide) hk_19 (fun _ h9 => h9) rfl dX1_make_31 ?_
        refine lv_iload_n hx hb dX1_make_34 rfl (lv_at hl 1 rfl) ?_
        refine lv_iload_n hx hb dX1_make_35 rfl (lv_at hl 2 rfl) ?_
        obtain ⟨r13, u12, hc_14, hF⟩ := bi_some hF
        refine kc_i (W1 := CW cI cR ca qa u) (va_runS (As := [.int p1, .int p2]) (rest := [.ref (ca 3)]) ⟨hx, hb, hml, hown, hts⟩ (c_P_stockIndex l D cI cR  H.size p1 p2 () r13 u12 hc_14) (va_cwS 2 hts (gS cwc mw_86 mw_87 mw_1 mw_88) rfl rfl rfl (by decide +kernel) ⟨(Nat.le_of_ble_eq_true rfl), (Nat.le_of_ble_eq_true rfl)⟩) (kp_S hK hP hD (sb_nil _)) rfl rfl hl.1 rfl (lv_room (Nat.le_of_ble_eq_true rfl)) dX1_make_36 ⟨(Nat.le_of_ble_eq_true rfl), (Nat.le_of_ble_eq_true rfl)⟩) hP hD hS hA (sb_nil _) (jn_nil _) (fun H locs hP hD hS => ?_)
        refine lv_iload_n hx hb dX1_make_39 rfl (lv_at hl 3 rfl) ?_
        obtain ⟨h_15, hF⟩ := gd_some hF
        refine va_iast (f := u.2.1) hx hb hK hP hD hS 3 0 rfl rfl (inb_in h_15) dX1_make_40 (fun H locs hP hD hS => ?_)
        replace hP : va_P D vwCl (CW cI cR ca qa (u.1, (upd u.2.1 r13.toNatClampNeg p3), u.2.2.1, u.2.2.2.1, u.2.2.2.2.1, u.2.2.2.2.2.1, u.2.2.2.2.2.2.1, u.2.2.2.2.2.2.2.1, u.2.2.2.2.2.2.2.2.1, u.2.2.2.2.2.2.2.2.2.1, u.2.2.2.2.2.2.2.2.2.2.1, u.2.2.2.2.2.2.2.2.2.2.2.1, u.2.2.2.2.2.2.2.2.2.2.2.2.1, u.2.2.2.2.2.2.2.2.2.2.2.2.2.1, u.2.2.2.2.2.2.2.2.2.2.2.2.2.2)) H := hP
        replace hD : va_D A (CW cI cR ca qa (u.1, (upd u.2.1 r13.toNatClampNeg p3), u.2.2.1, u.2.2.2.1, u.2.2.2.2.1, u.2.2.2.2.2.1, u.2.2.2.2.2.2.1, u.2.2.2.2.2.2.2.1, u.2.2.2.2.2.2.2.2.1, u.2.2.2.2.2.2.2.2.2.1, u.2.2.2.2.2.2.2.2.2.2.1, u.2.2.2.2.2.2.2.2.2.2.2.1, u.2.2.2.2.2.2.2.2.2.2.2.2.1, u.2.2.2.2.2.2.2.2.2.2.2.2.2.1, u.2.2.2.2.2.2.2.2.2.2.2.2.2.2)) := hD
        cases hF
        refine vx_ret ?_
        refine W.widen (k := 3) (n := 18) (Nat.le_of_ble_eq_true rfl) (Nat.le_of_ble_eq_true rfl) ?_
        exact W.vret hx hb hr (fun t ht hW => ⟨⟨_, rfl, ⟨rfl, rfl⟩, by rw [ht]; exact hP, va_K.moved hW.alike hK, hD⟩, hS.F ht⟩) hS.2.2 dX1_make_41
      · replace hF := (if_neg c_11).symm.trans hF
        refine lv_iload_n hx hb dX1_make_13 rfl (lv_at hl 3 rfl) ?_
        obtain ⟨r17, u16, hc_18, hF⟩ := bi_some hF
        refine kc_i (W1 := CW cI cR ca qa u) (va_runS (As := [.int p3]) (rest := []) ⟨hx, hb, hml, hown, hts⟩ (c_P_isKind l D cI cR  H.size p3 () r17 u16 hc_18) (va_cwS 1 hts (gS cwc mw_83 mw_84 mw_1 mw_85) rfl rfl rfl (by decide +kernel) ⟨(Nat.le_of_ble_eq_true rfl), (Nat.le_of_ble_eq_true rfl)⟩) (kp_S hK hP hD (sb_nil _)) rfl rfl hl.1 rfl (lv_room (Nat.le_of_ble_eq_true rfl)) dX1_make_14 ⟨(Nat.le_of_ble_eq_true rfl), (Nat.le_of_ble_eq_true rfl)⟩) hP hD hS hA (sb_nil _) (jn_nil _) (fun H locs hP hD hS => ?_)
        refine lv_if_ne (tgt := 30) hx hb dX1_make_17 (by decide) (fun c_19 => ?_) (fun c_19 => ?_)
        · replace hF := (if_neg c_19).symm.trans hF
          refine lv_aload_n hx hb dX1_make_30 rfl (lv_at hl 0 rfl) ?_
          refine va_get (D := D) (ci := 1) (v := .ref (ca 3)) (C := RX1) (T := TX1) (N := 16) hx hb hts (fun w h => cwc w (in_X1 w h)) hown hK hP 0 rfl rfl 2 (by decide) hk_19 (fun _ h9 => h9) rfl dX1_make_31 ?_
          refine lv_iload_n hx hb dX1_make_34 rfl (lv_at hl 1 rfl) ?_
          refine lv_iload_n hx hb dX1_make_35 rfl (lv_at hl 2 rfl) ?_
          obtain ⟨r21, u20, hc_22, hF⟩ := bi_some hF
          refine kc_i (W1 := CW cI cR ca qa u) (va_runS (As := [.int p1, .int p2]) (rest := [.ref (ca 3)]) ⟨hx, hb, hml, hown, hts⟩ (c_P_stockIndex l D cI cR  H.size p1 p2 () r21 u20 hc_22) (va_cwS 2 hts (gS cwc mw_86 mw_87 mw_1 mw_88) rfl rfl rfl (by decide +kernel) ⟨(Nat.le_of_ble_eq_true rfl), (Nat.le_of_ble_eq_true rfl)⟩) (kp_S hK hP hD (sb_nil _)) rfl rfl hl.1 rfl (lv_room (Nat.le_of_ble_eq_true rfl)) dX1_make_36 ⟨(Nat.le_of_ble_eq_true rfl), (Nat.le_of_ble_eq_true rfl)⟩) hP hD hS hA (sb_nil _) (jn_nil _) (fun H locs hP hD hS => ?_)
          refine lv_iload_n hx hb dX1_make_39 rfl (lv_at hl 3 rfl) ?_
          obtain ⟨h_23, hF⟩ := gd_some hF
          refine va_iast (f := u.2.1) hx hb hK hP hD hS 3 0 rfl rfl (inb_in h_23) dX1_make_40 (fun H locs hP hD hS => ?_)
          replace hP : va_P D vwCl (CW cI cR ca qa (u.1, (upd u.2.1 r21.toNatClampNeg p3), u.2.2.1, u.2.2.2.1, u.2.2.2.2.1, u.2.2.2.2.2.1, u.2.2.2.2.2.2.1, u.2.2.2.2.2.2.2.1, u.2.2.2.2.2.2.2.2.1, u.2.2.2.2.2.2.2.2.2.1, u.2.2.2.2.2.2.2.2.2.2.1, u.2.2.2.2.2.2.2.2.2.2.2.1, u.2.2.2.2.2.2.2.2.2.2.2.2.1, u.2.2.2.2.2.2.2.2.2.2.2.2.2.1, u.2.2.2.2.2.2.2.2.2.2.2.2.2.2)) H := hP
          replace hD : va_D A (CW cI cR ca qa (u.1, (upd u.2.1 r21.toNatClampNeg p3), u.2.2.1, u.2.2.2.1, u.2.2.2.2.1, u.2.2.2.2.2.1, u.2.2.2.2.2.2.1, u.2.2.2.2.2.2.2.1, u.2.2.2.2.2.2.2.2.1, u.2.2.2.2.2.2.2.2.2.1, u.2.2.2.2.2.2.2.2.2.2.1, u.2.2.2.2.2.2.2.2.2.2.2.1, u.2.2.2.2.2.2.2.2.2.2.2.2.1, u.2.2.2.2.2.2.2.2.2.2.2.2.2.1, u.2.2.2.2.2.2.2.2.2.2.2.2.2.2)) := hD
          cases hF
          refine vx_ret ?_
          refine W.widen (k := 3) (n := 18) (Nat.le_of_ble_eq_true rfl) (Nat.le_of_ble_eq_true rfl) ?_
          exact W.vret hx hb hr (fun t ht hW => ⟨⟨_, rfl, ⟨rfl, rfl⟩, by rw [ht]; exact hP, va_K.moved hW.alike hK, hD⟩, hS.F ht⟩) hS.2.2 dX1_make_41
        · replace hF := (if_pos c_19).symm.trans hF
          cases hF
          exact vx_throwS (own := RX1) (cls := "java/lang/IllegalArgumentException") (names := ["java/lang/RuntimeException", "java/lang/Exception"]) hx hb hl9 hown (by decide +kernel) (by decide +kernel) (hts _ (cwc _ mw_179)) (hts _ (cwc _ mw_8)) (XK_s84 hXK) (vx_hat (L := vx_atS RX1 86 "java/lang/IllegalArgumentException" ["java/lang/RuntimeException", "java/lang/Exception"]) (fun w hw => hts w (cwc w (hatA_2 w hw))) hatB_2 (vx_c (va_Nw.use rfl hXc2) (vx_c (va_Nw.use rfl hXd1) (vx_c (va_Nw.use rfl hXd2) (vx_c (va_Nw.use rfl hXd3) (vx_n)))))) hatC_2 hXU hXN hS (hl.1.trans hml.symm) dX1_make_20 dX1_make_23 dX1_make_24 dX1_make_26 dX1_make_29 (fun x hx9 => (hnx x hx9).elim) (Nat.le_of_ble_eq_true rfl) (Nat.le_of_ble_eq_true rfl) (Nat.le_of_ble_eq_true rfl) (Nat.le_of_ble_eq_true rfl) hlocks (fun t ha hsz hk => ⟨2, rfl, ⟨rfl, hP.kept (fun k q hq => hk q.1 (hP k q hq).lt), va_K.moved ha hK, hD⟩, Nat.le_trans hS.1 hsz, fun q h1 h2 => (hk q (Nat.lt_of_lt_of_le h1 hS.1)).trans (hS.2.1 q h1 h2)⟩) hS.2.2 (Nat.le_of_ble_eq_true rfl) (Nat.le_of_ble_eq_true rfl)
end
section
def F_P_accept (p1 : Int32) (p2 : Int32) (u : CSt) : Option ((Nat ⊕ Unit) × CSt) := bi (F_P_checkStation p1 ()) (fun or2 u1 => ox or2 (fun e_4 => some (.inl e_4, u)) (fun _ => bi (F_P_checkRange p2 (15 : Int32) ()) (fun or7 u6 => ox or7 (fun e_9 => some (.inl e_9, u)) (fun _ => gd (inb p1 8) (some ((.inr ()), (u.1, u.2.1, u.2.2.1, u.2.2.2.1, (upd u.2.2.2.2.1 p1.toNatClampNeg p2), u.2.2.2.2.2.1, u.2.2.2.2.2.2.1, u.2.2.2.2.2.2.2.1, u.2.2.2.2.2.2.2.2.1, u.2.2.2.2.2.2.2.2.2.1, u.2.2.2.2.2.2.2.2.2.2.1, u.2.2.2.2.2.2.2.2.2.2.2.1, u.2.2.2.2.2.2.2.2.2.2.2.2.1, u.2.2.2.2.2.2.2.2.2.2.2.2.2.1, u.2.2.2.2.2.2.2.2.2.2.2.2.2.2)))))))
set_option maxHeartbeats 4000000 in
set_option maxRecDepth 100000 in
theorem c_P_accept (l : Launch) (hl9 : l.stackTraces = false) (D : va_G) (cI cR : ClassId) (sa : Nat → Nat) (ca qa : Nat → Nat) (sz : Nat) (p1 : Int32) (p2 : Int32) (u : CSt) (r : Nat ⊕ Unit) (u' : CSt) (hF : F_P_accept p1 p2 u = some (r, u')) : vx_Met l yX1_accept wsX1_accept ({ frames := 7, cells := 2, slots := 12, locals := 103 }) (va_Pc [.ref (ca 0), .int p1, .int p2] (PREX D (TY cI cR) (CW cI cR ca qa u) sz sa)) (XV D (TY cI cR) (va_A (CW cI cR ca qa u) sz) (fun v => CW cI cR ca qa v) r u') (XX D (TY cI cR) (va_A (CW cI cR ca qa u) sz) (fun v => CW cI cR ca qa v) r u') 2 12 (va_A (CW cI cR ca qa u) sz) := by
  refine vx_ofW (cc := cX1_accept) (maxL := 3) (ret := none) (by decide) rfl ?_
  intro p e s m args below meth c s₁ B hml hnx hv
  obtain ⟨rfl, ⟨hsz, hP, hK, hD0⟩, hXK⟩ := hv
  have hx := B.exec
  have hb := B.bytes
  have hr := B.returns
  have hts := atoms_spec (ws := wsX1_accept) B.pre
  have hown : s.vm.findClass RX1 = some m.cls := findClass_of_methodNamed B.named
  have hlocks := B.notSynchronized
  subst hsz
  have hD := hD0.self (sz := s.heap.size)
  generalize hAe : va_A (CW cI cR ca qa u) s.heap.size = A at hD hXK ⊢
  have hA : ∀ q : Nat, s.heap.size ≤ q → A q := fun q h => by rw [← hAe]; exact Or.inr h
  have hS : va_S A s.heap s.heap [] := va_S.rf
  replace hP : va_P D vwCl (CW cI cR ca qa u) s.heap := hP
  have hl := lv_entry ([.ref (ca 0), .int p1, .int p2]) (n := 3) (Nat.le_of_ble_eq_true rfl)
  rw [lg_entry_eq]
  generalize (lg_sl ([.ref (ca 0), .int p1, .int p2]) ++ List.replicate (3 - (lg_sl ([.ref (ca 0), .int p1, .int p2])).length) Slot.unset).toArray = ls at hl ⊢
  replace hl : lv_has ls 3 [(0, .ref (ca 0)), (1, .int p1), (2, .int p2)] := hl
  have hk_28 := (hts _ (cwc _ mw_40))
  obtain ⟨hXU, hXN, hXc1, hXc2, hXd1, hXd2, hXd3, hXn, -⟩ := id hXK
  unfold F_P_accept at hF
  refine (?_ : ∀ (H : Heap) (locs : List Loc), va_P D vwCl (CW cI cR ca qa u) H → va_S A s.heap H locs → W p l e _ s m _ below meth c H locs 0 0 _ (F0 m 0 ls [])) s.heap [] hP hS
  intro H locs hP hS
  refine lv_iload_n hx hb dX1_accept_0 rfl (lv_at hl 1 rfl) ?_
  obtain ⟨or2, u1, hc_3, hF⟩ := bi_some hF
  refine kx_v (W1 := CW cI cR ca qa u) (vx_runS (As := [.int p1]) (rest := []) ⟨hx, hb, hml, hown, hts⟩ (c_P_checkStation l hl9 D cI cR sa  H.size p1 () or2 u1 hc_3) (va_cwS 1 hts (gS cwc mw_124 mw_125 mw_1 mw_126) rfl rfl rfl (by decide +kernel) ⟨(Nat.le_of_ble_eq_true rfl), (Nat.le_of_ble_eq_true rfl)⟩) (kpX_S hXK hK hP hD hS hA (sb_nil _)) rfl rfl hl.1 rfl (lv_room (Nat.le_of_ble_eq_true rfl)) dX1_accept_1 ⟨(Nat.le_of_ble_eq_true rfl), (Nat.le_of_ble_eq_true rfl)⟩) hP hD hS hA (sb_nil _) (jn_nil _) (fun e_4 ce q9 H locs ho_5 hP hD hS hce hcv hcl => ?_) (fun H locs ho_5 hP hD hS => ?_)
  · subst ho_5
    replace hF := ox_l hF
    cases hF
    exact kx_out hnx hlocks hK hP hD hS hce hcv hcl rfl (Nat.le_of_ble_eq_true rfl) (Nat.le_of_ble_eq_true rfl)
  · subst ho_5
    replace hF := ox_r hF
    refine lv_iload_n hx hb dX1_accept_4 rfl (lv_at hl 2 rfl) ?_
    refine lv_bipush (v := (15 : Int32)) hx hb dX1_accept_5 (by decide +kernel) ?_
    obtain ⟨or7, u6, hc_8, hF⟩ := bi_some hF
    refine kx_v (W1 := CW cI cR ca qa u) (vx_runS (As := [.int p2, .int (15 : Int32)]) (rest := []) ⟨hx, hb, hml, hown, hts⟩ (c_P_checkRange l hl9 D cI cR sa  H.size p2 (15 : Int32) () or7 u6 hc_8) (va_cwS 2 hts (gS cwc mw_176 mw_177 mw_1 mw_178) rfl rfl rfl (by decide +kernel) ⟨(Nat.le_of_ble_eq_true rfl), (Nat.le_of_ble_eq_true rfl)⟩) (kpX_S hXK hK hP hD hS hA (sb_nil _)) rfl rfl hl.1 rfl (lv_room (Nat.le_of_ble_eq_true rfl)) dX1_accept_7 ⟨(Nat.le_of_ble_eq_true rfl), (Nat.le_of_ble_eq_true rfl)⟩) hP hD hS hA (sb_nil _) (jn_nil _) (fun e_9 ce q9 H locs ho_10 hP hD hS hce hcv hcl => ?_) (fun H locs ho_10 hP hD hS => ?_)
    · subst ho_10
      replace hF := ox_l hF
      cases hF
      exact kx_out hnx hlocks hK hP hD hS hce hcv hcl rfl (Nat.le_of_ble_eq_true rfl) (Nat.le_of_ble_eq_true rfl)
    · subst ho_10
      replace hF := ox_r hF
      refine lv_aload_n hx hb dX1_accept_10 rfl (lv_at hl 0 rfl) ?_
      refine va_get (D := D) (ci := 1) (v := .ref (ca 6)) (C := RX1) (T := TX1) (N := 16) hx hb hts (fun w h => cwc w (in_X1 w h)) hown hK hP 0 rfl rfl 5 (by decide) hk_28 (fun _ h9 => h9) rfl dX1_accept_11 ?_
      refine lv_iload_n hx hb dX1_accept_14 rfl (lv_at hl 1 rfl) ?_
      refine lv_iload_n hx hb dX1_accept_15 rfl (lv_at hl 2 rfl) ?_
      obtain ⟨h_11, hF⟩ := gd_some hF
      refine va_iast (f := u.2.2.2.2.1) hx hb hK hP hD hS 6 0 rfl rfl (inb_in h_11) dX1_accept_16 (fun H locs hP hD hS => ?_)
      replace hP : va_P D vwCl (CW cI cR ca qa (u.1, u.2.1, u.2.2.1, u.2.2.2.1, (upd u.2.2.2.2.1 p1.toNatClampNeg p2), u.2.2.2.2.2.1, u.2.2.2.2.2.2.1, u.2.2.2.2.2.2.2.1, u.2.2.2.2.2.2.2.2.1, u.2.2.2.2.2.2.2.2.2.1, u.2.2.2.2.2.2.2.2.2.2.1, u.2.2.2.2.2.2.2.2.2.2.2.1, u.2.2.2.2.2.2.2.2.2.2.2.2.1, u.2.2.2.2.2.2.2.2.2.2.2.2.2.1, u.2.2.2.2.2.2.2.2.2.2.2.2.2.2)) H := hP
      replace hD : va_D A (CW cI cR ca qa (u.1, u.2.1, u.2.2.1, u.2.2.2.1, (upd u.2.2.2.2.1 p1.toNatClampNeg p2), u.2.2.2.2.2.1, u.2.2.2.2.2.2.1, u.2.2.2.2.2.2.2.1, u.2.2.2.2.2.2.2.2.1, u.2.2.2.2.2.2.2.2.2.1, u.2.2.2.2.2.2.2.2.2.2.1, u.2.2.2.2.2.2.2.2.2.2.2.1, u.2.2.2.2.2.2.2.2.2.2.2.2.1, u.2.2.2.2.2.2.2.2.2.2.2.2.2.1, u.2.2.2.2.2.2.2.2.2.2.2.2.2.2)) := hD
      cases hF
      refine vx_ret ?_
      refine W.widen (k := 2) (n := 12) (Nat.le_of_ble_eq_true rfl) (Nat.le_of_ble_eq_true rfl) ?_
      exact W.vret hx hb hr (fun t ht hW => ⟨⟨_, rfl, ⟨rfl, rfl⟩, by rw [ht]; exact hP, va_K.moved hW.alike hK, hD⟩, hS.F ht⟩) hS.2.2 dX1_accept_17
def F_P_rate (p1 : Int32) (p2 : Int32) (p3 : Int32) (u : CSt) : Option ((Nat ⊕ Unit) × CSt) := bi (F_P_checkStation p1 ()) (fun or2 u1 => ox or2 (fun e_4 => some (.inl e_4, u)) (fun _ => bi (F_P_checkKind p2 ()) (fun or7 u6 => ox or7 (fun e_9 => some (.inl e_9, u)) (fun _ => bi (F_P_checkRange p3 (31 : Int32) ()) (fun or12 u11 => ox or12 (fun e_14 => some (.inl e_14, u)) (fun _ => bi (F_P_stockIndex p1 p2 ()) (fun r17 u16 => gd (inb r17 32) (some ((.inr ()), ((upd u.1 r17.toNatClampNeg p3), u.2.1, u.2.2.1, u.2.2.2.1, u.2.2.2.2.1, u.2.2.2.2.2.1, u.2.2.2.2.2.2.1, u.2.2.2.2.2.2.2.1, u.2.2.2.2.2.2.2.2.1, u.2.2.2.2.2.2.2.2.2.1, u.2.2.2.2.2.2.2.2.2.2.1, u.2.2.2.2.2.2.2.2.2.2.2.1, u.2.2.2.2.2.2.2.2.2.2.2.2.1, u.2.2.2.2.2.2.2.2.2.2.2.2.2.1, u.2.2.2.2.2.2.2.2.2.2.2.2.2.2))))))))))
set_option maxHeartbeats 4000000 in
set_option maxRecDepth 100000 in
theorem c_P_rate (l : Launch) (hl9 : l.stackTraces = false) (D : va_G) (cI cR : ClassId) (sa : Nat → Nat) (ca qa : Nat → Nat) (sz : Nat) (p1 : Int32) (p2 : Int32) (p3 : Int32) (u : CSt) (r : Nat ⊕ Unit) (u' : CSt) (hF : F_P_rate p1 p2 p3 u = some (r, u')) : vx_Met l yX1_rate wsX1_rate ({ frames := 7, cells := 3, slots := 18, locals := 103 }) (va_Pc [.ref (ca 0), .int p1, .int p2, .int p3] (PREX D (TY cI cR) (CW cI cR ca qa u) sz sa)) (XV D (TY cI cR) (va_A (CW cI cR ca qa u) sz) (fun v => CW cI cR ca qa v) r u') (XX D (TY cI cR) (va_A (CW cI cR ca qa u) sz) (fun v => CW cI cR ca qa v) r u') 3 18 (va_A (CW cI cR ca qa u) sz) := by
  refine vx_ofW (cc := cX1_rate) (maxL := 4) (ret := none) (by decide) rfl ?_
  intro p e s m args below meth c s₁ B hml hnx hv
  obtain ⟨rfl, ⟨hsz, hP, hK, hD0⟩, hXK⟩ := hv
  have hx := B.exec
  have hb := B.bytes
  have hr := B.returns
  have hts := atoms_spec (ws := wsX1_rate) B.pre
  have hown : s.vm.findClass RX1 = some m.cls := findClass_of_methodNamed B.named
  have hlocks := B.notSynchronized
  subst hsz
  have hD := hD0.self (sz := s.heap.size)
  generalize hAe : va_A (CW cI cR ca qa u) s.heap.size = A at hD hXK ⊢
  have hA : ∀ q : Nat, s.heap.size ≤ q → A q := fun q h => by rw [← hAe]; exact Or.inr h
  have hS : va_S A s.heap s.heap [] := va_S.rf
  replace hP : va_P D vwCl (CW cI cR ca qa u) s.heap := hP
  have hl := lv_entry ([.ref (ca 0), .int p1, .int p2, .int p3]) (n := 4) (Nat.le_of_ble_eq_true rfl)
  rw [lg_entry_eq]
  generalize (lg_sl ([.ref (ca 0), .int p1, .int p2, .int p3]) ++ List.replicate (4 - (lg_sl ([.ref (ca 0), .int p1, .int p2, .int p3])).length) Slot.unset).toArray = ls at hl ⊢
  replace hl : lv_has ls 4 [(0, .ref (ca 0)), (1, .int p1), (2, .int p2), (3, .int p3)] := hl
  have hk_15 := (hts _ (cwc _ mw_36))
  obtain ⟨hXU, hXN, hXc1, hXc2, hXd1, hXd2, hXd3, hXn, -⟩ := id hXK
  unfold F_P_rate at hF
  refine (?_ : ∀ (H : Heap) (locs : List Loc), va_P D vwCl (CW cI cR ca qa u) H → va_S A s.heap H locs → W p l e _ s m _ below meth c H locs 0 0 _ (F0 m 0 ls [])) s.heap [] hP hS
  intro H locs hP hS
  refine lv_iload_n hx hb dX1_rate_0 rfl (lv_at hl 1 rfl) ?_
  obtain ⟨or2, u1, hc_3, hF⟩ := bi_some hF
  refine kx_v (W1 := CW cI cR ca qa u) (vx_runS (As := [.int p1]) (rest := []) ⟨hx, hb, hml, hown, hts⟩ (c_P_checkStation l hl9 D cI cR sa  H.size p1 () or2 u1 hc_3) (va_cwS 1 hts (gS cwc mw_124 mw_125 mw_1 mw_126) rfl rfl rfl (by decide +kernel) ⟨(Nat.le_of_ble_eq_true rfl), (Nat.le_of_ble_eq_true rfl)⟩) (kpX_S hXK hK hP hD hS hA (sb_nil _)) rfl rfl hl.1 rfl (lv_room (Nat.le_of_ble_eq_true rfl)) dX1_rate_1 ⟨(Nat.le_of_ble_eq_true rfl), (Nat.le_of_ble_eq_true rfl)⟩) hP hD hS hA (sb_nil _) (jn_nil _) (fun e_4 ce q9 H locs ho_5 hP hD hS hce hcv hcl => ?_) (fun H locs ho_5 hP hD hS => ?_)
  · subst ho_5
    replace hF := ox_l hF
    cases hF
    exact kx_out hnx hlocks hK hP hD hS hce hcv hcl rfl (Nat.le_of_ble_eq_true rfl) (Nat.le_of_ble_eq_true rfl)
  · subst ho_5
    replace hF := ox_r hF
    refine lv_iload_n hx hb dX1_rate_4 rfl (lv_at hl 2 rfl) ?_
    obtain ⟨or7, u6, hc_8, hF⟩ := bi_some hF
    refine kx_v (W1 := CW cI cR ca qa u) (vx_runS (As := [.int p2]) (rest := []) ⟨hx, hb, hml, hown, hts⟩ (c_P_checkKind l hl9 D cI cR sa  H.size p2 () or7 u6 hc_8) (va_cwS 1 hts (gS cwc mw_200 mw_201 mw_1 mw_202) rfl rfl rfl (by decide +kernel) ⟨(Nat.le_of_ble_eq_true rfl), (Nat.le_of_ble_eq_true rfl)⟩) (kpX_S hXK hK hP hD hS hA (sb_nil _)) rfl rfl hl.1 rfl (lv_room (Nat.le_of_ble_eq_true rfl)) dX1_rate_5 ⟨(Nat.le_of_ble_eq_true rfl), (Nat.le_of_ble_eq_true rfl)⟩) hP hD hS hA (sb_nil _) (jn_nil _) (fun e_9 ce q9 H locs ho_10 hP hD hS hce hcv hcl => ?_) (fun H locs ho_10 hP hD hS => ?_)
    · subst ho_10
      replace hF := ox_l hF
      cases hF
      exact kx_out hnx hlocks hK hP hD hS hce hcv hcl rfl (Nat.le_of_ble_eq_true rfl) (Nat.le_of_ble_eq_true rfl)
    · subst ho_10
      replace hF := ox_r hF
      refine lv_iload_n hx hb dX1_rate_8 rfl (lv_at hl 3 rfl) ?_
      refine lv_bipush (v := (31 : Int32)) hx hb dX1_rate_9 (by decide +kernel) ?_
      obtain ⟨or12, u11, hc_13, hF⟩ := bi_some hF
      refine kx_v (W1 := CW cI cR ca qa u) (vx_runS (As := [.int p3, .int (31 : Int32)]) (rest := []) ⟨hx, hb, hml, hown, hts⟩ (c_P_checkRange l hl9 D cI cR sa  H.size p3 (31 : Int32) () or12 u11 hc_13) (va_cwS 2 hts (gS cwc mw_176 mw_177 mw_1 mw_178) rfl rfl rfl (by decide +kernel) ⟨(Nat.le_of_ble_eq_true rfl), (Nat.le_of_ble_eq_true rfl)⟩) (kpX_S hXK hK hP hD hS hA (sb_nil _)) rfl rfl hl.1 rfl (lv_room (Nat.le_of_ble_eq_true rfl)) dX1_rate_11 ⟨(Nat.le_of_ble_eq_true rfl), (Nat.le_of_ble_eq_true rfl)⟩) hP hD hS hA (sb_nil _) (jn_nil _) (fun e_14 ce q9 H locs ho_15 hP hD hS hce hcv hcl => ?_) (fun H locs ho_15 hP hD hS => ?_)
      · subst ho_15
        replace hF := ox_l hF
        cases hF
        exact kx_out hnx hlocks hK hP hD hS hce hcv hcl rfl (Nat.le_of_ble_eq_true rfl) (Nat.le_of_ble_eq_true rfl)
      · subst ho_15
        replace hF := ox_r hF
        refine lv_aload_n hx hb dX1_rate_14 rfl (lv_at hl 0 rfl) ?_
        refine va_get (D := D) (ci := 1) (v := .ref (ca 2)) (C := RX1) (T := TX1) (N := 16) hx hb hts (fun w h => cwc w (in_X1 w h)) hown hK hP 0 rfl rfl 1 (by decide) hk_15 (fun _ h9 => h9) rfl dX1_rate_15 ?_
        refine lv_iload_n hx hb dX1_rate_18 rfl (lv_at hl 1 rfl) ?_
        refine lv_iload_n hx hb dX1_rate_19 rfl (lv_at hl 2 rfl) ?_
        obtain ⟨r17, u16, hc_18, hF⟩ := bi_some hF
        refine kc_i (W1 := CW cI cR ca qa u) (va_runS (As := [.int p1, .int p2]) (rest := [.ref (ca 2)]) ⟨hx, hb, hml, hown, hts⟩ (c_P_stockIndex l D cI cR  H.size p1 p2 () r17 u16 hc_18) (va_cwS 2 hts (gS cwc mw_86 mw_87 mw_1 mw_88) rfl rfl rfl (by decide +kernel) ⟨(Nat.le_of_ble_eq_true rfl), (Nat.le_of_ble_eq_true rfl)⟩) (kp_S hK hP hD (sb_nil _)) rfl rfl hl.1 rfl (lv_room (Nat.le_of_ble_eq_true rfl)) dX1_rate_20 ⟨(Nat.le_of_ble_eq_true rfl), (Nat.le_of_ble_eq_true rfl)⟩) hP hD hS hA (sb_nil _) (jn_nil _) (fun H locs hP hD hS => ?_)
        refine lv_iload_n hx hb dX1_rate_23 rfl (lv_at hl 3 rfl) ?_
        obtain ⟨h_19, hF⟩ := gd_some hF
        refine va_iast (f := u.1) hx hb hK hP hD hS 2 0 rfl rfl (inb_in h_19) dX1_rate_24 (fun H locs hP hD hS => ?_)
        replace hP : va_P D vwCl (CW cI cR ca qa ((upd u.1 r17.toNatClampNeg p3), u.2.1, u.2.2.1, u.2.2.2.1, u.2.2.2.2.1, u.2.2.2.2.2.1, u.2.2.2.2.2.2.1, u.2.2.2.2.2.2.2.1, u.2.2.2.2.2.2.2.2.1, u.2.2.2.2.2.2.2.2.2.1, u.2.2.2.2.2.2.2.2.2.2.1, u.2.2.2.2.2.2.2.2.2.2.2.1, u.2.2.2.2.2.2.2.2.2.2.2.2.1, u.2.2.2.2.2.2.2.2.2.2.2.2.2.1, u.2.2.2.2.2.2.2.2.2.2.2.2.2.2)) H := hP
        replace hD : va_D A (CW cI cR ca qa ((upd u.1 r17.toNatClampNeg p3), u.2.1, u.2.2.1, u.2.2.2.1, u.2.2.2.2.1, u.2.2.2.2.2.1, u.2.2.2.2.2.2.1, u.2.2.2.2.2.2.2.1, u.2.2.2.2.2.2.2.2.1, u.2.2.2.2.2.2.2.2.2.1, u.2.2.2.2.2.2.2.2.2.2.1, u.2.2.2.2.2.2.2.2.2.2.2.1, u.2.2.2.2.2.2.2.2.2.2.2.2.1, u.2.2.2.2.2.2.2.2.2.2.2.2.2.1, u.2.2.2.2.2.2.2.2.2.2.2.2.2.2)) := hD
        cases hF
        refine vx_ret ?_
        refine W.widen (k := 3) (n := 18) (Nat.le_of_ble_eq_true rfl) (Nat.le_of_ble_eq_true rfl) ?_
        exact W.vret hx hb hr (fun t ht hW => ⟨⟨_, rfl, ⟨rfl, rfl⟩, by rw [ht]; exact hP, va_K.moved hW.alike hK, hD⟩, hS.F ht⟩) hS.2.2 dX1_rate_25
def F_P_place (p1 : Int32) (p2 : Int32) (p3 : Int32) (u : CSt) : Option ((Nat ⊕ Unit) × CSt) := bi (F_P_checkStation p1 ()) (fun or2 u1 => ox or2 (fun e_4 => some (.inl e_4, u)) (fun _ => bi (F_P_checkRange p2 (99 : Int32) ()) (fun or7 u6 => ox or7 (fun e_9 => some (.inl e_9, u)) (fun _ => bi (F_P_checkRange p3 (99 : Int32) ()) (fun or12 u11 => ox or12 (fun e_14 => some (.inl e_14, u)) (fun _ => gd (inb p1 8) (gd (inb p1 8) (some ((.inr ()), (u.1, u.2.1, (upd u.2.2.1 p1.toNatClampNeg p2), (upd u.2.2.2.1 p1.toNatClampNeg p3), u.2.2.2.2.1, u.2.2.2.2.2.1, u.2.2.2.2.2.2.1, u.2.2.2.2.2.2.2.1, u.2.2.2.2.2.2.2.2.1, u.2.2.2.2.2.2.2.2.2.1, u.2.2.2.2.2.2.2.2.2.2.1, u.2.2.2.2.2.2.2.2.2.2.2.1, u.2.2.2.2.2.2.2.2.2.2.2.2.1, u.2.2.2.2.2.2.2.2.2.2.2.2.2.1, u.2.2.2.2.2.2.2.2.2.2.2.2.2.2))))))))))
set_option maxHeartbeats 4000000 in
set_option maxRecDepth 100000 in
theorem c_P_place (l : Launch) (hl9 : l.stackTraces = false) (D : va_G) (cI cR : ClassId) (sa : Nat → Nat) (ca qa : Nat → Nat) (sz : Nat) (p1 : Int32) (p2 : Int32) (p3 : Int32) (u : CSt) (r : Nat ⊕ Unit) (u' : CSt) (hF : F_P_place p1 p2 p3 u = some (r, u')) : vx_Met l yX1_place wsX1_place ({ frames := 7, cells := 3, slots := 18, locals := 103 }) (va_Pc [.ref (ca 0), .int p1, .int p2, .int p3] (PREX D (TY cI cR) (CW cI cR ca qa u) sz sa)) (XV D (TY cI cR) (va_A (CW cI cR ca qa u) sz) (fun v => CW cI cR ca qa v) r u') (XX D (TY cI cR) (va_A (CW cI cR ca qa u) sz) (fun v => CW cI cR ca qa v) r u') 3 18 (va_A (CW cI cR ca qa u) sz) := by
  refine vx_ofW (cc := cX1_place) (maxL := 4) (ret := none) (by decide) rfl ?_
  intro p e s m args below meth c s₁ B hml hnx hv
  obtain ⟨rfl, ⟨hsz, hP, hK, hD0⟩, hXK⟩ := hv
  have hx := B.exec
  have hb := B.bytes
  have hr := B.returns
  have hts := atoms_spec (ws := wsX1_place) B.pre
  have hown : s.vm.findClass RX1 = some m.cls := findClass_of_methodNamed B.named
  have hlocks := B.notSynchronized
  subst hsz
  have hD := hD0.self (sz := s.heap.size)
  generalize hAe : va_A (CW cI cR ca qa u) s.heap.size = A at hD hXK ⊢
  have hA : ∀ q : Nat, s.heap.size ≤ q → A q := fun q h => by rw [← hAe]; exact Or.inr h
  have hS : va_S A s.heap s.heap [] := va_S.rf
  replace hP : va_P D vwCl (CW cI cR ca qa u) s.heap := hP
  have hl := lv_entry ([.ref (ca 0), .int p1, .int p2, .int p3]) (n := 4) (Nat.le_of_ble_eq_true rfl)
  rw [lg_entry_eq]
  generalize (lg_sl ([.ref (ca 0), .int p1, .int p2, .int p3]) ++ List.replicate (4 - (lg_sl ([.ref (ca 0), .int p1, .int p2, .int p3])).length) Slot.unset).toArray = ls at hl ⊢
  replace hl : lv_has ls 4 [(0, .ref (ca 0)), (1, .int p1), (2, .int p2), (3, .int p3)] := hl
  have hk_22 := (hts _ (cwc _ mw_38))
  have hk_25 := (hts _ (cwc _ mw_39))
  obtain ⟨hXU, hXN, hXc1, hXc2, hXd1, hXd2, hXd3, hXn, -⟩ := id hXK
  unfold F_P_place at hF
  refine (?_ : ∀ (H : Heap) (locs : List Loc), va_P D vwCl (CW cI cR ca qa u) H → va_S A s.heap H locs → W p l e _ s m _ below meth c H locs 0 0 _ (F0 m 0 ls [])) s.heap [] hP hS
  intro H locs hP hS
  refine lv_iload_n hx hb dX1_place_0 rfl (lv_at hl 1 rfl) ?_
  obtain ⟨or2, u1, hc_3, hF⟩ := bi_some hF
  refine kx_v (W1 := CW cI cR ca qa u) (vx_runS (As := [.int p1]) (rest := []) ⟨hx, hb, hml, hown, hts⟩ (c_P_checkStation l hl9 D cI cR sa  H.size p1 () or2 u1 hc_3) (va_cwS 1 hts (gS cwc mw_124 mw_125 mw_1 mw_126) rfl rfl rfl (by decide +kernel) ⟨(Nat.le_of_ble_eq_true rfl), (Nat.le_of_ble_eq_true rfl)⟩) (kpX_S hXK hK hP hD hS hA (sb_nil _)) rfl rfl hl.1 rfl (lv_room (Nat.le_of_ble_eq_true rfl)) dX1_place_1 ⟨(Nat.le_of_ble_eq_true rfl), (Nat.le_of_ble_eq_true rfl)⟩) hP hD hS hA (sb_nil _) (jn_nil _) (fun e_4 ce q9 H locs ho_5 hP hD hS hce hcv hcl => ?_) (fun H locs ho_5 hP hD hS => ?_)
  · subst ho_5
    replace hF := ox_l hF
    cases hF
    exact kx_out hnx hlocks hK hP hD hS hce hcv hcl rfl (Nat.le_of_ble_eq_true rfl) (Nat.le_of_ble_eq_true rfl)
  · subst ho_5
    replace hF := ox_r hF
    refine lv_iload_n hx hb dX1_place_4 rfl (lv_at hl 2 rfl) ?_
    refine lv_bipush (v := (99 : Int32)) hx hb dX1_place_5 (by decide +kernel) ?_
    obtain ⟨or7, u6, hc_8, hF⟩ := bi_some hF
    refine kx_v (W1 := CW cI cR ca qa u) (vx_runS (As := [.int p2, .int (99 : Int32)]) (rest := []) ⟨hx, hb, hml, hown, hts⟩ (c_P_checkRange l hl9 D cI cR sa  H.size p2 (99 : Int32) () or7 u6 hc_8) (va_cwS 2 hts (gS cwc mw_176 mw_177 mw_1 mw_178) rfl rfl rfl (by decide +kernel) ⟨(Nat.le_of_ble_eq_true rfl), (Nat.le_of_ble_eq_true rfl)⟩) (kpX_S hXK hK hP hD hS hA (sb_nil _)) rfl rfl hl.1 rfl (lv_room (Nat.le_of_ble_eq_true rfl)) dX1_place_7 ⟨(Nat.le_of_ble_eq_true rfl), (Nat.le_of_ble_eq_true rfl)⟩) hP hD hS hA (sb_nil _) (jn_nil _) (fun e_9 ce q9 H locs ho_10 hP hD hS hce hcv hcl => ?_) (fun H locs ho_10 hP hD hS => ?_)
    · subst ho_10
      replace hF := ox_l hF
      cases hF
      exact kx_out hnx hlocks hK hP hD hS hce hcv hcl rfl (Nat.le_of_ble_eq_true rfl) (Nat.le_of_ble_eq_true rfl)
    · subst ho_10
      replace hF := ox_r hF
      refine lv_iload_n hx hb dX1_place_10 rfl (lv_at hl 3 rfl) ?_
      refine lv_bipush (v := (99 : Int32)) hx hb dX1_place_11 (by decide +kernel) ?_
      obtain ⟨or12, u11, hc_13, hF⟩ := bi_some hF
      refine kx_v (W1 := CW cI cR ca qa u) (vx_runS (As := [.int p3, .int (99 : Int32)]) (rest := []) ⟨hx, hb, hml, hown, hts⟩ (c_P_checkRange l hl9 D cI cR sa  H.size p3 (99 : Int32) () or12 u11 hc_13) (va_cwS 2 hts (gS cwc mw_176 mw_177 mw_1 mw_178) rfl rfl rfl (by decide +kernel) ⟨(Nat.le_of_ble_eq_true rfl), (Nat.le_of_ble_eq_true rfl)⟩) (kpX_S hXK hK hP hD hS hA (sb_nil _)) rfl rfl hl.1 rfl (lv_room (Nat.le_of_ble_eq_true rfl)) dX1_place_13 ⟨(Nat.le_of_ble_eq_true rfl), (Nat.le_of_ble_eq_true rfl)⟩) hP hD hS hA (sb_nil _) (jn_nil _) (fun e_14 ce q9 H locs ho_15 hP hD hS hce hcv hcl => ?_) (fun H locs ho_15 hP hD hS => ?_)
      · subst ho_15
        replace hF := ox_l hF
        cases hF
        exact kx_out hnx hlocks hK hP hD hS hce hcv hcl rfl (Nat.le_of_ble_eq_true rfl) (Nat.le_of_ble_eq_true rfl)
      · subst ho_15
        replace hF := ox_r hF
        refine lv_aload_n hx hb dX1_place_16 rfl (lv_at hl 0 rfl) ?_
        refine va_get (D := D) (ci := 1) (v := .ref (ca 4)) (C := RX1) (T := TX1) (N := 16) hx hb hts (fun w h => cwc w (in_X1 w h)) hown hK hP 0 rfl rfl 3 (by decide) hk_22 (fun _ h9 => h9) rfl dX1_place_17 ?_
        refine lv_iload_n hx hb dX1_place_20 rfl (lv_at hl 1 rfl) ?_
        refine lv_iload_n hx hb dX1_place_21 rfl (lv_at hl 2 rfl) ?_
        obtain ⟨h_16, hF⟩ := gd_some hF
        refine va_iast (f := u.2.2.1) hx hb hK hP hD hS 4 0 rfl rfl (inb_in h_16) dX1_place_22 (fun H locs hP hD hS => ?_)
        replace hP : va_P D vwCl (CW cI cR ca qa (u.1, u.2.1, (upd u.2.2.1 p1.toNatClampNeg p2), u.2.2.2.1, u.2.2.2.2.1, u.2.2.2.2.2.1, u.2.2.2.2.2.2.1, u.2.2.2.2.2.2.2.1, u.2.2.2.2.2.2.2.2.1, u.2.2.2.2.2.2.2.2.2.1, u.2.2.2.2.2.2.2.2.2.2.1, u.2.2.2.2.2.2.2.2.2.2.2.1, u.2.2.2.2.2.2.2.2.2.2.2.2.1, u.2.2.2.2.2.2.2.2.2.2.2.2.2.1, u.2.2.2.2.2.2.2.2.2.2.2.2.2.2)) H := hP
        replace hD : va_D A (CW cI cR ca qa (u.1, u.2.1, (upd u.2.2.1 p1.toNatClampNeg p2), u.2.2.2.1, u.2.2.2.2.1, u.2.2.2.2.2.1, u.2.2.2.2.2.2.1, u.2.2.2.2.2.2.2.1, u.2.2.2.2.2.2.2.2.1, u.2.2.2.2.2.2.2.2.2.1, u.2.2.2.2.2.2.2.2.2.2.1, u.2.2.2.2.2.2.2.2.2.2.2.1, u.2.2.2.2.2.2.2.2.2.2.2.2.1, u.2.2.2.2.2.2.2.2.2.2.2.2.2.1, u.2.2.2.2.2.2.2.2.2.2.2.2.2.2)) := hD
        refine lv_aload_n hx hb dX1_place_23 rfl (lv_at hl 0 rfl) ?_
        refine va_get (D := D) (ci := 1) (v := .ref (ca 5)) (C := RX1) (T := TX1) (N := 16) hx hb hts (fun w h => cwc w (in_X1 w h)) hown hK hP 0 rfl rfl 4 (by decide) hk_25 (fun _ h9 => h9) rfl dX1_place_24 ?_
        refine lv_iload_n hx hb dX1_place_27 rfl (lv_at hl 1 rfl) ?_
        refine lv_iload_n hx hb dX1_place_28 rfl (lv_at hl 3 rfl) ?_
        obtain ⟨h_17, hF⟩ := gd_some hF
        refine va_iast (f := u.2.2.2.1) hx hb hK hP hD hS 5 0 rfl rfl (inb_in h_17) dX1_place_29 (fun H locs hP hD hS => ?_)
        replace hP : va_P D vwCl (CW cI cR ca qa (u.1, u.2.1, (upd u.2.2.1 p1.toNatClampNeg p2), (upd u.2.2.2.1 p1.toNatClampNeg p3), u.2.2.2.2.1, u.2.2.2.2.2.1, u.2.2.2.2.2.2.1, u.2.2.2.2.2.2.2.1, u.2.2.2.2.2.2.2.2.1, u.2.2.2.2.2.2.2.2.2.1, u.2.2.2.2.2.2.2.2.2.2.1, u.2.2.2.2.2.2.2.2.2.2.2.1, u.2.2.2.2.2.2.2.2.2.2.2.2.1, u.2.2.2.2.2.2.2.2.2.2.2.2.2.1, u.2.2.2.2.2.2.2.2.2.2.2.2.2.2)) H := hP
        replace hD : va_D A (CW cI cR ca qa (u.1, u.2.1, (upd u.2.2.1 p1.toNatClampNeg p2), (upd u.2.2.2.1 p1.toNatClampNeg p3), u.2.2.2.2.1, u.2.2.2.2.2.1, u.2.2.2.2.2.2.1, u.2.2.2.2.2.2.2.1, u.2.2.2.2.2.2.2.2.1, u.2.2.2.2.2.2.2.2.2.1, u.2.2.2.2.2.2.2.2.2.2.1, u.2.2.2.2.2.2.2.2.2.2.2.1, u.2.2.2.2.2.2.2.2.2.2.2.2.1, u.2.2.2.2.2.2.2.2.2.2.2.2.2.1, u.2.2.2.2.2.2.2.2.2.2.2.2.2.2)) := hD
        cases hF
        refine vx_ret ?_
        refine W.widen (k := 3) (n := 18) (Nat.le_of_ble_eq_true rfl) (Nat.le_of_ble_eq_true rfl) ?_
        exact W.vret hx hb hr (fun t ht hW => ⟨⟨_, rfl, ⟨rfl, rfl⟩, by rw [ht]; exact hP, va_K.moved hW.alike hK, hD⟩, hS.F ht⟩) hS.2.2 dX1_place_30
end
